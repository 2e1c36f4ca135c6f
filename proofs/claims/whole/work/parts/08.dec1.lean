theorem dX0_init_0 : decode cX0_init 0 = .ok (.aload_n 0, 1) := by decide +kernel
theorem dX0_init_1 : decode cX0_init 1 = .ok (.invokespecial 3, 3) := by decide +kernel
theorem dX0_init_4 : decode cX0_init 4 = .ok (.aload_n 0, 1) := by decide +kernel
theorem dX0_init_5 : decode cX0_init 5 = .ok (.bipush 8, 2) := by decide +kernel
theorem dX0_init_7 : decode cX0_init 7 = .ok (.newarray .int, 2) := by decide +kernel
theorem dX0_init_9 : decode cX0_init 9 = .ok (.putfield 9, 3) := by decide +kernel
theorem dX0_init_12 : decode cX0_init 12 = .ok (.aload_n 0, 1) := by decide +kernel
theorem dX0_init_13 : decode cX0_init 13 = .ok (.bipush 8, 2) := by decide +kernel
theorem dX0_init_15 : decode cX0_init 15 = .ok (.newarray .int, 2) := by decide +kernel
theorem dX0_init_17 : decode cX0_init 17 = .ok (.putfield 15, 3) := by decide +kernel
theorem dX0_init_20 : decode cX0_init 20 = .ok (.return_, 1) := by decide +kernel
theorem dX0_settle_0 : decode cX0_settle 0 = .ok (.iconst 0, 1) := by decide +kernel
theorem dX0_settle_1 : decode cX0_settle 1 = .ok (.istore 7, 2) := by decide +kernel
theorem dX0_settle_3 : decode cX0_settle 3 = .ok (.iload 7, 2) := by decide +kernel
theorem dX0_settle_5 : decode cX0_settle 5 = .ok (.bipush 8, 2) := by decide +kernel
theorem dX0_settle_7 : decode cX0_settle 7 = .ok (.if_icmp .ge 52, 3) := by decide +kernel
theorem dX0_settle_10 : decode cX0_settle 10 = .ok (.iload 7, 2) := by decide +kernel
theorem dX0_settle_12 : decode cX0_settle 12 = .ok (.iconst 3, 1) := by decide +kernel
theorem dX0_settle_13 : decode cX0_settle 13 = .ok (.iand, 1) := by decide +kernel
theorem dX0_settle_14 : decode cX0_settle 14 = .ok (.istore 8, 2) := by decide +kernel
theorem dX0_settle_16 : decode cX0_settle 16 = .ok (.aload_n 0, 1) := by decide +kernel
theorem dX0_settle_17 : decode cX0_settle 17 = .ok (.getfield 9, 3) := by decide +kernel
theorem dX0_settle_20 : decode cX0_settle 20 = .ok (.iload 7, 2) := by decide +kernel
theorem dX0_settle_22 : decode cX0_settle 22 = .ok (.iload 8, 2) := by decide +kernel
theorem dX0_settle_24 : decode cX0_settle 24 = .ok (.iload_n 3, 1) := by decide +kernel
theorem dX0_settle_25 : decode cX0_settle 25 = .ok (.if_icmp .ne 7, 3) := by decide +kernel
theorem dX0_settle_28 : decode cX0_settle 28 = .ok (.iconst 0, 1) := by decide +kernel
theorem dX0_settle_29 : decode cX0_settle 29 = .ok (.goto 15, 3) := by decide +kernel
theorem dX0_settle_32 : decode cX0_settle 32 = .ok (.iload 8, 2) := by decide +kernel
theorem dX0_settle_34 : decode cX0_settle 34 = .ok (.iload 4, 2) := by decide +kernel
theorem dX0_settle_36 : decode cX0_settle 36 = .ok (.if_icmp .ne 7, 3) := by decide +kernel
theorem dX0_settle_39 : decode cX0_settle 39 = .ok (.iconst 1, 1) := by decide +kernel
theorem dX0_settle_40 : decode cX0_settle 40 = .ok (.goto 4, 3) := by decide +kernel
theorem dX0_settle_43 : decode cX0_settle 43 = .ok (.iconst 2, 1) := by decide +kernel
theorem dX0_settle_44 : decode cX0_settle 44 = .ok (.iastore, 1) := by decide +kernel
theorem dX0_settle_45 : decode cX0_settle 45 = .ok (.aload_n 0, 1) := by decide +kernel
theorem dX0_settle_46 : decode cX0_settle 46 = .ok (.getfield 15, 3) := by decide +kernel
theorem dX0_settle_49 : decode cX0_settle 49 = .ok (.iload 7, 2) := by decide +kernel
theorem dX0_settle_51 : decode cX0_settle 51 = .ok (.iconst 0, 1) := by decide +kernel
theorem dX0_settle_52 : decode cX0_settle 52 = .ok (.iastore, 1) := by decide +kernel
theorem dX0_settle_53 : decode cX0_settle 53 = .ok (.iinc 7 1, 3) := by decide +kernel
theorem dX0_settle_56 : decode cX0_settle 56 = .ok (.goto (-53), 3) := by decide +kernel
theorem dX0_settle_59 : decode cX0_settle 59 = .ok (.iconst 1, 1) := by decide +kernel
theorem dX0_settle_60 : decode cX0_settle 60 = .ok (.istore 7, 2) := by decide +kernel
theorem dX0_settle_62 : decode cX0_settle 62 = .ok (.iload 7, 2) := by decide +kernel
theorem dX0_settle_64 : decode cX0_settle 64 = .ok (.bipush 8, 2) := by decide +kernel
theorem dX0_settle_66 : decode cX0_settle 66 = .ok (.if_icmp .gt 59, 3) := by decide +kernel
theorem dX0_settle_69 : decode cX0_settle 69 = .ok (.iconst 0, 1) := by decide +kernel
theorem dX0_settle_70 : decode cX0_settle 70 = .ok (.istore 8, 2) := by decide +kernel
theorem dX0_settle_72 : decode cX0_settle 72 = .ok (.iload 8, 2) := by decide +kernel
theorem dX0_settle_74 : decode cX0_settle 74 = .ok (.bipush 8, 2) := by decide +kernel
theorem dX0_settle_76 : decode cX0_settle 76 = .ok (.if_icmp .ge 43, 3) := by decide +kernel
theorem dX0_settle_79 : decode cX0_settle 79 = .ok (.aload_n 0, 1) := by decide +kernel
theorem dX0_settle_80 : decode cX0_settle 80 = .ok (.getfield 9, 3) := by decide +kernel
theorem dX0_settle_83 : decode cX0_settle 83 = .ok (.iload 8, 2) := by decide +kernel
theorem dX0_settle_85 : decode cX0_settle 85 = .ok (.iaload, 1) := by decide +kernel
theorem dX0_settle_86 : decode cX0_settle 86 = .ok (.iconst 2, 1) := by decide +kernel
theorem dX0_settle_87 : decode cX0_settle 87 = .ok (.if_icmp .ne 26, 3) := by decide +kernel
theorem dX0_settle_90 : decode cX0_settle 90 = .ok (.aload_n 0, 1) := by decide +kernel
theorem dX0_settle_91 : decode cX0_settle 91 = .ok (.aload_n 1, 1) := by decide +kernel
theorem dX0_settle_92 : decode cX0_settle 92 = .ok (.iload_n 2, 1) := by decide +kernel
theorem dX0_settle_93 : decode cX0_settle 93 = .ok (.iload 8, 2) := by decide +kernel
theorem dX0_settle_95 : decode cX0_settle 95 = .ok (.iconst 4, 1) := by decide +kernel
theorem dX0_settle_96 : decode cX0_settle 96 = .ok (.if_icmp .ge 8, 3) := by decide +kernel
theorem dX0_settle_99 : decode cX0_settle 99 = .ok (.iload 5, 2) := by decide +kernel
theorem dX0_settle_101 : decode cX0_settle 101 = .ok (.goto 5, 3) := by decide +kernel
theorem dX0_settle_104 : decode cX0_settle 104 = .ok (.iload 6, 2) := by decide +kernel
theorem dX0_settle_106 : decode cX0_settle 106 = .ok (.iload 8, 2) := by decide +kernel
theorem dX0_settle_108 : decode cX0_settle 108 = .ok (.iload 7, 2) := by decide +kernel
theorem dX0_settle_110 : decode cX0_settle 110 = .ok (.invokevirtual 18, 3) := by decide +kernel
theorem dX0_settle_113 : decode cX0_settle 113 = .ok (.iinc 8 1, 3) := by decide +kernel
theorem dX0_settle_116 : decode cX0_settle 116 = .ok (.goto (-44), 3) := by decide +kernel
theorem dX0_settle_119 : decode cX0_settle 119 = .ok (.iinc 7 1, 3) := by decide +kernel
theorem dX0_settle_122 : decode cX0_settle 122 = .ok (.goto (-60), 3) := by decide +kernel
theorem dX0_settle_125 : decode cX0_settle 125 = .ok (.return_, 1) := by decide +kernel
theorem dX0_settlePlace_0 : decode cX0_settlePlace 0 = .ok (.iload 4, 2) := by decide +kernel
theorem dX0_settlePlace_2 : decode cX0_settlePlace 2 = .ok (.iconst 4, 1) := by decide +kernel
theorem dX0_settlePlace_3 : decode cX0_settlePlace 3 = .ok (.idiv, 1) := by decide +kernel
theorem dX0_settlePlace_4 : decode cX0_settlePlace 4 = .ok (.istore 6, 2) := by decide +kernel
theorem dX0_settlePlace_6 : decode cX0_settlePlace 6 = .ok (.iload 4, 2) := by decide +kernel
theorem dX0_settlePlace_8 : decode cX0_settlePlace 8 = .ok (.iconst 3, 1) := by decide +kernel
theorem dX0_settlePlace_9 : decode cX0_settlePlace 9 = .ok (.iand, 1) := by decide +kernel
theorem dX0_settlePlace_10 : decode cX0_settlePlace 10 = .ok (.istore 7, 2) := by decide +kernel
theorem dX0_settlePlace_12 : decode cX0_settlePlace 12 = .ok (.iconst 0, 1) := by decide +kernel
theorem dX0_settlePlace_13 : decode cX0_settlePlace 13 = .ok (.istore 8, 2) := by decide +kernel
theorem dX0_settlePlace_15 : decode cX0_settlePlace 15 = .ok (.iconst 1, 1) := by decide +kernel
theorem dX0_settlePlace_16 : decode cX0_settlePlace 16 = .ok (.istore 9, 2) := by decide +kernel
theorem dX0_settlePlace_18 : decode cX0_settlePlace 18 = .ok (.iconst 0, 1) := by decide +kernel
theorem dX0_settlePlace_19 : decode cX0_settlePlace 19 = .ok (.istore 10, 2) := by decide +kernel
theorem dX0_settlePlace_21 : decode cX0_settlePlace 21 = .ok (.iload 10, 2) := by decide +kernel
theorem dX0_settlePlace_23 : decode cX0_settlePlace 23 = .ok (.bipush 6, 2) := by decide +kernel
theorem dX0_settlePlace_25 : decode cX0_settlePlace 25 = .ok (.if_icmp .ge 129, 3) := by decide +kernel
theorem dX0_settlePlace_28 : decode cX0_settlePlace 28 = .ok (.iload_n 3, 1) := by decide +kernel
theorem dX0_settlePlace_29 : decode cX0_settlePlace 29 = .ok (.iload 10, 2) := by decide +kernel
theorem dX0_settlePlace_31 : decode cX0_settlePlace 31 = .ok (.invokestatic 22, 3) := by decide +kernel
theorem dX0_settlePlace_34 : decode cX0_settlePlace 34 = .ok (.ifCond .eq 114, 3) := by decide +kernel
theorem dX0_settlePlace_37 : decode cX0_settlePlace 37 = .ok (.aload_n 1, 1) := by decide +kernel
theorem dX0_settlePlace_38 : decode cX0_settlePlace 38 = .ok (.iload_n 2, 1) := by decide +kernel
theorem dX0_settlePlace_39 : decode cX0_settlePlace 39 = .ok (.iload 7, 2) := by decide +kernel
theorem dX0_settlePlace_41 : decode cX0_settlePlace 41 = .ok (.aload_n 1, 1) := by decide +kernel
theorem dX0_settlePlace_42 : decode cX0_settlePlace 42 = .ok (.iload 10, 2) := by decide +kernel
theorem dX0_settlePlace_44 : decode cX0_settlePlace 44 = .ok (.iload_n 2, 1) := by decide +kernel
theorem dX0_settlePlace_45 : decode cX0_settlePlace 45 = .ok (.iload 7, 2) := by decide +kernel
theorem dX0_settlePlace_47 : decode cX0_settlePlace 47 = .ok (.invokevirtual 26, 3) := by decide +kernel
theorem dX0_settlePlace_50 : decode cX0_settlePlace 50 = .ok (.invokevirtual 32, 3) := by decide +kernel
theorem dX0_settlePlace_53 : decode cX0_settlePlace 53 = .ok (.iconst 4, 1) := by decide +kernel
theorem dX0_settlePlace_54 : decode cX0_settlePlace 54 = .ok (.iconst 1, 1) := by decide +kernel
theorem dX0_settlePlace_55 : decode cX0_settlePlace 55 = .ok (.iload 6, 2) := by decide +kernel
theorem dX0_settlePlace_57 : decode cX0_settlePlace 57 = .ok (.isub, 1) := by decide +kernel
theorem dX0_settlePlace_58 : decode cX0_settlePlace 58 = .ok (.imul, 1) := by decide +kernel
theorem dX0_settlePlace_59 : decode cX0_settlePlace 59 = .ok (.iadd, 1) := by decide +kernel
theorem dX0_settlePlace_60 : decode cX0_settlePlace 60 = .ok (.istore 11, 2) := by decide +kernel
theorem dX0_settlePlace_62 : decode cX0_settlePlace 62 = .ok (.aload_n 0, 1) := by decide +kernel
theorem dX0_settlePlace_63 : decode cX0_settlePlace 63 = .ok (.getfield 9, 3) := by decide +kernel
theorem dX0_settlePlace_66 : decode cX0_settlePlace 66 = .ok (.iload 11, 2) := by decide +kernel
theorem dX0_settlePlace_68 : decode cX0_settlePlace 68 = .ok (.iaload, 1) := by decide +kernel
theorem dX0_settlePlace_69 : decode cX0_settlePlace 69 = .ok (.iconst 2, 1) := by decide +kernel
theorem dX0_settlePlace_70 : decode cX0_settlePlace 70 = .ok (.if_icmp .eq 19, 3) := by decide +kernel
theorem dX0_settlePlace_73 : decode cX0_settlePlace 73 = .ok (.aload_n 0, 1) := by decide +kernel
theorem dX0_settlePlace_74 : decode cX0_settlePlace 74 = .ok (.getfield 15, 3) := by decide +kernel
theorem dX0_settlePlace_77 : decode cX0_settlePlace 77 = .ok (.iload 11, 2) := by decide +kernel
theorem dX0_settlePlace_79 : decode cX0_settlePlace 79 = .ok (.iaload, 1) := by decide +kernel
theorem dX0_settlePlace_80 : decode cX0_settlePlace 80 = .ok (.iload 5, 2) := by decide +kernel
theorem dX0_settlePlace_82 : decode cX0_settlePlace 82 = .ok (.if_icmp .ge 7, 3) := by decide +kernel
theorem dX0_settlePlace_85 : decode cX0_settlePlace 85 = .ok (.iconst 1, 1) := by decide +kernel
theorem dX0_settlePlace_86 : decode cX0_settlePlace 86 = .ok (.goto 4, 3) := by decide +kernel
theorem dX0_settlePlace_89 : decode cX0_settlePlace 89 = .ok (.iconst 0, 1) := by decide +kernel
theorem dX0_settlePlace_90 : decode cX0_settlePlace 90 = .ok (.istore 12, 2) := by decide +kernel
theorem dX0_settlePlace_92 : decode cX0_settlePlace 92 = .ok (.iload 8, 2) := by decide +kernel
theorem dX0_settlePlace_94 : decode cX0_settlePlace 94 = .ok (.iload 12, 2) := by decide +kernel
theorem dX0_settlePlace_96 : decode cX0_settlePlace 96 = .ok (.ifCond .eq 19, 3) := by decide +kernel
theorem dX0_settlePlace_99 : decode cX0_settlePlace 99 = .ok (.aload_n 0, 1) := by decide +kernel
theorem dX0_settlePlace_100 : decode cX0_settlePlace 100 = .ok (.getfield 9, 3) := by decide +kernel
theorem dX0_settlePlace_103 : decode cX0_settlePlace 103 = .ok (.iload 11, 2) := by decide +kernel
theorem dX0_settlePlace_105 : decode cX0_settlePlace 105 = .ok (.iaload, 1) := by decide +kernel
theorem dX0_settlePlace_106 : decode cX0_settlePlace 106 = .ok (.iload 6, 2) := by decide +kernel
theorem dX0_settlePlace_108 : decode cX0_settlePlace 108 = .ok (.if_icmp .ne 7, 3) := by decide +kernel
theorem dX0_settlePlace_111 : decode cX0_settlePlace 111 = .ok (.iconst 1, 1) := by decide +kernel
theorem dX0_settlePlace_112 : decode cX0_settlePlace 112 = .ok (.goto 4, 3) := by decide +kernel
theorem dX0_settlePlace_115 : decode cX0_settlePlace 115 = .ok (.iconst 0, 1) := by decide +kernel
theorem dX0_settlePlace_116 : decode cX0_settlePlace 116 = .ok (.ior, 1) := by decide +kernel
theorem dX0_settlePlace_117 : decode cX0_settlePlace 117 = .ok (.istore 8, 2) := by decide +kernel
theorem dX0_settlePlace_119 : decode cX0_settlePlace 119 = .ok (.iload 9, 2) := by decide +kernel
theorem dX0_settlePlace_121 : decode cX0_settlePlace 121 = .ok (.iload 12, 2) := by decide +kernel
theorem dX0_settlePlace_123 : decode cX0_settlePlace 123 = .ok (.ifCond .eq 21, 3) := by decide +kernel
theorem dX0_settlePlace_126 : decode cX0_settlePlace 126 = .ok (.aload_n 0, 1) := by decide +kernel
theorem dX0_settlePlace_127 : decode cX0_settlePlace 127 = .ok (.getfield 9, 3) := by decide +kernel
theorem dX0_settlePlace_130 : decode cX0_settlePlace 130 = .ok (.iload 11, 2) := by decide +kernel
theorem dX0_settlePlace_132 : decode cX0_settlePlace 132 = .ok (.iaload, 1) := by decide +kernel
theorem dX0_settlePlace_133 : decode cX0_settlePlace 133 = .ok (.iconst 1, 1) := by decide +kernel
theorem dX0_settlePlace_134 : decode cX0_settlePlace 134 = .ok (.iload 6, 2) := by decide +kernel
theorem dX0_settlePlace_136 : decode cX0_settlePlace 136 = .ok (.isub, 1) := by decide +kernel
theorem dX0_settlePlace_137 : decode cX0_settlePlace 137 = .ok (.if_icmp .ne 7, 3) := by decide +kernel
theorem dX0_settlePlace_140 : decode cX0_settlePlace 140 = .ok (.iconst 1, 1) := by decide +kernel
theorem dX0_settlePlace_141 : decode cX0_settlePlace 141 = .ok (.goto 4, 3) := by decide +kernel
theorem dX0_settlePlace_144 : decode cX0_settlePlace 144 = .ok (.iconst 0, 1) := by decide +kernel
theorem dX0_settlePlace_145 : decode cX0_settlePlace 145 = .ok (.iand, 1) := by decide +kernel
theorem dX0_settlePlace_146 : decode cX0_settlePlace 146 = .ok (.istore 9, 2) := by decide +kernel
theorem dX0_settlePlace_148 : decode cX0_settlePlace 148 = .ok (.iinc 10 1, 3) := by decide +kernel
theorem dX0_settlePlace_151 : decode cX0_settlePlace 151 = .ok (.goto (-130), 3) := by decide +kernel
theorem dX0_settlePlace_154 : decode cX0_settlePlace 154 = .ok (.iload 8, 2) := by decide +kernel
theorem dX0_settlePlace_156 : decode cX0_settlePlace 156 = .ok (.ifCond .ne 8, 3) := by decide +kernel
theorem dX0_settlePlace_159 : decode cX0_settlePlace 159 = .ok (.iload 9, 2) := by decide +kernel
theorem dX0_settlePlace_161 : decode cX0_settlePlace 161 = .ok (.ifCond .eq 33, 3) := by decide +kernel
theorem dX0_settlePlace_164 : decode cX0_settlePlace 164 = .ok (.aload_n 0, 1) := by decide +kernel
theorem dX0_settlePlace_165 : decode cX0_settlePlace 165 = .ok (.getfield 9, 3) := by decide +kernel
theorem dX0_settlePlace_168 : decode cX0_settlePlace 168 = .ok (.iload 4, 2) := by decide +kernel
theorem dX0_settlePlace_170 : decode cX0_settlePlace 170 = .ok (.iload 8, 2) := by decide +kernel
theorem dX0_settlePlace_172 : decode cX0_settlePlace 172 = .ok (.ifCond .eq 8, 3) := by decide +kernel
theorem dX0_settlePlace_175 : decode cX0_settlePlace 175 = .ok (.iload 6, 2) := by decide +kernel
theorem dX0_settlePlace_177 : decode cX0_settlePlace 177 = .ok (.goto 7, 3) := by decide +kernel
theorem dX0_settlePlace_180 : decode cX0_settlePlace 180 = .ok (.iconst 1, 1) := by decide +kernel
theorem dX0_settlePlace_181 : decode cX0_settlePlace 181 = .ok (.iload 6, 2) := by decide +kernel
theorem dX0_settlePlace_183 : decode cX0_settlePlace 183 = .ok (.isub, 1) := by decide +kernel
theorem dX0_settlePlace_184 : decode cX0_settlePlace 184 = .ok (.iastore, 1) := by decide +kernel
theorem dX0_settlePlace_185 : decode cX0_settlePlace 185 = .ok (.aload_n 0, 1) := by decide +kernel
theorem dX0_settlePlace_186 : decode cX0_settlePlace 186 = .ok (.getfield 15, 3) := by decide +kernel
theorem dX0_settlePlace_189 : decode cX0_settlePlace 189 = .ok (.iload 4, 2) := by decide +kernel
theorem dX0_settlePlace_191 : decode cX0_settlePlace 191 = .ok (.iload 5, 2) := by decide +kernel
theorem dX0_settlePlace_193 : decode cX0_settlePlace 193 = .ok (.iastore, 1) := by decide +kernel
theorem dX0_settlePlace_194 : decode cX0_settlePlace 194 = .ok (.return_, 1) := by decide +kernel
theorem dX1_init_0 : decode cX1_init 0 = .ok (.aload_n 0, 1) := by decide +kernel
theorem dX1_init_1 : decode cX1_init 1 = .ok (.invokespecial 3, 3) := by decide +kernel
theorem dX1_init_4 : decode cX1_init 4 = .ok (.aload_n 0, 1) := by decide +kernel
theorem dX1_init_5 : decode cX1_init 5 = .ok (.bipush 25, 2) := by decide +kernel
theorem dX1_init_7 : decode cX1_init 7 = .ok (.newarray .int, 2) := by decide +kernel
theorem dX1_init_9 : decode cX1_init 9 = .ok (.putfield 9, 3) := by decide +kernel
theorem dX1_init_12 : decode cX1_init 12 = .ok (.aload_n 0, 1) := by decide +kernel
theorem dX1_init_13 : decode cX1_init 13 = .ok (.bipush 25, 2) := by decide +kernel
theorem dX1_init_15 : decode cX1_init 15 = .ok (.newarray .int, 2) := by decide +kernel
theorem dX1_init_17 : decode cX1_init 17 = .ok (.putfield 15, 3) := by decide +kernel
theorem dX1_init_20 : decode cX1_init 20 = .ok (.aload_n 0, 1) := by decide +kernel
theorem dX1_init_21 : decode cX1_init 21 = .ok (.bipush 25, 2) := by decide +kernel
theorem dX1_init_23 : decode cX1_init 23 = .ok (.newarray .int, 2) := by decide +kernel
theorem dX1_init_25 : decode cX1_init 25 = .ok (.putfield 18, 3) := by decide +kernel
theorem dX1_init_28 : decode cX1_init 28 = .ok (.return_, 1) := by decide +kernel
theorem dX1_survey_0 : decode cX1_survey 0 = .ok (.aload_n 0, 1) := by decide +kernel
theorem dX1_survey_1 : decode cX1_survey 1 = .ok (.iconst 0, 1) := by decide +kernel
theorem dX1_survey_2 : decode cX1_survey 2 = .ok (.putfield 21, 3) := by decide +kernel
theorem dX1_survey_5 : decode cX1_survey 5 = .ok (.iconst 0, 1) := by decide +kernel
theorem dX1_survey_6 : decode cX1_survey 6 = .ok (.istore_n 2, 1) := by decide +kernel
theorem dX1_survey_7 : decode cX1_survey 7 = .ok (.iload_n 2, 1) := by decide +kernel
theorem dX1_survey_8 : decode cX1_survey 8 = .ok (.aload_n 1, 1) := by decide +kernel
theorem dX1_survey_9 : decode cX1_survey 9 = .ok (.getfield 25, 3) := by decide +kernel
theorem dX1_survey_12 : decode cX1_survey 12 = .ok (.if_icmp .ge 101, 3) := by decide +kernel
theorem dX1_survey_15 : decode cX1_survey 15 = .ok (.iload_n 2, 1) := by decide +kernel
theorem dX1_survey_16 : decode cX1_survey 16 = .ok (.iconst 1, 1) := by decide +kernel
theorem dX1_survey_17 : decode cX1_survey 17 = .ok (.iadd, 1) := by decide +kernel
theorem dX1_survey_18 : decode cX1_survey 18 = .ok (.istore_n 3, 1) := by decide +kernel
theorem dX1_survey_19 : decode cX1_survey 19 = .ok (.iload_n 3, 1) := by decide +kernel
theorem dX1_survey_20 : decode cX1_survey 20 = .ok (.aload_n 1, 1) := by decide +kernel
theorem dX1_survey_21 : decode cX1_survey 21 = .ok (.getfield 25, 3) := by decide +kernel
theorem dX1_survey_24 : decode cX1_survey 24 = .ok (.if_icmp .ge 83, 3) := by decide +kernel
theorem dX1_survey_27 : decode cX1_survey 27 = .ok (.aload_n 1, 1) := by decide +kernel
theorem dX1_survey_28 : decode cX1_survey 28 = .ok (.getfield 30, 3) := by decide +kernel
theorem dX1_survey_31 : decode cX1_survey 31 = .ok (.iload_n 2, 1) := by decide +kernel
theorem dX1_survey_32 : decode cX1_survey 32 = .ok (.iaload, 1) := by decide +kernel
theorem dX1_survey_33 : decode cX1_survey 33 = .ok (.aload_n 1, 1) := by decide +kernel
theorem dX1_survey_34 : decode cX1_survey 34 = .ok (.getfield 30, 3) := by decide +kernel
theorem dX1_survey_37 : decode cX1_survey 37 = .ok (.iload_n 3, 1) := by decide +kernel
theorem dX1_survey_38 : decode cX1_survey 38 = .ok (.iaload, 1) := by decide +kernel
theorem dX1_survey_39 : decode cX1_survey 39 = .ok (.invokestatic 33, 3) := by decide +kernel
theorem dX1_survey_42 : decode cX1_survey 42 = .ok (.istore 4, 2) := by decide +kernel
theorem dX1_survey_44 : decode cX1_survey 44 = .ok (.iload 4, 2) := by decide +kernel
theorem dX1_survey_46 : decode cX1_survey 46 = .ok (.ifCond .lt 55, 3) := by decide +kernel
theorem dX1_survey_49 : decode cX1_survey 49 = .ok (.aload_n 1, 1) := by decide +kernel
theorem dX1_survey_50 : decode cX1_survey 50 = .ok (.iload_n 2, 1) := by decide +kernel
theorem dX1_survey_51 : decode cX1_survey 51 = .ok (.iload_n 3, 1) := by decide +kernel
theorem dX1_survey_52 : decode cX1_survey 52 = .ok (.iload 4, 2) := by decide +kernel
theorem dX1_survey_54 : decode cX1_survey 54 = .ok (.invokestatic 37, 3) := by decide +kernel
theorem dX1_survey_57 : decode cX1_survey 57 = .ok (.ifCond .eq 44, 3) := by decide +kernel
theorem dX1_survey_60 : decode cX1_survey 60 = .ok (.aload_n 0, 1) := by decide +kernel
theorem dX1_survey_61 : decode cX1_survey 61 = .ok (.getfield 9, 3) := by decide +kernel
theorem dX1_survey_64 : decode cX1_survey 64 = .ok (.aload_n 0, 1) := by decide +kernel
theorem dX1_survey_65 : decode cX1_survey 65 = .ok (.getfield 21, 3) := by decide +kernel
theorem dX1_survey_68 : decode cX1_survey 68 = .ok (.iload_n 2, 1) := by decide +kernel
theorem dX1_survey_69 : decode cX1_survey 69 = .ok (.iastore, 1) := by decide +kernel
theorem dX1_survey_70 : decode cX1_survey 70 = .ok (.aload_n 0, 1) := by decide +kernel
theorem dX1_survey_71 : decode cX1_survey 71 = .ok (.getfield 15, 3) := by decide +kernel
theorem dX1_survey_74 : decode cX1_survey 74 = .ok (.aload_n 0, 1) := by decide +kernel
theorem dX1_survey_75 : decode cX1_survey 75 = .ok (.getfield 21, 3) := by decide +kernel
theorem dX1_survey_78 : decode cX1_survey 78 = .ok (.iload_n 3, 1) := by decide +kernel
theorem dX1_survey_79 : decode cX1_survey 79 = .ok (.iastore, 1) := by decide +kernel
theorem dX1_survey_80 : decode cX1_survey 80 = .ok (.aload_n 0, 1) := by decide +kernel
theorem dX1_survey_81 : decode cX1_survey 81 = .ok (.getfield 18, 3) := by decide +kernel
theorem dX1_survey_84 : decode cX1_survey 84 = .ok (.aload_n 0, 1) := by decide +kernel
theorem dX1_survey_85 : decode cX1_survey 85 = .ok (.getfield 21, 3) := by decide +kernel
theorem dX1_survey_88 : decode cX1_survey 88 = .ok (.iload 4, 2) := by decide +kernel
theorem dX1_survey_90 : decode cX1_survey 90 = .ok (.iastore, 1) := by decide +kernel
theorem dX1_survey_91 : decode cX1_survey 91 = .ok (.aload_n 0, 1) := by decide +kernel
theorem dX1_survey_92 : decode cX1_survey 92 = .ok (.dup, 1) := by decide +kernel
theorem dX1_survey_93 : decode cX1_survey 93 = .ok (.getfield 21, 3) := by decide +kernel
theorem dX1_survey_96 : decode cX1_survey 96 = .ok (.iconst 1, 1) := by decide +kernel
theorem dX1_survey_97 : decode cX1_survey 97 = .ok (.iadd, 1) := by decide +kernel
theorem dX1_survey_98 : decode cX1_survey 98 = .ok (.putfield 21, 3) := by decide +kernel
theorem dX1_survey_101 : decode cX1_survey 101 = .ok (.iinc 3 1, 3) := by decide +kernel
theorem dX1_survey_104 : decode cX1_survey 104 = .ok (.goto (-85), 3) := by decide +kernel
theorem dX1_survey_107 : decode cX1_survey 107 = .ok (.iinc 2 1, 3) := by decide +kernel
theorem dX1_survey_110 : decode cX1_survey 110 = .ok (.goto (-103), 3) := by decide +kernel
theorem dX1_survey_113 : decode cX1_survey 113 = .ok (.return_, 1) := by decide +kernel
theorem dX1_pairsIn_0 : decode cX1_pairsIn 0 = .ok (.iconst 0, 1) := by decide +kernel
theorem dX1_pairsIn_1 : decode cX1_pairsIn 1 = .ok (.istore_n 2, 1) := by decide +kernel
theorem dX1_pairsIn_2 : decode cX1_pairsIn 2 = .ok (.iconst 0, 1) := by decide +kernel
theorem dX1_pairsIn_3 : decode cX1_pairsIn 3 = .ok (.istore_n 3, 1) := by decide +kernel
theorem dX1_pairsIn_4 : decode cX1_pairsIn 4 = .ok (.iload_n 3, 1) := by decide +kernel
theorem dX1_pairsIn_5 : decode cX1_pairsIn 5 = .ok (.aload_n 0, 1) := by decide +kernel
theorem dX1_pairsIn_6 : decode cX1_pairsIn 6 = .ok (.getfield 21, 3) := by decide +kernel
theorem dX1_pairsIn_9 : decode cX1_pairsIn 9 = .ok (.if_icmp .ge 52, 3) := by decide +kernel
theorem dX1_pairsIn_12 : decode cX1_pairsIn 12 = .ok (.iload_n 1, 1) := by decide +kernel
theorem dX1_pairsIn_13 : decode cX1_pairsIn 13 = .ok (.aload_n 0, 1) := by decide +kernel
theorem dX1_pairsIn_14 : decode cX1_pairsIn 14 = .ok (.getfield 9, 3) := by decide +kernel
theorem dX1_pairsIn_17 : decode cX1_pairsIn 17 = .ok (.iload_n 3, 1) := by decide +kernel
theorem dX1_pairsIn_18 : decode cX1_pairsIn 18 = .ok (.iaload, 1) := by decide +kernel
theorem dX1_pairsIn_19 : decode cX1_pairsIn 19 = .ok (.invokestatic 41, 3) := by decide +kernel
theorem dX1_pairsIn_22 : decode cX1_pairsIn 22 = .ok (.aload_n 0, 1) := by decide +kernel
theorem dX1_pairsIn_23 : decode cX1_pairsIn 23 = .ok (.getfield 18, 3) := by decide +kernel
theorem dX1_pairsIn_26 : decode cX1_pairsIn 26 = .ok (.iload_n 3, 1) := by decide +kernel
theorem dX1_pairsIn_27 : decode cX1_pairsIn 27 = .ok (.iaload, 1) := by decide +kernel
theorem dX1_pairsIn_28 : decode cX1_pairsIn 28 = .ok (.if_icmp .ne 27, 3) := by decide +kernel
theorem dX1_pairsIn_31 : decode cX1_pairsIn 31 = .ok (.iload_n 1, 1) := by decide +kernel
theorem dX1_pairsIn_32 : decode cX1_pairsIn 32 = .ok (.aload_n 0, 1) := by decide +kernel
theorem dX1_pairsIn_33 : decode cX1_pairsIn 33 = .ok (.getfield 15, 3) := by decide +kernel
theorem dX1_pairsIn_36 : decode cX1_pairsIn 36 = .ok (.iload_n 3, 1) := by decide +kernel
theorem dX1_pairsIn_37 : decode cX1_pairsIn 37 = .ok (.iaload, 1) := by decide +kernel
theorem dX1_pairsIn_38 : decode cX1_pairsIn 38 = .ok (.invokestatic 41, 3) := by decide +kernel
theorem dX1_pairsIn_41 : decode cX1_pairsIn 41 = .ok (.aload_n 0, 1) := by decide +kernel
theorem dX1_pairsIn_42 : decode cX1_pairsIn 42 = .ok (.getfield 18, 3) := by decide +kernel
theorem dX1_pairsIn_45 : decode cX1_pairsIn 45 = .ok (.iload_n 3, 1) := by decide +kernel
theorem dX1_pairsIn_46 : decode cX1_pairsIn 46 = .ok (.iaload, 1) := by decide +kernel
theorem dX1_pairsIn_47 : decode cX1_pairsIn 47 = .ok (.iconst 2, 1) := by decide +kernel
theorem dX1_pairsIn_48 : decode cX1_pairsIn 48 = .ok (.ixor, 1) := by decide +kernel
theorem dX1_pairsIn_49 : decode cX1_pairsIn 49 = .ok (.if_icmp .ne 6, 3) := by decide +kernel
theorem dX1_pairsIn_52 : decode cX1_pairsIn 52 = .ok (.iinc 2 1, 3) := by decide +kernel
theorem dX1_pairsIn_55 : decode cX1_pairsIn 55 = .ok (.iinc 3 1, 3) := by decide +kernel
theorem dX1_pairsIn_58 : decode cX1_pairsIn 58 = .ok (.goto (-54), 3) := by decide +kernel
theorem dX1_pairsIn_61 : decode cX1_pairsIn 61 = .ok (.iload_n 2, 1) := by decide +kernel
theorem dX1_pairsIn_62 : decode cX1_pairsIn 62 = .ok (.ireturn, 1) := by decide +kernel
theorem dX1_wayBetween_0 : decode cX1_wayBetween 0 = .ok (.iload_n 0, 1) := by decide +kernel
theorem dX1_wayBetween_1 : decode cX1_wayBetween 1 = .ok (.iload_n 1, 1) := by decide +kernel
theorem dX1_wayBetween_2 : decode cX1_wayBetween 2 = .ok (.if_icmp .ne 5, 3) := by decide +kernel
theorem dX1_wayBetween_5 : decode cX1_wayBetween 5 = .ok (.iconst (-1), 1) := by decide +kernel
theorem dX1_wayBetween_6 : decode cX1_wayBetween 6 = .ok (.ireturn, 1) := by decide +kernel
theorem dX1_wayBetween_7 : decode cX1_wayBetween 7 = .ok (.iload_n 0, 1) := by decide +kernel
theorem dX1_wayBetween_8 : decode cX1_wayBetween 8 = .ok (.iconst 5, 1) := by decide +kernel
theorem dX1_wayBetween_9 : decode cX1_wayBetween 9 = .ok (.idiv, 1) := by decide +kernel
theorem dX1_wayBetween_10 : decode cX1_wayBetween 10 = .ok (.iload_n 1, 1) := by decide +kernel
theorem dX1_wayBetween_11 : decode cX1_wayBetween 11 = .ok (.iconst 5, 1) := by decide +kernel
theorem dX1_wayBetween_12 : decode cX1_wayBetween 12 = .ok (.idiv, 1) := by decide +kernel
theorem dX1_wayBetween_13 : decode cX1_wayBetween 13 = .ok (.if_icmp .ne 14, 3) := by decide +kernel
theorem dX1_wayBetween_16 : decode cX1_wayBetween 16 = .ok (.iload_n 1, 1) := by decide +kernel
theorem dX1_wayBetween_17 : decode cX1_wayBetween 17 = .ok (.iload_n 0, 1) := by decide +kernel
theorem dX1_wayBetween_18 : decode cX1_wayBetween 18 = .ok (.if_icmp .le 7, 3) := by decide +kernel
theorem dX1_wayBetween_21 : decode cX1_wayBetween 21 = .ok (.iconst 1, 1) := by decide +kernel
theorem dX1_wayBetween_22 : decode cX1_wayBetween 22 = .ok (.goto 4, 3) := by decide +kernel
theorem dX1_wayBetween_25 : decode cX1_wayBetween 25 = .ok (.iconst 3, 1) := by decide +kernel
theorem dX1_wayBetween_26 : decode cX1_wayBetween 26 = .ok (.ireturn, 1) := by decide +kernel
theorem dX1_wayBetween_27 : decode cX1_wayBetween 27 = .ok (.iload_n 0, 1) := by decide +kernel
theorem dX1_wayBetween_28 : decode cX1_wayBetween 28 = .ok (.iconst 5, 1) := by decide +kernel
theorem dX1_wayBetween_29 : decode cX1_wayBetween 29 = .ok (.irem, 1) := by decide +kernel
theorem dX1_wayBetween_30 : decode cX1_wayBetween 30 = .ok (.iload_n 1, 1) := by decide +kernel
theorem dX1_wayBetween_31 : decode cX1_wayBetween 31 = .ok (.iconst 5, 1) := by decide +kernel
theorem dX1_wayBetween_32 : decode cX1_wayBetween 32 = .ok (.irem, 1) := by decide +kernel
theorem dX1_wayBetween_33 : decode cX1_wayBetween 33 = .ok (.if_icmp .ne 14, 3) := by decide +kernel
theorem dX1_wayBetween_36 : decode cX1_wayBetween 36 = .ok (.iload_n 1, 1) := by decide +kernel
theorem dX1_wayBetween_37 : decode cX1_wayBetween 37 = .ok (.iload_n 0, 1) := by decide +kernel
theorem dX1_wayBetween_38 : decode cX1_wayBetween 38 = .ok (.if_icmp .le 7, 3) := by decide +kernel
theorem dX1_wayBetween_41 : decode cX1_wayBetween 41 = .ok (.iconst 2, 1) := by decide +kernel
theorem dX1_wayBetween_42 : decode cX1_wayBetween 42 = .ok (.goto 4, 3) := by decide +kernel
theorem dX1_wayBetween_45 : decode cX1_wayBetween 45 = .ok (.iconst 0, 1) := by decide +kernel
theorem dX1_wayBetween_46 : decode cX1_wayBetween 46 = .ok (.ireturn, 1) := by decide +kernel
theorem dX1_wayBetween_47 : decode cX1_wayBetween 47 = .ok (.iconst (-1), 1) := by decide +kernel
theorem dX1_wayBetween_48 : decode cX1_wayBetween 48 = .ok (.ireturn, 1) := by decide +kernel
theorem dX1_isFree_0 : decode cX1_isFree 0 = .ok (.iconst 0, 1) := by decide +kernel
theorem dX1_isFree_1 : decode cX1_isFree 1 = .ok (.istore 4, 2) := by decide +kernel
theorem dX1_isFree_3 : decode cX1_isFree 3 = .ok (.iload 4, 2) := by decide +kernel
theorem dX1_isFree_5 : decode cX1_isFree 5 = .ok (.aload_n 0, 1) := by decide +kernel
theorem dX1_isFree_6 : decode cX1_isFree 6 = .ok (.getfield 25, 3) := by decide +kernel
theorem dX1_isFree_9 : decode cX1_isFree 9 = .ok (.if_icmp .ge 63, 3) := by decide +kernel
theorem dX1_isFree_12 : decode cX1_isFree 12 = .ok (.iload 4, 2) := by decide +kernel
theorem dX1_isFree_14 : decode cX1_isFree 14 = .ok (.iload_n 1, 1) := by decide +kernel
theorem dX1_isFree_15 : decode cX1_isFree 15 = .ok (.if_icmp .eq 51, 3) := by decide +kernel
theorem dX1_isFree_18 : decode cX1_isFree 18 = .ok (.iload 4, 2) := by decide +kernel
theorem dX1_isFree_20 : decode cX1_isFree 20 = .ok (.iload_n 2, 1) := by decide +kernel
theorem dX1_isFree_21 : decode cX1_isFree 21 = .ok (.if_icmp .eq 45, 3) := by decide +kernel
theorem dX1_isFree_24 : decode cX1_isFree 24 = .ok (.aload_n 0, 1) := by decide +kernel
theorem dX1_isFree_25 : decode cX1_isFree 25 = .ok (.getfield 30, 3) := by decide +kernel
theorem dX1_isFree_28 : decode cX1_isFree 28 = .ok (.iload_n 1, 1) := by decide +kernel
theorem dX1_isFree_29 : decode cX1_isFree 29 = .ok (.iaload, 1) := by decide +kernel
theorem dX1_isFree_30 : decode cX1_isFree 30 = .ok (.aload_n 0, 1) := by decide +kernel
theorem dX1_isFree_31 : decode cX1_isFree 31 = .ok (.getfield 30, 3) := by decide +kernel
theorem dX1_isFree_34 : decode cX1_isFree 34 = .ok (.iload 4, 2) := by decide +kernel
theorem dX1_isFree_36 : decode cX1_isFree 36 = .ok (.iaload, 1) := by decide +kernel
theorem dX1_isFree_37 : decode cX1_isFree 37 = .ok (.invokestatic 33, 3) := by decide +kernel
theorem dX1_isFree_40 : decode cX1_isFree 40 = .ok (.iload_n 3, 1) := by decide +kernel
theorem dX1_isFree_41 : decode cX1_isFree 41 = .ok (.if_icmp .ne 25, 3) := by decide +kernel
theorem dX1_isFree_44 : decode cX1_isFree 44 = .ok (.aload_n 0, 1) := by decide +kernel
theorem dX1_isFree_45 : decode cX1_isFree 45 = .ok (.getfield 30, 3) := by decide +kernel
theorem dX1_isFree_48 : decode cX1_isFree 48 = .ok (.iload 4, 2) := by decide +kernel
theorem dX1_isFree_50 : decode cX1_isFree 50 = .ok (.iaload, 1) := by decide +kernel
theorem dX1_isFree_51 : decode cX1_isFree 51 = .ok (.aload_n 0, 1) := by decide +kernel
theorem dX1_isFree_52 : decode cX1_isFree 52 = .ok (.getfield 30, 3) := by decide +kernel
theorem dX1_isFree_55 : decode cX1_isFree 55 = .ok (.iload_n 2, 1) := by decide +kernel
theorem dX1_isFree_56 : decode cX1_isFree 56 = .ok (.iaload, 1) := by decide +kernel
theorem dX1_isFree_57 : decode cX1_isFree 57 = .ok (.invokestatic 33, 3) := by decide +kernel
theorem dX1_isFree_60 : decode cX1_isFree 60 = .ok (.iload_n 3, 1) := by decide +kernel
theorem dX1_isFree_61 : decode cX1_isFree 61 = .ok (.if_icmp .ne 5, 3) := by decide +kernel
theorem dX1_isFree_64 : decode cX1_isFree 64 = .ok (.iconst 0, 1) := by decide +kernel
theorem dX1_isFree_65 : decode cX1_isFree 65 = .ok (.ireturn, 1) := by decide +kernel
theorem dX1_isFree_66 : decode cX1_isFree 66 = .ok (.iinc 4 1, 3) := by decide +kernel
theorem dX1_isFree_69 : decode cX1_isFree 69 = .ok (.goto (-66), 3) := by decide +kernel
theorem dX1_isFree_72 : decode cX1_isFree 72 = .ok (.iconst 1, 1) := by decide +kernel
theorem dX1_isFree_73 : decode cX1_isFree 73 = .ok (.ireturn, 1) := by decide +kernel
theorem dX2_init_0 : decode cX2_init 0 = .ok (.aload_n 0, 1) := by decide +kernel
theorem dX2_init_1 : decode cX2_init 1 = .ok (.invokespecial 3, 3) := by decide +kernel
theorem dX2_init_4 : decode cX2_init 4 = .ok (.aload_n 0, 1) := by decide +kernel
theorem dX2_init_5 : decode cX2_init 5 = .ok (.iconst 5, 1) := by decide +kernel
theorem dX2_init_6 : decode cX2_init 6 = .ok (.newarray .int, 2) := by decide +kernel
theorem dX2_init_8 : decode cX2_init 8 = .ok (.putfield 9, 3) := by decide +kernel
theorem dX2_init_11 : decode cX2_init 11 = .ok (.aload_n 0, 1) := by decide +kernel
theorem dX2_init_12 : decode cX2_init 12 = .ok (.iconst 5, 1) := by decide +kernel
theorem dX2_init_13 : decode cX2_init 13 = .ok (.newarray .int, 2) := by decide +kernel
theorem dX2_init_15 : decode cX2_init 15 = .ok (.putfield 15, 3) := by decide +kernel
theorem dX2_init_18 : decode cX2_init 18 = .ok (.return_, 1) := by decide +kernel
theorem dX2_begin_0 : decode cX2_begin 0 = .ok (.aload_n 0, 1) := by decide +kernel
theorem dX2_begin_1 : decode cX2_begin 1 = .ok (.iconst 0, 1) := by decide +kernel
theorem dX2_begin_2 : decode cX2_begin 2 = .ok (.putfield 18, 3) := by decide +kernel
theorem dX2_begin_5 : decode cX2_begin 5 = .ok (.aload_n 0, 1) := by decide +kernel
theorem dX2_begin_6 : decode cX2_begin 6 = .ok (.iconst 0, 1) := by decide +kernel
theorem dX2_begin_7 : decode cX2_begin 7 = .ok (.putfield 22, 3) := by decide +kernel
theorem dX2_begin_10 : decode cX2_begin 10 = .ok (.aload_n 0, 1) := by decide +kernel
theorem dX2_begin_11 : decode cX2_begin 11 = .ok (.iconst 0, 1) := by decide +kernel
theorem dX2_begin_12 : decode cX2_begin 12 = .ok (.putfield 25, 3) := by decide +kernel
theorem dX2_begin_15 : decode cX2_begin 15 = .ok (.aload_n 0, 1) := by decide +kernel
theorem dX2_begin_16 : decode cX2_begin 16 = .ok (.iconst 0, 1) := by decide +kernel
theorem dX2_begin_17 : decode cX2_begin 17 = .ok (.putfield 28, 3) := by decide +kernel
theorem dX2_begin_20 : decode cX2_begin 20 = .ok (.aload_n 0, 1) := by decide +kernel
theorem dX2_begin_21 : decode cX2_begin 21 = .ok (.iconst 0, 1) := by decide +kernel
theorem dX2_begin_22 : decode cX2_begin 22 = .ok (.putfield 31, 3) := by decide +kernel
theorem dX2_begin_25 : decode cX2_begin 25 = .ok (.aload_n 1, 1) := by decide +kernel
theorem dX2_begin_26 : decode cX2_begin 26 = .ok (.getfield 34, 3) := by decide +kernel
theorem dX2_begin_29 : decode cX2_begin 29 = .ok (.iconst 0, 1) := by decide +kernel
theorem dX2_begin_30 : decode cX2_begin 30 = .ok (.aload_n 0, 1) := by decide +kernel
theorem dX2_begin_31 : decode cX2_begin 31 = .ok (.getfield 9, 3) := by decide +kernel
theorem dX2_begin_34 : decode cX2_begin 34 = .ok (.iconst 0, 1) := by decide +kernel
theorem dX2_begin_35 : decode cX2_begin 35 = .ok (.iconst 5, 1) := by decide +kernel
theorem dX2_begin_36 : decode cX2_begin 36 = .ok (.invokestatic 37, 3) := by decide +kernel
theorem dX2_begin_39 : decode cX2_begin 39 = .ok (.aload_n 1, 1) := by decide +kernel
theorem dX2_begin_40 : decode cX2_begin 40 = .ok (.getfield 43, 3) := by decide +kernel
theorem dX2_begin_43 : decode cX2_begin 43 = .ok (.iconst 0, 1) := by decide +kernel
theorem dX2_begin_44 : decode cX2_begin 44 = .ok (.aload_n 0, 1) := by decide +kernel
theorem dX2_begin_45 : decode cX2_begin 45 = .ok (.getfield 15, 3) := by decide +kernel
theorem dX2_begin_48 : decode cX2_begin 48 = .ok (.iconst 0, 1) := by decide +kernel
theorem dX2_begin_49 : decode cX2_begin 49 = .ok (.iconst 5, 1) := by decide +kernel
theorem dX2_begin_50 : decode cX2_begin 50 = .ok (.invokestatic 37, 3) := by decide +kernel
theorem dX2_begin_53 : decode cX2_begin 53 = .ok (.return_, 1) := by decide +kernel
theorem dX2_play_0 : decode cX2_play 0 = .ok (.aload_n 0, 1) := by decide +kernel
theorem dX2_play_1 : decode cX2_play 1 = .ok (.aload_n 1, 1) := by decide +kernel
theorem dX2_play_2 : decode cX2_play 2 = .ok (.invokevirtual 44, 3) := by decide +kernel
theorem dX2_play_5 : decode cX2_play 5 = .ok (.iconst 0, 1) := by decide +kernel
theorem dX2_play_6 : decode cX2_play 6 = .ok (.istore_n 3, 1) := by decide +kernel
theorem dX2_play_7 : decode cX2_play 7 = .ok (.iload_n 3, 1) := by decide +kernel
theorem dX2_play_8 : decode cX2_play 8 = .ok (.aload_n 2, 1) := by decide +kernel
theorem dX2_play_9 : decode cX2_play 9 = .ok (.getfield 48, 3) := by decide +kernel
theorem dX2_play_12 : decode cX2_play 12 = .ok (.if_icmp .ge 82, 3) := by decide +kernel
theorem dX2_play_15 : decode cX2_play 15 = .ok (.aload_n 2, 1) := by decide +kernel
theorem dX2_play_16 : decode cX2_play 16 = .ok (.getfield 53, 3) := by decide +kernel
theorem dX2_play_19 : decode cX2_play 19 = .ok (.iload_n 3, 1) := by decide +kernel
theorem dX2_play_20 : decode cX2_play 20 = .ok (.iaload, 1) := by decide +kernel
theorem dX2_play_21 : decode cX2_play 21 = .ok (.istore 4, 2) := by decide +kernel
theorem dX2_play_23 : decode cX2_play 23 = .ok (.iload 4, 2) := by decide +kernel
theorem dX2_play_25 : decode cX2_play 25 = .ok (.invokestatic 56, 3) := by decide +kernel
theorem dX2_play_28 : decode cX2_play 28 = .ok (.ifCond .eq 31, 3) := by decide +kernel
theorem dX2_play_31 : decode cX2_play 31 = .ok (.iinc 3 1, 3) := by decide +kernel
theorem dX2_play_34 : decode cX2_play 34 = .ok (.aload_n 0, 1) := by decide +kernel
theorem dX2_play_35 : decode cX2_play 35 = .ok (.aload_n 0, 1) := by decide +kernel
theorem dX2_play_36 : decode cX2_play 36 = .ok (.aload_n 1, 1) := by decide +kernel
theorem dX2_play_37 : decode cX2_play 37 = .ok (.iload 4, 2) := by decide +kernel
theorem dX2_play_39 : decode cX2_play 39 = .ok (.bipush 48, 2) := by decide +kernel
theorem dX2_play_41 : decode cX2_play 41 = .ok (.isub, 1) := by decide +kernel
theorem dX2_play_42 : decode cX2_play 42 = .ok (.aload_n 2, 1) := by decide +kernel
theorem dX2_play_43 : decode cX2_play 43 = .ok (.iload_n 3, 1) := by decide +kernel
theorem dX2_play_44 : decode cX2_play 44 = .ok (.invokevirtual 60, 3) := by decide +kernel
theorem dX2_play_47 : decode cX2_play 47 = .ok (.invokestatic 64, 3) := by decide +kernel
theorem dX2_play_50 : decode cX2_play 50 = .ok (.invokevirtual 67, 3) := by decide +kernel
theorem dX2_play_53 : decode cX2_play 53 = .ok (.putfield 31, 3) := by decide +kernel
theorem dX2_play_56 : decode cX2_play 56 = .ok (.goto 14, 3) := by decide +kernel
theorem dX2_play_59 : decode cX2_play 59 = .ok (.aload_n 0, 1) := by decide +kernel
theorem dX2_play_60 : decode cX2_play 60 = .ok (.aload_n 0, 1) := by decide +kernel
theorem dX2_play_61 : decode cX2_play 61 = .ok (.aload_n 1, 1) := by decide +kernel
theorem dX2_play_62 : decode cX2_play 62 = .ok (.iload 4, 2) := by decide +kernel
theorem dX2_play_64 : decode cX2_play 64 = .ok (.invokevirtual 71, 3) := by decide +kernel
theorem dX2_play_67 : decode cX2_play 67 = .ok (.putfield 31, 3) := by decide +kernel
theorem dX2_play_70 : decode cX2_play 70 = .ok (.aload_n 0, 1) := by decide +kernel
theorem dX2_play_71 : decode cX2_play 71 = .ok (.getfield 31, 3) := by decide +kernel
theorem dX2_play_74 : decode cX2_play 74 = .ok (.ifCond .eq 4, 3) := by decide +kernel
theorem dX2_play_77 : decode cX2_play 77 = .ok (.return_, 1) := by decide +kernel
theorem dX2_play_78 : decode cX2_play 78 = .ok (.aload_n 0, 1) := by decide +kernel
theorem dX2_play_79 : decode cX2_play 79 = .ok (.dup, 1) := by decide +kernel
theorem dX2_play_80 : decode cX2_play 80 = .ok (.getfield 28, 3) := by decide +kernel
theorem dX2_play_83 : decode cX2_play 83 = .ok (.iconst 1, 1) := by decide +kernel
theorem dX2_play_84 : decode cX2_play 84 = .ok (.iadd, 1) := by decide +kernel
theorem dX2_play_85 : decode cX2_play 85 = .ok (.putfield 28, 3) := by decide +kernel
theorem dX2_play_88 : decode cX2_play 88 = .ok (.iinc 3 1, 3) := by decide +kernel
theorem dX2_play_91 : decode cX2_play 91 = .ok (.goto (-84), 3) := by decide +kernel
theorem dX2_play_94 : decode cX2_play 94 = .ok (.return_, 1) := by decide +kernel
theorem dX2_playDraws_0 : decode cX2_playDraws 0 = .ok (.aload_n 0, 1) := by decide +kernel
theorem dX2_playDraws_1 : decode cX2_playDraws 1 = .ok (.aload_n 1, 1) := by decide +kernel
theorem dX2_playDraws_2 : decode cX2_playDraws 2 = .ok (.invokevirtual 44, 3) := by decide +kernel
theorem dX2_playDraws_5 : decode cX2_playDraws 5 = .ok (.iload_n 2, 1) := by decide +kernel
theorem dX2_playDraws_6 : decode cX2_playDraws 6 = .ok (.istore 4, 2) := by decide +kernel
theorem dX2_playDraws_8 : decode cX2_playDraws 8 = .ok (.iconst 1, 1) := by decide +kernel
theorem dX2_playDraws_9 : decode cX2_playDraws 9 = .ok (.istore 5, 2) := by decide +kernel
theorem dX2_playDraws_11 : decode cX2_playDraws 11 = .ok (.iload 5, 2) := by decide +kernel
theorem dX2_playDraws_13 : decode cX2_playDraws 13 = .ok (.iload_n 3, 1) := by decide +kernel
theorem dX2_playDraws_14 : decode cX2_playDraws 14 = .ok (.if_icmp .gt 72, 3) := by decide +kernel
theorem dX2_playDraws_17 : decode cX2_playDraws 17 = .ok (.bipush 75, 2) := by decide +kernel
theorem dX2_playDraws_19 : decode cX2_playDraws 19 = .ok (.iload 4, 2) := by decide +kernel
theorem dX2_playDraws_21 : decode cX2_playDraws 21 = .ok (.imul, 1) := by decide +kernel
theorem dX2_playDraws_22 : decode cX2_playDraws 22 = .ok (.bipush 74, 2) := by decide +kernel
theorem dX2_playDraws_24 : decode cX2_playDraws 24 = .ok (.iadd, 1) := by decide +kernel
theorem dX2_playDraws_25 : decode cX2_playDraws 25 = .ok (.ldc 75, 2) := by decide +kernel
theorem dX2_playDraws_27 : decode cX2_playDraws 27 = .ok (.irem, 1) := by decide +kernel
theorem dX2_playDraws_28 : decode cX2_playDraws 28 = .ok (.istore 4, 2) := by decide +kernel
theorem dX2_playDraws_30 : decode cX2_playDraws 30 = .ok (.aload_n 1, 1) := by decide +kernel
theorem dX2_playDraws_31 : decode cX2_playDraws 31 = .ok (.iload 4, 2) := by decide +kernel
theorem dX2_playDraws_33 : decode cX2_playDraws 33 = .ok (.bipush 6, 2) := by decide +kernel
theorem dX2_playDraws_35 : decode cX2_playDraws 35 = .ok (.irem, 1) := by decide +kernel
theorem dX2_playDraws_36 : decode cX2_playDraws 36 = .ok (.invokevirtual 76, 3) := by decide +kernel
theorem dX2_playDraws_39 : decode cX2_playDraws 39 = .ok (.ifCond .eq 13, 3) := by decide +kernel
theorem dX2_playDraws_42 : decode cX2_playDraws 42 = .ok (.aload_n 0, 1) := by decide +kernel
theorem dX2_playDraws_43 : decode cX2_playDraws 43 = .ok (.aload_n 1, 1) := by decide +kernel
theorem dX2_playDraws_44 : decode cX2_playDraws 44 = .ok (.iload 4, 2) := by decide +kernel
theorem dX2_playDraws_46 : decode cX2_playDraws 46 = .ok (.bipush 6, 2) := by decide +kernel
theorem dX2_playDraws_48 : decode cX2_playDraws 48 = .ok (.irem, 1) := by decide +kernel
theorem dX2_playDraws_49 : decode cX2_playDraws 49 = .ok (.invokevirtual 79, 3) := by decide +kernel
theorem dX2_playDraws_52 : decode cX2_playDraws 52 = .ok (.iload 4, 2) := by decide +kernel
theorem dX2_playDraws_54 : decode cX2_playDraws 54 = .ok (.bipush 6, 2) := by decide +kernel
theorem dX2_playDraws_56 : decode cX2_playDraws 56 = .ok (.idiv, 1) := by decide +kernel
theorem dX2_playDraws_57 : decode cX2_playDraws 57 = .ok (.bipush 10, 2) := by decide +kernel
theorem dX2_playDraws_59 : decode cX2_playDraws 59 = .ok (.irem, 1) := by decide +kernel
theorem dX2_playDraws_60 : decode cX2_playDraws 60 = .ok (.ifCond .ne 8, 3) := by decide +kernel
theorem dX2_playDraws_63 : decode cX2_playDraws 63 = .ok (.aload_n 0, 1) := by decide +kernel
theorem dX2_playDraws_64 : decode cX2_playDraws 64 = .ok (.aload_n 1, 1) := by decide +kernel
theorem dX2_playDraws_65 : decode cX2_playDraws 65 = .ok (.invokevirtual 83, 3) := by decide +kernel
theorem dX2_playDraws_68 : decode cX2_playDraws 68 = .ok (.iload 5, 2) := by decide +kernel
theorem dX2_playDraws_70 : decode cX2_playDraws 70 = .ok (.iconst 5, 1) := by decide +kernel
theorem dX2_playDraws_71 : decode cX2_playDraws 71 = .ok (.irem, 1) := by decide +kernel
theorem dX2_playDraws_72 : decode cX2_playDraws 72 = .ok (.ifCond .ne 8, 3) := by decide +kernel
theorem dX2_playDraws_75 : decode cX2_playDraws 75 = .ok (.aload_n 0, 1) := by decide +kernel
theorem dX2_playDraws_76 : decode cX2_playDraws 76 = .ok (.aload_n 1, 1) := by decide +kernel
theorem dX2_playDraws_77 : decode cX2_playDraws 77 = .ok (.invokevirtual 86, 3) := by decide +kernel
theorem dX2_playDraws_80 : decode cX2_playDraws 80 = .ok (.iinc 5 1, 3) := by decide +kernel
theorem dX2_playDraws_83 : decode cX2_playDraws 83 = .ok (.goto (-72), 3) := by decide +kernel
theorem dX2_playDraws_86 : decode cX2_playDraws 86 = .ok (.return_, 1) := by decide +kernel
theorem dX2_leaveTo_0 : decode cX2_leaveTo 0 = .ok (.aload_n 0, 1) := by decide +kernel
theorem dX2_leaveTo_1 : decode cX2_leaveTo 1 = .ok (.getfield 9, 3) := by decide +kernel
theorem dX2_leaveTo_4 : decode cX2_leaveTo 4 = .ok (.iconst 0, 1) := by decide +kernel
theorem dX2_leaveTo_5 : decode cX2_leaveTo 5 = .ok (.aload_n 1, 1) := by decide +kernel
theorem dX2_leaveTo_6 : decode cX2_leaveTo 6 = .ok (.getfield 34, 3) := by decide +kernel
theorem dX2_leaveTo_9 : decode cX2_leaveTo 9 = .ok (.iconst 0, 1) := by decide +kernel
theorem dX2_leaveTo_10 : decode cX2_leaveTo 10 = .ok (.iconst 5, 1) := by decide +kernel
theorem dX2_leaveTo_11 : decode cX2_leaveTo 11 = .ok (.invokestatic 37, 3) := by decide +kernel
theorem dX2_leaveTo_14 : decode cX2_leaveTo 14 = .ok (.aload_n 0, 1) := by decide +kernel
theorem dX2_leaveTo_15 : decode cX2_leaveTo 15 = .ok (.getfield 15, 3) := by decide +kernel
theorem dX2_leaveTo_18 : decode cX2_leaveTo 18 = .ok (.iconst 0, 1) := by decide +kernel
theorem dX2_leaveTo_19 : decode cX2_leaveTo 19 = .ok (.aload_n 1, 1) := by decide +kernel
theorem dX2_leaveTo_20 : decode cX2_leaveTo 20 = .ok (.getfield 43, 3) := by decide +kernel
theorem dX2_leaveTo_23 : decode cX2_leaveTo 23 = .ok (.iconst 0, 1) := by decide +kernel
theorem dX2_leaveTo_24 : decode cX2_leaveTo 24 = .ok (.iconst 5, 1) := by decide +kernel
theorem dX2_leaveTo_25 : decode cX2_leaveTo 25 = .ok (.invokestatic 37, 3) := by decide +kernel
theorem dX2_leaveTo_28 : decode cX2_leaveTo 28 = .ok (.return_, 1) := by decide +kernel
theorem dX2_knock_0 : decode cX2_knock 0 = .ok (.aload_n 1, 1) := by decide +kernel
theorem dX2_knock_1 : decode cX2_knock 1 = .ok (.iload_n 2, 1) := by decide +kernel
theorem dX2_knock_2 : decode cX2_knock 2 = .ok (.invokevirtual 89, 3) := by decide +kernel
theorem dX2_knock_5 : decode cX2_knock 5 = .ok (.ifCond .eq 13, 3) := by decide +kernel
theorem dX2_knock_8 : decode cX2_knock 8 = .ok (.aload_n 0, 1) := by decide +kernel
theorem dX2_knock_9 : decode cX2_knock 9 = .ok (.getfield 9, 3) := by decide +kernel
theorem dX2_knock_12 : decode cX2_knock 12 = .ok (.iload_n 2, 1) := by decide +kernel
theorem dX2_knock_13 : decode cX2_knock 13 = .ok (.iaload, 1) := by decide +kernel
theorem dX2_knock_14 : decode cX2_knock 14 = .ok (.iload_n 3, 1) := by decide +kernel
theorem dX2_knock_15 : decode cX2_knock 15 = .ok (.if_icmp .eq 5, 3) := by decide +kernel
theorem dX2_knock_18 : decode cX2_knock 18 = .ok (.iconst 2, 1) := by decide +kernel
theorem dX2_knock_19 : decode cX2_knock 19 = .ok (.ireturn, 1) := by decide +kernel
theorem dX2_knock_20 : decode cX2_knock 20 = .ok (.aload_n 0, 1) := by decide +kernel
theorem dX2_knock_21 : decode cX2_knock 21 = .ok (.dup, 1) := by decide +kernel
theorem dX2_knock_22 : decode cX2_knock 22 = .ok (.getfield 25, 3) := by decide +kernel
theorem dX2_knock_25 : decode cX2_knock 25 = .ok (.iconst 1, 1) := by decide +kernel
theorem dX2_knock_26 : decode cX2_knock 26 = .ok (.iadd, 1) := by decide +kernel
theorem dX2_knock_27 : decode cX2_knock 27 = .ok (.putfield 25, 3) := by decide +kernel
theorem dX2_knock_30 : decode cX2_knock 30 = .ok (.iconst 0, 1) := by decide +kernel
theorem dX2_knock_31 : decode cX2_knock 31 = .ok (.ireturn, 1) := by decide +kernel
theorem dX2_happen_0 : decode cX2_happen 0 = .ok (.iload_n 2, 1) := by decide +kernel
theorem dX2_happen_1 : decode cX2_happen 1 = .ok (.bipush 42, 2) := by decide +kernel
theorem dX2_happen_3 : decode cX2_happen 3 = .ok (.if_icmp .ne 11, 3) := by decide +kernel
theorem dX2_happen_6 : decode cX2_happen 6 = .ok (.aload_n 0, 1) := by decide +kernel
theorem dX2_happen_7 : decode cX2_happen 7 = .ok (.aload_n 1, 1) := by decide +kernel
theorem dX2_happen_8 : decode cX2_happen 8 = .ok (.invokevirtual 83, 3) := by decide +kernel
theorem dX2_happen_11 : decode cX2_happen 11 = .ok (.goto 42, 3) := by decide +kernel
theorem dX2_happen_14 : decode cX2_happen 14 = .ok (.iload_n 2, 1) := by decide +kernel
theorem dX2_happen_15 : decode cX2_happen 15 = .ok (.bipush 46, 2) := by decide +kernel
theorem dX2_happen_17 : decode cX2_happen 17 = .ok (.if_icmp .ne 11, 3) := by decide +kernel
theorem dX2_happen_20 : decode cX2_happen 20 = .ok (.aload_n 0, 1) := by decide +kernel
theorem dX2_happen_21 : decode cX2_happen 21 = .ok (.aload_n 1, 1) := by decide +kernel
theorem dX2_happen_22 : decode cX2_happen 22 = .ok (.invokevirtual 86, 3) := by decide +kernel
theorem dX2_happen_25 : decode cX2_happen 25 = .ok (.goto 28, 3) := by decide +kernel
theorem dX2_happen_28 : decode cX2_happen 28 = .ok (.aload_n 1, 1) := by decide +kernel
theorem dX2_happen_29 : decode cX2_happen 29 = .ok (.iload_n 2, 1) := by decide +kernel
theorem dX2_happen_30 : decode cX2_happen 30 = .ok (.bipush 97, 2) := by decide +kernel
theorem dX2_happen_32 : decode cX2_happen 32 = .ok (.isub, 1) := by decide +kernel
theorem dX2_happen_33 : decode cX2_happen 33 = .ok (.invokevirtual 76, 3) := by decide +kernel
theorem dX2_happen_36 : decode cX2_happen 36 = .ok (.ifCond .eq 15, 3) := by decide +kernel
theorem dX2_happen_39 : decode cX2_happen 39 = .ok (.aload_n 0, 1) := by decide +kernel
theorem dX2_happen_40 : decode cX2_happen 40 = .ok (.aload_n 1, 1) := by decide +kernel
theorem dX2_happen_41 : decode cX2_happen 41 = .ok (.iload_n 2, 1) := by decide +kernel
theorem dX2_happen_42 : decode cX2_happen 42 = .ok (.bipush 97, 2) := by decide +kernel
theorem dX2_happen_44 : decode cX2_happen 44 = .ok (.isub, 1) := by decide +kernel
theorem dX2_happen_45 : decode cX2_happen 45 = .ok (.invokevirtual 79, 3) := by decide +kernel
theorem dX2_happen_48 : decode cX2_happen 48 = .ok (.goto 5, 3) := by decide +kernel
theorem dX2_happen_51 : decode cX2_happen 51 = .ok (.iconst 1, 1) := by decide +kernel
theorem dX2_happen_52 : decode cX2_happen 52 = .ok (.ireturn, 1) := by decide +kernel
theorem dX2_happen_53 : decode cX2_happen 53 = .ok (.iconst 0, 1) := by decide +kernel
theorem dX2_happen_54 : decode cX2_happen 54 = .ok (.ireturn, 1) := by decide +kernel
theorem dX2_hear_0 : decode cX2_hear 0 = .ok (.iconst 0, 1) := by decide +kernel
theorem dX2_hear_1 : decode cX2_hear 1 = .ok (.istore_n 3, 1) := by decide +kernel
theorem dX2_hear_2 : decode cX2_hear 2 = .ok (.iload_n 3, 1) := by decide +kernel
theorem dX2_hear_3 : decode cX2_hear 3 = .ok (.aload_n 1, 1) := by decide +kernel
theorem dX2_hear_4 : decode cX2_hear 4 = .ok (.getfield 92, 3) := by decide +kernel
theorem dX2_hear_7 : decode cX2_hear 7 = .ok (.if_icmp .ge 88, 3) := by decide +kernel
theorem dX2_hear_10 : decode cX2_hear 10 = .ok (.aload_n 1, 1) := by decide +kernel
theorem dX2_hear_11 : decode cX2_hear 11 = .ok (.iload_n 2, 1) := by decide +kernel
theorem dX2_hear_12 : decode cX2_hear 12 = .ok (.iload_n 3, 1) := by decide +kernel
theorem dX2_hear_13 : decode cX2_hear 13 = .ok (.aload_n 0, 1) := by decide +kernel
theorem dX2_hear_14 : decode cX2_hear 14 = .ok (.getfield 9, 3) := by decide +kernel
theorem dX2_hear_17 : decode cX2_hear 17 = .ok (.iload_n 3, 1) := by decide +kernel
theorem dX2_hear_18 : decode cX2_hear 18 = .ok (.iaload, 1) := by decide +kernel
theorem dX2_hear_19 : decode cX2_hear 19 = .ok (.invokevirtual 95, 3) := by decide +kernel
theorem dX2_hear_22 : decode cX2_hear 22 = .ok (.istore 4, 2) := by decide +kernel
theorem dX2_hear_24 : decode cX2_hear 24 = .ok (.iload 4, 2) := by decide +kernel
theorem dX2_hear_26 : decode cX2_hear 26 = .ok (.aload_n 0, 1) := by decide +kernel
theorem dX2_hear_27 : decode cX2_hear 27 = .ok (.getfield 15, 3) := by decide +kernel
theorem dX2_hear_30 : decode cX2_hear 30 = .ok (.iload_n 3, 1) := by decide +kernel
theorem dX2_hear_31 : decode cX2_hear 31 = .ok (.iaload, 1) := by decide +kernel
theorem dX2_hear_32 : decode cX2_hear 32 = .ok (.if_icmp .le 16, 3) := by decide +kernel
theorem dX2_hear_35 : decode cX2_hear 35 = .ok (.aload_n 0, 1) := by decide +kernel
theorem dX2_hear_36 : decode cX2_hear 36 = .ok (.dup, 1) := by decide +kernel
theorem dX2_hear_37 : decode cX2_hear 37 = .ok (.getfield 22, 3) := by decide +kernel
theorem dX2_hear_40 : decode cX2_hear 40 = .ok (.iconst 1, 1) := by decide +kernel
theorem dX2_hear_41 : decode cX2_hear 41 = .ok (.iadd, 1) := by decide +kernel
theorem dX2_hear_42 : decode cX2_hear 42 = .ok (.putfield 22, 3) := by decide +kernel
theorem dX2_hear_45 : decode cX2_hear 45 = .ok (.goto 44, 3) := by decide +kernel
theorem dX2_hear_48 : decode cX2_hear 48 = .ok (.aload_n 0, 1) := by decide +kernel
theorem dX2_hear_49 : decode cX2_hear 49 = .ok (.getfield 9, 3) := by decide +kernel
theorem dX2_hear_52 : decode cX2_hear 52 = .ok (.iload_n 3, 1) := by decide +kernel
theorem dX2_hear_53 : decode cX2_hear 53 = .ok (.aload_n 1, 1) := by decide +kernel
theorem dX2_hear_54 : decode cX2_hear 54 = .ok (.iload_n 3, 1) := by decide +kernel
theorem dX2_hear_55 : decode cX2_hear 55 = .ok (.aload_n 0, 1) := by decide +kernel
theorem dX2_hear_56 : decode cX2_hear 56 = .ok (.getfield 9, 3) := by decide +kernel
theorem dX2_hear_59 : decode cX2_hear 59 = .ok (.iload_n 3, 1) := by decide +kernel
theorem dX2_hear_60 : decode cX2_hear 60 = .ok (.iaload, 1) := by decide +kernel
theorem dX2_hear_61 : decode cX2_hear 61 = .ok (.iload 4, 2) := by decide +kernel
theorem dX2_hear_63 : decode cX2_hear 63 = .ok (.invokevirtual 98, 3) := by decide +kernel
theorem dX2_hear_66 : decode cX2_hear 66 = .ok (.iastore, 1) := by decide +kernel
theorem dX2_hear_67 : decode cX2_hear 67 = .ok (.aload_n 0, 1) := by decide +kernel
theorem dX2_hear_68 : decode cX2_hear 68 = .ok (.getfield 15, 3) := by decide +kernel
theorem dX2_hear_71 : decode cX2_hear 71 = .ok (.iload_n 3, 1) := by decide +kernel
theorem dX2_hear_72 : decode cX2_hear 72 = .ok (.dup2, 1) := by decide +kernel
theorem dX2_hear_73 : decode cX2_hear 73 = .ok (.iaload, 1) := by decide +kernel
theorem dX2_hear_74 : decode cX2_hear 74 = .ok (.iload 4, 2) := by decide +kernel
theorem dX2_hear_76 : decode cX2_hear 76 = .ok (.isub, 1) := by decide +kernel
theorem dX2_hear_77 : decode cX2_hear 77 = .ok (.iastore, 1) := by decide +kernel
theorem dX2_hear_78 : decode cX2_hear 78 = .ok (.aload_n 0, 1) := by decide +kernel
theorem dX2_hear_79 : decode cX2_hear 79 = .ok (.dup, 1) := by decide +kernel
theorem dX2_hear_80 : decode cX2_hear 80 = .ok (.getfield 18, 3) := by decide +kernel
theorem dX2_hear_83 : decode cX2_hear 83 = .ok (.iload 4, 2) := by decide +kernel
theorem dX2_hear_85 : decode cX2_hear 85 = .ok (.iadd, 1) := by decide +kernel
theorem dX2_hear_86 : decode cX2_hear 86 = .ok (.putfield 18, 3) := by decide +kernel
theorem dX2_hear_89 : decode cX2_hear 89 = .ok (.iinc 3 1, 3) := by decide +kernel
theorem dX2_hear_92 : decode cX2_hear 92 = .ok (.goto (-90), 3) := by decide +kernel
theorem dX2_hear_95 : decode cX2_hear 95 = .ok (.return_, 1) := by decide +kernel
theorem dX2_thunder_0 : decode cX2_thunder 0 = .ok (.iconst 0, 1) := by decide +kernel
theorem dX2_thunder_1 : decode cX2_thunder 1 = .ok (.istore_n 2, 1) := by decide +kernel
theorem dX2_thunder_2 : decode cX2_thunder 2 = .ok (.iload_n 2, 1) := by decide +kernel
theorem dX2_thunder_3 : decode cX2_thunder 3 = .ok (.aload_n 1, 1) := by decide +kernel
theorem dX2_thunder_4 : decode cX2_thunder 4 = .ok (.getfield 92, 3) := by decide +kernel
theorem dX2_thunder_7 : decode cX2_thunder 7 = .ok (.if_icmp .ge 25, 3) := by decide +kernel
theorem dX2_thunder_10 : decode cX2_thunder 10 = .ok (.aload_n 0, 1) := by decide +kernel
theorem dX2_thunder_11 : decode cX2_thunder 11 = .ok (.getfield 9, 3) := by decide +kernel
theorem dX2_thunder_14 : decode cX2_thunder 14 = .ok (.iload_n 2, 1) := by decide +kernel
theorem dX2_thunder_15 : decode cX2_thunder 15 = .ok (.aload_n 0, 1) := by decide +kernel
theorem dX2_thunder_16 : decode cX2_thunder 16 = .ok (.getfield 9, 3) := by decide +kernel
theorem dX2_thunder_19 : decode cX2_thunder 19 = .ok (.iload_n 2, 1) := by decide +kernel
theorem dX2_thunder_20 : decode cX2_thunder 20 = .ok (.iaload, 1) := by decide +kernel
theorem dX2_thunder_21 : decode cX2_thunder 21 = .ok (.iconst 2, 1) := by decide +kernel
theorem dX2_thunder_22 : decode cX2_thunder 22 = .ok (.iadd, 1) := by decide +kernel
theorem dX2_thunder_23 : decode cX2_thunder 23 = .ok (.iconst 3, 1) := by decide +kernel
theorem dX2_thunder_24 : decode cX2_thunder 24 = .ok (.iand, 1) := by decide +kernel
theorem dX2_thunder_25 : decode cX2_thunder 25 = .ok (.iastore, 1) := by decide +kernel
theorem dX2_thunder_26 : decode cX2_thunder 26 = .ok (.iinc 2 1, 3) := by decide +kernel
theorem dX2_thunder_29 : decode cX2_thunder 29 = .ok (.goto (-27), 3) := by decide +kernel
theorem dX2_thunder_32 : decode cX2_thunder 32 = .ok (.return_, 1) := by decide +kernel
theorem dX2_rest_0 : decode cX2_rest 0 = .ok (.aload_n 1, 1) := by decide +kernel
theorem dX2_rest_1 : decode cX2_rest 1 = .ok (.getfield 101, 3) := by decide +kernel
theorem dX2_rest_4 : decode cX2_rest 4 = .ok (.iconst 0, 1) := by decide +kernel
theorem dX2_rest_5 : decode cX2_rest 5 = .ok (.aload_n 0, 1) := by decide +kernel
theorem dX2_rest_6 : decode cX2_rest 6 = .ok (.getfield 15, 3) := by decide +kernel
theorem dX2_rest_9 : decode cX2_rest 9 = .ok (.iconst 0, 1) := by decide +kernel
theorem dX2_rest_10 : decode cX2_rest 10 = .ok (.iconst 5, 1) := by decide +kernel
theorem dX2_rest_11 : decode cX2_rest 11 = .ok (.invokestatic 37, 3) := by decide +kernel
theorem dX2_rest_14 : decode cX2_rest 14 = .ok (.return_, 1) := by decide +kernel
theorem dX3_init_0 : decode cX3_init 0 = .ok (.aload_n 0, 1) := by decide +kernel
theorem dX3_init_1 : decode cX3_init 1 = .ok (.invokespecial 3, 3) := by decide +kernel
theorem dX3_init_4 : decode cX3_init 4 = .ok (.aload_n 0, 1) := by decide +kernel
theorem dX3_init_5 : decode cX3_init 5 = .ok (.bipush 6, 2) := by decide +kernel
theorem dX3_init_7 : decode cX3_init 7 = .ok (.iconst 5, 1) := by decide +kernel
theorem dX3_init_8 : decode cX3_init 8 = .ok (.multianewarray 9 2, 4) := by decide +kernel
theorem dX3_init_12 : decode cX3_init 12 = .ok (.putfield 11, 3) := by decide +kernel
theorem dX3_init_15 : decode cX3_init 15 = .ok (.aload_n 0, 1) := by decide +kernel
theorem dX3_init_16 : decode cX3_init 16 = .ok (.bipush 6, 2) := by decide +kernel
theorem dX3_init_18 : decode cX3_init 18 = .ok (.iconst 5, 1) := by decide +kernel
theorem dX3_init_19 : decode cX3_init 19 = .ok (.multianewarray 9 2, 4) := by decide +kernel
theorem dX3_init_23 : decode cX3_init 23 = .ok (.putfield 16, 3) := by decide +kernel
theorem dX3_init_26 : decode cX3_init 26 = .ok (.return_, 1) := by decide +kernel
theorem dX3_fewestWords_0 : decode cX3_fewestWords 0 = .ok (.aload_n 0, 1) := by decide +kernel
theorem dX3_fewestWords_1 : decode cX3_fewestWords 1 = .ok (.iload_n 2, 1) := by decide +kernel
theorem dX3_fewestWords_2 : decode cX3_fewestWords 2 = .ok (.putfield 19, 3) := by decide +kernel
theorem dX3_fewestWords_5 : decode cX3_fewestWords 5 = .ok (.aload_n 0, 1) := by decide +kernel
theorem dX3_fewestWords_6 : decode cX3_fewestWords 6 = .ok (.iload_n 3, 1) := by decide +kernel
theorem dX3_fewestWords_7 : decode cX3_fewestWords 7 = .ok (.putfield 23, 3) := by decide +kernel
theorem dX3_fewestWords_10 : decode cX3_fewestWords 10 = .ok (.aload_n 1, 1) := by decide +kernel
theorem dX3_fewestWords_11 : decode cX3_fewestWords 11 = .ok (.getfield 26, 3) := by decide +kernel
theorem dX3_fewestWords_14 : decode cX3_fewestWords 14 = .ok (.iconst 0, 1) := by decide +kernel
theorem dX3_fewestWords_15 : decode cX3_fewestWords 15 = .ok (.aload_n 0, 1) := by decide +kernel
theorem dX3_fewestWords_16 : decode cX3_fewestWords 16 = .ok (.getfield 11, 3) := by decide +kernel
theorem dX3_fewestWords_19 : decode cX3_fewestWords 19 = .ok (.iconst 0, 1) := by decide +kernel
theorem dX3_fewestWords_20 : decode cX3_fewestWords 20 = .ok (.aaload, 1) := by decide +kernel
theorem dX3_fewestWords_21 : decode cX3_fewestWords 21 = .ok (.iconst 0, 1) := by decide +kernel
theorem dX3_fewestWords_22 : decode cX3_fewestWords 22 = .ok (.iconst 5, 1) := by decide +kernel
theorem dX3_fewestWords_23 : decode cX3_fewestWords 23 = .ok (.invokestatic 31, 3) := by decide +kernel
theorem dX3_fewestWords_26 : decode cX3_fewestWords 26 = .ok (.aload_n 1, 1) := by decide +kernel
theorem dX3_fewestWords_27 : decode cX3_fewestWords 27 = .ok (.getfield 37, 3) := by decide +kernel
theorem dX3_fewestWords_30 : decode cX3_fewestWords 30 = .ok (.iconst 0, 1) := by decide +kernel
theorem dX3_fewestWords_31 : decode cX3_fewestWords 31 = .ok (.aload_n 0, 1) := by decide +kernel
theorem dX3_fewestWords_32 : decode cX3_fewestWords 32 = .ok (.getfield 16, 3) := by decide +kernel
theorem dX3_fewestWords_35 : decode cX3_fewestWords 35 = .ok (.iconst 0, 1) := by decide +kernel
theorem dX3_fewestWords_36 : decode cX3_fewestWords 36 = .ok (.aaload, 1) := by decide +kernel
theorem dX3_fewestWords_37 : decode cX3_fewestWords 37 = .ok (.iconst 0, 1) := by decide +kernel
theorem dX3_fewestWords_38 : decode cX3_fewestWords 38 = .ok (.iconst 5, 1) := by decide +kernel
theorem dX3_fewestWords_39 : decode cX3_fewestWords 39 = .ok (.invokestatic 31, 3) := by decide +kernel
theorem dX3_fewestWords_42 : decode cX3_fewestWords 42 = .ok (.aload_n 1, 1) := by decide +kernel
theorem dX3_fewestWords_43 : decode cX3_fewestWords 43 = .ok (.invokevirtual 39, 3) := by decide +kernel
theorem dX3_fewestWords_46 : decode cX3_fewestWords 46 = .ok (.aload_n 0, 1) := by decide +kernel
theorem dX3_fewestWords_47 : decode cX3_fewestWords 47 = .ok (.getfield 23, 3) := by decide +kernel
theorem dX3_fewestWords_50 : decode cX3_fewestWords 50 = .ok (.ixor, 1) := by decide +kernel
theorem dX3_fewestWords_51 : decode cX3_fewestWords 51 = .ok (.aload_n 0, 1) := by decide +kernel
theorem dX3_fewestWords_52 : decode cX3_fewestWords 52 = .ok (.getfield 19, 3) := by decide +kernel
theorem dX3_fewestWords_55 : decode cX3_fewestWords 55 = .ok (.invokestatic 43, 3) := by decide +kernel
theorem dX3_fewestWords_58 : decode cX3_fewestWords 58 = .ok (.iand, 1) := by decide +kernel
theorem dX3_fewestWords_59 : decode cX3_fewestWords 59 = .ok (.ifCond .ne 5, 3) := by decide +kernel
theorem dX3_fewestWords_62 : decode cX3_fewestWords 62 = .ok (.iconst 0, 1) := by decide +kernel
theorem dX3_fewestWords_63 : decode cX3_fewestWords 63 = .ok (.ireturn, 1) := by decide +kernel
theorem dX3_fewestWords_64 : decode cX3_fewestWords 64 = .ok (.iconst 1, 1) := by decide +kernel
theorem dX3_fewestWords_65 : decode cX3_fewestWords 65 = .ok (.istore 4, 2) := by decide +kernel
theorem dX3_fewestWords_67 : decode cX3_fewestWords 67 = .ok (.iload 4, 2) := by decide +kernel
theorem dX3_fewestWords_69 : decode cX3_fewestWords 69 = .ok (.iconst 5, 1) := by decide +kernel
theorem dX3_fewestWords_70 : decode cX3_fewestWords 70 = .ok (.if_icmp .gt 23, 3) := by decide +kernel
theorem dX3_fewestWords_73 : decode cX3_fewestWords 73 = .ok (.aload_n 0, 1) := by decide +kernel
theorem dX3_fewestWords_74 : decode cX3_fewestWords 74 = .ok (.aload_n 1, 1) := by decide +kernel
theorem dX3_fewestWords_75 : decode cX3_fewestWords 75 = .ok (.iconst 0, 1) := by decide +kernel
theorem dX3_fewestWords_76 : decode cX3_fewestWords 76 = .ok (.iload 4, 2) := by decide +kernel
theorem dX3_fewestWords_78 : decode cX3_fewestWords 78 = .ok (.invokestatic 47, 3) := by decide +kernel
theorem dX3_fewestWords_81 : decode cX3_fewestWords 81 = .ok (.ifCond .eq 6, 3) := by decide +kernel
theorem dX3_fewestWords_84 : decode cX3_fewestWords 84 = .ok (.iload 4, 2) := by decide +kernel
theorem dX3_fewestWords_86 : decode cX3_fewestWords 86 = .ok (.ireturn, 1) := by decide +kernel
theorem dX3_fewestWords_87 : decode cX3_fewestWords 87 = .ok (.iinc 4 1, 3) := by decide +kernel
theorem dX3_fewestWords_90 : decode cX3_fewestWords 90 = .ok (.goto (-23), 3) := by decide +kernel
theorem dX3_fewestWords_93 : decode cX3_fewestWords 93 = .ok (.bipush (-6), 2) := by decide +kernel
theorem dX3_fewestWords_95 : decode cX3_fewestWords 95 = .ok (.ireturn, 1) := by decide +kernel
theorem dX3_isMet_0 : decode cX3_isMet 0 = .ok (.iload_n 2, 1) := by decide +kernel
theorem dX3_isMet_1 : decode cX3_isMet 1 = .ok (.iload_n 3, 1) := by decide +kernel
theorem dX3_isMet_2 : decode cX3_isMet 2 = .ok (.if_icmp .ge 8, 3) := by decide +kernel
theorem dX3_isMet_5 : decode cX3_isMet 5 = .ok (.iload_n 2, 1) := by decide +kernel
theorem dX3_isMet_6 : decode cX3_isMet 6 = .ok (.iconst 5, 1) := by decide +kernel
theorem dX3_isMet_7 : decode cX3_isMet 7 = .ok (.if_icmp .lt 5, 3) := by decide +kernel
theorem dX3_isMet_10 : decode cX3_isMet 10 = .ok (.iconst 1, 1) := by decide +kernel
theorem dX3_isMet_11 : decode cX3_isMet 11 = .ok (.ireturn, 1) := by decide +kernel
theorem dX3_isMet_12 : decode cX3_isMet 12 = .ok (.iconst 0, 1) := by decide +kernel
theorem dX3_isMet_13 : decode cX3_isMet 13 = .ok (.istore 4, 2) := by decide +kernel
theorem dX3_isMet_15 : decode cX3_isMet 15 = .ok (.iload 4, 2) := by decide +kernel
theorem dX3_isMet_17 : decode cX3_isMet 17 = .ok (.bipush 6, 2) := by decide +kernel
theorem dX3_isMet_19 : decode cX3_isMet 19 = .ok (.if_icmp .ge 55, 3) := by decide +kernel
theorem dX3_isMet_22 : decode cX3_isMet 22 = .ok (.aload_n 1, 1) := by decide +kernel
theorem dX3_isMet_23 : decode cX3_isMet 23 = .ok (.iload 4, 2) := by decide +kernel
theorem dX3_isMet_25 : decode cX3_isMet 25 = .ok (.invokevirtual 51, 3) := by decide +kernel
theorem dX3_isMet_28 : decode cX3_isMet 28 = .ok (.ifCond .eq 40, 3) := by decide +kernel
theorem dX3_isMet_31 : decode cX3_isMet 31 = .ok (.aload_n 0, 1) := by decide +kernel
theorem dX3_isMet_32 : decode cX3_isMet 32 = .ok (.aload_n 1, 1) := by decide +kernel
theorem dX3_isMet_33 : decode cX3_isMet 33 = .ok (.iload 4, 2) := by decide +kernel
theorem dX3_isMet_35 : decode cX3_isMet 35 = .ok (.iload_n 2, 1) := by decide +kernel
theorem dX3_isMet_36 : decode cX3_isMet 36 = .ok (.iload_n 2, 1) := by decide +kernel
theorem dX3_isMet_37 : decode cX3_isMet 37 = .ok (.iconst 1, 1) := by decide +kernel
theorem dX3_isMet_38 : decode cX3_isMet 38 = .ok (.iadd, 1) := by decide +kernel
theorem dX3_isMet_39 : decode cX3_isMet 39 = .ok (.iload_n 3, 1) := by decide +kernel
theorem dX3_isMet_40 : decode cX3_isMet 40 = .ok (.if_icmp .ne 7, 3) := by decide +kernel
theorem dX3_isMet_43 : decode cX3_isMet 43 = .ok (.iconst 1, 1) := by decide +kernel
theorem dX3_isMet_44 : decode cX3_isMet 44 = .ok (.goto 4, 3) := by decide +kernel
theorem dX3_isMet_47 : decode cX3_isMet 47 = .ok (.iconst 0, 1) := by decide +kernel
theorem dX3_isMet_48 : decode cX3_isMet 48 = .ok (.invokevirtual 55, 3) := by decide +kernel
theorem dX3_isMet_51 : decode cX3_isMet 51 = .ok (.ifCond .eq 17, 3) := by decide +kernel
theorem dX3_isMet_54 : decode cX3_isMet 54 = .ok (.aload_n 0, 1) := by decide +kernel
theorem dX3_isMet_55 : decode cX3_isMet 55 = .ok (.aload_n 1, 1) := by decide +kernel
theorem dX3_isMet_56 : decode cX3_isMet 56 = .ok (.iload_n 2, 1) := by decide +kernel
theorem dX3_isMet_57 : decode cX3_isMet 57 = .ok (.iconst 1, 1) := by decide +kernel
theorem dX3_isMet_58 : decode cX3_isMet 58 = .ok (.iadd, 1) := by decide +kernel
theorem dX3_isMet_59 : decode cX3_isMet 59 = .ok (.iload_n 3, 1) := by decide +kernel
theorem dX3_isMet_60 : decode cX3_isMet 60 = .ok (.invokestatic 47, 3) := by decide +kernel
theorem dX3_isMet_63 : decode cX3_isMet 63 = .ok (.ifCond .eq 5, 3) := by decide +kernel
theorem dX3_isMet_66 : decode cX3_isMet 66 = .ok (.iconst 1, 1) := by decide +kernel
theorem dX3_isMet_67 : decode cX3_isMet 67 = .ok (.ireturn, 1) := by decide +kernel
theorem dX3_isMet_68 : decode cX3_isMet 68 = .ok (.iinc 4 1, 3) := by decide +kernel
theorem dX3_isMet_71 : decode cX3_isMet 71 = .ok (.goto (-56), 3) := by decide +kernel
theorem dX3_isMet_74 : decode cX3_isMet 74 = .ok (.iconst 0, 1) := by decide +kernel
theorem dX3_isMet_75 : decode cX3_isMet 75 = .ok (.ireturn, 1) := by decide +kernel
theorem dX3_hear_0 : decode cX3_hear 0 = .ok (.iconst 0, 1) := by decide +kernel
theorem dX3_hear_1 : decode cX3_hear 1 = .ok (.istore 5, 2) := by decide +kernel
theorem dX3_hear_3 : decode cX3_hear 3 = .ok (.iload 5, 2) := by decide +kernel
theorem dX3_hear_5 : decode cX3_hear 5 = .ok (.aload_n 1, 1) := by decide +kernel
theorem dX3_hear_6 : decode cX3_hear 6 = .ok (.getfield 59, 3) := by decide +kernel
theorem dX3_hear_9 : decode cX3_hear 9 = .ok (.if_icmp .ge 126, 3) := by decide +kernel
theorem dX3_hear_12 : decode cX3_hear 12 = .ok (.aload_n 0, 1) := by decide +kernel
theorem dX3_hear_13 : decode cX3_hear 13 = .ok (.getfield 19, 3) := by decide +kernel
theorem dX3_hear_16 : decode cX3_hear 16 = .ok (.iload 5, 2) := by decide +kernel
theorem dX3_hear_18 : decode cX3_hear 18 = .ok (.invokestatic 62, 3) := by decide +kernel
theorem dX3_hear_21 : decode cX3_hear 21 = .ok (.ifCond .eq 108, 3) := by decide +kernel
theorem dX3_hear_24 : decode cX3_hear 24 = .ok (.aload_n 0, 1) := by decide +kernel
theorem dX3_hear_25 : decode cX3_hear 25 = .ok (.getfield 11, 3) := by decide +kernel
theorem dX3_hear_28 : decode cX3_hear 28 = .ok (.iload_n 3, 1) := by decide +kernel
theorem dX3_hear_29 : decode cX3_hear 29 = .ok (.aaload, 1) := by decide +kernel
theorem dX3_hear_30 : decode cX3_hear 30 = .ok (.iload 5, 2) := by decide +kernel
theorem dX3_hear_32 : decode cX3_hear 32 = .ok (.iaload, 1) := by decide +kernel
theorem dX3_hear_33 : decode cX3_hear 33 = .ok (.istore 6, 2) := by decide +kernel
theorem dX3_hear_35 : decode cX3_hear 35 = .ok (.aload_n 0, 1) := by decide +kernel
theorem dX3_hear_36 : decode cX3_hear 36 = .ok (.getfield 16, 3) := by decide +kernel
theorem dX3_hear_39 : decode cX3_hear 39 = .ok (.iload_n 3, 1) := by decide +kernel
theorem dX3_hear_40 : decode cX3_hear 40 = .ok (.aaload, 1) := by decide +kernel
theorem dX3_hear_41 : decode cX3_hear 41 = .ok (.iload 5, 2) := by decide +kernel
theorem dX3_hear_43 : decode cX3_hear 43 = .ok (.iaload, 1) := by decide +kernel
theorem dX3_hear_44 : decode cX3_hear 44 = .ok (.istore 7, 2) := by decide +kernel
theorem dX3_hear_46 : decode cX3_hear 46 = .ok (.aload_n 1, 1) := by decide +kernel
theorem dX3_hear_47 : decode cX3_hear 47 = .ok (.iload_n 2, 1) := by decide +kernel
theorem dX3_hear_48 : decode cX3_hear 48 = .ok (.iload 5, 2) := by decide +kernel
theorem dX3_hear_50 : decode cX3_hear 50 = .ok (.iload 6, 2) := by decide +kernel
theorem dX3_hear_52 : decode cX3_hear 52 = .ok (.invokevirtual 66, 3) := by decide +kernel
theorem dX3_hear_55 : decode cX3_hear 55 = .ok (.istore 8, 2) := by decide +kernel
theorem dX3_hear_57 : decode cX3_hear 57 = .ok (.iload 8, 2) := by decide +kernel
theorem dX3_hear_59 : decode cX3_hear 59 = .ok (.iload 7, 2) := by decide +kernel
theorem dX3_hear_61 : decode cX3_hear 61 = .ok (.if_icmp .le 6, 3) := by decide +kernel
theorem dX3_hear_64 : decode cX3_hear 64 = .ok (.iconst 0, 1) := by decide +kernel
theorem dX3_hear_65 : decode cX3_hear 65 = .ok (.istore 8, 2) := by decide +kernel
theorem dX3_hear_67 : decode cX3_hear 67 = .ok (.aload_n 1, 1) := by decide +kernel
theorem dX3_hear_68 : decode cX3_hear 68 = .ok (.iload 5, 2) := by decide +kernel
theorem dX3_hear_70 : decode cX3_hear 70 = .ok (.iload 6, 2) := by decide +kernel
theorem dX3_hear_72 : decode cX3_hear 72 = .ok (.iload 8, 2) := by decide +kernel
theorem dX3_hear_74 : decode cX3_hear 74 = .ok (.invokevirtual 70, 3) := by decide +kernel
theorem dX3_hear_77 : decode cX3_hear 77 = .ok (.istore 6, 2) := by decide +kernel
theorem dX3_hear_79 : decode cX3_hear 79 = .ok (.iload 4, 2) := by decide +kernel
theorem dX3_hear_81 : decode cX3_hear 81 = .ok (.ifCond .eq 19, 3) := by decide +kernel
theorem dX3_hear_84 : decode cX3_hear 84 = .ok (.iload 6, 2) := by decide +kernel
theorem dX3_hear_86 : decode cX3_hear 86 = .ok (.aload_n 0, 1) := by decide +kernel
theorem dX3_hear_87 : decode cX3_hear 87 = .ok (.getfield 23, 3) := by decide +kernel
theorem dX3_hear_90 : decode cX3_hear 90 = .ok (.iload 5, 2) := by decide +kernel
theorem dX3_hear_92 : decode cX3_hear 92 = .ok (.invokestatic 73, 3) := by decide +kernel
theorem dX3_hear_95 : decode cX3_hear 95 = .ok (.if_icmp .eq 5, 3) := by decide +kernel
theorem dX3_hear_98 : decode cX3_hear 98 = .ok (.iconst 0, 1) := by decide +kernel
theorem dX3_hear_99 : decode cX3_hear 99 = .ok (.ireturn, 1) := by decide +kernel
theorem dX3_hear_100 : decode cX3_hear 100 = .ok (.aload_n 0, 1) := by decide +kernel
theorem dX3_hear_101 : decode cX3_hear 101 = .ok (.getfield 11, 3) := by decide +kernel
theorem dX3_hear_104 : decode cX3_hear 104 = .ok (.iload_n 3, 1) := by decide +kernel
theorem dX3_hear_105 : decode cX3_hear 105 = .ok (.iconst 1, 1) := by decide +kernel
theorem dX3_hear_106 : decode cX3_hear 106 = .ok (.iadd, 1) := by decide +kernel
theorem dX3_hear_107 : decode cX3_hear 107 = .ok (.aaload, 1) := by decide +kernel
theorem dX3_hear_108 : decode cX3_hear 108 = .ok (.iload 5, 2) := by decide +kernel
theorem dX3_hear_110 : decode cX3_hear 110 = .ok (.iload 6, 2) := by decide +kernel
theorem dX3_hear_112 : decode cX3_hear 112 = .ok (.iastore, 1) := by decide +kernel
theorem dX3_hear_113 : decode cX3_hear 113 = .ok (.aload_n 0, 1) := by decide +kernel
theorem dX3_hear_114 : decode cX3_hear 114 = .ok (.getfield 16, 3) := by decide +kernel
theorem dX3_hear_117 : decode cX3_hear 117 = .ok (.iload_n 3, 1) := by decide +kernel
theorem dX3_hear_118 : decode cX3_hear 118 = .ok (.iconst 1, 1) := by decide +kernel
theorem dX3_hear_119 : decode cX3_hear 119 = .ok (.iadd, 1) := by decide +kernel
theorem dX3_hear_120 : decode cX3_hear 120 = .ok (.aaload, 1) := by decide +kernel
theorem dX3_hear_121 : decode cX3_hear 121 = .ok (.iload 5, 2) := by decide +kernel
theorem dX3_hear_123 : decode cX3_hear 123 = .ok (.iload 7, 2) := by decide +kernel
theorem dX3_hear_125 : decode cX3_hear 125 = .ok (.iload 8, 2) := by decide +kernel
theorem dX3_hear_127 : decode cX3_hear 127 = .ok (.isub, 1) := by decide +kernel
theorem dX3_hear_128 : decode cX3_hear 128 = .ok (.iastore, 1) := by decide +kernel
theorem dX3_hear_129 : decode cX3_hear 129 = .ok (.iinc 5 1, 3) := by decide +kernel
theorem dX3_hear_132 : decode cX3_hear 132 = .ok (.goto (-129), 3) := by decide +kernel
theorem dX3_hear_135 : decode cX3_hear 135 = .ok (.iconst 1, 1) := by decide +kernel
theorem dX3_hear_136 : decode cX3_hear 136 = .ok (.ireturn, 1) := by decide +kernel
theorem dX4_init_0 : decode cX4_init 0 = .ok (.aload_n 0, 1) := by decide +kernel
theorem dX4_init_1 : decode cX4_init 1 = .ok (.invokespecial 3, 3) := by decide +kernel
theorem dX4_init_4 : decode cX4_init 4 = .ok (.aload_n 0, 1) := by decide +kernel
theorem dX4_init_5 : decode cX4_init 5 = .ok (.bipush 60, 2) := by decide +kernel
theorem dX4_init_7 : decode cX4_init 7 = .ok (.newarray .int, 2) := by decide +kernel
theorem dX4_init_9 : decode cX4_init 9 = .ok (.putfield 9, 3) := by decide +kernel
theorem dX4_init_12 : decode cX4_init 12 = .ok (.return_, 1) := by decide +kernel
theorem dX4_add_0 : decode cX4_add 0 = .ok (.aload_n 0, 1) := by decide +kernel
theorem dX4_add_1 : decode cX4_add 1 = .ok (.getfield 15, 3) := by decide +kernel
theorem dX4_add_4 : decode cX4_add 4 = .ok (.bipush 60, 2) := by decide +kernel
theorem dX4_add_6 : decode cX4_add 6 = .ok (.if_icmp .lt 6, 3) := by decide +kernel
theorem dX4_add_9 : decode cX4_add 9 = .ok (.bipush (-4), 2) := by decide +kernel
theorem dX4_add_11 : decode cX4_add 11 = .ok (.ireturn, 1) := by decide +kernel
theorem dX4_add_12 : decode cX4_add 12 = .ok (.aload_n 0, 1) := by decide +kernel
theorem dX4_add_13 : decode cX4_add 13 = .ok (.getfield 9, 3) := by decide +kernel
theorem dX4_add_16 : decode cX4_add 16 = .ok (.aload_n 0, 1) := by decide +kernel
theorem dX4_add_17 : decode cX4_add 17 = .ok (.getfield 15, 3) := by decide +kernel
theorem dX4_add_20 : decode cX4_add 20 = .ok (.iload_n 1, 1) := by decide +kernel
theorem dX4_add_21 : decode cX4_add 21 = .ok (.iastore, 1) := by decide +kernel
theorem dX4_add_22 : decode cX4_add 22 = .ok (.aload_n 0, 1) := by decide +kernel
theorem dX4_add_23 : decode cX4_add 23 = .ok (.dup, 1) := by decide +kernel
theorem dX4_add_24 : decode cX4_add 24 = .ok (.getfield 15, 3) := by decide +kernel
theorem dX4_add_27 : decode cX4_add 27 = .ok (.iconst 1, 1) := by decide +kernel
theorem dX4_add_28 : decode cX4_add 28 = .ok (.iadd, 1) := by decide +kernel
theorem dX4_add_29 : decode cX4_add 29 = .ok (.putfield 15, 3) := by decide +kernel
theorem dX4_add_32 : decode cX4_add 32 = .ok (.aload_n 0, 1) := by decide +kernel
theorem dX4_add_33 : decode cX4_add 33 = .ok (.getfield 15, 3) := by decide +kernel
theorem dX4_add_36 : decode cX4_add 36 = .ok (.ireturn, 1) := by decide +kernel
theorem dX4_clear_0 : decode cX4_clear 0 = .ok (.aload_n 0, 1) := by decide +kernel
theorem dX4_clear_1 : decode cX4_clear 1 = .ok (.getfield 15, 3) := by decide +kernel
theorem dX4_clear_4 : decode cX4_clear 4 = .ok (.istore_n 1, 1) := by decide +kernel
theorem dX4_clear_5 : decode cX4_clear 5 = .ok (.aload_n 0, 1) := by decide +kernel
theorem dX4_clear_6 : decode cX4_clear 6 = .ok (.iconst 0, 1) := by decide +kernel
theorem dX4_clear_7 : decode cX4_clear 7 = .ok (.putfield 15, 3) := by decide +kernel
theorem dX4_clear_10 : decode cX4_clear 10 = .ok (.iload_n 1, 1) := by decide +kernel
theorem dX4_clear_11 : decode cX4_clear 11 = .ok (.ireturn, 1) := by decide +kernel
theorem dX4_signAt_0 : decode cX4_signAt 0 = .ok (.iload_n 1, 1) := by decide +kernel
theorem dX4_signAt_1 : decode cX4_signAt 1 = .ok (.iconst 0, 1) := by decide +kernel
theorem dX4_signAt_2 : decode cX4_signAt 2 = .ok (.aload_n 0, 1) := by decide +kernel
theorem dX4_signAt_3 : decode cX4_signAt 3 = .ok (.getfield 15, 3) := by decide +kernel
theorem dX4_signAt_6 : decode cX4_signAt 6 = .ok (.iconst 1, 1) := by decide +kernel
theorem dX4_signAt_7 : decode cX4_signAt 7 = .ok (.isub, 1) := by decide +kernel
theorem dX4_signAt_8 : decode cX4_signAt 8 = .ok (.invokestatic 19, 3) := by decide +kernel
theorem dX4_signAt_11 : decode cX4_signAt 11 = .ok (.ifCond .eq 12, 3) := by decide +kernel
theorem dX4_signAt_14 : decode cX4_signAt 14 = .ok (.aload_n 0, 1) := by decide +kernel
theorem dX4_signAt_15 : decode cX4_signAt 15 = .ok (.getfield 9, 3) := by decide +kernel
theorem dX4_signAt_18 : decode cX4_signAt 18 = .ok (.iload_n 1, 1) := by decide +kernel
theorem dX4_signAt_19 : decode cX4_signAt 19 = .ok (.iaload, 1) := by decide +kernel
theorem dX4_signAt_20 : decode cX4_signAt 20 = .ok (.goto 4, 3) := by decide +kernel
theorem dX4_signAt_23 : decode cX4_signAt 23 = .ok (.iconst 0, 1) := by decide +kernel
theorem dX4_signAt_24 : decode cX4_signAt 24 = .ok (.ireturn, 1) := by decide +kernel
theorem dX4_spellFault_0 : decode cX4_spellFault 0 = .ok (.iconst 0, 1) := by decide +kernel
theorem dX4_spellFault_1 : decode cX4_spellFault 1 = .ok (.istore_n 2, 1) := by decide +kernel
theorem dX4_spellFault_2 : decode cX4_spellFault 2 = .ok (.iload_n 2, 1) := by decide +kernel
theorem dX4_spellFault_3 : decode cX4_spellFault 3 = .ok (.aload_n 0, 1) := by decide +kernel
theorem dX4_spellFault_4 : decode cX4_spellFault 4 = .ok (.getfield 15, 3) := by decide +kernel
theorem dX4_spellFault_7 : decode cX4_spellFault 7 = .ok (.if_icmp .ge 32, 3) := by decide +kernel
theorem dX4_spellFault_10 : decode cX4_spellFault 10 = .ok (.iload_n 2, 1) := by decide +kernel
theorem dX4_spellFault_11 : decode cX4_spellFault 11 = .ok (.iload_n 1, 1) := by decide +kernel
theorem dX4_spellFault_12 : decode cX4_spellFault 12 = .ok (.if_icmp .ge 19, 3) := by decide +kernel
theorem dX4_spellFault_15 : decode cX4_spellFault 15 = .ok (.aload_n 0, 1) := by decide +kernel
theorem dX4_spellFault_16 : decode cX4_spellFault 16 = .ok (.getfield 9, 3) := by decide +kernel
theorem dX4_spellFault_19 : decode cX4_spellFault 19 = .ok (.iload_n 2, 1) := by decide +kernel
theorem dX4_spellFault_20 : decode cX4_spellFault 20 = .ok (.iaload, 1) := by decide +kernel
theorem dX4_spellFault_21 : decode cX4_spellFault 21 = .ok (.bipush 48, 2) := by decide +kernel
theorem dX4_spellFault_23 : decode cX4_spellFault 23 = .ok (.bipush 51, 2) := by decide +kernel
theorem dX4_spellFault_25 : decode cX4_spellFault 25 = .ok (.invokestatic 19, 3) := by decide +kernel
theorem dX4_spellFault_28 : decode cX4_spellFault 28 = .ok (.ifCond .ne 5, 3) := by decide +kernel
theorem dX4_spellFault_31 : decode cX4_spellFault 31 = .ok (.iload_n 2, 1) := by decide +kernel
theorem dX4_spellFault_32 : decode cX4_spellFault 32 = .ok (.ireturn, 1) := by decide +kernel
theorem dX4_spellFault_33 : decode cX4_spellFault 33 = .ok (.iinc 2 1, 3) := by decide +kernel
theorem dX4_spellFault_36 : decode cX4_spellFault 36 = .ok (.goto (-34), 3) := by decide +kernel
theorem dX4_spellFault_39 : decode cX4_spellFault 39 = .ok (.aload_n 0, 1) := by decide +kernel
theorem dX4_spellFault_40 : decode cX4_spellFault 40 = .ok (.getfield 15, 3) := by decide +kernel
theorem dX4_spellFault_43 : decode cX4_spellFault 43 = .ok (.iload_n 1, 1) := by decide +kernel
theorem dX4_spellFault_44 : decode cX4_spellFault 44 = .ok (.if_icmp .ge 10, 3) := by decide +kernel
theorem dX4_spellFault_47 : decode cX4_spellFault 47 = .ok (.aload_n 0, 1) := by decide +kernel
theorem dX4_spellFault_48 : decode cX4_spellFault 48 = .ok (.getfield 15, 3) := by decide +kernel
theorem dX4_spellFault_51 : decode cX4_spellFault 51 = .ok (.goto 5, 3) := by decide +kernel
theorem dX4_spellFault_54 : decode cX4_spellFault 54 = .ok (.bipush (-6), 2) := by decide +kernel
theorem dX4_spellFault_56 : decode cX4_spellFault 56 = .ok (.ireturn, 1) := by decide +kernel
theorem dX4_eveningFault_0 : decode cX4_eveningFault 0 = .ok (.iconst 0, 1) := by decide +kernel
theorem dX4_eveningFault_1 : decode cX4_eveningFault 1 = .ok (.istore_n 2, 1) := by decide +kernel
theorem dX4_eveningFault_2 : decode cX4_eveningFault 2 = .ok (.iconst 0, 1) := by decide +kernel
theorem dX4_eveningFault_3 : decode cX4_eveningFault 3 = .ok (.istore_n 3, 1) := by decide +kernel
theorem dX4_eveningFault_4 : decode cX4_eveningFault 4 = .ok (.iload_n 3, 1) := by decide +kernel
theorem dX4_eveningFault_5 : decode cX4_eveningFault 5 = .ok (.aload_n 0, 1) := by decide +kernel
theorem dX4_eveningFault_6 : decode cX4_eveningFault 6 = .ok (.getfield 15, 3) := by decide +kernel
theorem dX4_eveningFault_9 : decode cX4_eveningFault 9 = .ok (.if_icmp .ge 84, 3) := by decide +kernel
theorem dX4_eveningFault_12 : decode cX4_eveningFault 12 = .ok (.aload_n 0, 1) := by decide +kernel
theorem dX4_eveningFault_13 : decode cX4_eveningFault 13 = .ok (.getfield 9, 3) := by decide +kernel
theorem dX4_eveningFault_16 : decode cX4_eveningFault 16 = .ok (.iload_n 3, 1) := by decide +kernel
theorem dX4_eveningFault_17 : decode cX4_eveningFault 17 = .ok (.iaload, 1) := by decide +kernel
theorem dX4_eveningFault_18 : decode cX4_eveningFault 18 = .ok (.istore 4, 2) := by decide +kernel
theorem dX4_eveningFault_20 : decode cX4_eveningFault 20 = .ok (.iload_n 2, 1) := by decide +kernel
theorem dX4_eveningFault_21 : decode cX4_eveningFault 21 = .ok (.ifCond .eq 18, 3) := by decide +kernel
theorem dX4_eveningFault_24 : decode cX4_eveningFault 24 = .ok (.iload 4, 2) := by decide +kernel
theorem dX4_eveningFault_26 : decode cX4_eveningFault 26 = .ok (.invokestatic 23, 3) := by decide +kernel
theorem dX4_eveningFault_29 : decode cX4_eveningFault 29 = .ok (.ifCond .ge 5, 3) := by decide +kernel
theorem dX4_eveningFault_32 : decode cX4_eveningFault 32 = .ok (.iload_n 3, 1) := by decide +kernel
theorem dX4_eveningFault_33 : decode cX4_eveningFault 33 = .ok (.ireturn, 1) := by decide +kernel
theorem dX4_eveningFault_34 : decode cX4_eveningFault 34 = .ok (.iconst 0, 1) := by decide +kernel
theorem dX4_eveningFault_35 : decode cX4_eveningFault 35 = .ok (.istore_n 2, 1) := by decide +kernel
theorem dX4_eveningFault_36 : decode cX4_eveningFault 36 = .ok (.goto 51, 3) := by decide +kernel
theorem dX4_eveningFault_39 : decode cX4_eveningFault 39 = .ok (.iload 4, 2) := by decide +kernel
theorem dX4_eveningFault_41 : decode cX4_eveningFault 41 = .ok (.invokestatic 27, 3) := by decide +kernel
theorem dX4_eveningFault_44 : decode cX4_eveningFault 44 = .ok (.ifCond .eq 19, 3) := by decide +kernel
theorem dX4_eveningFault_47 : decode cX4_eveningFault 47 = .ok (.iload 4, 2) := by decide +kernel
theorem dX4_eveningFault_49 : decode cX4_eveningFault 49 = .ok (.bipush 48, 2) := by decide +kernel
theorem dX4_eveningFault_51 : decode cX4_eveningFault 51 = .ok (.isub, 1) := by decide +kernel
theorem dX4_eveningFault_52 : decode cX4_eveningFault 52 = .ok (.iload_n 1, 1) := by decide +kernel
theorem dX4_eveningFault_53 : decode cX4_eveningFault 53 = .ok (.if_icmp .lt 5, 3) := by decide +kernel
theorem dX4_eveningFault_56 : decode cX4_eveningFault 56 = .ok (.iload_n 3, 1) := by decide +kernel
theorem dX4_eveningFault_57 : decode cX4_eveningFault 57 = .ok (.ireturn, 1) := by decide +kernel
theorem dX4_eveningFault_58 : decode cX4_eveningFault 58 = .ok (.iconst 1, 1) := by decide +kernel
theorem dX4_eveningFault_59 : decode cX4_eveningFault 59 = .ok (.istore_n 2, 1) := by decide +kernel
theorem dX4_eveningFault_60 : decode cX4_eveningFault 60 = .ok (.goto 27, 3) := by decide +kernel
theorem dX4_eveningFault_63 : decode cX4_eveningFault 63 = .ok (.iload 4, 2) := by decide +kernel
theorem dX4_eveningFault_65 : decode cX4_eveningFault 65 = .ok (.invokestatic 31, 3) := by decide +kernel
theorem dX4_eveningFault_68 : decode cX4_eveningFault 68 = .ok (.ifCond .ne 19, 3) := by decide +kernel
theorem dX4_eveningFault_71 : decode cX4_eveningFault 71 = .ok (.iload 4, 2) := by decide +kernel
theorem dX4_eveningFault_73 : decode cX4_eveningFault 73 = .ok (.bipush 42, 2) := by decide +kernel
theorem dX4_eveningFault_75 : decode cX4_eveningFault 75 = .ok (.if_icmp .eq 12, 3) := by decide +kernel
theorem dX4_eveningFault_78 : decode cX4_eveningFault 78 = .ok (.iload 4, 2) := by decide +kernel
theorem dX4_eveningFault_80 : decode cX4_eveningFault 80 = .ok (.bipush 46, 2) := by decide +kernel
theorem dX4_eveningFault_82 : decode cX4_eveningFault 82 = .ok (.if_icmp .eq 5, 3) := by decide +kernel
theorem dX4_eveningFault_85 : decode cX4_eveningFault 85 = .ok (.iload_n 3, 1) := by decide +kernel
theorem dX4_eveningFault_86 : decode cX4_eveningFault 86 = .ok (.ireturn, 1) := by decide +kernel
theorem dX4_eveningFault_87 : decode cX4_eveningFault 87 = .ok (.iinc 3 1, 3) := by decide +kernel
theorem dX4_eveningFault_90 : decode cX4_eveningFault 90 = .ok (.goto (-86), 3) := by decide +kernel
theorem dX4_eveningFault_93 : decode cX4_eveningFault 93 = .ok (.iload_n 2, 1) := by decide +kernel
theorem dX4_eveningFault_94 : decode cX4_eveningFault 94 = .ok (.ifCond .eq 10, 3) := by decide +kernel
theorem dX4_eveningFault_97 : decode cX4_eveningFault 97 = .ok (.aload_n 0, 1) := by decide +kernel
theorem dX4_eveningFault_98 : decode cX4_eveningFault 98 = .ok (.getfield 15, 3) := by decide +kernel
theorem dX4_eveningFault_101 : decode cX4_eveningFault 101 = .ok (.goto 5, 3) := by decide +kernel
theorem dX4_eveningFault_104 : decode cX4_eveningFault 104 = .ok (.bipush (-6), 2) := by decide +kernel
theorem dX4_eveningFault_106 : decode cX4_eveningFault 106 = .ok (.ireturn, 1) := by decide +kernel
theorem dX4_hasOnlyWords_0 : decode cX4_hasOnlyWords 0 = .ok (.iconst 0, 1) := by decide +kernel
theorem dX4_hasOnlyWords_1 : decode cX4_hasOnlyWords 1 = .ok (.istore_n 2, 1) := by decide +kernel
theorem dX4_hasOnlyWords_2 : decode cX4_hasOnlyWords 2 = .ok (.iload_n 2, 1) := by decide +kernel
theorem dX4_hasOnlyWords_3 : decode cX4_hasOnlyWords 3 = .ok (.aload_n 0, 1) := by decide +kernel
theorem dX4_hasOnlyWords_4 : decode cX4_hasOnlyWords 4 = .ok (.getfield 15, 3) := by decide +kernel
theorem dX4_hasOnlyWords_7 : decode cX4_hasOnlyWords 7 = .ok (.if_icmp .ge 57, 3) := by decide +kernel
theorem dX4_hasOnlyWords_10 : decode cX4_hasOnlyWords 10 = .ok (.aload_n 0, 1) := by decide +kernel
theorem dX4_hasOnlyWords_11 : decode cX4_hasOnlyWords 11 = .ok (.getfield 9, 3) := by decide +kernel
theorem dX4_hasOnlyWords_14 : decode cX4_hasOnlyWords 14 = .ok (.iload_n 2, 1) := by decide +kernel
theorem dX4_hasOnlyWords_15 : decode cX4_hasOnlyWords 15 = .ok (.iaload, 1) := by decide +kernel
theorem dX4_hasOnlyWords_16 : decode cX4_hasOnlyWords 16 = .ok (.invokestatic 27, 3) := by decide +kernel
theorem dX4_hasOnlyWords_19 : decode cX4_hasOnlyWords 19 = .ok (.ifCond .eq 9, 3) := by decide +kernel
theorem dX4_hasOnlyWords_22 : decode cX4_hasOnlyWords 22 = .ok (.iinc 2 1, 3) := by decide +kernel
theorem dX4_hasOnlyWords_25 : decode cX4_hasOnlyWords 25 = .ok (.goto 33, 3) := by decide +kernel
theorem dX4_hasOnlyWords_28 : decode cX4_hasOnlyWords 28 = .ok (.aload_n 0, 1) := by decide +kernel
theorem dX4_hasOnlyWords_29 : decode cX4_hasOnlyWords 29 = .ok (.getfield 9, 3) := by decide +kernel
theorem dX4_hasOnlyWords_32 : decode cX4_hasOnlyWords 32 = .ok (.iload_n 2, 1) := by decide +kernel
theorem dX4_hasOnlyWords_33 : decode cX4_hasOnlyWords 33 = .ok (.iaload, 1) := by decide +kernel
theorem dX4_hasOnlyWords_34 : decode cX4_hasOnlyWords 34 = .ok (.invokestatic 31, 3) := by decide +kernel
theorem dX4_hasOnlyWords_37 : decode cX4_hasOnlyWords 37 = .ok (.ifCond .eq 21, 3) := by decide +kernel
theorem dX4_hasOnlyWords_40 : decode cX4_hasOnlyWords 40 = .ok (.aload_n 1, 1) := by decide +kernel
theorem dX4_hasOnlyWords_41 : decode cX4_hasOnlyWords 41 = .ok (.aload_n 0, 1) := by decide +kernel
theorem dX4_hasOnlyWords_42 : decode cX4_hasOnlyWords 42 = .ok (.getfield 9, 3) := by decide +kernel
theorem dX4_hasOnlyWords_45 : decode cX4_hasOnlyWords 45 = .ok (.iload_n 2, 1) := by decide +kernel
theorem dX4_hasOnlyWords_46 : decode cX4_hasOnlyWords 46 = .ok (.iaload, 1) := by decide +kernel
theorem dX4_hasOnlyWords_47 : decode cX4_hasOnlyWords 47 = .ok (.bipush 97, 2) := by decide +kernel
theorem dX4_hasOnlyWords_49 : decode cX4_hasOnlyWords 49 = .ok (.isub, 1) := by decide +kernel
theorem dX4_hasOnlyWords_50 : decode cX4_hasOnlyWords 50 = .ok (.invokevirtual 34, 3) := by decide +kernel
theorem dX4_hasOnlyWords_53 : decode cX4_hasOnlyWords 53 = .ok (.ifCond .ne 5, 3) := by decide +kernel
theorem dX4_hasOnlyWords_56 : decode cX4_hasOnlyWords 56 = .ok (.iconst 0, 1) := by decide +kernel
theorem dX4_hasOnlyWords_57 : decode cX4_hasOnlyWords 57 = .ok (.ireturn, 1) := by decide +kernel
theorem dX4_hasOnlyWords_58 : decode cX4_hasOnlyWords 58 = .ok (.iinc 2 1, 3) := by decide +kernel
theorem dX4_hasOnlyWords_61 : decode cX4_hasOnlyWords 61 = .ok (.goto (-59), 3) := by decide +kernel
theorem dX4_hasOnlyWords_64 : decode cX4_hasOnlyWords 64 = .ok (.iconst 1, 1) := by decide +kernel
theorem dX4_hasOnlyWords_65 : decode cX4_hasOnlyWords 65 = .ok (.ireturn, 1) := by decide +kernel
theorem dX5_init_0 : decode cX5_init 0 = .ok (.aload_n 0, 1) := by decide +kernel
theorem dX5_init_1 : decode cX5_init 1 = .ok (.invokespecial 3, 3) := by decide +kernel
theorem dX5_init_4 : decode cX5_init 4 = .ok (.aload_n 0, 1) := by decide +kernel
theorem dX5_init_5 : decode cX5_init 5 = .ok (.new 9, 3) := by decide +kernel
theorem dX5_init_8 : decode cX5_init 8 = .ok (.dup, 1) := by decide +kernel
theorem dX5_init_9 : decode cX5_init 9 = .ok (.invokespecial 11, 3) := by decide +kernel
theorem dX5_init_12 : decode cX5_init 12 = .ok (.putfield 12, 3) := by decide +kernel
theorem dX5_init_15 : decode cX5_init 15 = .ok (.aload_n 0, 1) := by decide +kernel
theorem dX5_init_16 : decode cX5_init 16 = .ok (.sipush 1024, 3) := by decide +kernel
theorem dX5_init_19 : decode cX5_init 19 = .ok (.newarray .int, 2) := by decide +kernel
theorem dX5_init_21 : decode cX5_init 21 = .ok (.putfield 18, 3) := by decide +kernel
theorem dX5_init_24 : decode cX5_init 24 = .ok (.aload_n 0, 1) := by decide +kernel
theorem dX5_init_25 : decode cX5_init 25 = .ok (.sipush 1024, 3) := by decide +kernel
theorem dX5_init_28 : decode cX5_init 28 = .ok (.newarray .int, 2) := by decide +kernel
theorem dX5_init_30 : decode cX5_init 30 = .ok (.putfield 22, 3) := by decide +kernel
theorem dX5_init_33 : decode cX5_init 33 = .ok (.aload_n 0, 1) := by decide +kernel
theorem dX5_init_34 : decode cX5_init 34 = .ok (.sipush 1024, 3) := by decide +kernel
theorem dX5_init_37 : decode cX5_init 37 = .ok (.newarray .int, 2) := by decide +kernel
theorem dX5_init_39 : decode cX5_init 39 = .ok (.putfield 25, 3) := by decide +kernel
theorem dX5_init_42 : decode cX5_init 42 = .ok (.return_, 1) := by decide +kernel
theorem dX5_explore_0 : decode cX5_explore 0 = .ok (.aload_n 0, 1) := by decide +kernel
theorem dX5_explore_1 : decode cX5_explore 1 = .ok (.getfield 12, 3) := by decide +kernel
theorem dX5_explore_4 : decode cX5_explore 4 = .ok (.aload_n 1, 1) := by decide +kernel
theorem dX5_explore_5 : decode cX5_explore 5 = .ok (.iload_n 2, 1) := by decide +kernel
theorem dX5_explore_6 : decode cX5_explore 6 = .ok (.invokevirtual 28, 3) := by decide +kernel
theorem dX5_explore_9 : decode cX5_explore 9 = .ok (.aload_n 0, 1) := by decide +kernel
theorem dX5_explore_10 : decode cX5_explore 10 = .ok (.getfield 22, 3) := by decide +kernel
theorem dX5_explore_13 : decode cX5_explore 13 = .ok (.iconst (-1), 1) := by decide +kernel
theorem dX5_explore_14 : decode cX5_explore 14 = .ok (.invokestatic 32, 3) := by decide +kernel
theorem dX5_explore_17 : decode cX5_explore 17 = .ok (.aload_n 0, 1) := by decide +kernel
theorem dX5_explore_18 : decode cX5_explore 18 = .ok (.getfield 18, 3) := by decide +kernel
theorem dX5_explore_21 : decode cX5_explore 21 = .ok (.iconst 0, 1) := by decide +kernel
theorem dX5_explore_22 : decode cX5_explore 22 = .ok (.aload_n 1, 1) := by decide +kernel
theorem dX5_explore_23 : decode cX5_explore 23 = .ok (.invokevirtual 38, 3) := by decide +kernel
theorem dX5_explore_26 : decode cX5_explore 26 = .ok (.iastore, 1) := by decide +kernel
theorem dX5_explore_27 : decode cX5_explore 27 = .ok (.aload_n 0, 1) := by decide +kernel
theorem dX5_explore_28 : decode cX5_explore 28 = .ok (.getfield 22, 3) := by decide +kernel
theorem dX5_explore_31 : decode cX5_explore 31 = .ok (.aload_n 0, 1) := by decide +kernel
theorem dX5_explore_32 : decode cX5_explore 32 = .ok (.getfield 18, 3) := by decide +kernel
theorem dX5_explore_35 : decode cX5_explore 35 = .ok (.iconst 0, 1) := by decide +kernel
theorem dX5_explore_36 : decode cX5_explore 36 = .ok (.iaload, 1) := by decide +kernel
theorem dX5_explore_37 : decode cX5_explore 37 = .ok (.iconst 0, 1) := by decide +kernel
theorem dX5_explore_38 : decode cX5_explore 38 = .ok (.iastore, 1) := by decide +kernel
theorem dX5_explore_39 : decode cX5_explore 39 = .ok (.aload_n 0, 1) := by decide +kernel
theorem dX5_explore_40 : decode cX5_explore 40 = .ok (.iconst 1, 1) := by decide +kernel
theorem dX5_explore_41 : decode cX5_explore 41 = .ok (.putfield 44, 3) := by decide +kernel
theorem dX5_explore_44 : decode cX5_explore 44 = .ok (.iconst 0, 1) := by decide +kernel
theorem dX5_explore_45 : decode cX5_explore 45 = .ok (.istore_n 3, 1) := by decide +kernel
theorem dX5_explore_46 : decode cX5_explore 46 = .ok (.iload_n 3, 1) := by decide +kernel
theorem dX5_explore_47 : decode cX5_explore 47 = .ok (.aload_n 0, 1) := by decide +kernel
theorem dX5_explore_48 : decode cX5_explore 48 = .ok (.getfield 44, 3) := by decide +kernel
theorem dX5_explore_51 : decode cX5_explore 51 = .ok (.if_icmp .ge 53, 3) := by decide +kernel
theorem dX5_explore_54 : decode cX5_explore 54 = .ok (.iload_n 3, 1) := by decide +kernel
theorem dX5_explore_55 : decode cX5_explore 55 = .ok (.sipush 1024, 3) := by decide +kernel
theorem dX5_explore_58 : decode cX5_explore 58 = .ok (.if_icmp .ge 46, 3) := by decide +kernel
theorem dX5_explore_61 : decode cX5_explore 61 = .ok (.iconst 0, 1) := by decide +kernel
theorem dX5_explore_62 : decode cX5_explore 62 = .ok (.istore 4, 2) := by decide +kernel
theorem dX5_explore_64 : decode cX5_explore 64 = .ok (.iload 4, 2) := by decide +kernel
theorem dX5_explore_66 : decode cX5_explore 66 = .ok (.bipush 6, 2) := by decide +kernel
theorem dX5_explore_68 : decode cX5_explore 68 = .ok (.if_icmp .ge 30, 3) := by decide +kernel
theorem dX5_explore_71 : decode cX5_explore 71 = .ok (.iload_n 2, 1) := by decide +kernel
theorem dX5_explore_72 : decode cX5_explore 72 = .ok (.iload 4, 2) := by decide +kernel
theorem dX5_explore_74 : decode cX5_explore 74 = .ok (.invokestatic 48, 3) := by decide +kernel
theorem dX5_explore_77 : decode cX5_explore 77 = .ok (.ifCond .eq 15, 3) := by decide +kernel
theorem dX5_explore_80 : decode cX5_explore 80 = .ok (.aload_n 0, 1) := by decide +kernel
theorem dX5_explore_81 : decode cX5_explore 81 = .ok (.aload_n 0, 1) := by decide +kernel
theorem dX5_explore_82 : decode cX5_explore 82 = .ok (.getfield 18, 3) := by decide +kernel
theorem dX5_explore_85 : decode cX5_explore 85 = .ok (.iload_n 3, 1) := by decide +kernel
theorem dX5_explore_86 : decode cX5_explore 86 = .ok (.iaload, 1) := by decide +kernel
theorem dX5_explore_87 : decode cX5_explore 87 = .ok (.iload 4, 2) := by decide +kernel
theorem dX5_explore_89 : decode cX5_explore 89 = .ok (.invokevirtual 52, 3) := by decide +kernel
theorem dX5_explore_92 : decode cX5_explore 92 = .ok (.iinc 4 1, 3) := by decide +kernel
theorem dX5_explore_95 : decode cX5_explore 95 = .ok (.goto (-31), 3) := by decide +kernel
theorem dX5_explore_98 : decode cX5_explore 98 = .ok (.iinc 3 1, 3) := by decide +kernel
theorem dX5_explore_101 : decode cX5_explore 101 = .ok (.goto (-55), 3) := by decide +kernel
theorem dX5_explore_104 : decode cX5_explore 104 = .ok (.return_, 1) := by decide +kernel
theorem dX5_reach_0 : decode cX5_reach 0 = .ok (.aload_n 0, 1) := by decide +kernel
theorem dX5_reach_1 : decode cX5_reach 1 = .ok (.getfield 12, 3) := by decide +kernel
theorem dX5_reach_4 : decode cX5_reach 4 = .ok (.iload_n 2, 1) := by decide +kernel
theorem dX5_reach_5 : decode cX5_reach 5 = .ok (.iload_n 1, 1) := by decide +kernel
theorem dX5_reach_6 : decode cX5_reach 6 = .ok (.invokevirtual 56, 3) := by decide +kernel
theorem dX5_reach_9 : decode cX5_reach 9 = .ok (.istore_n 3, 1) := by decide +kernel
theorem dX5_reach_10 : decode cX5_reach 10 = .ok (.aload_n 0, 1) := by decide +kernel
theorem dX5_reach_11 : decode cX5_reach 11 = .ok (.getfield 22, 3) := by decide +kernel
theorem dX5_reach_14 : decode cX5_reach 14 = .ok (.iload_n 3, 1) := by decide +kernel
theorem dX5_reach_15 : decode cX5_reach 15 = .ok (.iaload, 1) := by decide +kernel
theorem dX5_reach_16 : decode cX5_reach 16 = .ok (.ifCond .ge 59, 3) := by decide +kernel
theorem dX5_reach_19 : decode cX5_reach 19 = .ok (.aload_n 0, 1) := by decide +kernel
theorem dX5_reach_20 : decode cX5_reach 20 = .ok (.getfield 44, 3) := by decide +kernel
theorem dX5_reach_23 : decode cX5_reach 23 = .ok (.sipush 1024, 3) := by decide +kernel
theorem dX5_reach_26 : decode cX5_reach 26 = .ok (.if_icmp .ge 49, 3) := by decide +kernel
theorem dX5_reach_29 : decode cX5_reach 29 = .ok (.aload_n 0, 1) := by decide +kernel
theorem dX5_reach_30 : decode cX5_reach 30 = .ok (.getfield 22, 3) := by decide +kernel
theorem dX5_reach_33 : decode cX5_reach 33 = .ok (.iload_n 3, 1) := by decide +kernel
theorem dX5_reach_34 : decode cX5_reach 34 = .ok (.aload_n 0, 1) := by decide +kernel
theorem dX5_reach_35 : decode cX5_reach 35 = .ok (.getfield 22, 3) := by decide +kernel
theorem dX5_reach_38 : decode cX5_reach 38 = .ok (.iload_n 1, 1) := by decide +kernel
theorem dX5_reach_39 : decode cX5_reach 39 = .ok (.iaload, 1) := by decide +kernel
theorem dX5_reach_40 : decode cX5_reach 40 = .ok (.iconst 1, 1) := by decide +kernel
theorem dX5_reach_41 : decode cX5_reach 41 = .ok (.iadd, 1) := by decide +kernel
theorem dX5_reach_42 : decode cX5_reach 42 = .ok (.iastore, 1) := by decide +kernel
theorem dX5_reach_43 : decode cX5_reach 43 = .ok (.aload_n 0, 1) := by decide +kernel
theorem dX5_reach_44 : decode cX5_reach 44 = .ok (.getfield 25, 3) := by decide +kernel
theorem dX5_reach_47 : decode cX5_reach 47 = .ok (.iload_n 3, 1) := by decide +kernel
theorem dX5_reach_48 : decode cX5_reach 48 = .ok (.bipush 8, 2) := by decide +kernel
theorem dX5_reach_50 : decode cX5_reach 50 = .ok (.iload_n 1, 1) := by decide +kernel
theorem dX5_reach_51 : decode cX5_reach 51 = .ok (.imul, 1) := by decide +kernel
theorem dX5_reach_52 : decode cX5_reach 52 = .ok (.iload_n 2, 1) := by decide +kernel
theorem dX5_reach_53 : decode cX5_reach 53 = .ok (.iadd, 1) := by decide +kernel
theorem dX5_reach_54 : decode cX5_reach 54 = .ok (.iastore, 1) := by decide +kernel
theorem dX5_reach_55 : decode cX5_reach 55 = .ok (.aload_n 0, 1) := by decide +kernel
theorem dX5_reach_56 : decode cX5_reach 56 = .ok (.getfield 18, 3) := by decide +kernel
theorem dX5_reach_59 : decode cX5_reach 59 = .ok (.aload_n 0, 1) := by decide +kernel
theorem dX5_reach_60 : decode cX5_reach 60 = .ok (.getfield 44, 3) := by decide +kernel
theorem dX5_reach_63 : decode cX5_reach 63 = .ok (.iload_n 3, 1) := by decide +kernel
theorem dX5_reach_64 : decode cX5_reach 64 = .ok (.iastore, 1) := by decide +kernel
theorem dX5_reach_65 : decode cX5_reach 65 = .ok (.aload_n 0, 1) := by decide +kernel
theorem dX5_reach_66 : decode cX5_reach 66 = .ok (.dup, 1) := by decide +kernel
theorem dX5_reach_67 : decode cX5_reach 67 = .ok (.getfield 44, 3) := by decide +kernel
theorem dX5_reach_70 : decode cX5_reach 70 = .ok (.iconst 1, 1) := by decide +kernel
theorem dX5_reach_71 : decode cX5_reach 71 = .ok (.iadd, 1) := by decide +kernel
theorem dX5_reach_72 : decode cX5_reach 72 = .ok (.putfield 44, 3) := by decide +kernel
theorem dX5_reach_75 : decode cX5_reach 75 = .ok (.return_, 1) := by decide +kernel
theorem dX5_firstLooking_0 : decode cX5_firstLooking 0 = .ok (.iload_n 1, 1) := by decide +kernel
theorem dX5_firstLooking_1 : decode cX5_firstLooking 1 = .ok (.invokestatic 60, 3) := by decide +kernel
theorem dX5_firstLooking_4 : decode cX5_firstLooking 4 = .ok (.istore_n 3, 1) := by decide +kernel
theorem dX5_firstLooking_5 : decode cX5_firstLooking 5 = .ok (.iconst 0, 1) := by decide +kernel
theorem dX5_firstLooking_6 : decode cX5_firstLooking 6 = .ok (.istore 4, 2) := by decide +kernel
theorem dX5_firstLooking_8 : decode cX5_firstLooking 8 = .ok (.iload 4, 2) := by decide +kernel
theorem dX5_firstLooking_10 : decode cX5_firstLooking 10 = .ok (.aload_n 0, 1) := by decide +kernel
theorem dX5_firstLooking_11 : decode cX5_firstLooking 11 = .ok (.getfield 44, 3) := by decide +kernel
theorem dX5_firstLooking_14 : decode cX5_firstLooking 14 = .ok (.if_icmp .ge 31, 3) := by decide +kernel
theorem dX5_firstLooking_17 : decode cX5_firstLooking 17 = .ok (.aload_n 0, 1) := by decide +kernel
theorem dX5_firstLooking_18 : decode cX5_firstLooking 18 = .ok (.getfield 18, 3) := by decide +kernel
theorem dX5_firstLooking_21 : decode cX5_firstLooking 21 = .ok (.iload 4, 2) := by decide +kernel
theorem dX5_firstLooking_23 : decode cX5_firstLooking 23 = .ok (.iaload, 1) := by decide +kernel
theorem dX5_firstLooking_24 : decode cX5_firstLooking 24 = .ok (.iload_n 2, 1) := by decide +kernel
theorem dX5_firstLooking_25 : decode cX5_firstLooking 25 = .ok (.ixor, 1) := by decide +kernel
theorem dX5_firstLooking_26 : decode cX5_firstLooking 26 = .ok (.iload_n 3, 1) := by decide +kernel
theorem dX5_firstLooking_27 : decode cX5_firstLooking 27 = .ok (.iand, 1) := by decide +kernel
theorem dX5_firstLooking_28 : decode cX5_firstLooking 28 = .ok (.ifCond .ne 11, 3) := by decide +kernel
theorem dX5_firstLooking_31 : decode cX5_firstLooking 31 = .ok (.aload_n 0, 1) := by decide +kernel
theorem dX5_firstLooking_32 : decode cX5_firstLooking 32 = .ok (.getfield 18, 3) := by decide +kernel
theorem dX5_firstLooking_35 : decode cX5_firstLooking 35 = .ok (.iload 4, 2) := by decide +kernel
theorem dX5_firstLooking_37 : decode cX5_firstLooking 37 = .ok (.iaload, 1) := by decide +kernel
theorem dX5_firstLooking_38 : decode cX5_firstLooking 38 = .ok (.ireturn, 1) := by decide +kernel
theorem dX5_firstLooking_39 : decode cX5_firstLooking 39 = .ok (.iinc 4 1, 3) := by decide +kernel
theorem dX5_firstLooking_42 : decode cX5_firstLooking 42 = .ok (.goto (-34), 3) := by decide +kernel
theorem dX5_firstLooking_45 : decode cX5_firstLooking 45 = .ok (.iconst (-1), 1) := by decide +kernel
theorem dX5_firstLooking_46 : decode cX5_firstLooking 46 = .ok (.ireturn, 1) := by decide +kernel
theorem dX5_wordOfRow_0 : decode cX5_wordOfRow 0 = .ok (.iload_n 2, 1) := by decide +kernel
theorem dX5_wordOfRow_1 : decode cX5_wordOfRow 1 = .ok (.ifCond .lt 13, 3) := by decide +kernel
theorem dX5_wordOfRow_4 : decode cX5_wordOfRow 4 = .ok (.iload_n 2, 1) := by decide +kernel
theorem dX5_wordOfRow_5 : decode cX5_wordOfRow 5 = .ok (.aload_n 0, 1) := by decide +kernel
theorem dX5_wordOfRow_6 : decode cX5_wordOfRow 6 = .ok (.getfield 22, 3) := by decide +kernel
theorem dX5_wordOfRow_9 : decode cX5_wordOfRow 9 = .ok (.iload_n 1, 1) := by decide +kernel
theorem dX5_wordOfRow_10 : decode cX5_wordOfRow 10 = .ok (.iaload, 1) := by decide +kernel
theorem dX5_wordOfRow_11 : decode cX5_wordOfRow 11 = .ok (.if_icmp .lt 6, 3) := by decide +kernel
theorem dX5_wordOfRow_14 : decode cX5_wordOfRow 14 = .ok (.bipush (-6), 2) := by decide +kernel
theorem dX5_wordOfRow_16 : decode cX5_wordOfRow 16 = .ok (.ireturn, 1) := by decide +kernel
theorem dX5_wordOfRow_17 : decode cX5_wordOfRow 17 = .ok (.iload_n 1, 1) := by decide +kernel
theorem dX5_wordOfRow_18 : decode cX5_wordOfRow 18 = .ok (.istore_n 3, 1) := by decide +kernel
theorem dX5_wordOfRow_19 : decode cX5_wordOfRow 19 = .ok (.aload_n 0, 1) := by decide +kernel
theorem dX5_wordOfRow_20 : decode cX5_wordOfRow 20 = .ok (.getfield 22, 3) := by decide +kernel
theorem dX5_wordOfRow_23 : decode cX5_wordOfRow 23 = .ok (.iload_n 1, 1) := by decide +kernel
theorem dX5_wordOfRow_24 : decode cX5_wordOfRow 24 = .ok (.iaload, 1) := by decide +kernel
theorem dX5_wordOfRow_25 : decode cX5_wordOfRow 25 = .ok (.iconst 1, 1) := by decide +kernel
theorem dX5_wordOfRow_26 : decode cX5_wordOfRow 26 = .ok (.isub, 1) := by decide +kernel
theorem dX5_wordOfRow_27 : decode cX5_wordOfRow 27 = .ok (.istore 4, 2) := by decide +kernel
theorem dX5_wordOfRow_29 : decode cX5_wordOfRow 29 = .ok (.iload 4, 2) := by decide +kernel
theorem dX5_wordOfRow_31 : decode cX5_wordOfRow 31 = .ok (.iload_n 2, 1) := by decide +kernel
theorem dX5_wordOfRow_32 : decode cX5_wordOfRow 32 = .ok (.if_icmp .le 19, 3) := by decide +kernel
theorem dX5_wordOfRow_35 : decode cX5_wordOfRow 35 = .ok (.aload_n 0, 1) := by decide +kernel
theorem dX5_wordOfRow_36 : decode cX5_wordOfRow 36 = .ok (.getfield 25, 3) := by decide +kernel
theorem dX5_wordOfRow_39 : decode cX5_wordOfRow 39 = .ok (.iload_n 3, 1) := by decide +kernel
theorem dX5_wordOfRow_40 : decode cX5_wordOfRow 40 = .ok (.iaload, 1) := by decide +kernel
theorem dX5_wordOfRow_41 : decode cX5_wordOfRow 41 = .ok (.bipush 8, 2) := by decide +kernel
theorem dX5_wordOfRow_43 : decode cX5_wordOfRow 43 = .ok (.idiv, 1) := by decide +kernel
theorem dX5_wordOfRow_44 : decode cX5_wordOfRow 44 = .ok (.istore_n 3, 1) := by decide +kernel
theorem dX5_wordOfRow_45 : decode cX5_wordOfRow 45 = .ok (.iinc 4 (-1), 3) := by decide +kernel
theorem dX5_wordOfRow_48 : decode cX5_wordOfRow 48 = .ok (.goto (-19), 3) := by decide +kernel
theorem dX5_wordOfRow_51 : decode cX5_wordOfRow 51 = .ok (.aload_n 0, 1) := by decide +kernel
theorem dX5_wordOfRow_52 : decode cX5_wordOfRow 52 = .ok (.getfield 25, 3) := by decide +kernel
theorem dX5_wordOfRow_55 : decode cX5_wordOfRow 55 = .ok (.iload_n 3, 1) := by decide +kernel
theorem dX5_wordOfRow_56 : decode cX5_wordOfRow 56 = .ok (.iaload, 1) := by decide +kernel
theorem dX5_wordOfRow_57 : decode cX5_wordOfRow 57 = .ok (.bipush 8, 2) := by decide +kernel
theorem dX5_wordOfRow_59 : decode cX5_wordOfRow 59 = .ok (.irem, 1) := by decide +kernel
theorem dX5_wordOfRow_60 : decode cX5_wordOfRow 60 = .ok (.ireturn, 1) := by decide +kernel
theorem dX5_leastQuarters_0 : decode cX5_leastQuarters 0 = .ok (.aload_n 0, 1) := by decide +kernel
theorem dX5_leastQuarters_1 : decode cX5_leastQuarters 1 = .ok (.getfield 12, 3) := by decide +kernel
theorem dX5_leastQuarters_4 : decode cX5_leastQuarters 4 = .ok (.aload_n 1, 1) := by decide +kernel
theorem dX5_leastQuarters_5 : decode cX5_leastQuarters 5 = .ok (.aload_n 1, 1) := by decide +kernel
theorem dX5_leastQuarters_6 : decode cX5_leastQuarters 6 = .ok (.getfield 64, 3) := by decide +kernel
theorem dX5_leastQuarters_9 : decode cX5_leastQuarters 9 = .ok (.invokevirtual 28, 3) := by decide +kernel
theorem dX5_leastQuarters_12 : decode cX5_leastQuarters 12 = .ok (.iconst 1, 1) := by decide +kernel
theorem dX5_leastQuarters_13 : decode cX5_leastQuarters 13 = .ok (.iconst 2, 1) := by decide +kernel
theorem dX5_leastQuarters_14 : decode cX5_leastQuarters 14 = .ok (.aload_n 1, 1) := by decide +kernel
theorem dX5_leastQuarters_15 : decode cX5_leastQuarters 15 = .ok (.getfield 67, 3) := by decide +kernel
theorem dX5_leastQuarters_18 : decode cX5_leastQuarters 18 = .ok (.imul, 1) := by decide +kernel
theorem dX5_leastQuarters_19 : decode cX5_leastQuarters 19 = .ok (.ishl, 1) := by decide +kernel
theorem dX5_leastQuarters_20 : decode cX5_leastQuarters 20 = .ok (.istore 4, 2) := by decide +kernel
theorem dX5_leastQuarters_22 : decode cX5_leastQuarters 22 = .ok (.iload_n 2, 1) := by decide +kernel
theorem dX5_leastQuarters_23 : decode cX5_leastQuarters 23 = .ok (.invokestatic 60, 3) := by decide +kernel
theorem dX5_leastQuarters_26 : decode cX5_leastQuarters 26 = .ok (.istore 5, 2) := by decide +kernel
theorem dX5_leastQuarters_28 : decode cX5_leastQuarters 28 = .ok (.iconst 0, 1) := by decide +kernel
theorem dX5_leastQuarters_29 : decode cX5_leastQuarters 29 = .ok (.istore 6, 2) := by decide +kernel
theorem dX5_leastQuarters_31 : decode cX5_leastQuarters 31 = .ok (.aload_n 0, 1) := by decide +kernel
theorem dX5_leastQuarters_32 : decode cX5_leastQuarters 32 = .ok (.getfield 22, 3) := by decide +kernel
theorem dX5_leastQuarters_35 : decode cX5_leastQuarters 35 = .ok (.iconst (-1), 1) := by decide +kernel
theorem dX5_leastQuarters_36 : decode cX5_leastQuarters 36 = .ok (.invokestatic 32, 3) := by decide +kernel
theorem dX5_leastQuarters_39 : decode cX5_leastQuarters 39 = .ok (.aload_n 0, 1) := by decide +kernel
theorem dX5_leastQuarters_40 : decode cX5_leastQuarters 40 = .ok (.getfield 22, 3) := by decide +kernel
theorem dX5_leastQuarters_43 : decode cX5_leastQuarters 43 = .ok (.aload_n 1, 1) := by decide +kernel
theorem dX5_leastQuarters_44 : decode cX5_leastQuarters 44 = .ok (.invokevirtual 38, 3) := by decide +kernel
theorem dX5_leastQuarters_47 : decode cX5_leastQuarters 47 = .ok (.iconst 0, 1) := by decide +kernel
theorem dX5_leastQuarters_48 : decode cX5_leastQuarters 48 = .ok (.iastore, 1) := by decide +kernel
theorem dX5_leastQuarters_49 : decode cX5_leastQuarters 49 = .ok (.iconst 0, 1) := by decide +kernel
theorem dX5_leastQuarters_50 : decode cX5_leastQuarters 50 = .ok (.istore 7, 2) := by decide +kernel
theorem dX5_leastQuarters_52 : decode cX5_leastQuarters 52 = .ok (.iload 7, 2) := by decide +kernel
theorem dX5_leastQuarters_54 : decode cX5_leastQuarters 54 = .ok (.iload 6, 2) := by decide +kernel
theorem dX5_leastQuarters_56 : decode cX5_leastQuarters 56 = .ok (.if_icmp .gt 75, 3) := by decide +kernel
theorem dX5_leastQuarters_59 : decode cX5_leastQuarters 59 = .ok (.iload 7, 2) := by decide +kernel
theorem dX5_leastQuarters_61 : decode cX5_leastQuarters 61 = .ok (.sipush 15360, 3) := by decide +kernel
theorem dX5_leastQuarters_64 : decode cX5_leastQuarters 64 = .ok (.if_icmp .gt 67, 3) := by decide +kernel
theorem dX5_leastQuarters_67 : decode cX5_leastQuarters 67 = .ok (.iconst 0, 1) := by decide +kernel
theorem dX5_leastQuarters_68 : decode cX5_leastQuarters 68 = .ok (.istore 8, 2) := by decide +kernel
theorem dX5_leastQuarters_70 : decode cX5_leastQuarters 70 = .ok (.iload 8, 2) := by decide +kernel
theorem dX5_leastQuarters_72 : decode cX5_leastQuarters 72 = .ok (.iload 4, 2) := by decide +kernel
theorem dX5_leastQuarters_74 : decode cX5_leastQuarters 74 = .ok (.if_icmp .ge 51, 3) := by decide +kernel
theorem dX5_leastQuarters_77 : decode cX5_leastQuarters 77 = .ok (.aload_n 0, 1) := by decide +kernel
theorem dX5_leastQuarters_78 : decode cX5_leastQuarters 78 = .ok (.getfield 22, 3) := by decide +kernel
theorem dX5_leastQuarters_81 : decode cX5_leastQuarters 81 = .ok (.iload 8, 2) := by decide +kernel
theorem dX5_leastQuarters_83 : decode cX5_leastQuarters 83 = .ok (.iaload, 1) := by decide +kernel
theorem dX5_leastQuarters_84 : decode cX5_leastQuarters 84 = .ok (.iload 7, 2) := by decide +kernel
theorem dX5_leastQuarters_86 : decode cX5_leastQuarters 86 = .ok (.if_icmp .ne 33, 3) := by decide +kernel
theorem dX5_leastQuarters_89 : decode cX5_leastQuarters 89 = .ok (.iload 8, 2) := by decide +kernel
theorem dX5_leastQuarters_91 : decode cX5_leastQuarters 91 = .ok (.iload_n 3, 1) := by decide +kernel
theorem dX5_leastQuarters_92 : decode cX5_leastQuarters 92 = .ok (.ixor, 1) := by decide +kernel
theorem dX5_leastQuarters_93 : decode cX5_leastQuarters 93 = .ok (.iload 5, 2) := by decide +kernel
theorem dX5_leastQuarters_95 : decode cX5_leastQuarters 95 = .ok (.iand, 1) := by decide +kernel
theorem dX5_leastQuarters_96 : decode cX5_leastQuarters 96 = .ok (.ifCond .ne 6, 3) := by decide +kernel
theorem dX5_leastQuarters_99 : decode cX5_leastQuarters 99 = .ok (.iload 7, 2) := by decide +kernel
theorem dX5_leastQuarters_101 : decode cX5_leastQuarters 101 = .ok (.ireturn, 1) := by decide +kernel
theorem dX5_leastQuarters_102 : decode cX5_leastQuarters 102 = .ok (.iload 6, 2) := by decide +kernel
theorem dX5_leastQuarters_104 : decode cX5_leastQuarters 104 = .ok (.aload_n 0, 1) := by decide +kernel
theorem dX5_leastQuarters_105 : decode cX5_leastQuarters 105 = .ok (.aload_n 1, 1) := by decide +kernel
theorem dX5_leastQuarters_106 : decode cX5_leastQuarters 106 = .ok (.getfield 64, 3) := by decide +kernel
theorem dX5_leastQuarters_109 : decode cX5_leastQuarters 109 = .ok (.iload 8, 2) := by decide +kernel
theorem dX5_leastQuarters_111 : decode cX5_leastQuarters 111 = .ok (.invokevirtual 70, 3) := by decide +kernel
theorem dX5_leastQuarters_114 : decode cX5_leastQuarters 114 = .ok (.invokestatic 73, 3) := by decide +kernel
theorem dX5_leastQuarters_117 : decode cX5_leastQuarters 117 = .ok (.istore 6, 2) := by decide +kernel
theorem dX5_leastQuarters_119 : decode cX5_leastQuarters 119 = .ok (.iinc 8 1, 3) := by decide +kernel
theorem dX5_leastQuarters_122 : decode cX5_leastQuarters 122 = .ok (.goto (-52), 3) := by decide +kernel
theorem dX5_leastQuarters_125 : decode cX5_leastQuarters 125 = .ok (.iinc 7 1, 3) := by decide +kernel
theorem dX5_leastQuarters_128 : decode cX5_leastQuarters 128 = .ok (.goto (-76), 3) := by decide +kernel
theorem dX5_leastQuarters_131 : decode cX5_leastQuarters 131 = .ok (.bipush (-6), 2) := by decide +kernel
theorem dX5_leastQuarters_133 : decode cX5_leastQuarters 133 = .ok (.ireturn, 1) := by decide +kernel
theorem dX5_cheapen_0 : decode cX5_cheapen 0 = .ok (.iconst 0, 1) := by decide +kernel
theorem dX5_cheapen_1 : decode cX5_cheapen 1 = .ok (.istore_n 3, 1) := by decide +kernel
theorem dX5_cheapen_2 : decode cX5_cheapen 2 = .ok (.iconst 0, 1) := by decide +kernel
theorem dX5_cheapen_3 : decode cX5_cheapen 3 = .ok (.istore 4, 2) := by decide +kernel
theorem dX5_cheapen_5 : decode cX5_cheapen 5 = .ok (.iload 4, 2) := by decide +kernel
theorem dX5_cheapen_7 : decode cX5_cheapen 7 = .ok (.bipush 6, 2) := by decide +kernel
theorem dX5_cheapen_9 : decode cX5_cheapen 9 = .ok (.if_icmp .ge 87, 3) := by decide +kernel
theorem dX5_cheapen_12 : decode cX5_cheapen 12 = .ok (.iload_n 1, 1) := by decide +kernel
theorem dX5_cheapen_13 : decode cX5_cheapen 13 = .ok (.iload 4, 2) := by decide +kernel
theorem dX5_cheapen_15 : decode cX5_cheapen 15 = .ok (.invokestatic 48, 3) := by decide +kernel
theorem dX5_cheapen_18 : decode cX5_cheapen 18 = .ok (.ifCond .eq 72, 3) := by decide +kernel
theorem dX5_cheapen_21 : decode cX5_cheapen 21 = .ok (.aload_n 0, 1) := by decide +kernel
theorem dX5_cheapen_22 : decode cX5_cheapen 22 = .ok (.getfield 12, 3) := by decide +kernel
theorem dX5_cheapen_25 : decode cX5_cheapen 25 = .ok (.iload 4, 2) := by decide +kernel
theorem dX5_cheapen_27 : decode cX5_cheapen 27 = .ok (.iload_n 2, 1) := by decide +kernel
theorem dX5_cheapen_28 : decode cX5_cheapen 28 = .ok (.invokevirtual 56, 3) := by decide +kernel
theorem dX5_cheapen_31 : decode cX5_cheapen 31 = .ok (.istore 5, 2) := by decide +kernel
theorem dX5_cheapen_33 : decode cX5_cheapen 33 = .ok (.aload_n 0, 1) := by decide +kernel
theorem dX5_cheapen_34 : decode cX5_cheapen 34 = .ok (.getfield 22, 3) := by decide +kernel
theorem dX5_cheapen_37 : decode cX5_cheapen 37 = .ok (.iload_n 2, 1) := by decide +kernel
theorem dX5_cheapen_38 : decode cX5_cheapen 38 = .ok (.iaload, 1) := by decide +kernel
theorem dX5_cheapen_39 : decode cX5_cheapen 39 = .ok (.aload_n 0, 1) := by decide +kernel
theorem dX5_cheapen_40 : decode cX5_cheapen 40 = .ok (.getfield 12, 3) := by decide +kernel
theorem dX5_cheapen_43 : decode cX5_cheapen 43 = .ok (.iload 4, 2) := by decide +kernel
theorem dX5_cheapen_45 : decode cX5_cheapen 45 = .ok (.iload_n 2, 1) := by decide +kernel
theorem dX5_cheapen_46 : decode cX5_cheapen 46 = .ok (.invokevirtual 78, 3) := by decide +kernel
theorem dX5_cheapen_49 : decode cX5_cheapen 49 = .ok (.iadd, 1) := by decide +kernel
theorem dX5_cheapen_50 : decode cX5_cheapen 50 = .ok (.istore 6, 2) := by decide +kernel
theorem dX5_cheapen_52 : decode cX5_cheapen 52 = .ok (.aload_n 0, 1) := by decide +kernel
theorem dX5_cheapen_53 : decode cX5_cheapen 53 = .ok (.getfield 22, 3) := by decide +kernel
theorem dX5_cheapen_56 : decode cX5_cheapen 56 = .ok (.iload 5, 2) := by decide +kernel
theorem dX5_cheapen_58 : decode cX5_cheapen 58 = .ok (.iaload, 1) := by decide +kernel
theorem dX5_cheapen_59 : decode cX5_cheapen 59 = .ok (.ifCond .lt 15, 3) := by decide +kernel
theorem dX5_cheapen_62 : decode cX5_cheapen 62 = .ok (.iload 6, 2) := by decide +kernel
theorem dX5_cheapen_64 : decode cX5_cheapen 64 = .ok (.aload_n 0, 1) := by decide +kernel
theorem dX5_cheapen_65 : decode cX5_cheapen 65 = .ok (.getfield 22, 3) := by decide +kernel
theorem dX5_cheapen_68 : decode cX5_cheapen 68 = .ok (.iload 5, 2) := by decide +kernel
theorem dX5_cheapen_70 : decode cX5_cheapen 70 = .ok (.iaload, 1) := by decide +kernel
theorem dX5_cheapen_71 : decode cX5_cheapen 71 = .ok (.if_icmp .ge 19, 3) := by decide +kernel
theorem dX5_cheapen_74 : decode cX5_cheapen 74 = .ok (.aload_n 0, 1) := by decide +kernel
theorem dX5_cheapen_75 : decode cX5_cheapen 75 = .ok (.getfield 22, 3) := by decide +kernel
theorem dX5_cheapen_78 : decode cX5_cheapen 78 = .ok (.iload 5, 2) := by decide +kernel
theorem dX5_cheapen_80 : decode cX5_cheapen 80 = .ok (.iload 6, 2) := by decide +kernel
theorem dX5_cheapen_82 : decode cX5_cheapen 82 = .ok (.iastore, 1) := by decide +kernel
theorem dX5_cheapen_83 : decode cX5_cheapen 83 = .ok (.iload_n 3, 1) := by decide +kernel
theorem dX5_cheapen_84 : decode cX5_cheapen 84 = .ok (.iload 6, 2) := by decide +kernel
theorem dX5_cheapen_86 : decode cX5_cheapen 86 = .ok (.invokestatic 73, 3) := by decide +kernel
theorem dX5_cheapen_89 : decode cX5_cheapen 89 = .ok (.istore_n 3, 1) := by decide +kernel
theorem dX5_cheapen_90 : decode cX5_cheapen 90 = .ok (.iinc 4 1, 3) := by decide +kernel
theorem dX5_cheapen_93 : decode cX5_cheapen 93 = .ok (.goto (-88), 3) := by decide +kernel
theorem dX5_cheapen_96 : decode cX5_cheapen 96 = .ok (.iload_n 3, 1) := by decide +kernel
theorem dX5_cheapen_97 : decode cX5_cheapen 97 = .ok (.ireturn, 1) := by decide +kernel
theorem dX6_init_0 : decode cX6_init 0 = .ok (.aload_n 0, 1) := by decide +kernel
theorem dX6_init_1 : decode cX6_init 1 = .ok (.invokespecial 3, 3) := by decide +kernel
theorem dX6_init_4 : decode cX6_init 4 = .ok (.aload_n 0, 1) := by decide +kernel
theorem dX6_init_5 : decode cX6_init 5 = .ok (.sipush 1024, 3) := by decide +kernel
theorem dX6_init_8 : decode cX6_init 8 = .ok (.newarray .int, 2) := by decide +kernel
theorem dX6_init_10 : decode cX6_init 10 = .ok (.putfield 9, 3) := by decide +kernel
theorem dX6_init_13 : decode cX6_init 13 = .ok (.aload_n 0, 1) := by decide +kernel
theorem dX6_init_14 : decode cX6_init 14 = .ok (.sipush 1024, 3) := by decide +kernel
theorem dX6_init_17 : decode cX6_init 17 = .ok (.newarray .int, 2) := by decide +kernel
theorem dX6_init_19 : decode cX6_init 19 = .ok (.putfield 15, 3) := by decide +kernel
theorem dX6_init_22 : decode cX6_init 22 = .ok (.aload_n 0, 1) := by decide +kernel
theorem dX6_init_23 : decode cX6_init 23 = .ok (.sipush 1024, 3) := by decide +kernel
theorem dX6_init_26 : decode cX6_init 26 = .ok (.newarray .int, 2) := by decide +kernel
theorem dX6_init_28 : decode cX6_init 28 = .ok (.putfield 18, 3) := by decide +kernel
theorem dX6_init_31 : decode cX6_init 31 = .ok (.return_, 1) := by decide +kernel
theorem dX6_fewestMinutes_0 : decode cX6_fewestMinutes 0 = .ok (.aload_n 0, 1) := by decide +kernel
theorem dX6_fewestMinutes_1 : decode cX6_fewestMinutes 1 = .ok (.iload_n 3, 1) := by decide +kernel
theorem dX6_fewestMinutes_2 : decode cX6_fewestMinutes 2 = .ok (.putfield 21, 3) := by decide +kernel
theorem dX6_fewestMinutes_5 : decode cX6_fewestMinutes 5 = .ok (.aload_n 0, 1) := by decide +kernel
theorem dX6_fewestMinutes_6 : decode cX6_fewestMinutes 6 = .ok (.iload 4, 2) := by decide +kernel
theorem dX6_fewestMinutes_8 : decode cX6_fewestMinutes 8 = .ok (.putfield 25, 3) := by decide +kernel
theorem dX6_fewestMinutes_11 : decode cX6_fewestMinutes 11 = .ok (.iconst 1, 1) := by decide +kernel
theorem dX6_fewestMinutes_12 : decode cX6_fewestMinutes 12 = .ok (.iconst 2, 1) := by decide +kernel
theorem dX6_fewestMinutes_13 : decode cX6_fewestMinutes 13 = .ok (.aload_n 1, 1) := by decide +kernel
theorem dX6_fewestMinutes_14 : decode cX6_fewestMinutes 14 = .ok (.getfield 28, 3) := by decide +kernel
theorem dX6_fewestMinutes_17 : decode cX6_fewestMinutes 17 = .ok (.imul, 1) := by decide +kernel
theorem dX6_fewestMinutes_18 : decode cX6_fewestMinutes 18 = .ok (.ishl, 1) := by decide +kernel
theorem dX6_fewestMinutes_19 : decode cX6_fewestMinutes 19 = .ok (.istore 5, 2) := by decide +kernel
theorem dX6_fewestMinutes_21 : decode cX6_fewestMinutes 21 = .ok (.aload_n 2, 1) := by decide +kernel
theorem dX6_fewestMinutes_22 : decode cX6_fewestMinutes 22 = .ok (.aload_n 1, 1) := by decide +kernel
theorem dX6_fewestMinutes_23 : decode cX6_fewestMinutes 23 = .ok (.aload_n 1, 1) := by decide +kernel
theorem dX6_fewestMinutes_24 : decode cX6_fewestMinutes 24 = .ok (.getfield 33, 3) := by decide +kernel
theorem dX6_fewestMinutes_27 : decode cX6_fewestMinutes 27 = .ok (.invokevirtual 36, 3) := by decide +kernel
theorem dX6_fewestMinutes_30 : decode cX6_fewestMinutes 30 = .ok (.aload_n 0, 1) := by decide +kernel
theorem dX6_fewestMinutes_31 : decode cX6_fewestMinutes 31 = .ok (.getfield 15, 3) := by decide +kernel
theorem dX6_fewestMinutes_34 : decode cX6_fewestMinutes 34 = .ok (.iconst 0, 1) := by decide +kernel
theorem dX6_fewestMinutes_35 : decode cX6_fewestMinutes 35 = .ok (.invokestatic 42, 3) := by decide +kernel
theorem dX6_fewestMinutes_38 : decode cX6_fewestMinutes 38 = .ok (.aload_n 0, 1) := by decide +kernel
theorem dX6_fewestMinutes_39 : decode cX6_fewestMinutes 39 = .ok (.getfield 18, 3) := by decide +kernel
theorem dX6_fewestMinutes_42 : decode cX6_fewestMinutes 42 = .ok (.iconst 0, 1) := by decide +kernel
theorem dX6_fewestMinutes_43 : decode cX6_fewestMinutes 43 = .ok (.invokestatic 42, 3) := by decide +kernel
theorem dX6_fewestMinutes_46 : decode cX6_fewestMinutes 46 = .ok (.aload_n 0, 1) := by decide +kernel
theorem dX6_fewestMinutes_47 : decode cX6_fewestMinutes 47 = .ok (.getfield 15, 3) := by decide +kernel
theorem dX6_fewestMinutes_50 : decode cX6_fewestMinutes 50 = .ok (.aload_n 1, 1) := by decide +kernel
theorem dX6_fewestMinutes_51 : decode cX6_fewestMinutes 51 = .ok (.invokevirtual 48, 3) := by decide +kernel
theorem dX6_fewestMinutes_54 : decode cX6_fewestMinutes 54 = .ok (.iconst 1, 1) := by decide +kernel
theorem dX6_fewestMinutes_55 : decode cX6_fewestMinutes 55 = .ok (.iastore, 1) := by decide +kernel
theorem dX6_fewestMinutes_56 : decode cX6_fewestMinutes 56 = .ok (.aload_n 0, 1) := by decide +kernel
theorem dX6_fewestMinutes_57 : decode cX6_fewestMinutes 57 = .ok (.iload 5, 2) := by decide +kernel
theorem dX6_fewestMinutes_59 : decode cX6_fewestMinutes 59 = .ok (.invokevirtual 52, 3) := by decide +kernel
theorem dX6_fewestMinutes_62 : decode cX6_fewestMinutes 62 = .ok (.istore 6, 2) := by decide +kernel
theorem dX6_fewestMinutes_64 : decode cX6_fewestMinutes 64 = .ok (.iconst 0, 1) := by decide +kernel
theorem dX6_fewestMinutes_65 : decode cX6_fewestMinutes 65 = .ok (.istore 7, 2) := by decide +kernel
theorem dX6_fewestMinutes_67 : decode cX6_fewestMinutes 67 = .ok (.iload 7, 2) := by decide +kernel
theorem dX6_fewestMinutes_69 : decode cX6_fewestMinutes 69 = .ok (.ldc 56, 2) := by decide +kernel
theorem dX6_fewestMinutes_71 : decode cX6_fewestMinutes 71 = .ok (.if_icmp .gt 53, 3) := by decide +kernel
theorem dX6_fewestMinutes_74 : decode cX6_fewestMinutes 74 = .ok (.iload 6, 2) := by decide +kernel
theorem dX6_fewestMinutes_76 : decode cX6_fewestMinutes 76 = .ok (.ifCond .eq 48, 3) := by decide +kernel
theorem dX6_fewestMinutes_79 : decode cX6_fewestMinutes 79 = .ok (.aload_n 0, 1) := by decide +kernel
theorem dX6_fewestMinutes_80 : decode cX6_fewestMinutes 80 = .ok (.iload 5, 2) := by decide +kernel
theorem dX6_fewestMinutes_82 : decode cX6_fewestMinutes 82 = .ok (.invokevirtual 57, 3) := by decide +kernel
theorem dX6_fewestMinutes_85 : decode cX6_fewestMinutes 85 = .ok (.ifCond .eq 14, 3) := by decide +kernel
theorem dX6_fewestMinutes_88 : decode cX6_fewestMinutes 88 = .ok (.iload 7, 2) := by decide +kernel
theorem dX6_fewestMinutes_90 : decode cX6_fewestMinutes 90 = .ok (.aload_n 0, 1) := by decide +kernel
theorem dX6_fewestMinutes_91 : decode cX6_fewestMinutes 91 = .ok (.getfield 21, 3) := by decide +kernel
theorem dX6_fewestMinutes_94 : decode cX6_fewestMinutes 94 = .ok (.invokestatic 60, 3) := by decide +kernel
theorem dX6_fewestMinutes_97 : decode cX6_fewestMinutes 97 = .ok (.iadd, 1) := by decide +kernel
theorem dX6_fewestMinutes_98 : decode cX6_fewestMinutes 98 = .ok (.ireturn, 1) := by decide +kernel
theorem dX6_fewestMinutes_99 : decode cX6_fewestMinutes 99 = .ok (.aload_n 0, 1) := by decide +kernel
theorem dX6_fewestMinutes_100 : decode cX6_fewestMinutes 100 = .ok (.aload_n 2, 1) := by decide +kernel
theorem dX6_fewestMinutes_101 : decode cX6_fewestMinutes 101 = .ok (.aload_n 1, 1) := by decide +kernel
theorem dX6_fewestMinutes_102 : decode cX6_fewestMinutes 102 = .ok (.getfield 33, 3) := by decide +kernel
theorem dX6_fewestMinutes_105 : decode cX6_fewestMinutes 105 = .ok (.iload 5, 2) := by decide +kernel
theorem dX6_fewestMinutes_107 : decode cX6_fewestMinutes 107 = .ok (.invokevirtual 66, 3) := by decide +kernel
theorem dX6_fewestMinutes_110 : decode cX6_fewestMinutes 110 = .ok (.aload_n 0, 1) := by decide +kernel
theorem dX6_fewestMinutes_111 : decode cX6_fewestMinutes 111 = .ok (.iload 5, 2) := by decide +kernel
theorem dX6_fewestMinutes_113 : decode cX6_fewestMinutes 113 = .ok (.invokevirtual 52, 3) := by decide +kernel
theorem dX6_fewestMinutes_116 : decode cX6_fewestMinutes 116 = .ok (.istore 6, 2) := by decide +kernel
theorem dX6_fewestMinutes_118 : decode cX6_fewestMinutes 118 = .ok (.iinc 7 1, 3) := by decide +kernel
theorem dX6_fewestMinutes_121 : decode cX6_fewestMinutes 121 = .ok (.goto (-54), 3) := by decide +kernel
theorem dX6_fewestMinutes_124 : decode cX6_fewestMinutes 124 = .ok (.bipush (-6), 2) := by decide +kernel
theorem dX6_fewestMinutes_126 : decode cX6_fewestMinutes 126 = .ok (.ireturn, 1) := by decide +kernel
theorem dX6_isServed_0 : decode cX6_isServed 0 = .ok (.iconst 0, 1) := by decide +kernel
theorem dX6_isServed_1 : decode cX6_isServed 1 = .ok (.istore_n 2, 1) := by decide +kernel
theorem dX6_isServed_2 : decode cX6_isServed 2 = .ok (.iload_n 2, 1) := by decide +kernel
theorem dX6_isServed_3 : decode cX6_isServed 3 = .ok (.iload_n 1, 1) := by decide +kernel
theorem dX6_isServed_4 : decode cX6_isServed 4 = .ok (.if_icmp .ge 27, 3) := by decide +kernel
theorem dX6_isServed_7 : decode cX6_isServed 7 = .ok (.aload_n 0, 1) := by decide +kernel
theorem dX6_isServed_8 : decode cX6_isServed 8 = .ok (.getfield 9, 3) := by decide +kernel
theorem dX6_isServed_11 : decode cX6_isServed 11 = .ok (.iload_n 2, 1) := by decide +kernel
theorem dX6_isServed_12 : decode cX6_isServed 12 = .ok (.iaload, 1) := by decide +kernel
theorem dX6_isServed_13 : decode cX6_isServed 13 = .ok (.aload_n 0, 1) := by decide +kernel
theorem dX6_isServed_14 : decode cX6_isServed 14 = .ok (.getfield 21, 3) := by decide +kernel
theorem dX6_isServed_17 : decode cX6_isServed 17 = .ok (.invokestatic 70, 3) := by decide +kernel
theorem dX6_isServed_20 : decode cX6_isServed 20 = .ok (.ifCond .eq 5, 3) := by decide +kernel
theorem dX6_isServed_23 : decode cX6_isServed 23 = .ok (.iconst 1, 1) := by decide +kernel
theorem dX6_isServed_24 : decode cX6_isServed 24 = .ok (.ireturn, 1) := by decide +kernel
theorem dX6_isServed_25 : decode cX6_isServed 25 = .ok (.iinc 2 1, 3) := by decide +kernel
theorem dX6_isServed_28 : decode cX6_isServed 28 = .ok (.goto (-26), 3) := by decide +kernel
theorem dX6_isServed_31 : decode cX6_isServed 31 = .ok (.iconst 0, 1) := by decide +kernel
theorem dX6_isServed_32 : decode cX6_isServed 32 = .ok (.ireturn, 1) := by decide +kernel
theorem dX6_hear_0 : decode cX6_hear 0 = .ok (.aload_n 0, 1) := by decide +kernel
theorem dX6_hear_1 : decode cX6_hear 1 = .ok (.getfield 15, 3) := by decide +kernel
theorem dX6_hear_4 : decode cX6_hear 4 = .ok (.iconst 0, 1) := by decide +kernel
theorem dX6_hear_5 : decode cX6_hear 5 = .ok (.invokestatic 42, 3) := by decide +kernel
theorem dX6_hear_8 : decode cX6_hear 8 = .ok (.iconst 0, 1) := by decide +kernel
theorem dX6_hear_9 : decode cX6_hear 9 = .ok (.istore 4, 2) := by decide +kernel
theorem dX6_hear_11 : decode cX6_hear 11 = .ok (.iload 4, 2) := by decide +kernel
theorem dX6_hear_13 : decode cX6_hear 13 = .ok (.iload_n 3, 1) := by decide +kernel
theorem dX6_hear_14 : decode cX6_hear 14 = .ok (.if_icmp .ge 67, 3) := by decide +kernel
theorem dX6_hear_17 : decode cX6_hear 17 = .ok (.aload_n 0, 1) := by decide +kernel
theorem dX6_hear_18 : decode cX6_hear 18 = .ok (.getfield 9, 3) := by decide +kernel
theorem dX6_hear_21 : decode cX6_hear 21 = .ok (.iload 4, 2) := by decide +kernel
theorem dX6_hear_23 : decode cX6_hear 23 = .ok (.iaload, 1) := by decide +kernel
theorem dX6_hear_24 : decode cX6_hear 24 = .ok (.ifCond .eq 51, 3) := by decide +kernel
theorem dX6_hear_27 : decode cX6_hear 27 = .ok (.iconst 0, 1) := by decide +kernel
theorem dX6_hear_28 : decode cX6_hear 28 = .ok (.istore 5, 2) := by decide +kernel
theorem dX6_hear_30 : decode cX6_hear 30 = .ok (.iload 5, 2) := by decide +kernel
theorem dX6_hear_32 : decode cX6_hear 32 = .ok (.bipush 6, 2) := by decide +kernel
theorem dX6_hear_34 : decode cX6_hear 34 = .ok (.if_icmp .ge 41, 3) := by decide +kernel
theorem dX6_hear_37 : decode cX6_hear 37 = .ok (.iload_n 2, 1) := by decide +kernel
theorem dX6_hear_38 : decode cX6_hear 38 = .ok (.iload 5, 2) := by decide +kernel
theorem dX6_hear_40 : decode cX6_hear 40 = .ok (.invokestatic 70, 3) := by decide +kernel
theorem dX6_hear_43 : decode cX6_hear 43 = .ok (.ifCond .eq 26, 3) := by decide +kernel
theorem dX6_hear_46 : decode cX6_hear 46 = .ok (.aload_n 0, 1) := by decide +kernel
theorem dX6_hear_47 : decode cX6_hear 47 = .ok (.getfield 15, 3) := by decide +kernel
theorem dX6_hear_50 : decode cX6_hear 50 = .ok (.aload_n 1, 1) := by decide +kernel
theorem dX6_hear_51 : decode cX6_hear 51 = .ok (.iload 5, 2) := by decide +kernel
theorem dX6_hear_53 : decode cX6_hear 53 = .ok (.iload 4, 2) := by decide +kernel
theorem dX6_hear_55 : decode cX6_hear 55 = .ok (.invokevirtual 74, 3) := by decide +kernel
theorem dX6_hear_58 : decode cX6_hear 58 = .ok (.dup2, 1) := by decide +kernel
theorem dX6_hear_59 : decode cX6_hear 59 = .ok (.iaload, 1) := by decide +kernel
theorem dX6_hear_60 : decode cX6_hear 60 = .ok (.aload_n 0, 1) := by decide +kernel
theorem dX6_hear_61 : decode cX6_hear 61 = .ok (.getfield 9, 3) := by decide +kernel
theorem dX6_hear_64 : decode cX6_hear 64 = .ok (.iload 4, 2) := by decide +kernel
theorem dX6_hear_66 : decode cX6_hear 66 = .ok (.iaload, 1) := by decide +kernel
theorem dX6_hear_67 : decode cX6_hear 67 = .ok (.ior, 1) := by decide +kernel
theorem dX6_hear_68 : decode cX6_hear 68 = .ok (.iastore, 1) := by decide +kernel
theorem dX6_hear_69 : decode cX6_hear 69 = .ok (.iinc 5 1, 3) := by decide +kernel
theorem dX6_hear_72 : decode cX6_hear 72 = .ok (.goto (-42), 3) := by decide +kernel
theorem dX6_hear_75 : decode cX6_hear 75 = .ok (.iinc 4 1, 3) := by decide +kernel
theorem dX6_hear_78 : decode cX6_hear 78 = .ok (.goto (-67), 3) := by decide +kernel
theorem dX6_hear_81 : decode cX6_hear 81 = .ok (.return_, 1) := by decide +kernel
theorem dX6_knockAll_0 : decode cX6_knockAll 0 = .ok (.iconst 0, 1) := by decide +kernel
theorem dX6_knockAll_1 : decode cX6_knockAll 1 = .ok (.istore_n 2, 1) := by decide +kernel
theorem dX6_knockAll_2 : decode cX6_knockAll 2 = .ok (.iconst 0, 1) := by decide +kernel
theorem dX6_knockAll_3 : decode cX6_knockAll 3 = .ok (.istore_n 3, 1) := by decide +kernel
theorem dX6_knockAll_4 : decode cX6_knockAll 4 = .ok (.iload_n 3, 1) := by decide +kernel
theorem dX6_knockAll_5 : decode cX6_knockAll 5 = .ok (.iload_n 1, 1) := by decide +kernel
theorem dX6_knockAll_6 : decode cX6_knockAll 6 = .ok (.if_icmp .ge 86, 3) := by decide +kernel
theorem dX6_knockAll_9 : decode cX6_knockAll 9 = .ok (.aload_n 0, 1) := by decide +kernel
theorem dX6_knockAll_10 : decode cX6_knockAll 10 = .ok (.getfield 9, 3) := by decide +kernel
theorem dX6_knockAll_13 : decode cX6_knockAll 13 = .ok (.iload_n 3, 1) := by decide +kernel
theorem dX6_knockAll_14 : decode cX6_knockAll 14 = .ok (.iconst 0, 1) := by decide +kernel
theorem dX6_knockAll_15 : decode cX6_knockAll 15 = .ok (.iastore, 1) := by decide +kernel
theorem dX6_knockAll_16 : decode cX6_knockAll 16 = .ok (.aload_n 0, 1) := by decide +kernel
theorem dX6_knockAll_17 : decode cX6_knockAll 17 = .ok (.getfield 15, 3) := by decide +kernel
theorem dX6_knockAll_20 : decode cX6_knockAll 20 = .ok (.iload_n 3, 1) := by decide +kernel
theorem dX6_knockAll_21 : decode cX6_knockAll 21 = .ok (.iaload, 1) := by decide +kernel
theorem dX6_knockAll_22 : decode cX6_knockAll 22 = .ok (.ifCond .eq 64, 3) := by decide +kernel
theorem dX6_knockAll_25 : decode cX6_knockAll 25 = .ok (.aload_n 0, 1) := by decide +kernel
theorem dX6_knockAll_26 : decode cX6_knockAll 26 = .ok (.getfield 9, 3) := by decide +kernel
theorem dX6_knockAll_29 : decode cX6_knockAll 29 = .ok (.iload_n 3, 1) := by decide +kernel
theorem dX6_knockAll_30 : decode cX6_knockAll 30 = .ok (.aload_n 0, 1) := by decide +kernel
theorem dX6_knockAll_31 : decode cX6_knockAll 31 = .ok (.getfield 15, 3) := by decide +kernel
theorem dX6_knockAll_34 : decode cX6_knockAll 34 = .ok (.iload_n 3, 1) := by decide +kernel
theorem dX6_knockAll_35 : decode cX6_knockAll 35 = .ok (.iaload, 1) := by decide +kernel
theorem dX6_knockAll_36 : decode cX6_knockAll 36 = .ok (.aload_n 0, 1) := by decide +kernel
theorem dX6_knockAll_37 : decode cX6_knockAll 37 = .ok (.iload_n 3, 1) := by decide +kernel
theorem dX6_knockAll_38 : decode cX6_knockAll 38 = .ok (.invokevirtual 78, 3) := by decide +kernel
theorem dX6_knockAll_41 : decode cX6_knockAll 41 = .ok (.invokestatic 81, 3) := by decide +kernel
theorem dX6_knockAll_44 : decode cX6_knockAll 44 = .ok (.aload_n 0, 1) := by decide +kernel
theorem dX6_knockAll_45 : decode cX6_knockAll 45 = .ok (.getfield 18, 3) := by decide +kernel
theorem dX6_knockAll_48 : decode cX6_knockAll 48 = .ok (.iload_n 3, 1) := by decide +kernel
theorem dX6_knockAll_49 : decode cX6_knockAll 49 = .ok (.iaload, 1) := by decide +kernel
theorem dX6_knockAll_50 : decode cX6_knockAll 50 = .ok (.iconst (-1), 1) := by decide +kernel
theorem dX6_knockAll_51 : decode cX6_knockAll 51 = .ok (.ixor, 1) := by decide +kernel
theorem dX6_knockAll_52 : decode cX6_knockAll 52 = .ok (.iand, 1) := by decide +kernel
theorem dX6_knockAll_53 : decode cX6_knockAll 53 = .ok (.iastore, 1) := by decide +kernel
theorem dX6_knockAll_54 : decode cX6_knockAll 54 = .ok (.aload_n 0, 1) := by decide +kernel
theorem dX6_knockAll_55 : decode cX6_knockAll 55 = .ok (.getfield 18, 3) := by decide +kernel
theorem dX6_knockAll_58 : decode cX6_knockAll 58 = .ok (.iload_n 3, 1) := by decide +kernel
theorem dX6_knockAll_59 : decode cX6_knockAll 59 = .ok (.dup2, 1) := by decide +kernel
theorem dX6_knockAll_60 : decode cX6_knockAll 60 = .ok (.iaload, 1) := by decide +kernel
theorem dX6_knockAll_61 : decode cX6_knockAll 61 = .ok (.aload_n 0, 1) := by decide +kernel
theorem dX6_knockAll_62 : decode cX6_knockAll 62 = .ok (.getfield 9, 3) := by decide +kernel
theorem dX6_knockAll_65 : decode cX6_knockAll 65 = .ok (.iload_n 3, 1) := by decide +kernel
theorem dX6_knockAll_66 : decode cX6_knockAll 66 = .ok (.iaload, 1) := by decide +kernel
theorem dX6_knockAll_67 : decode cX6_knockAll 67 = .ok (.ior, 1) := by decide +kernel
theorem dX6_knockAll_68 : decode cX6_knockAll 68 = .ok (.iastore, 1) := by decide +kernel
theorem dX6_knockAll_69 : decode cX6_knockAll 69 = .ok (.iload_n 2, 1) := by decide +kernel
theorem dX6_knockAll_70 : decode cX6_knockAll 70 = .ok (.aload_n 0, 1) := by decide +kernel
theorem dX6_knockAll_71 : decode cX6_knockAll 71 = .ok (.getfield 9, 3) := by decide +kernel
theorem dX6_knockAll_74 : decode cX6_knockAll 74 = .ok (.iload_n 3, 1) := by decide +kernel
theorem dX6_knockAll_75 : decode cX6_knockAll 75 = .ok (.iaload, 1) := by decide +kernel
theorem dX6_knockAll_76 : decode cX6_knockAll 76 = .ok (.ifCond .eq 7, 3) := by decide +kernel
theorem dX6_knockAll_79 : decode cX6_knockAll 79 = .ok (.iconst 1, 1) := by decide +kernel
theorem dX6_knockAll_80 : decode cX6_knockAll 80 = .ok (.goto 4, 3) := by decide +kernel
theorem dX6_knockAll_83 : decode cX6_knockAll 83 = .ok (.iconst 0, 1) := by decide +kernel
theorem dX6_knockAll_84 : decode cX6_knockAll 84 = .ok (.ior, 1) := by decide +kernel
theorem dX6_knockAll_85 : decode cX6_knockAll 85 = .ok (.istore_n 2, 1) := by decide +kernel
theorem dX6_knockAll_86 : decode cX6_knockAll 86 = .ok (.iinc 3 1, 3) := by decide +kernel
theorem dX6_knockAll_89 : decode cX6_knockAll 89 = .ok (.goto (-85), 3) := by decide +kernel
theorem dX6_knockAll_92 : decode cX6_knockAll 92 = .ok (.iload_n 2, 1) := by decide +kernel
theorem dX6_knockAll_93 : decode cX6_knockAll 93 = .ok (.ireturn, 1) := by decide +kernel
theorem dX6_doorsAt_0 : decode cX6_doorsAt 0 = .ok (.iconst 0, 1) := by decide +kernel
theorem dX6_doorsAt_1 : decode cX6_doorsAt 1 = .ok (.istore_n 2, 1) := by decide +kernel
theorem dX6_doorsAt_2 : decode cX6_doorsAt 2 = .ok (.iconst 0, 1) := by decide +kernel
theorem dX6_doorsAt_3 : decode cX6_doorsAt 3 = .ok (.istore_n 3, 1) := by decide +kernel
theorem dX6_doorsAt_4 : decode cX6_doorsAt 4 = .ok (.iload_n 3, 1) := by decide +kernel
theorem dX6_doorsAt_5 : decode cX6_doorsAt 5 = .ok (.iconst 5, 1) := by decide +kernel
theorem dX6_doorsAt_6 : decode cX6_doorsAt 6 = .ok (.if_icmp .ge 42, 3) := by decide +kernel
theorem dX6_doorsAt_9 : decode cX6_doorsAt 9 = .ok (.aload_n 0, 1) := by decide +kernel
theorem dX6_doorsAt_10 : decode cX6_doorsAt 10 = .ok (.getfield 21, 3) := by decide +kernel
theorem dX6_doorsAt_13 : decode cX6_doorsAt 13 = .ok (.iload_n 3, 1) := by decide +kernel
theorem dX6_doorsAt_14 : decode cX6_doorsAt 14 = .ok (.invokestatic 70, 3) := by decide +kernel
theorem dX6_doorsAt_17 : decode cX6_doorsAt 17 = .ok (.ifCond .eq 25, 3) := by decide +kernel
theorem dX6_doorsAt_20 : decode cX6_doorsAt 20 = .ok (.iload_n 1, 1) := by decide +kernel
theorem dX6_doorsAt_21 : decode cX6_doorsAt 21 = .ok (.iload_n 3, 1) := by decide +kernel
theorem dX6_doorsAt_22 : decode cX6_doorsAt 22 = .ok (.invokestatic 84, 3) := by decide +kernel
theorem dX6_doorsAt_25 : decode cX6_doorsAt 25 = .ok (.aload_n 0, 1) := by decide +kernel
theorem dX6_doorsAt_26 : decode cX6_doorsAt 26 = .ok (.getfield 25, 3) := by decide +kernel
theorem dX6_doorsAt_29 : decode cX6_doorsAt 29 = .ok (.iload_n 3, 1) := by decide +kernel
theorem dX6_doorsAt_30 : decode cX6_doorsAt 30 = .ok (.invokestatic 84, 3) := by decide +kernel
theorem dX6_doorsAt_33 : decode cX6_doorsAt 33 = .ok (.if_icmp .ne 9, 3) := by decide +kernel
theorem dX6_doorsAt_36 : decode cX6_doorsAt 36 = .ok (.iload_n 2, 1) := by decide +kernel
theorem dX6_doorsAt_37 : decode cX6_doorsAt 37 = .ok (.iconst 1, 1) := by decide +kernel
theorem dX6_doorsAt_38 : decode cX6_doorsAt 38 = .ok (.iload_n 3, 1) := by decide +kernel
theorem dX6_doorsAt_39 : decode cX6_doorsAt 39 = .ok (.ishl, 1) := by decide +kernel
theorem dX6_doorsAt_40 : decode cX6_doorsAt 40 = .ok (.ior, 1) := by decide +kernel
theorem dX6_doorsAt_41 : decode cX6_doorsAt 41 = .ok (.istore_n 2, 1) := by decide +kernel
theorem dX6_doorsAt_42 : decode cX6_doorsAt 42 = .ok (.iinc 3 1, 3) := by decide +kernel
theorem dX6_doorsAt_45 : decode cX6_doorsAt 45 = .ok (.goto (-41), 3) := by decide +kernel
theorem dX6_doorsAt_48 : decode cX6_doorsAt 48 = .ok (.iload_n 2, 1) := by decide +kernel
theorem dX6_doorsAt_49 : decode cX6_doorsAt 49 = .ok (.ireturn, 1) := by decide +kernel
theorem dX6_withDoors_0 : decode cX6_withDoors 0 = .ok (.iconst 0, 1) := by decide +kernel
theorem dX6_withDoors_1 : decode cX6_withDoors 1 = .ok (.istore_n 2, 1) := by decide +kernel
theorem dX6_withDoors_2 : decode cX6_withDoors 2 = .ok (.iload_n 0, 1) := by decide +kernel
theorem dX6_withDoors_3 : decode cX6_withDoors 3 = .ok (.istore_n 3, 1) := by decide +kernel
theorem dX6_withDoors_4 : decode cX6_withDoors 4 = .ok (.iconst 0, 1) := by decide +kernel
theorem dX6_withDoors_5 : decode cX6_withDoors 5 = .ok (.istore 4, 2) := by decide +kernel
theorem dX6_withDoors_7 : decode cX6_withDoors 7 = .ok (.iload 4, 2) := by decide +kernel
theorem dX6_withDoors_9 : decode cX6_withDoors 9 = .ok (.bipush 32, 2) := by decide +kernel
theorem dX6_withDoors_11 : decode cX6_withDoors 11 = .ok (.if_icmp .ge 30, 3) := by decide +kernel
theorem dX6_withDoors_14 : decode cX6_withDoors 14 = .ok (.iload_n 3, 1) := by decide +kernel
theorem dX6_withDoors_15 : decode cX6_withDoors 15 = .ok (.ifCond .eq 26, 3) := by decide +kernel
theorem dX6_withDoors_18 : decode cX6_withDoors 18 = .ok (.iload_n 2, 1) := by decide +kernel
theorem dX6_withDoors_19 : decode cX6_withDoors 19 = .ok (.iconst 1, 1) := by decide +kernel
theorem dX6_withDoors_20 : decode cX6_withDoors 20 = .ok (.iload_n 3, 1) := by decide +kernel
theorem dX6_withDoors_21 : decode cX6_withDoors 21 = .ok (.invokestatic 87, 3) := by decide +kernel
theorem dX6_withDoors_24 : decode cX6_withDoors 24 = .ok (.iload_n 1, 1) := by decide +kernel
theorem dX6_withDoors_25 : decode cX6_withDoors 25 = .ok (.ior, 1) := by decide +kernel
theorem dX6_withDoors_26 : decode cX6_withDoors 26 = .ok (.ishl, 1) := by decide +kernel
theorem dX6_withDoors_27 : decode cX6_withDoors 27 = .ok (.ior, 1) := by decide +kernel
theorem dX6_withDoors_28 : decode cX6_withDoors 28 = .ok (.istore_n 2, 1) := by decide +kernel
theorem dX6_withDoors_29 : decode cX6_withDoors 29 = .ok (.iload_n 3, 1) := by decide +kernel
theorem dX6_withDoors_30 : decode cX6_withDoors 30 = .ok (.iload_n 3, 1) := by decide +kernel
theorem dX6_withDoors_31 : decode cX6_withDoors 31 = .ok (.iconst 1, 1) := by decide +kernel
theorem dX6_withDoors_32 : decode cX6_withDoors 32 = .ok (.isub, 1) := by decide +kernel
theorem dX6_withDoors_33 : decode cX6_withDoors 33 = .ok (.iand, 1) := by decide +kernel
theorem dX6_withDoors_34 : decode cX6_withDoors 34 = .ok (.istore_n 3, 1) := by decide +kernel
theorem dX6_withDoors_35 : decode cX6_withDoors 35 = .ok (.iinc 4 1, 3) := by decide +kernel
theorem dX6_withDoors_38 : decode cX6_withDoors 38 = .ok (.goto (-31), 3) := by decide +kernel
theorem dX6_withDoors_41 : decode cX6_withDoors 41 = .ok (.iload_n 2, 1) := by decide +kernel
theorem dX6_withDoors_42 : decode cX6_withDoors 42 = .ok (.ireturn, 1) := by decide +kernel
theorem dX7_init_0 : decode cX7_init 0 = .ok (.aload_n 0, 1) := by decide +kernel
theorem dX7_init_1 : decode cX7_init 1 = .ok (.invokespecial 3, 3) := by decide +kernel
theorem dX7_init_4 : decode cX7_init 4 = .ok (.aload_n 0, 1) := by decide +kernel
theorem dX7_init_5 : decode cX7_init 5 = .ok (.sipush 384, 3) := by decide +kernel
theorem dX7_init_8 : decode cX7_init 8 = .ok (.newarray .int, 2) := by decide +kernel
theorem dX7_init_10 : decode cX7_init 10 = .ok (.putfield 9, 3) := by decide +kernel
theorem dX7_init_13 : decode cX7_init 13 = .ok (.aload_n 0, 1) := by decide +kernel
theorem dX7_init_14 : decode cX7_init 14 = .ok (.bipush 96, 2) := by decide +kernel
theorem dX7_init_16 : decode cX7_init 16 = .ok (.newarray .int, 2) := by decide +kernel
theorem dX7_init_18 : decode cX7_init 18 = .ok (.putfield 15, 3) := by decide +kernel
theorem dX7_init_21 : decode cX7_init 21 = .ok (.return_, 1) := by decide +kernel
theorem dX7_tabulate_0 : decode cX7_tabulate 0 = .ok (.iconst 0, 1) := by decide +kernel
theorem dX7_tabulate_1 : decode cX7_tabulate 1 = .ok (.istore_n 3, 1) := by decide +kernel
theorem dX7_tabulate_2 : decode cX7_tabulate 2 = .ok (.iload_n 3, 1) := by decide +kernel
theorem dX7_tabulate_3 : decode cX7_tabulate 3 = .ok (.bipush 6, 2) := by decide +kernel
theorem dX7_tabulate_5 : decode cX7_tabulate 5 = .ok (.if_icmp .ge 45, 3) := by decide +kernel
theorem dX7_tabulate_8 : decode cX7_tabulate 8 = .ok (.iload_n 2, 1) := by decide +kernel
theorem dX7_tabulate_9 : decode cX7_tabulate 9 = .ok (.iload_n 3, 1) := by decide +kernel
theorem dX7_tabulate_10 : decode cX7_tabulate 10 = .ok (.invokestatic 18, 3) := by decide +kernel
theorem dX7_tabulate_13 : decode cX7_tabulate 13 = .ok (.ifCond .eq 31, 3) := by decide +kernel
theorem dX7_tabulate_16 : decode cX7_tabulate 16 = .ok (.aload_n 0, 1) := by decide +kernel
theorem dX7_tabulate_17 : decode cX7_tabulate 17 = .ok (.getfield 9, 3) := by decide +kernel
theorem dX7_tabulate_20 : decode cX7_tabulate 20 = .ok (.iload_n 3, 1) := by decide +kernel
theorem dX7_tabulate_21 : decode cX7_tabulate 21 = .ok (.bipush 64, 2) := by decide +kernel
theorem dX7_tabulate_23 : decode cX7_tabulate 23 = .ok (.imul, 1) := by decide +kernel
theorem dX7_tabulate_24 : decode cX7_tabulate 24 = .ok (.aload_n 1, 1) := by decide +kernel
theorem dX7_tabulate_25 : decode cX7_tabulate 25 = .ok (.iload_n 3, 1) := by decide +kernel
theorem dX7_tabulate_26 : decode cX7_tabulate 26 = .ok (.iconst 0, 1) := by decide +kernel
theorem dX7_tabulate_27 : decode cX7_tabulate 27 = .ok (.invokestatic 22, 3) := by decide +kernel
theorem dX7_tabulate_30 : decode cX7_tabulate 30 = .ok (.aload_n 0, 1) := by decide +kernel
theorem dX7_tabulate_31 : decode cX7_tabulate 31 = .ok (.getfield 15, 3) := by decide +kernel
theorem dX7_tabulate_34 : decode cX7_tabulate 34 = .ok (.iload_n 3, 1) := by decide +kernel
theorem dX7_tabulate_35 : decode cX7_tabulate 35 = .ok (.bipush 16, 2) := by decide +kernel
theorem dX7_tabulate_37 : decode cX7_tabulate 37 = .ok (.imul, 1) := by decide +kernel
theorem dX7_tabulate_38 : decode cX7_tabulate 38 = .ok (.aload_n 1, 1) := by decide +kernel
theorem dX7_tabulate_39 : decode cX7_tabulate 39 = .ok (.iload_n 3, 1) := by decide +kernel
theorem dX7_tabulate_40 : decode cX7_tabulate 40 = .ok (.iconst 3, 1) := by decide +kernel
theorem dX7_tabulate_41 : decode cX7_tabulate 41 = .ok (.invokestatic 22, 3) := by decide +kernel
theorem dX7_tabulate_44 : decode cX7_tabulate 44 = .ok (.iinc 3 1, 3) := by decide +kernel
theorem dX7_tabulate_47 : decode cX7_tabulate 47 = .ok (.goto (-45), 3) := by decide +kernel
theorem dX7_tabulate_50 : decode cX7_tabulate 50 = .ok (.return_, 1) := by decide +kernel
theorem dX7_looksBehind_0 : decode cX7_looksBehind 0 = .ok (.aload_n 0, 1) := by decide +kernel
theorem dX7_looksBehind_1 : decode cX7_looksBehind 1 = .ok (.iload_n 1, 1) := by decide +kernel
theorem dX7_looksBehind_2 : decode cX7_looksBehind 2 = .ok (.iload_n 2, 1) := by decide +kernel
theorem dX7_looksBehind_3 : decode cX7_looksBehind 3 = .ok (.invokevirtual 26, 3) := by decide +kernel
theorem dX7_looksBehind_6 : decode cX7_looksBehind 6 = .ok (.sipush 1023, 3) := by decide +kernel
theorem dX7_looksBehind_9 : decode cX7_looksBehind 9 = .ok (.iand, 1) := by decide +kernel
theorem dX7_looksBehind_10 : decode cX7_looksBehind 10 = .ok (.ireturn, 1) := by decide +kernel
theorem dX7_quartersOf_0 : decode cX7_quartersOf 0 = .ok (.aload_n 0, 1) := by decide +kernel
theorem dX7_quartersOf_1 : decode cX7_quartersOf 1 = .ok (.iload_n 1, 1) := by decide +kernel
theorem dX7_quartersOf_2 : decode cX7_quartersOf 2 = .ok (.iload_n 2, 1) := by decide +kernel
theorem dX7_quartersOf_3 : decode cX7_quartersOf 3 = .ok (.invokevirtual 26, 3) := by decide +kernel
theorem dX7_quartersOf_6 : decode cX7_quartersOf 6 = .ok (.sipush 1024, 3) := by decide +kernel
theorem dX7_quartersOf_9 : decode cX7_quartersOf 9 = .ok (.idiv, 1) := by decide +kernel
theorem dX7_quartersOf_10 : decode cX7_quartersOf 10 = .ok (.ireturn, 1) := by decide +kernel
theorem dX7_step_0 : decode cX7_step 0 = .ok (.aload_n 0, 1) := by decide +kernel
theorem dX7_step_1 : decode cX7_step 1 = .ok (.getfield 9, 3) := by decide +kernel
theorem dX7_step_4 : decode cX7_step 4 = .ok (.iload_n 1, 1) := by decide +kernel
theorem dX7_step_5 : decode cX7_step 5 = .ok (.bipush 64, 2) := by decide +kernel
theorem dX7_step_7 : decode cX7_step 7 = .ok (.imul, 1) := by decide +kernel
theorem dX7_step_8 : decode cX7_step 8 = .ok (.iload_n 2, 1) := by decide +kernel
theorem dX7_step_9 : decode cX7_step 9 = .ok (.bipush 64, 2) := by decide +kernel
theorem dX7_step_11 : decode cX7_step 11 = .ok (.irem, 1) := by decide +kernel
theorem dX7_step_12 : decode cX7_step 12 = .ok (.iadd, 1) := by decide +kernel
theorem dX7_step_13 : decode cX7_step 13 = .ok (.iaload, 1) := by decide +kernel
theorem dX7_step_14 : decode cX7_step 14 = .ok (.aload_n 0, 1) := by decide +kernel
theorem dX7_step_15 : decode cX7_step 15 = .ok (.getfield 15, 3) := by decide +kernel
theorem dX7_step_18 : decode cX7_step 18 = .ok (.iload_n 1, 1) := by decide +kernel
theorem dX7_step_19 : decode cX7_step 19 = .ok (.bipush 16, 2) := by decide +kernel
theorem dX7_step_21 : decode cX7_step 21 = .ok (.imul, 1) := by decide +kernel
theorem dX7_step_22 : decode cX7_step 22 = .ok (.iload_n 2, 1) := by decide +kernel
theorem dX7_step_23 : decode cX7_step 23 = .ok (.bipush 64, 2) := by decide +kernel
theorem dX7_step_25 : decode cX7_step 25 = .ok (.idiv, 1) := by decide +kernel
theorem dX7_step_26 : decode cX7_step 26 = .ok (.iadd, 1) := by decide +kernel
theorem dX7_step_27 : decode cX7_step 27 = .ok (.iaload, 1) := by decide +kernel
theorem dX7_step_28 : decode cX7_step 28 = .ok (.iadd, 1) := by decide +kernel
theorem dX7_step_29 : decode cX7_step 29 = .ok (.ireturn, 1) := by decide +kernel
theorem dX7_fill_0 : decode cX7_fill 0 = .ok (.aload_n 2, 1) := by decide +kernel
theorem dX7_fill_1 : decode cX7_fill 1 = .ok (.getfield 30, 3) := by decide +kernel
theorem dX7_fill_4 : decode cX7_fill 4 = .ok (.iload 4, 2) := by decide +kernel
theorem dX7_fill_6 : decode cX7_fill 6 = .ok (.ifCond .ne 7, 3) := by decide +kernel
theorem dX7_fill_9 : decode cX7_fill 9 = .ok (.iconst 3, 1) := by decide +kernel
theorem dX7_fill_10 : decode cX7_fill 10 = .ok (.goto 4, 3) := by decide +kernel
theorem dX7_fill_13 : decode cX7_fill 13 = .ok (.iconst 5, 1) := by decide +kernel
theorem dX7_fill_14 : decode cX7_fill 14 = .ok (.invokestatic 36, 3) := by decide +kernel
theorem dX7_fill_17 : decode cX7_fill 17 = .ok (.istore 5, 2) := by decide +kernel
theorem dX7_fill_19 : decode cX7_fill 19 = .ok (.iconst 1, 1) := by decide +kernel
theorem dX7_fill_20 : decode cX7_fill 20 = .ok (.istore 6, 2) := by decide +kernel
theorem dX7_fill_22 : decode cX7_fill 22 = .ok (.aload_n 0, 1) := by decide +kernel
theorem dX7_fill_23 : decode cX7_fill 23 = .ok (.iload_n 1, 1) := by decide +kernel
theorem dX7_fill_24 : decode cX7_fill 24 = .ok (.iconst 0, 1) := by decide +kernel
theorem dX7_fill_25 : decode cX7_fill 25 = .ok (.iastore, 1) := by decide +kernel
theorem dX7_fill_26 : decode cX7_fill 26 = .ok (.iload 4, 2) := by decide +kernel
theorem dX7_fill_28 : decode cX7_fill 28 = .ok (.istore 7, 2) := by decide +kernel
theorem dX7_fill_30 : decode cX7_fill 30 = .ok (.iload 7, 2) := by decide +kernel
theorem dX7_fill_32 : decode cX7_fill 32 = .ok (.iload 5, 2) := by decide +kernel
theorem dX7_fill_34 : decode cX7_fill 34 = .ok (.if_icmp .ge 101, 3) := by decide +kernel
theorem dX7_fill_37 : decode cX7_fill 37 = .ok (.iconst 3, 1) := by decide +kernel
theorem dX7_fill_38 : decode cX7_fill 38 = .ok (.istore 8, 2) := by decide +kernel
theorem dX7_fill_40 : decode cX7_fill 40 = .ok (.iload 8, 2) := by decide +kernel
theorem dX7_fill_42 : decode cX7_fill 42 = .ok (.ifCond .lt 81, 3) := by decide +kernel
theorem dX7_fill_45 : decode cX7_fill 45 = .ok (.aload_n 2, 1) := by decide +kernel
theorem dX7_fill_46 : decode cX7_fill 46 = .ok (.iload_n 3, 1) := by decide +kernel
theorem dX7_fill_47 : decode cX7_fill 47 = .ok (.iload 7, 2) := by decide +kernel
theorem dX7_fill_49 : decode cX7_fill 49 = .ok (.iload 8, 2) := by decide +kernel
theorem dX7_fill_51 : decode cX7_fill 51 = .ok (.invokevirtual 41, 3) := by decide +kernel
theorem dX7_fill_54 : decode cX7_fill 54 = .ok (.istore 9, 2) := by decide +kernel
theorem dX7_fill_56 : decode cX7_fill 56 = .ok (.aload_n 2, 1) := by decide +kernel
theorem dX7_fill_57 : decode cX7_fill 57 = .ok (.iload 7, 2) := by decide +kernel
theorem dX7_fill_59 : decode cX7_fill 59 = .ok (.iload 8, 2) := by decide +kernel
theorem dX7_fill_61 : decode cX7_fill 61 = .ok (.iload 9, 2) := by decide +kernel
theorem dX7_fill_63 : decode cX7_fill 63 = .ok (.invokevirtual 45, 3) := by decide +kernel
theorem dX7_fill_66 : decode cX7_fill 66 = .ok (.iconst 2, 1) := by decide +kernel
theorem dX7_fill_67 : decode cX7_fill 67 = .ok (.iload 7, 2) := by decide +kernel
theorem dX7_fill_69 : decode cX7_fill 69 = .ok (.imul, 1) := by decide +kernel
theorem dX7_fill_70 : decode cX7_fill 70 = .ok (.ishl, 1) := by decide +kernel
theorem dX7_fill_71 : decode cX7_fill 71 = .ok (.iload 9, 2) := by decide +kernel
theorem dX7_fill_73 : decode cX7_fill 73 = .ok (.sipush 1024, 3) := by decide +kernel
theorem dX7_fill_76 : decode cX7_fill 76 = .ok (.imul, 1) := by decide +kernel
theorem dX7_fill_77 : decode cX7_fill 77 = .ok (.iadd, 1) := by decide +kernel
theorem dX7_fill_78 : decode cX7_fill 78 = .ok (.istore 10, 2) := by decide +kernel
theorem dX7_fill_80 : decode cX7_fill 80 = .ok (.iconst 0, 1) := by decide +kernel
theorem dX7_fill_81 : decode cX7_fill 81 = .ok (.istore 11, 2) := by decide +kernel
theorem dX7_fill_83 : decode cX7_fill 83 = .ok (.iload 11, 2) := by decide +kernel
theorem dX7_fill_85 : decode cX7_fill 85 = .ok (.iload 6, 2) := by decide +kernel
theorem dX7_fill_87 : decode cX7_fill 87 = .ok (.if_icmp .ge 30, 3) := by decide +kernel
theorem dX7_fill_90 : decode cX7_fill 90 = .ok (.aload_n 0, 1) := by decide +kernel
theorem dX7_fill_91 : decode cX7_fill 91 = .ok (.iload_n 1, 1) := by decide +kernel
theorem dX7_fill_92 : decode cX7_fill 92 = .ok (.iload 8, 2) := by decide +kernel
theorem dX7_fill_94 : decode cX7_fill 94 = .ok (.iload 6, 2) := by decide +kernel
theorem dX7_fill_96 : decode cX7_fill 96 = .ok (.imul, 1) := by decide +kernel
theorem dX7_fill_97 : decode cX7_fill 97 = .ok (.iadd, 1) := by decide +kernel
theorem dX7_fill_98 : decode cX7_fill 98 = .ok (.iload 11, 2) := by decide +kernel
theorem dX7_fill_100 : decode cX7_fill 100 = .ok (.iadd, 1) := by decide +kernel
theorem dX7_fill_101 : decode cX7_fill 101 = .ok (.aload_n 0, 1) := by decide +kernel
theorem dX7_fill_102 : decode cX7_fill 102 = .ok (.iload_n 1, 1) := by decide +kernel
theorem dX7_fill_103 : decode cX7_fill 103 = .ok (.iload 11, 2) := by decide +kernel
theorem dX7_fill_105 : decode cX7_fill 105 = .ok (.iadd, 1) := by decide +kernel
theorem dX7_fill_106 : decode cX7_fill 106 = .ok (.iaload, 1) := by decide +kernel
theorem dX7_fill_107 : decode cX7_fill 107 = .ok (.iload 10, 2) := by decide +kernel
theorem dX7_fill_109 : decode cX7_fill 109 = .ok (.iadd, 1) := by decide +kernel
theorem dX7_fill_110 : decode cX7_fill 110 = .ok (.iastore, 1) := by decide +kernel
theorem dX7_fill_111 : decode cX7_fill 111 = .ok (.iinc 11 1, 3) := by decide +kernel
theorem dX7_fill_114 : decode cX7_fill 114 = .ok (.goto (-31), 3) := by decide +kernel
theorem dX7_fill_117 : decode cX7_fill 117 = .ok (.iinc 8 (-1), 3) := by decide +kernel
theorem dX7_fill_120 : decode cX7_fill 120 = .ok (.goto (-80), 3) := by decide +kernel
theorem dX7_fill_123 : decode cX7_fill 123 = .ok (.iload 6, 2) := by decide +kernel
theorem dX7_fill_125 : decode cX7_fill 125 = .ok (.iconst 4, 1) := by decide +kernel
theorem dX7_fill_126 : decode cX7_fill 126 = .ok (.imul, 1) := by decide +kernel
theorem dX7_fill_127 : decode cX7_fill 127 = .ok (.istore 6, 2) := by decide +kernel
theorem dX7_fill_129 : decode cX7_fill 129 = .ok (.iinc 7 1, 3) := by decide +kernel
theorem dX7_fill_132 : decode cX7_fill 132 = .ok (.goto (-102), 3) := by decide +kernel
theorem dX7_fill_135 : decode cX7_fill 135 = .ok (.return_, 1) := by decide +kernel
theorem dX8_init_0 : decode cX8_init 0 = .ok (.aload_n 0, 1) := by decide +kernel
theorem dX8_init_1 : decode cX8_init 1 = .ok (.invokespecial 3, 3) := by decide +kernel
theorem dX8_init_4 : decode cX8_init 4 = .ok (.aload_n 0, 1) := by decide +kernel
theorem dX8_init_5 : decode cX8_init 5 = .ok (.iconst 5, 1) := by decide +kernel
theorem dX8_init_6 : decode cX8_init 6 = .ok (.newarray .int, 2) := by decide +kernel
theorem dX8_init_8 : decode cX8_init 8 = .ok (.putfield 9, 3) := by decide +kernel
theorem dX8_init_11 : decode cX8_init 11 = .ok (.return_, 1) := by decide +kernel
theorem dX8_follow_0 : decode cX8_follow 0 = .ok (.aload_n 0, 1) := by decide +kernel
theorem dX8_follow_1 : decode cX8_follow 1 = .ok (.iconst 1, 1) := by decide +kernel
theorem dX8_follow_2 : decode cX8_follow 2 = .ok (.putfield 15, 3) := by decide +kernel
theorem dX8_follow_5 : decode cX8_follow 5 = .ok (.aload_n 0, 1) := by decide +kernel
theorem dX8_follow_6 : decode cX8_follow 6 = .ok (.iconst 0, 1) := by decide +kernel
theorem dX8_follow_7 : decode cX8_follow 7 = .ok (.putfield 19, 3) := by decide +kernel
theorem dX8_follow_10 : decode cX8_follow 10 = .ok (.iconst 0, 1) := by decide +kernel
theorem dX8_follow_11 : decode cX8_follow 11 = .ok (.istore_n 3, 1) := by decide +kernel
theorem dX8_follow_12 : decode cX8_follow 12 = .ok (.iload_n 3, 1) := by decide +kernel
theorem dX8_follow_13 : decode cX8_follow 13 = .ok (.aload_n 1, 1) := by decide +kernel
theorem dX8_follow_14 : decode cX8_follow 14 = .ok (.getfield 22, 3) := by decide +kernel
theorem dX8_follow_17 : decode cX8_follow 17 = .ok (.if_icmp .ge 97, 3) := by decide +kernel
theorem dX8_follow_20 : decode cX8_follow 20 = .ok (.aload_n 0, 1) := by decide +kernel
theorem dX8_follow_21 : decode cX8_follow 21 = .ok (.getfield 9, 3) := by decide +kernel
theorem dX8_follow_24 : decode cX8_follow 24 = .ok (.iload_n 3, 1) := by decide +kernel
theorem dX8_follow_25 : decode cX8_follow 25 = .ok (.iconst 0, 1) := by decide +kernel
theorem dX8_follow_26 : decode cX8_follow 26 = .ok (.iastore, 1) := by decide +kernel
theorem dX8_follow_27 : decode cX8_follow 27 = .ok (.iconst 0, 1) := by decide +kernel
theorem dX8_follow_28 : decode cX8_follow 28 = .ok (.istore 4, 2) := by decide +kernel
theorem dX8_follow_30 : decode cX8_follow 30 = .ok (.iload 4, 2) := by decide +kernel
theorem dX8_follow_32 : decode cX8_follow 32 = .ok (.iconst 4, 1) := by decide +kernel
theorem dX8_follow_33 : decode cX8_follow 33 = .ok (.if_icmp .ge 33, 3) := by decide +kernel
theorem dX8_follow_36 : decode cX8_follow 36 = .ok (.aload_n 1, 1) := by decide +kernel
theorem dX8_follow_37 : decode cX8_follow 37 = .ok (.aload_n 2, 1) := by decide +kernel
theorem dX8_follow_38 : decode cX8_follow 38 = .ok (.iload_n 3, 1) := by decide +kernel
theorem dX8_follow_39 : decode cX8_follow 39 = .ok (.iload 4, 2) := by decide +kernel
theorem dX8_follow_41 : decode cX8_follow 41 = .ok (.invokestatic 27, 3) := by decide +kernel
theorem dX8_follow_44 : decode cX8_follow 44 = .ok (.ifCond .eq 16, 3) := by decide +kernel
theorem dX8_follow_47 : decode cX8_follow 47 = .ok (.aload_n 0, 1) := by decide +kernel
theorem dX8_follow_48 : decode cX8_follow 48 = .ok (.getfield 9, 3) := by decide +kernel
theorem dX8_follow_51 : decode cX8_follow 51 = .ok (.iload_n 3, 1) := by decide +kernel
theorem dX8_follow_52 : decode cX8_follow 52 = .ok (.dup2, 1) := by decide +kernel
theorem dX8_follow_53 : decode cX8_follow 53 = .ok (.iaload, 1) := by decide +kernel
theorem dX8_follow_54 : decode cX8_follow 54 = .ok (.iconst 1, 1) := by decide +kernel
theorem dX8_follow_55 : decode cX8_follow 55 = .ok (.iload 4, 2) := by decide +kernel
theorem dX8_follow_57 : decode cX8_follow 57 = .ok (.ishl, 1) := by decide +kernel
theorem dX8_follow_58 : decode cX8_follow 58 = .ok (.ior, 1) := by decide +kernel
theorem dX8_follow_59 : decode cX8_follow 59 = .ok (.iastore, 1) := by decide +kernel
theorem dX8_follow_60 : decode cX8_follow 60 = .ok (.iinc 4 1, 3) := by decide +kernel
theorem dX8_follow_63 : decode cX8_follow 63 = .ok (.goto (-33), 3) := by decide +kernel
theorem dX8_follow_66 : decode cX8_follow 66 = .ok (.aload_n 0, 1) := by decide +kernel
theorem dX8_follow_67 : decode cX8_follow 67 = .ok (.dup, 1) := by decide +kernel
theorem dX8_follow_68 : decode cX8_follow 68 = .ok (.getfield 15, 3) := by decide +kernel
theorem dX8_follow_71 : decode cX8_follow 71 = .ok (.aload_n 0, 1) := by decide +kernel
theorem dX8_follow_72 : decode cX8_follow 72 = .ok (.getfield 9, 3) := by decide +kernel
theorem dX8_follow_75 : decode cX8_follow 75 = .ok (.iload_n 3, 1) := by decide +kernel
theorem dX8_follow_76 : decode cX8_follow 76 = .ok (.iaload, 1) := by decide +kernel
theorem dX8_follow_77 : decode cX8_follow 77 = .ok (.invokestatic 31, 3) := by decide +kernel
theorem dX8_follow_80 : decode cX8_follow 80 = .ok (.imul, 1) := by decide +kernel
theorem dX8_follow_81 : decode cX8_follow 81 = .ok (.putfield 15, 3) := by decide +kernel
theorem dX8_follow_84 : decode cX8_follow 84 = .ok (.aload_n 0, 1) := by decide +kernel
theorem dX8_follow_85 : decode cX8_follow 85 = .ok (.dup, 1) := by decide +kernel
theorem dX8_follow_86 : decode cX8_follow 86 = .ok (.getfield 19, 3) := by decide +kernel
theorem dX8_follow_89 : decode cX8_follow 89 = .ok (.aload_n 0, 1) := by decide +kernel
theorem dX8_follow_90 : decode cX8_follow 90 = .ok (.getfield 9, 3) := by decide +kernel
theorem dX8_follow_93 : decode cX8_follow 93 = .ok (.iload_n 3, 1) := by decide +kernel
theorem dX8_follow_94 : decode cX8_follow 94 = .ok (.iaload, 1) := by decide +kernel
theorem dX8_follow_95 : decode cX8_follow 95 = .ok (.invokestatic 37, 3) := by decide +kernel
theorem dX8_follow_98 : decode cX8_follow 98 = .ok (.iconst 3, 1) := by decide +kernel
theorem dX8_follow_99 : decode cX8_follow 99 = .ok (.iand, 1) := by decide +kernel
theorem dX8_follow_100 : decode cX8_follow 100 = .ok (.iconst 2, 1) := by decide +kernel
theorem dX8_follow_101 : decode cX8_follow 101 = .ok (.iload_n 3, 1) := by decide +kernel
theorem dX8_follow_102 : decode cX8_follow 102 = .ok (.imul, 1) := by decide +kernel
theorem dX8_follow_103 : decode cX8_follow 103 = .ok (.ishl, 1) := by decide +kernel
theorem dX8_follow_104 : decode cX8_follow 104 = .ok (.ior, 1) := by decide +kernel
theorem dX8_follow_105 : decode cX8_follow 105 = .ok (.putfield 19, 3) := by decide +kernel
theorem dX8_follow_108 : decode cX8_follow 108 = .ok (.iinc 3 1, 3) := by decide +kernel
theorem dX8_follow_111 : decode cX8_follow 111 = .ok (.goto (-99), 3) := by decide +kernel
theorem dX8_follow_114 : decode cX8_follow 114 = .ok (.aload_n 0, 1) := by decide +kernel
theorem dX8_follow_115 : decode cX8_follow 115 = .ok (.getfield 15, 3) := by decide +kernel
theorem dX8_follow_118 : decode cX8_follow 118 = .ok (.ifCond .ne 9, 3) := by decide +kernel
theorem dX8_follow_121 : decode cX8_follow 121 = .ok (.aload_n 0, 1) := by decide +kernel
theorem dX8_follow_122 : decode cX8_follow 122 = .ok (.bipush (-6), 2) := by decide +kernel
theorem dX8_follow_124 : decode cX8_follow 124 = .ok (.putfield 19, 3) := by decide +kernel
theorem dX8_follow_127 : decode cX8_follow 127 = .ok (.return_, 1) := by decide +kernel
theorem dX8_fits_0 : decode cX8_fits 0 = .ok (.iload_n 3, 1) := by decide +kernel
theorem dX8_fits_1 : decode cX8_fits 1 = .ok (.istore 4, 2) := by decide +kernel
theorem dX8_fits_3 : decode cX8_fits 3 = .ok (.aload_n 0, 1) := by decide +kernel
theorem dX8_fits_4 : decode cX8_fits 4 = .ok (.getfield 40, 3) := by decide +kernel
theorem dX8_fits_7 : decode cX8_fits 7 = .ok (.iload_n 2, 1) := by decide +kernel
theorem dX8_fits_8 : decode cX8_fits 8 = .ok (.iaload, 1) := by decide +kernel
theorem dX8_fits_9 : decode cX8_fits 9 = .ok (.istore 5, 2) := by decide +kernel
theorem dX8_fits_11 : decode cX8_fits 11 = .ok (.iconst 0, 1) := by decide +kernel
theorem dX8_fits_12 : decode cX8_fits 12 = .ok (.istore 6, 2) := by decide +kernel
theorem dX8_fits_14 : decode cX8_fits 14 = .ok (.aload_n 0, 1) := by decide +kernel
theorem dX8_fits_15 : decode cX8_fits 15 = .ok (.iload_n 2, 1) := by decide +kernel
theorem dX8_fits_16 : decode cX8_fits 16 = .ok (.iload 6, 2) := by decide +kernel
theorem dX8_fits_18 : decode cX8_fits 18 = .ok (.iload 4, 2) := by decide +kernel
theorem dX8_fits_20 : decode cX8_fits 20 = .ok (.invokestatic 43, 3) := by decide +kernel
theorem dX8_fits_23 : decode cX8_fits 23 = .ok (.istore 7, 2) := by decide +kernel
theorem dX8_fits_25 : decode cX8_fits 25 = .ok (.iconst 0, 1) := by decide +kernel
theorem dX8_fits_26 : decode cX8_fits 26 = .ok (.istore 8, 2) := by decide +kernel
theorem dX8_fits_28 : decode cX8_fits 28 = .ok (.iload 8, 2) := by decide +kernel
theorem dX8_fits_30 : decode cX8_fits 30 = .ok (.aload_n 1, 1) := by decide +kernel
theorem dX8_fits_31 : decode cX8_fits 31 = .ok (.getfield 47, 3) := by decide +kernel
theorem dX8_fits_34 : decode cX8_fits 34 = .ok (.if_icmp .ge 138, 3) := by decide +kernel
theorem dX8_fits_37 : decode cX8_fits 37 = .ok (.iload 7, 2) := by decide +kernel
theorem dX8_fits_39 : decode cX8_fits 39 = .ok (.ifCond .eq 133, 3) := by decide +kernel
theorem dX8_fits_42 : decode cX8_fits 42 = .ok (.aload_n 1, 1) := by decide +kernel
theorem dX8_fits_43 : decode cX8_fits 43 = .ok (.getfield 52, 3) := by decide +kernel
theorem dX8_fits_46 : decode cX8_fits 46 = .ok (.iload 8, 2) := by decide +kernel
theorem dX8_fits_48 : decode cX8_fits 48 = .ok (.iaload, 1) := by decide +kernel
theorem dX8_fits_49 : decode cX8_fits 49 = .ok (.istore 9, 2) := by decide +kernel
theorem dX8_fits_51 : decode cX8_fits 51 = .ok (.iload 9, 2) := by decide +kernel
theorem dX8_fits_53 : decode cX8_fits 53 = .ok (.invokestatic 55, 3) := by decide +kernel
theorem dX8_fits_56 : decode cX8_fits 56 = .ok (.ifCond .eq 9, 3) := by decide +kernel
theorem dX8_fits_59 : decode cX8_fits 59 = .ok (.iinc 8 1, 3) := by decide +kernel
theorem dX8_fits_62 : decode cX8_fits 62 = .ok (.goto 90, 3) := by decide +kernel
theorem dX8_fits_65 : decode cX8_fits 65 = .ok (.iload 9, 2) := by decide +kernel
theorem dX8_fits_67 : decode cX8_fits 67 = .ok (.bipush 42, 2) := by decide +kernel
theorem dX8_fits_69 : decode cX8_fits 69 = .ok (.if_icmp .ne 14, 3) := by decide +kernel
theorem dX8_fits_72 : decode cX8_fits 72 = .ok (.iload 4, 2) := by decide +kernel
theorem dX8_fits_74 : decode cX8_fits 74 = .ok (.iconst 2, 1) := by decide +kernel
theorem dX8_fits_75 : decode cX8_fits 75 = .ok (.iadd, 1) := by decide +kernel
theorem dX8_fits_76 : decode cX8_fits 76 = .ok (.iconst 3, 1) := by decide +kernel
theorem dX8_fits_77 : decode cX8_fits 77 = .ok (.iand, 1) := by decide +kernel
theorem dX8_fits_78 : decode cX8_fits 78 = .ok (.istore 4, 2) := by decide +kernel
theorem dX8_fits_80 : decode cX8_fits 80 = .ok (.goto 72, 3) := by decide +kernel
theorem dX8_fits_83 : decode cX8_fits 83 = .ok (.iload 9, 2) := by decide +kernel
theorem dX8_fits_85 : decode cX8_fits 85 = .ok (.bipush 46, 2) := by decide +kernel
theorem dX8_fits_87 : decode cX8_fits 87 = .ok (.if_icmp .ne 14, 3) := by decide +kernel
theorem dX8_fits_90 : decode cX8_fits 90 = .ok (.aload_n 0, 1) := by decide +kernel
theorem dX8_fits_91 : decode cX8_fits 91 = .ok (.getfield 59, 3) := by decide +kernel
theorem dX8_fits_94 : decode cX8_fits 94 = .ok (.iload_n 2, 1) := by decide +kernel
theorem dX8_fits_95 : decode cX8_fits 95 = .ok (.iaload, 1) := by decide +kernel
theorem dX8_fits_96 : decode cX8_fits 96 = .ok (.istore 5, 2) := by decide +kernel
theorem dX8_fits_98 : decode cX8_fits 98 = .ok (.goto 54, 3) := by decide +kernel
theorem dX8_fits_101 : decode cX8_fits 101 = .ok (.aload_n 0, 1) := by decide +kernel
theorem dX8_fits_102 : decode cX8_fits 102 = .ok (.iload 9, 2) := by decide +kernel
theorem dX8_fits_104 : decode cX8_fits 104 = .ok (.bipush 97, 2) := by decide +kernel
theorem dX8_fits_106 : decode cX8_fits 106 = .ok (.isub, 1) := by decide +kernel
theorem dX8_fits_107 : decode cX8_fits 107 = .ok (.invokevirtual 62, 3) := by decide +kernel
theorem dX8_fits_110 : decode cX8_fits 110 = .ok (.ifCond .eq 42, 3) := by decide +kernel
theorem dX8_fits_113 : decode cX8_fits 113 = .ok (.aload_n 0, 1) := by decide +kernel
theorem dX8_fits_114 : decode cX8_fits 114 = .ok (.iload 9, 2) := by decide +kernel
theorem dX8_fits_116 : decode cX8_fits 116 = .ok (.bipush 97, 2) := by decide +kernel
theorem dX8_fits_118 : decode cX8_fits 118 = .ok (.isub, 1) := by decide +kernel
theorem dX8_fits_119 : decode cX8_fits 119 = .ok (.iload_n 2, 1) := by decide +kernel
theorem dX8_fits_120 : decode cX8_fits 120 = .ok (.iload 4, 2) := by decide +kernel
theorem dX8_fits_122 : decode cX8_fits 122 = .ok (.invokevirtual 65, 3) := by decide +kernel
theorem dX8_fits_125 : decode cX8_fits 125 = .ok (.istore 10, 2) := by decide +kernel
theorem dX8_fits_127 : decode cX8_fits 127 = .ok (.iload 10, 2) := by decide +kernel
theorem dX8_fits_129 : decode cX8_fits 129 = .ok (.iload 5, 2) := by decide +kernel
theorem dX8_fits_131 : decode cX8_fits 131 = .ok (.if_icmp .gt 21, 3) := by decide +kernel
theorem dX8_fits_134 : decode cX8_fits 134 = .ok (.aload_n 0, 1) := by decide +kernel
theorem dX8_fits_135 : decode cX8_fits 135 = .ok (.iload_n 2, 1) := by decide +kernel
theorem dX8_fits_136 : decode cX8_fits 136 = .ok (.iload 4, 2) := by decide +kernel
theorem dX8_fits_138 : decode cX8_fits 138 = .ok (.iload 10, 2) := by decide +kernel
theorem dX8_fits_140 : decode cX8_fits 140 = .ok (.invokevirtual 69, 3) := by decide +kernel
theorem dX8_fits_143 : decode cX8_fits 143 = .ok (.istore 4, 2) := by decide +kernel
theorem dX8_fits_145 : decode cX8_fits 145 = .ok (.iload 5, 2) := by decide +kernel
theorem dX8_fits_147 : decode cX8_fits 147 = .ok (.iload 10, 2) := by decide +kernel
theorem dX8_fits_149 : decode cX8_fits 149 = .ok (.isub, 1) := by decide +kernel
theorem dX8_fits_150 : decode cX8_fits 150 = .ok (.istore 5, 2) := by decide +kernel
theorem dX8_fits_152 : decode cX8_fits 152 = .ok (.iinc 6 1, 3) := by decide +kernel
theorem dX8_fits_155 : decode cX8_fits 155 = .ok (.aload_n 0, 1) := by decide +kernel
theorem dX8_fits_156 : decode cX8_fits 156 = .ok (.iload_n 2, 1) := by decide +kernel
theorem dX8_fits_157 : decode cX8_fits 157 = .ok (.iload 6, 2) := by decide +kernel
theorem dX8_fits_159 : decode cX8_fits 159 = .ok (.iload 4, 2) := by decide +kernel
theorem dX8_fits_161 : decode cX8_fits 161 = .ok (.invokestatic 43, 3) := by decide +kernel
theorem dX8_fits_164 : decode cX8_fits 164 = .ok (.istore 7, 2) := by decide +kernel
theorem dX8_fits_166 : decode cX8_fits 166 = .ok (.iinc 8 1, 3) := by decide +kernel
theorem dX8_fits_169 : decode cX8_fits 169 = .ok (.goto (-141), 3) := by decide +kernel
theorem dX8_fits_172 : decode cX8_fits 172 = .ok (.iload 7, 2) := by decide +kernel
theorem dX8_fits_174 : decode cX8_fits 174 = .ok (.ifCond .eq 17, 3) := by decide +kernel
theorem dX8_fits_177 : decode cX8_fits 177 = .ok (.aload_n 0, 1) := by decide +kernel
theorem dX8_fits_178 : decode cX8_fits 178 = .ok (.iload_n 2, 1) := by decide +kernel
theorem dX8_fits_179 : decode cX8_fits 179 = .ok (.iload 6, 2) := by decide +kernel
theorem dX8_fits_181 : decode cX8_fits 181 = .ok (.invokestatic 72, 3) := by decide +kernel
theorem dX8_fits_184 : decode cX8_fits 184 = .ok (.ifCond .ne 7, 3) := by decide +kernel
theorem dX8_fits_187 : decode cX8_fits 187 = .ok (.iconst 1, 1) := by decide +kernel
theorem dX8_fits_188 : decode cX8_fits 188 = .ok (.goto 4, 3) := by decide +kernel
theorem dX8_fits_191 : decode cX8_fits 191 = .ok (.iconst 0, 1) := by decide +kernel
theorem dX8_fits_192 : decode cX8_fits 192 = .ok (.ireturn, 1) := by decide +kernel
theorem dX8_isSo_0 : decode cX8_isSo 0 = .ok (.iconst 0, 1) := by decide +kernel
theorem dX8_isSo_1 : decode cX8_isSo 1 = .ok (.istore 4, 2) := by decide +kernel
theorem dX8_isSo_3 : decode cX8_isSo 3 = .ok (.iload 4, 2) := by decide +kernel
theorem dX8_isSo_5 : decode cX8_isSo 5 = .ok (.aload_n 0, 1) := by decide +kernel
theorem dX8_isSo_6 : decode cX8_isSo 6 = .ok (.getfield 76, 3) := by decide +kernel
theorem dX8_isSo_9 : decode cX8_isSo 9 = .ok (.if_icmp .ge 44, 3) := by decide +kernel
theorem dX8_isSo_12 : decode cX8_isSo 12 = .ok (.aload_n 0, 1) := by decide +kernel
theorem dX8_isSo_13 : decode cX8_isSo 13 = .ok (.getfield 79, 3) := by decide +kernel
theorem dX8_isSo_16 : decode cX8_isSo 16 = .ok (.iload 4, 2) := by decide +kernel
theorem dX8_isSo_18 : decode cX8_isSo 18 = .ok (.iaload, 1) := by decide +kernel
theorem dX8_isSo_19 : decode cX8_isSo 19 = .ok (.iload_n 1, 1) := by decide +kernel
theorem dX8_isSo_20 : decode cX8_isSo 20 = .ok (.if_icmp .ne 27, 3) := by decide +kernel
theorem dX8_isSo_23 : decode cX8_isSo 23 = .ok (.aload_n 0, 1) := by decide +kernel
theorem dX8_isSo_24 : decode cX8_isSo 24 = .ok (.getfield 82, 3) := by decide +kernel
theorem dX8_isSo_27 : decode cX8_isSo 27 = .ok (.iload 4, 2) := by decide +kernel
theorem dX8_isSo_29 : decode cX8_isSo 29 = .ok (.iaload, 1) := by decide +kernel
theorem dX8_isSo_30 : decode cX8_isSo 30 = .ok (.iload_n 2, 1) := by decide +kernel
theorem dX8_isSo_31 : decode cX8_isSo 31 = .ok (.if_icmp .ne 16, 3) := by decide +kernel
theorem dX8_isSo_34 : decode cX8_isSo 34 = .ok (.aload_n 0, 1) := by decide +kernel
theorem dX8_isSo_35 : decode cX8_isSo 35 = .ok (.getfield 85, 3) := by decide +kernel
theorem dX8_isSo_38 : decode cX8_isSo 38 = .ok (.iload 4, 2) := by decide +kernel
theorem dX8_isSo_40 : decode cX8_isSo 40 = .ok (.iaload, 1) := by decide +kernel
theorem dX8_isSo_41 : decode cX8_isSo 41 = .ok (.iload_n 3, 1) := by decide +kernel
theorem dX8_isSo_42 : decode cX8_isSo 42 = .ok (.if_icmp .eq 5, 3) := by decide +kernel
theorem dX8_isSo_45 : decode cX8_isSo 45 = .ok (.iconst 0, 1) := by decide +kernel
theorem dX8_isSo_46 : decode cX8_isSo 46 = .ok (.ireturn, 1) := by decide +kernel
theorem dX8_isSo_47 : decode cX8_isSo 47 = .ok (.iinc 4 1, 3) := by decide +kernel
theorem dX8_isSo_50 : decode cX8_isSo 50 = .ok (.goto (-47), 3) := by decide +kernel
theorem dX8_isSo_53 : decode cX8_isSo 53 = .ok (.iconst 1, 1) := by decide +kernel
theorem dX8_isSo_54 : decode cX8_isSo 54 = .ok (.ireturn, 1) := by decide +kernel
theorem dX8_isSeenLater_0 : decode cX8_isSeenLater 0 = .ok (.iconst 0, 1) := by decide +kernel
theorem dX8_isSeenLater_1 : decode cX8_isSeenLater 1 = .ok (.istore_n 3, 1) := by decide +kernel
theorem dX8_isSeenLater_2 : decode cX8_isSeenLater 2 = .ok (.iload_n 3, 1) := by decide +kernel
theorem dX8_isSeenLater_3 : decode cX8_isSeenLater 3 = .ok (.aload_n 0, 1) := by decide +kernel
theorem dX8_isSeenLater_4 : decode cX8_isSeenLater 4 = .ok (.getfield 76, 3) := by decide +kernel
theorem dX8_isSeenLater_7 : decode cX8_isSeenLater 7 = .ok (.if_icmp .ge 31, 3) := by decide +kernel
theorem dX8_isSeenLater_10 : decode cX8_isSeenLater 10 = .ok (.aload_n 0, 1) := by decide +kernel
theorem dX8_isSeenLater_11 : decode cX8_isSeenLater 11 = .ok (.getfield 79, 3) := by decide +kernel
theorem dX8_isSeenLater_14 : decode cX8_isSeenLater 14 = .ok (.iload_n 3, 1) := by decide +kernel
theorem dX8_isSeenLater_15 : decode cX8_isSeenLater 15 = .ok (.iaload, 1) := by decide +kernel
theorem dX8_isSeenLater_16 : decode cX8_isSeenLater 16 = .ok (.iload_n 1, 1) := by decide +kernel
theorem dX8_isSeenLater_17 : decode cX8_isSeenLater 17 = .ok (.if_icmp .ne 15, 3) := by decide +kernel
theorem dX8_isSeenLater_20 : decode cX8_isSeenLater 20 = .ok (.aload_n 0, 1) := by decide +kernel
theorem dX8_isSeenLater_21 : decode cX8_isSeenLater 21 = .ok (.getfield 82, 3) := by decide +kernel
theorem dX8_isSeenLater_24 : decode cX8_isSeenLater 24 = .ok (.iload_n 3, 1) := by decide +kernel
theorem dX8_isSeenLater_25 : decode cX8_isSeenLater 25 = .ok (.iaload, 1) := by decide +kernel
theorem dX8_isSeenLater_26 : decode cX8_isSeenLater 26 = .ok (.iload_n 2, 1) := by decide +kernel
theorem dX8_isSeenLater_27 : decode cX8_isSeenLater 27 = .ok (.if_icmp .le 5, 3) := by decide +kernel
theorem dX8_isSeenLater_30 : decode cX8_isSeenLater 30 = .ok (.iconst 1, 1) := by decide +kernel
theorem dX8_isSeenLater_31 : decode cX8_isSeenLater 31 = .ok (.ireturn, 1) := by decide +kernel
theorem dX8_isSeenLater_32 : decode cX8_isSeenLater 32 = .ok (.iinc 3 1, 3) := by decide +kernel
theorem dX8_isSeenLater_35 : decode cX8_isSeenLater 35 = .ok (.goto (-33), 3) := by decide +kernel
theorem dX8_isSeenLater_38 : decode cX8_isSeenLater 38 = .ok (.iconst 0, 1) := by decide +kernel
theorem dX8_isSeenLater_39 : decode cX8_isSeenLater 39 = .ok (.ireturn, 1) := by decide +kernel
theorem dX9_init_0 : decode cX9_init 0 = .ok (.aload_n 0, 1) := by decide +kernel
theorem dX9_init_1 : decode cX9_init 1 = .ok (.invokespecial 3, 3) := by decide +kernel
theorem dX9_init_4 : decode cX9_init 4 = .ok (.aload_n 0, 1) := by decide +kernel
theorem dX9_init_5 : decode cX9_init 5 = .ok (.iconst 5, 1) := by decide +kernel
theorem dX9_init_6 : decode cX9_init 6 = .ok (.newarray .int, 2) := by decide +kernel
theorem dX9_init_8 : decode cX9_init 8 = .ok (.putfield 9, 3) := by decide +kernel
theorem dX9_init_11 : decode cX9_init 11 = .ok (.aload_n 0, 1) := by decide +kernel
theorem dX9_init_12 : decode cX9_init 12 = .ok (.iconst 5, 1) := by decide +kernel
theorem dX9_init_13 : decode cX9_init 13 = .ok (.newarray .int, 2) := by decide +kernel
theorem dX9_init_15 : decode cX9_init 15 = .ok (.putfield 15, 3) := by decide +kernel
theorem dX9_init_18 : decode cX9_init 18 = .ok (.aload_n 0, 1) := by decide +kernel
theorem dX9_init_19 : decode cX9_init 19 = .ok (.iconst 5, 1) := by decide +kernel
theorem dX9_init_20 : decode cX9_init 20 = .ok (.newarray .int, 2) := by decide +kernel
theorem dX9_init_22 : decode cX9_init 22 = .ok (.putfield 18, 3) := by decide +kernel
theorem dX9_init_25 : decode cX9_init 25 = .ok (.aload_n 0, 1) := by decide +kernel
theorem dX9_init_26 : decode cX9_init 26 = .ok (.iconst 5, 1) := by decide +kernel
theorem dX9_init_27 : decode cX9_init 27 = .ok (.newarray .int, 2) := by decide +kernel
theorem dX9_init_29 : decode cX9_init 29 = .ok (.putfield 21, 3) := by decide +kernel
theorem dX9_init_32 : decode cX9_init 32 = .ok (.aload_n 0, 1) := by decide +kernel
theorem dX9_init_33 : decode cX9_init 33 = .ok (.iconst 5, 1) := by decide +kernel
theorem dX9_init_34 : decode cX9_init 34 = .ok (.newarray .int, 2) := by decide +kernel
theorem dX9_init_36 : decode cX9_init 36 = .ok (.putfield 24, 3) := by decide +kernel
theorem dX9_init_39 : decode cX9_init 39 = .ok (.aload_n 0, 1) := by decide +kernel
theorem dX9_init_40 : decode cX9_init 40 = .ok (.bipush 30, 2) := by decide +kernel
theorem dX9_init_42 : decode cX9_init 42 = .ok (.newarray .int, 2) := by decide +kernel
theorem dX9_init_44 : decode cX9_init 44 = .ok (.putfield 27, 3) := by decide +kernel
theorem dX9_init_47 : decode cX9_init 47 = .ok (.aload_n 0, 1) := by decide +kernel
theorem dX9_init_48 : decode cX9_init 48 = .ok (.bipush 6, 2) := by decide +kernel
theorem dX9_init_50 : decode cX9_init 50 = .ok (.newarray .int, 2) := by decide +kernel
theorem dX9_init_52 : decode cX9_init 52 = .ok (.putfield 30, 3) := by decide +kernel
theorem dX9_init_55 : decode cX9_init 55 = .ok (.aload_n 0, 1) := by decide +kernel
theorem dX9_init_56 : decode cX9_init 56 = .ok (.bipush 6, 2) := by decide +kernel
theorem dX9_init_58 : decode cX9_init 58 = .ok (.newarray .int, 2) := by decide +kernel
theorem dX9_init_60 : decode cX9_init 60 = .ok (.putfield 33, 3) := by decide +kernel
theorem dX9_init_63 : decode cX9_init 63 = .ok (.aload_n 0, 1) := by decide +kernel
theorem dX9_init_64 : decode cX9_init 64 = .ok (.bipush 6, 2) := by decide +kernel
theorem dX9_init_66 : decode cX9_init 66 = .ok (.newarray .int, 2) := by decide +kernel
theorem dX9_init_68 : decode cX9_init 68 = .ok (.putfield 36, 3) := by decide +kernel
theorem dX9_init_71 : decode cX9_init 71 = .ok (.aload_n 0, 1) := by decide +kernel
theorem dX9_init_72 : decode cX9_init 72 = .ok (.iconst 3, 1) := by decide +kernel
theorem dX9_init_73 : decode cX9_init 73 = .ok (.invokevirtual 39, 3) := by decide +kernel
theorem dX9_init_76 : decode cX9_init 76 = .ok (.return_, 1) := by decide +kernel
theorem dX9_plant_0 : decode cX9_plant 0 = .ok (.aload_n 0, 1) := by decide +kernel
theorem dX9_plant_1 : decode cX9_plant 1 = .ok (.iload_n 1, 1) := by decide +kernel
theorem dX9_plant_2 : decode cX9_plant 2 = .ok (.putfield 43, 3) := by decide +kernel
theorem dX9_plant_5 : decode cX9_plant 5 = .ok (.aload_n 0, 1) := by decide +kernel
theorem dX9_plant_6 : decode cX9_plant 6 = .ok (.iconst 0, 1) := by decide +kernel
theorem dX9_plant_7 : decode cX9_plant 7 = .ok (.putfield 47, 3) := by decide +kernel
theorem dX9_plant_10 : decode cX9_plant 10 = .ok (.aload_n 0, 1) := by decide +kernel
theorem dX9_plant_11 : decode cX9_plant 11 = .ok (.iconst 0, 1) := by decide +kernel
theorem dX9_plant_12 : decode cX9_plant 12 = .ok (.putfield 50, 3) := by decide +kernel
theorem dX9_plant_15 : decode cX9_plant 15 = .ok (.aload_n 0, 1) := by decide +kernel
theorem dX9_plant_16 : decode cX9_plant 16 = .ok (.getfield 9, 3) := by decide +kernel
theorem dX9_plant_19 : decode cX9_plant 19 = .ok (.iconst 0, 1) := by decide +kernel
theorem dX9_plant_20 : decode cX9_plant 20 = .ok (.invokestatic 53, 3) := by decide +kernel
theorem dX9_plant_23 : decode cX9_plant 23 = .ok (.aload_n 0, 1) := by decide +kernel
theorem dX9_plant_24 : decode cX9_plant 24 = .ok (.getfield 15, 3) := by decide +kernel
theorem dX9_plant_27 : decode cX9_plant 27 = .ok (.bipush 9, 2) := by decide +kernel
theorem dX9_plant_29 : decode cX9_plant 29 = .ok (.invokestatic 53, 3) := by decide +kernel
theorem dX9_plant_32 : decode cX9_plant 32 = .ok (.aload_n 0, 1) := by decide +kernel
theorem dX9_plant_33 : decode cX9_plant 33 = .ok (.getfield 18, 3) := by decide +kernel
theorem dX9_plant_36 : decode cX9_plant 36 = .ok (.bipush 9, 2) := by decide +kernel
theorem dX9_plant_38 : decode cX9_plant 38 = .ok (.invokestatic 53, 3) := by decide +kernel
theorem dX9_plant_41 : decode cX9_plant 41 = .ok (.aload_n 0, 1) := by decide +kernel
theorem dX9_plant_42 : decode cX9_plant 42 = .ok (.getfield 21, 3) := by decide +kernel
theorem dX9_plant_45 : decode cX9_plant 45 = .ok (.iconst 0, 1) := by decide +kernel
theorem dX9_plant_46 : decode cX9_plant 46 = .ok (.invokestatic 53, 3) := by decide +kernel
theorem dX9_plant_49 : decode cX9_plant 49 = .ok (.iconst 0, 1) := by decide +kernel
theorem dX9_plant_50 : decode cX9_plant 50 = .ok (.istore_n 2, 1) := by decide +kernel
theorem dX9_plant_51 : decode cX9_plant 51 = .ok (.iload_n 2, 1) := by decide +kernel
theorem dX9_plant_52 : decode cX9_plant 52 = .ok (.iconst 5, 1) := by decide +kernel
theorem dX9_plant_53 : decode cX9_plant 53 = .ok (.if_icmp .ge 16, 3) := by decide +kernel
theorem dX9_plant_56 : decode cX9_plant 56 = .ok (.aload_n 0, 1) := by decide +kernel
theorem dX9_plant_57 : decode cX9_plant 57 = .ok (.getfield 24, 3) := by decide +kernel
theorem dX9_plant_60 : decode cX9_plant 60 = .ok (.iload_n 2, 1) := by decide +kernel
theorem dX9_plant_61 : decode cX9_plant 61 = .ok (.iload_n 2, 1) := by decide +kernel
theorem dX9_plant_62 : decode cX9_plant 62 = .ok (.iastore, 1) := by decide +kernel
theorem dX9_plant_63 : decode cX9_plant 63 = .ok (.iinc 2 1, 3) := by decide +kernel
theorem dX9_plant_66 : decode cX9_plant 66 = .ok (.goto (-15), 3) := by decide +kernel
theorem dX9_plant_69 : decode cX9_plant 69 = .ok (.return_, 1) := by decide +kernel
theorem dX9_copyFrom_0 : decode cX9_copyFrom 0 = .ok (.aload_n 0, 1) := by decide +kernel
theorem dX9_copyFrom_1 : decode cX9_copyFrom 1 = .ok (.aload_n 1, 1) := by decide +kernel
theorem dX9_copyFrom_2 : decode cX9_copyFrom 2 = .ok (.getfield 43, 3) := by decide +kernel
theorem dX9_copyFrom_5 : decode cX9_copyFrom 5 = .ok (.putfield 43, 3) := by decide +kernel
theorem dX9_copyFrom_8 : decode cX9_copyFrom 8 = .ok (.aload_n 0, 1) := by decide +kernel
theorem dX9_copyFrom_9 : decode cX9_copyFrom 9 = .ok (.aload_n 1, 1) := by decide +kernel
theorem dX9_copyFrom_10 : decode cX9_copyFrom 10 = .ok (.getfield 47, 3) := by decide +kernel
theorem dX9_copyFrom_13 : decode cX9_copyFrom 13 = .ok (.putfield 47, 3) := by decide +kernel
theorem dX9_copyFrom_16 : decode cX9_copyFrom 16 = .ok (.aload_n 0, 1) := by decide +kernel
theorem dX9_copyFrom_17 : decode cX9_copyFrom 17 = .ok (.aload_n 1, 1) := by decide +kernel
theorem dX9_copyFrom_18 : decode cX9_copyFrom 18 = .ok (.getfield 50, 3) := by decide +kernel
theorem dX9_copyFrom_21 : decode cX9_copyFrom 21 = .ok (.putfield 50, 3) := by decide +kernel
theorem dX9_copyFrom_24 : decode cX9_copyFrom 24 = .ok (.aload_n 1, 1) := by decide +kernel
theorem dX9_copyFrom_25 : decode cX9_copyFrom 25 = .ok (.getfield 9, 3) := by decide +kernel
theorem dX9_copyFrom_28 : decode cX9_copyFrom 28 = .ok (.iconst 0, 1) := by decide +kernel
theorem dX9_copyFrom_29 : decode cX9_copyFrom 29 = .ok (.aload_n 0, 1) := by decide +kernel
theorem dX9_copyFrom_30 : decode cX9_copyFrom 30 = .ok (.getfield 9, 3) := by decide +kernel
theorem dX9_copyFrom_33 : decode cX9_copyFrom 33 = .ok (.iconst 0, 1) := by decide +kernel
theorem dX9_copyFrom_34 : decode cX9_copyFrom 34 = .ok (.iconst 5, 1) := by decide +kernel
theorem dX9_copyFrom_35 : decode cX9_copyFrom 35 = .ok (.invokestatic 59, 3) := by decide +kernel
theorem dX9_copyFrom_38 : decode cX9_copyFrom 38 = .ok (.aload_n 1, 1) := by decide +kernel
theorem dX9_copyFrom_39 : decode cX9_copyFrom 39 = .ok (.getfield 15, 3) := by decide +kernel
theorem dX9_copyFrom_42 : decode cX9_copyFrom 42 = .ok (.iconst 0, 1) := by decide +kernel
theorem dX9_copyFrom_43 : decode cX9_copyFrom 43 = .ok (.aload_n 0, 1) := by decide +kernel
theorem dX9_copyFrom_44 : decode cX9_copyFrom 44 = .ok (.getfield 15, 3) := by decide +kernel
theorem dX9_copyFrom_47 : decode cX9_copyFrom 47 = .ok (.iconst 0, 1) := by decide +kernel
theorem dX9_copyFrom_48 : decode cX9_copyFrom 48 = .ok (.iconst 5, 1) := by decide +kernel
theorem dX9_copyFrom_49 : decode cX9_copyFrom 49 = .ok (.invokestatic 59, 3) := by decide +kernel
