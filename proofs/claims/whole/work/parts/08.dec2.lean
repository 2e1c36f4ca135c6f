theorem dX9_copyFrom_52 : decode cX9_copyFrom 52 = .ok (.aload_n 1, 1) := by decide +kernel
theorem dX9_copyFrom_53 : decode cX9_copyFrom 53 = .ok (.getfield 18, 3) := by decide +kernel
theorem dX9_copyFrom_56 : decode cX9_copyFrom 56 = .ok (.iconst 0, 1) := by decide +kernel
theorem dX9_copyFrom_57 : decode cX9_copyFrom 57 = .ok (.aload_n 0, 1) := by decide +kernel
theorem dX9_copyFrom_58 : decode cX9_copyFrom 58 = .ok (.getfield 18, 3) := by decide +kernel
theorem dX9_copyFrom_61 : decode cX9_copyFrom 61 = .ok (.iconst 0, 1) := by decide +kernel
theorem dX9_copyFrom_62 : decode cX9_copyFrom 62 = .ok (.iconst 5, 1) := by decide +kernel
theorem dX9_copyFrom_63 : decode cX9_copyFrom 63 = .ok (.invokestatic 59, 3) := by decide +kernel
theorem dX9_copyFrom_66 : decode cX9_copyFrom 66 = .ok (.aload_n 1, 1) := by decide +kernel
theorem dX9_copyFrom_67 : decode cX9_copyFrom 67 = .ok (.getfield 21, 3) := by decide +kernel
theorem dX9_copyFrom_70 : decode cX9_copyFrom 70 = .ok (.iconst 0, 1) := by decide +kernel
theorem dX9_copyFrom_71 : decode cX9_copyFrom 71 = .ok (.aload_n 0, 1) := by decide +kernel
theorem dX9_copyFrom_72 : decode cX9_copyFrom 72 = .ok (.getfield 21, 3) := by decide +kernel
theorem dX9_copyFrom_75 : decode cX9_copyFrom 75 = .ok (.iconst 0, 1) := by decide +kernel
theorem dX9_copyFrom_76 : decode cX9_copyFrom 76 = .ok (.iconst 5, 1) := by decide +kernel
theorem dX9_copyFrom_77 : decode cX9_copyFrom 77 = .ok (.invokestatic 59, 3) := by decide +kernel
theorem dX9_copyFrom_80 : decode cX9_copyFrom 80 = .ok (.aload_n 1, 1) := by decide +kernel
theorem dX9_copyFrom_81 : decode cX9_copyFrom 81 = .ok (.getfield 24, 3) := by decide +kernel
theorem dX9_copyFrom_84 : decode cX9_copyFrom 84 = .ok (.iconst 0, 1) := by decide +kernel
theorem dX9_copyFrom_85 : decode cX9_copyFrom 85 = .ok (.aload_n 0, 1) := by decide +kernel
theorem dX9_copyFrom_86 : decode cX9_copyFrom 86 = .ok (.getfield 24, 3) := by decide +kernel
theorem dX9_copyFrom_89 : decode cX9_copyFrom 89 = .ok (.iconst 0, 1) := by decide +kernel
theorem dX9_copyFrom_90 : decode cX9_copyFrom 90 = .ok (.iconst 5, 1) := by decide +kernel
theorem dX9_copyFrom_91 : decode cX9_copyFrom 91 = .ok (.invokestatic 59, 3) := by decide +kernel
theorem dX9_copyFrom_94 : decode cX9_copyFrom 94 = .ok (.aload_n 1, 1) := by decide +kernel
theorem dX9_copyFrom_95 : decode cX9_copyFrom 95 = .ok (.getfield 27, 3) := by decide +kernel
theorem dX9_copyFrom_98 : decode cX9_copyFrom 98 = .ok (.iconst 0, 1) := by decide +kernel
theorem dX9_copyFrom_99 : decode cX9_copyFrom 99 = .ok (.aload_n 0, 1) := by decide +kernel
theorem dX9_copyFrom_100 : decode cX9_copyFrom 100 = .ok (.getfield 27, 3) := by decide +kernel
theorem dX9_copyFrom_103 : decode cX9_copyFrom 103 = .ok (.iconst 0, 1) := by decide +kernel
theorem dX9_copyFrom_104 : decode cX9_copyFrom 104 = .ok (.bipush 30, 2) := by decide +kernel
theorem dX9_copyFrom_106 : decode cX9_copyFrom 106 = .ok (.invokestatic 59, 3) := by decide +kernel
theorem dX9_copyFrom_109 : decode cX9_copyFrom 109 = .ok (.aload_n 1, 1) := by decide +kernel
theorem dX9_copyFrom_110 : decode cX9_copyFrom 110 = .ok (.getfield 30, 3) := by decide +kernel
theorem dX9_copyFrom_113 : decode cX9_copyFrom 113 = .ok (.iconst 0, 1) := by decide +kernel
theorem dX9_copyFrom_114 : decode cX9_copyFrom 114 = .ok (.aload_n 0, 1) := by decide +kernel
theorem dX9_copyFrom_115 : decode cX9_copyFrom 115 = .ok (.getfield 30, 3) := by decide +kernel
theorem dX9_copyFrom_118 : decode cX9_copyFrom 118 = .ok (.iconst 0, 1) := by decide +kernel
theorem dX9_copyFrom_119 : decode cX9_copyFrom 119 = .ok (.bipush 6, 2) := by decide +kernel
theorem dX9_copyFrom_121 : decode cX9_copyFrom 121 = .ok (.invokestatic 59, 3) := by decide +kernel
theorem dX9_copyFrom_124 : decode cX9_copyFrom 124 = .ok (.aload_n 1, 1) := by decide +kernel
theorem dX9_copyFrom_125 : decode cX9_copyFrom 125 = .ok (.getfield 33, 3) := by decide +kernel
theorem dX9_copyFrom_128 : decode cX9_copyFrom 128 = .ok (.iconst 0, 1) := by decide +kernel
theorem dX9_copyFrom_129 : decode cX9_copyFrom 129 = .ok (.aload_n 0, 1) := by decide +kernel
theorem dX9_copyFrom_130 : decode cX9_copyFrom 130 = .ok (.getfield 33, 3) := by decide +kernel
theorem dX9_copyFrom_133 : decode cX9_copyFrom 133 = .ok (.iconst 0, 1) := by decide +kernel
theorem dX9_copyFrom_134 : decode cX9_copyFrom 134 = .ok (.bipush 6, 2) := by decide +kernel
theorem dX9_copyFrom_136 : decode cX9_copyFrom 136 = .ok (.invokestatic 59, 3) := by decide +kernel
theorem dX9_copyFrom_139 : decode cX9_copyFrom 139 = .ok (.aload_n 1, 1) := by decide +kernel
theorem dX9_copyFrom_140 : decode cX9_copyFrom 140 = .ok (.getfield 36, 3) := by decide +kernel
theorem dX9_copyFrom_143 : decode cX9_copyFrom 143 = .ok (.iconst 0, 1) := by decide +kernel
theorem dX9_copyFrom_144 : decode cX9_copyFrom 144 = .ok (.aload_n 0, 1) := by decide +kernel
theorem dX9_copyFrom_145 : decode cX9_copyFrom 145 = .ok (.getfield 36, 3) := by decide +kernel
theorem dX9_copyFrom_148 : decode cX9_copyFrom 148 = .ok (.iconst 0, 1) := by decide +kernel
theorem dX9_copyFrom_149 : decode cX9_copyFrom 149 = .ok (.bipush 6, 2) := by decide +kernel
theorem dX9_copyFrom_151 : decode cX9_copyFrom 151 = .ok (.invokestatic 59, 3) := by decide +kernel
theorem dX9_copyFrom_154 : decode cX9_copyFrom 154 = .ok (.return_, 1) := by decide +kernel
theorem dX9_hasHut_0 : decode cX9_hasHut 0 = .ok (.iload_n 1, 1) := by decide +kernel
theorem dX9_hasHut_1 : decode cX9_hasHut 1 = .ok (.iconst 0, 1) := by decide +kernel
theorem dX9_hasHut_2 : decode cX9_hasHut 2 = .ok (.aload_n 0, 1) := by decide +kernel
theorem dX9_hasHut_3 : decode cX9_hasHut 3 = .ok (.getfield 43, 3) := by decide +kernel
theorem dX9_hasHut_6 : decode cX9_hasHut 6 = .ok (.iconst 1, 1) := by decide +kernel
theorem dX9_hasHut_7 : decode cX9_hasHut 7 = .ok (.isub, 1) := by decide +kernel
theorem dX9_hasHut_8 : decode cX9_hasHut 8 = .ok (.invokestatic 65, 3) := by decide +kernel
theorem dX9_hasHut_11 : decode cX9_hasHut 11 = .ok (.ireturn, 1) := by decide +kernel
theorem dX9_hasSet_0 : decode cX9_hasSet 0 = .ok (.iload_n 1, 1) := by decide +kernel
theorem dX9_hasSet_1 : decode cX9_hasSet 1 = .ok (.iconst 0, 1) := by decide +kernel
theorem dX9_hasSet_2 : decode cX9_hasSet 2 = .ok (.iconst 1, 1) := by decide +kernel
theorem dX9_hasSet_3 : decode cX9_hasSet 3 = .ok (.aload_n 0, 1) := by decide +kernel
theorem dX9_hasSet_4 : decode cX9_hasSet 4 = .ok (.getfield 43, 3) := by decide +kernel
theorem dX9_hasSet_7 : decode cX9_hasSet 7 = .ok (.ishl, 1) := by decide +kernel
theorem dX9_hasSet_8 : decode cX9_hasSet 8 = .ok (.iconst 1, 1) := by decide +kernel
theorem dX9_hasSet_9 : decode cX9_hasSet 9 = .ok (.isub, 1) := by decide +kernel
theorem dX9_hasSet_10 : decode cX9_hasSet 10 = .ok (.invokestatic 65, 3) := by decide +kernel
theorem dX9_hasSet_13 : decode cX9_hasSet 13 = .ok (.ireturn, 1) := by decide +kernel
theorem dX9_hasLooks_0 : decode cX9_hasLooks 0 = .ok (.iload_n 1, 1) := by decide +kernel
theorem dX9_hasLooks_1 : decode cX9_hasLooks 1 = .ok (.iconst 0, 1) := by decide +kernel
theorem dX9_hasLooks_2 : decode cX9_hasLooks 2 = .ok (.iconst 1, 1) := by decide +kernel
theorem dX9_hasLooks_3 : decode cX9_hasLooks 3 = .ok (.iconst 2, 1) := by decide +kernel
theorem dX9_hasLooks_4 : decode cX9_hasLooks 4 = .ok (.aload_n 0, 1) := by decide +kernel
theorem dX9_hasLooks_5 : decode cX9_hasLooks 5 = .ok (.getfield 43, 3) := by decide +kernel
theorem dX9_hasLooks_8 : decode cX9_hasLooks 8 = .ok (.imul, 1) := by decide +kernel
theorem dX9_hasLooks_9 : decode cX9_hasLooks 9 = .ok (.ishl, 1) := by decide +kernel
theorem dX9_hasLooks_10 : decode cX9_hasLooks 10 = .ok (.iconst 1, 1) := by decide +kernel
theorem dX9_hasLooks_11 : decode cX9_hasLooks 11 = .ok (.isub, 1) := by decide +kernel
theorem dX9_hasLooks_12 : decode cX9_hasLooks 12 = .ok (.invokestatic 65, 3) := by decide +kernel
theorem dX9_hasLooks_15 : decode cX9_hasLooks 15 = .ok (.ireturn, 1) := by decide +kernel
theorem dX9_knows_0 : decode cX9_knows 0 = .ok (.iload_n 1, 1) := by decide +kernel
theorem dX9_knows_1 : decode cX9_knows 1 = .ok (.iconst 0, 1) := by decide +kernel
theorem dX9_knows_2 : decode cX9_knows 2 = .ok (.iconst 5, 1) := by decide +kernel
theorem dX9_knows_3 : decode cX9_knows 3 = .ok (.invokestatic 65, 3) := by decide +kernel
theorem dX9_knows_6 : decode cX9_knows 6 = .ok (.ifCond .eq 18, 3) := by decide +kernel
theorem dX9_knows_9 : decode cX9_knows 9 = .ok (.aload_n 0, 1) := by decide +kernel
theorem dX9_knows_10 : decode cX9_knows 10 = .ok (.getfield 47, 3) := by decide +kernel
theorem dX9_knows_13 : decode cX9_knows 13 = .ok (.iload_n 1, 1) := by decide +kernel
theorem dX9_knows_14 : decode cX9_knows 14 = .ok (.invokestatic 69, 3) := by decide +kernel
theorem dX9_knows_17 : decode cX9_knows 17 = .ok (.ifCond .eq 7, 3) := by decide +kernel
theorem dX9_knows_20 : decode cX9_knows 20 = .ok (.iconst 1, 1) := by decide +kernel
theorem dX9_knows_21 : decode cX9_knows 21 = .ok (.goto 4, 3) := by decide +kernel
theorem dX9_knows_24 : decode cX9_knows 24 = .ok (.iconst 0, 1) := by decide +kernel
theorem dX9_knows_25 : decode cX9_knows 25 = .ok (.ireturn, 1) := by decide +kernel
theorem dX9_knowsAll_0 : decode cX9_knowsAll 0 = .ok (.iload_n 1, 1) := by decide +kernel
theorem dX9_knowsAll_1 : decode cX9_knowsAll 1 = .ok (.ifCond .eq 18, 3) := by decide +kernel
theorem dX9_knowsAll_4 : decode cX9_knowsAll 4 = .ok (.iload_n 1, 1) := by decide +kernel
theorem dX9_knowsAll_5 : decode cX9_knowsAll 5 = .ok (.aload_n 0, 1) := by decide +kernel
theorem dX9_knowsAll_6 : decode cX9_knowsAll 6 = .ok (.getfield 47, 3) := by decide +kernel
theorem dX9_knowsAll_9 : decode cX9_knowsAll 9 = .ok (.iconst (-1), 1) := by decide +kernel
theorem dX9_knowsAll_10 : decode cX9_knowsAll 10 = .ok (.ixor, 1) := by decide +kernel
theorem dX9_knowsAll_11 : decode cX9_knowsAll 11 = .ok (.iand, 1) := by decide +kernel
theorem dX9_knowsAll_12 : decode cX9_knowsAll 12 = .ok (.ifCond .ne 7, 3) := by decide +kernel
theorem dX9_knowsAll_15 : decode cX9_knowsAll 15 = .ok (.iconst 1, 1) := by decide +kernel
theorem dX9_knowsAll_16 : decode cX9_knowsAll 16 = .ok (.goto 4, 3) := by decide +kernel
theorem dX9_knowsAll_19 : decode cX9_knowsAll 19 = .ok (.iconst 0, 1) := by decide +kernel
theorem dX9_knowsAll_20 : decode cX9_knowsAll 20 = .ok (.ireturn, 1) := by decide +kernel
theorem dX9_isTaken_0 : decode cX9_isTaken 0 = .ok (.iconst 0, 1) := by decide +kernel
theorem dX9_isTaken_1 : decode cX9_isTaken 1 = .ok (.istore_n 3, 1) := by decide +kernel
theorem dX9_isTaken_2 : decode cX9_isTaken 2 = .ok (.iload_n 3, 1) := by decide +kernel
theorem dX9_isTaken_3 : decode cX9_isTaken 3 = .ok (.aload_n 0, 1) := by decide +kernel
theorem dX9_isTaken_4 : decode cX9_isTaken 4 = .ok (.getfield 43, 3) := by decide +kernel
theorem dX9_isTaken_7 : decode cX9_isTaken 7 = .ok (.if_icmp .ge 26, 3) := by decide +kernel
theorem dX9_isTaken_10 : decode cX9_isTaken 10 = .ok (.iload_n 3, 1) := by decide +kernel
theorem dX9_isTaken_11 : decode cX9_isTaken 11 = .ok (.iload_n 2, 1) := by decide +kernel
theorem dX9_isTaken_12 : decode cX9_isTaken 12 = .ok (.if_icmp .eq 15, 3) := by decide +kernel
theorem dX9_isTaken_15 : decode cX9_isTaken 15 = .ok (.aload_n 0, 1) := by decide +kernel
theorem dX9_isTaken_16 : decode cX9_isTaken 16 = .ok (.getfield 24, 3) := by decide +kernel
theorem dX9_isTaken_19 : decode cX9_isTaken 19 = .ok (.iload_n 3, 1) := by decide +kernel
theorem dX9_isTaken_20 : decode cX9_isTaken 20 = .ok (.iaload, 1) := by decide +kernel
theorem dX9_isTaken_21 : decode cX9_isTaken 21 = .ok (.iload_n 1, 1) := by decide +kernel
theorem dX9_isTaken_22 : decode cX9_isTaken 22 = .ok (.if_icmp .ne 5, 3) := by decide +kernel
theorem dX9_isTaken_25 : decode cX9_isTaken 25 = .ok (.iconst 1, 1) := by decide +kernel
theorem dX9_isTaken_26 : decode cX9_isTaken 26 = .ok (.ireturn, 1) := by decide +kernel
theorem dX9_isTaken_27 : decode cX9_isTaken 27 = .ok (.iinc 3 1, 3) := by decide +kernel
theorem dX9_isTaken_30 : decode cX9_isTaken 30 = .ok (.goto (-28), 3) := by decide +kernel
theorem dX9_isTaken_33 : decode cX9_isTaken 33 = .ok (.iconst 0, 1) := by decide +kernel
theorem dX9_isTaken_34 : decode cX9_isTaken 34 = .ok (.ireturn, 1) := by decide +kernel
theorem dX9_alter_0 : decode cX9_alter 0 = .ok (.iload_n 2, 1) := by decide +kernel
theorem dX9_alter_1 : decode cX9_alter 1 = .ok (.iconst 1, 1) := by decide +kernel
theorem dX9_alter_2 : decode cX9_alter 2 = .ok (.if_icmp .ne 10, 3) := by decide +kernel
theorem dX9_alter_5 : decode cX9_alter 5 = .ok (.aload_n 0, 1) := by decide +kernel
theorem dX9_alter_6 : decode cX9_alter 6 = .ok (.getfield 15, 3) := by decide +kernel
theorem dX9_alter_9 : decode cX9_alter 9 = .ok (.iload_n 1, 1) := by decide +kernel
theorem dX9_alter_10 : decode cX9_alter 10 = .ok (.iload_n 3, 1) := by decide +kernel
theorem dX9_alter_11 : decode cX9_alter 11 = .ok (.iastore, 1) := by decide +kernel
theorem dX9_alter_12 : decode cX9_alter 12 = .ok (.aload_n 0, 1) := by decide +kernel
theorem dX9_alter_13 : decode cX9_alter 13 = .ok (.iload_n 2, 1) := by decide +kernel
theorem dX9_alter_14 : decode cX9_alter 14 = .ok (.invokevirtual 73, 3) := by decide +kernel
theorem dX9_alter_17 : decode cX9_alter 17 = .ok (.astore 4, 2) := by decide +kernel
theorem dX9_alter_19 : decode cX9_alter 19 = .ok (.aload 4, 2) := by decide +kernel
theorem dX9_alter_21 : decode cX9_alter 21 = .ok (.iload_n 1, 1) := by decide +kernel
theorem dX9_alter_22 : decode cX9_alter 22 = .ok (.iaload, 1) := by decide +kernel
theorem dX9_alter_23 : decode cX9_alter 23 = .ok (.istore 5, 2) := by decide +kernel
theorem dX9_alter_25 : decode cX9_alter 25 = .ok (.aload 4, 2) := by decide +kernel
theorem dX9_alter_27 : decode cX9_alter 27 = .ok (.iload_n 1, 1) := by decide +kernel
theorem dX9_alter_28 : decode cX9_alter 28 = .ok (.iload_n 3, 1) := by decide +kernel
theorem dX9_alter_29 : decode cX9_alter 29 = .ok (.iastore, 1) := by decide +kernel
theorem dX9_alter_30 : decode cX9_alter 30 = .ok (.iload 5, 2) := by decide +kernel
theorem dX9_alter_32 : decode cX9_alter 32 = .ok (.ireturn, 1) := by decide +kernel
theorem dX9_rowOf_0 : decode cX9_rowOf 0 = .ok (.iload_n 1, 1) := by decide +kernel
theorem dX9_rowOf_1 : decode cX9_rowOf 1 = .ok (.tableswitch 42 0 2 #[27, 32, 37], 27) := by decide +kernel
theorem dX9_rowOf_28 : decode cX9_rowOf 28 = .ok (.aload_n 0, 1) := by decide +kernel
theorem dX9_rowOf_29 : decode cX9_rowOf 29 = .ok (.getfield 9, 3) := by decide +kernel
theorem dX9_rowOf_32 : decode cX9_rowOf 32 = .ok (.areturn, 1) := by decide +kernel
theorem dX9_rowOf_33 : decode cX9_rowOf 33 = .ok (.aload_n 0, 1) := by decide +kernel
theorem dX9_rowOf_34 : decode cX9_rowOf 34 = .ok (.getfield 18, 3) := by decide +kernel
theorem dX9_rowOf_37 : decode cX9_rowOf 37 = .ok (.areturn, 1) := by decide +kernel
theorem dX9_rowOf_38 : decode cX9_rowOf 38 = .ok (.aload_n 0, 1) := by decide +kernel
theorem dX9_rowOf_39 : decode cX9_rowOf 39 = .ok (.getfield 21, 3) := by decide +kernel
theorem dX9_rowOf_42 : decode cX9_rowOf 42 = .ok (.areturn, 1) := by decide +kernel
theorem dX9_rowOf_43 : decode cX9_rowOf 43 = .ok (.aload_n 0, 1) := by decide +kernel
theorem dX9_rowOf_44 : decode cX9_rowOf 44 = .ok (.getfield 24, 3) := by decide +kernel
theorem dX9_rowOf_47 : decode cX9_rowOf 47 = .ok (.areturn, 1) := by decide +kernel
theorem dX9_addSight_0 : decode cX9_addSight 0 = .ok (.aload_n 0, 1) := by decide +kernel
theorem dX9_addSight_1 : decode cX9_addSight 1 = .ok (.getfield 50, 3) := by decide +kernel
theorem dX9_addSight_4 : decode cX9_addSight 4 = .ok (.bipush 6, 2) := by decide +kernel
theorem dX9_addSight_6 : decode cX9_addSight 6 = .ok (.if_icmp .lt 6, 3) := by decide +kernel
theorem dX9_addSight_9 : decode cX9_addSight 9 = .ok (.bipush (-4), 2) := by decide +kernel
theorem dX9_addSight_11 : decode cX9_addSight 11 = .ok (.ireturn, 1) := by decide +kernel
theorem dX9_addSight_12 : decode cX9_addSight 12 = .ok (.aload_n 0, 1) := by decide +kernel
theorem dX9_addSight_13 : decode cX9_addSight 13 = .ok (.getfield 30, 3) := by decide +kernel
theorem dX9_addSight_16 : decode cX9_addSight 16 = .ok (.aload_n 0, 1) := by decide +kernel
theorem dX9_addSight_17 : decode cX9_addSight 17 = .ok (.getfield 50, 3) := by decide +kernel
theorem dX9_addSight_20 : decode cX9_addSight 20 = .ok (.iload_n 1, 1) := by decide +kernel
theorem dX9_addSight_21 : decode cX9_addSight 21 = .ok (.iastore, 1) := by decide +kernel
theorem dX9_addSight_22 : decode cX9_addSight 22 = .ok (.aload_n 0, 1) := by decide +kernel
theorem dX9_addSight_23 : decode cX9_addSight 23 = .ok (.getfield 33, 3) := by decide +kernel
theorem dX9_addSight_26 : decode cX9_addSight 26 = .ok (.aload_n 0, 1) := by decide +kernel
theorem dX9_addSight_27 : decode cX9_addSight 27 = .ok (.getfield 50, 3) := by decide +kernel
theorem dX9_addSight_30 : decode cX9_addSight 30 = .ok (.iload_n 2, 1) := by decide +kernel
theorem dX9_addSight_31 : decode cX9_addSight 31 = .ok (.iastore, 1) := by decide +kernel
theorem dX9_addSight_32 : decode cX9_addSight 32 = .ok (.aload_n 0, 1) := by decide +kernel
theorem dX9_addSight_33 : decode cX9_addSight 33 = .ok (.getfield 36, 3) := by decide +kernel
theorem dX9_addSight_36 : decode cX9_addSight 36 = .ok (.aload_n 0, 1) := by decide +kernel
theorem dX9_addSight_37 : decode cX9_addSight 37 = .ok (.getfield 50, 3) := by decide +kernel
theorem dX9_addSight_40 : decode cX9_addSight 40 = .ok (.iload_n 3, 1) := by decide +kernel
theorem dX9_addSight_41 : decode cX9_addSight 41 = .ok (.iastore, 1) := by decide +kernel
theorem dX9_addSight_42 : decode cX9_addSight 42 = .ok (.aload_n 0, 1) := by decide +kernel
theorem dX9_addSight_43 : decode cX9_addSight 43 = .ok (.dup, 1) := by decide +kernel
theorem dX9_addSight_44 : decode cX9_addSight 44 = .ok (.getfield 50, 3) := by decide +kernel
theorem dX9_addSight_47 : decode cX9_addSight 47 = .ok (.iconst 1, 1) := by decide +kernel
theorem dX9_addSight_48 : decode cX9_addSight 48 = .ok (.iadd, 1) := by decide +kernel
theorem dX9_addSight_49 : decode cX9_addSight 49 = .ok (.putfield 50, 3) := by decide +kernel
theorem dX9_addSight_52 : decode cX9_addSight 52 = .ok (.aload_n 0, 1) := by decide +kernel
theorem dX9_addSight_53 : decode cX9_addSight 53 = .ok (.getfield 50, 3) := by decide +kernel
theorem dX9_addSight_56 : decode cX9_addSight 56 = .ok (.ireturn, 1) := by decide +kernel
theorem dX9_number_0 : decode cX9_number 0 = .ok (.aload_n 0, 1) := by decide +kernel
theorem dX9_number_1 : decode cX9_number 1 = .ok (.getfield 9, 3) := by decide +kernel
theorem dX9_number_4 : decode cX9_number 4 = .ok (.aload_n 0, 1) := by decide +kernel
theorem dX9_number_5 : decode cX9_number 5 = .ok (.getfield 43, 3) := by decide +kernel
theorem dX9_number_8 : decode cX9_number 8 = .ok (.invokestatic 77, 3) := by decide +kernel
theorem dX9_number_11 : decode cX9_number 11 = .ok (.ireturn, 1) := by decide +kernel
theorem dX9_quarters_0 : decode cX9_quarters 0 = .ok (.aload_n 0, 1) := by decide +kernel
theorem dX9_quarters_1 : decode cX9_quarters 1 = .ok (.getfield 21, 3) := by decide +kernel
theorem dX9_quarters_4 : decode cX9_quarters 4 = .ok (.iload_n 2, 1) := by decide +kernel
theorem dX9_quarters_5 : decode cX9_quarters 5 = .ok (.iaload, 1) := by decide +kernel
theorem dX9_quarters_6 : decode cX9_quarters 6 = .ok (.istore 4, 2) := by decide +kernel
theorem dX9_quarters_8 : decode cX9_quarters 8 = .ok (.iload 4, 2) := by decide +kernel
theorem dX9_quarters_10 : decode cX9_quarters 10 = .ok (.iconst 1, 1) := by decide +kernel
theorem dX9_quarters_11 : decode cX9_quarters 11 = .ok (.if_icmp .eq 15, 3) := by decide +kernel
theorem dX9_quarters_14 : decode cX9_quarters 14 = .ok (.iload 4, 2) := by decide +kernel
theorem dX9_quarters_16 : decode cX9_quarters 16 = .ok (.iconst 3, 1) := by decide +kernel
theorem dX9_quarters_17 : decode cX9_quarters 17 = .ok (.if_icmp .ne 11, 3) := by decide +kernel
theorem dX9_quarters_20 : decode cX9_quarters 20 = .ok (.iload_n 3, 1) := by decide +kernel
theorem dX9_quarters_21 : decode cX9_quarters 21 = .ok (.iconst 1, 1) := by decide +kernel
theorem dX9_quarters_22 : decode cX9_quarters 22 = .ok (.iand, 1) := by decide +kernel
theorem dX9_quarters_23 : decode cX9_quarters 23 = .ok (.ifCond .ne 5, 3) := by decide +kernel
theorem dX9_quarters_26 : decode cX9_quarters 26 = .ok (.iconst 0, 1) := by decide +kernel
theorem dX9_quarters_27 : decode cX9_quarters 27 = .ok (.ireturn, 1) := by decide +kernel
theorem dX9_quarters_28 : decode cX9_quarters 28 = .ok (.aload_n 0, 1) := by decide +kernel
theorem dX9_quarters_29 : decode cX9_quarters 29 = .ok (.getfield 27, 3) := by decide +kernel
theorem dX9_quarters_32 : decode cX9_quarters 32 = .ok (.iload_n 1, 1) := by decide +kernel
theorem dX9_quarters_33 : decode cX9_quarters 33 = .ok (.iconst 5, 1) := by decide +kernel
theorem dX9_quarters_34 : decode cX9_quarters 34 = .ok (.imul, 1) := by decide +kernel
theorem dX9_quarters_35 : decode cX9_quarters 35 = .ok (.iload_n 2, 1) := by decide +kernel
theorem dX9_quarters_36 : decode cX9_quarters 36 = .ok (.iadd, 1) := by decide +kernel
theorem dX9_quarters_37 : decode cX9_quarters 37 = .ok (.iaload, 1) := by decide +kernel
theorem dX9_quarters_38 : decode cX9_quarters 38 = .ok (.ireturn, 1) := by decide +kernel
theorem dX9_turned_0 : decode cX9_turned 0 = .ok (.aload_n 0, 1) := by decide +kernel
theorem dX9_turned_1 : decode cX9_turned 1 = .ok (.getfield 21, 3) := by decide +kernel
theorem dX9_turned_4 : decode cX9_turned 4 = .ok (.iload_n 1, 1) := by decide +kernel
theorem dX9_turned_5 : decode cX9_turned 5 = .ok (.iaload, 1) := by decide +kernel
theorem dX9_turned_6 : decode cX9_turned 6 = .ok (.iconst 2, 1) := by decide +kernel
theorem dX9_turned_7 : decode cX9_turned 7 = .ok (.if_icmp .ne 9, 3) := by decide +kernel
theorem dX9_turned_10 : decode cX9_turned 10 = .ok (.iload_n 2, 1) := by decide +kernel
theorem dX9_turned_11 : decode cX9_turned 11 = .ok (.iload_n 3, 1) := by decide +kernel
theorem dX9_turned_12 : decode cX9_turned 12 = .ok (.isub, 1) := by decide +kernel
theorem dX9_turned_13 : decode cX9_turned 13 = .ok (.goto 6, 3) := by decide +kernel
theorem dX9_turned_16 : decode cX9_turned 16 = .ok (.iload_n 2, 1) := by decide +kernel
theorem dX9_turned_17 : decode cX9_turned 17 = .ok (.iload_n 3, 1) := by decide +kernel
theorem dX9_turned_18 : decode cX9_turned 18 = .ok (.iadd, 1) := by decide +kernel
theorem dX9_turned_19 : decode cX9_turned 19 = .ok (.iconst 3, 1) := by decide +kernel
theorem dX9_turned_20 : decode cX9_turned 20 = .ok (.iand, 1) := by decide +kernel
theorem dX9_turned_21 : decode cX9_turned 21 = .ok (.ireturn, 1) := by decide +kernel
theorem dX10_init_0 : decode cX10_init 0 = .ok (.aload_n 0, 1) := by decide +kernel
theorem dX10_init_1 : decode cX10_init 1 = .ok (.invokespecial 3, 3) := by decide +kernel
theorem dX10_init_4 : decode cX10_init 4 = .ok (.aload_n 0, 1) := by decide +kernel
theorem dX10_init_5 : decode cX10_init 5 = .ok (.new 9, 3) := by decide +kernel
theorem dX10_init_8 : decode cX10_init 8 = .ok (.dup, 1) := by decide +kernel
theorem dX10_init_9 : decode cX10_init 9 = .ok (.invokespecial 11, 3) := by decide +kernel
theorem dX10_init_12 : decode cX10_init 12 = .ok (.putfield 12, 3) := by decide +kernel
theorem dX10_init_15 : decode cX10_init 15 = .ok (.aload_n 0, 1) := by decide +kernel
theorem dX10_init_16 : decode cX10_init 16 = .ok (.iconst 2, 1) := by decide +kernel
theorem dX10_init_17 : decode cX10_init 17 = .ok (.anewarray 9, 3) := by decide +kernel
theorem dX10_init_20 : decode cX10_init 20 = .ok (.putfield 16, 3) := by decide +kernel
theorem dX10_init_23 : decode cX10_init 23 = .ok (.aload_n 0, 1) := by decide +kernel
theorem dX10_init_24 : decode cX10_init 24 = .ok (.iconst 2, 1) := by decide +kernel
theorem dX10_init_25 : decode cX10_init 25 = .ok (.newarray .boolean, 2) := by decide +kernel
theorem dX10_init_27 : decode cX10_init 27 = .ok (.putfield 20, 3) := by decide +kernel
theorem dX10_init_30 : decode cX10_init 30 = .ok (.aload_n 0, 1) := by decide +kernel
theorem dX10_init_31 : decode cX10_init 31 = .ok (.new 24, 3) := by decide +kernel
theorem dX10_init_34 : decode cX10_init 34 = .ok (.dup, 1) := by decide +kernel
theorem dX10_init_35 : decode cX10_init 35 = .ok (.invokespecial 26, 3) := by decide +kernel
theorem dX10_init_38 : decode cX10_init 38 = .ok (.putfield 27, 3) := by decide +kernel
theorem dX10_init_41 : decode cX10_init 41 = .ok (.aload_n 0, 1) := by decide +kernel
theorem dX10_init_42 : decode cX10_init 42 = .ok (.new 31, 3) := by decide +kernel
theorem dX10_init_45 : decode cX10_init 45 = .ok (.dup, 1) := by decide +kernel
theorem dX10_init_46 : decode cX10_init 46 = .ok (.invokespecial 33, 3) := by decide +kernel
theorem dX10_init_49 : decode cX10_init 49 = .ok (.putfield 34, 3) := by decide +kernel
theorem dX10_init_52 : decode cX10_init 52 = .ok (.aload_n 0, 1) := by decide +kernel
theorem dX10_init_53 : decode cX10_init 53 = .ok (.new 38, 3) := by decide +kernel
theorem dX10_init_56 : decode cX10_init 56 = .ok (.dup, 1) := by decide +kernel
theorem dX10_init_57 : decode cX10_init 57 = .ok (.invokespecial 40, 3) := by decide +kernel
theorem dX10_init_60 : decode cX10_init 60 = .ok (.putfield 41, 3) := by decide +kernel
theorem dX10_init_63 : decode cX10_init 63 = .ok (.aload_n 0, 1) := by decide +kernel
theorem dX10_init_64 : decode cX10_init 64 = .ok (.new 45, 3) := by decide +kernel
theorem dX10_init_67 : decode cX10_init 67 = .ok (.dup, 1) := by decide +kernel
theorem dX10_init_68 : decode cX10_init 68 = .ok (.invokespecial 47, 3) := by decide +kernel
theorem dX10_init_71 : decode cX10_init 71 = .ok (.putfield 48, 3) := by decide +kernel
theorem dX10_init_74 : decode cX10_init 74 = .ok (.aload_n 0, 1) := by decide +kernel
theorem dX10_init_75 : decode cX10_init 75 = .ok (.new 52, 3) := by decide +kernel
theorem dX10_init_78 : decode cX10_init 78 = .ok (.dup, 1) := by decide +kernel
theorem dX10_init_79 : decode cX10_init 79 = .ok (.invokespecial 54, 3) := by decide +kernel
theorem dX10_init_82 : decode cX10_init 82 = .ok (.putfield 55, 3) := by decide +kernel
theorem dX10_init_85 : decode cX10_init 85 = .ok (.aload_n 0, 1) := by decide +kernel
theorem dX10_init_86 : decode cX10_init 86 = .ok (.new 59, 3) := by decide +kernel
theorem dX10_init_89 : decode cX10_init 89 = .ok (.dup, 1) := by decide +kernel
theorem dX10_init_90 : decode cX10_init 90 = .ok (.invokespecial 61, 3) := by decide +kernel
theorem dX10_init_93 : decode cX10_init 93 = .ok (.putfield 62, 3) := by decide +kernel
theorem dX10_init_96 : decode cX10_init 96 = .ok (.aload_n 0, 1) := by decide +kernel
theorem dX10_init_97 : decode cX10_init 97 = .ok (.new 66, 3) := by decide +kernel
theorem dX10_init_100 : decode cX10_init 100 = .ok (.dup, 1) := by decide +kernel
theorem dX10_init_101 : decode cX10_init 101 = .ok (.invokespecial 68, 3) := by decide +kernel
theorem dX10_init_104 : decode cX10_init 104 = .ok (.putfield 69, 3) := by decide +kernel
theorem dX10_init_107 : decode cX10_init 107 = .ok (.aload_n 0, 1) := by decide +kernel
theorem dX10_init_108 : decode cX10_init 108 = .ok (.new 73, 3) := by decide +kernel
theorem dX10_init_111 : decode cX10_init 111 = .ok (.dup, 1) := by decide +kernel
theorem dX10_init_112 : decode cX10_init 112 = .ok (.invokespecial 75, 3) := by decide +kernel
theorem dX10_init_115 : decode cX10_init 115 = .ok (.putfield 76, 3) := by decide +kernel
theorem dX10_init_118 : decode cX10_init 118 = .ok (.iconst 0, 1) := by decide +kernel
theorem dX10_init_119 : decode cX10_init 119 = .ok (.istore_n 1, 1) := by decide +kernel
theorem dX10_init_120 : decode cX10_init 120 = .ok (.iload_n 1, 1) := by decide +kernel
theorem dX10_init_121 : decode cX10_init 121 = .ok (.iconst 2, 1) := by decide +kernel
theorem dX10_init_122 : decode cX10_init 122 = .ok (.if_icmp .ge 22, 3) := by decide +kernel
theorem dX10_init_125 : decode cX10_init 125 = .ok (.aload_n 0, 1) := by decide +kernel
theorem dX10_init_126 : decode cX10_init 126 = .ok (.getfield 16, 3) := by decide +kernel
theorem dX10_init_129 : decode cX10_init 129 = .ok (.iload_n 1, 1) := by decide +kernel
theorem dX10_init_130 : decode cX10_init 130 = .ok (.new 9, 3) := by decide +kernel
theorem dX10_init_133 : decode cX10_init 133 = .ok (.dup, 1) := by decide +kernel
theorem dX10_init_134 : decode cX10_init 134 = .ok (.invokespecial 11, 3) := by decide +kernel
theorem dX10_init_137 : decode cX10_init 137 = .ok (.aastore, 1) := by decide +kernel
theorem dX10_init_138 : decode cX10_init 138 = .ok (.iinc 1 1, 3) := by decide +kernel
theorem dX10_init_141 : decode cX10_init 141 = .ok (.goto (-21), 3) := by decide +kernel
theorem dX10_init_144 : decode cX10_init 144 = .ok (.return_, 1) := by decide +kernel
theorem dX10_huts_0 : decode cX10_huts 0 = .ok (.iload_n 1, 1) := by decide +kernel
theorem dX10_huts_1 : decode cX10_huts 1 = .ok (.iconst 1, 1) := by decide +kernel
theorem dX10_huts_2 : decode cX10_huts 2 = .ok (.if_icmp .lt 8, 3) := by decide +kernel
theorem dX10_huts_5 : decode cX10_huts 5 = .ok (.iload_n 1, 1) := by decide +kernel
theorem dX10_huts_6 : decode cX10_huts 6 = .ok (.iconst 5, 1) := by decide +kernel
theorem dX10_huts_7 : decode cX10_huts 7 = .ok (.if_icmp .le 6, 3) := by decide +kernel
theorem dX10_huts_10 : decode cX10_huts 10 = .ok (.bipush (-2), 2) := by decide +kernel
theorem dX10_huts_12 : decode cX10_huts 12 = .ok (.ireturn, 1) := by decide +kernel
theorem dX10_huts_13 : decode cX10_huts 13 = .ok (.aload_n 0, 1) := by decide +kernel
theorem dX10_huts_14 : decode cX10_huts 14 = .ok (.getfield 12, 3) := by decide +kernel
theorem dX10_huts_17 : decode cX10_huts 17 = .ok (.getfield 80, 3) := by decide +kernel
theorem dX10_huts_20 : decode cX10_huts 20 = .ok (.istore_n 2, 1) := by decide +kernel
theorem dX10_huts_21 : decode cX10_huts 21 = .ok (.aload_n 0, 1) := by decide +kernel
theorem dX10_huts_22 : decode cX10_huts 22 = .ok (.getfield 12, 3) := by decide +kernel
theorem dX10_huts_25 : decode cX10_huts 25 = .ok (.iload_n 1, 1) := by decide +kernel
theorem dX10_huts_26 : decode cX10_huts 26 = .ok (.invokevirtual 84, 3) := by decide +kernel
theorem dX10_huts_29 : decode cX10_huts 29 = .ok (.iload_n 2, 1) := by decide +kernel
theorem dX10_huts_30 : decode cX10_huts 30 = .ok (.ireturn, 1) := by decide +kernel
theorem dX10_hut_0 : decode cX10_hut 0 = .ok (.aload_n 0, 1) := by decide +kernel
theorem dX10_hut_1 : decode cX10_hut 1 = .ok (.getfield 12, 3) := by decide +kernel
theorem dX10_hut_4 : decode cX10_hut 4 = .ok (.iload_n 1, 1) := by decide +kernel
theorem dX10_hut_5 : decode cX10_hut 5 = .ok (.invokevirtual 88, 3) := by decide +kernel
theorem dX10_hut_8 : decode cX10_hut 8 = .ok (.ifCond .ne 5, 3) := by decide +kernel
theorem dX10_hut_11 : decode cX10_hut 11 = .ok (.iconst (-1), 1) := by decide +kernel
theorem dX10_hut_12 : decode cX10_hut 12 = .ok (.ireturn, 1) := by decide +kernel
theorem dX10_hut_13 : decode cX10_hut 13 = .ok (.iload_n 2, 1) := by decide +kernel
theorem dX10_hut_14 : decode cX10_hut 14 = .ok (.iconst 0, 1) := by decide +kernel
theorem dX10_hut_15 : decode cX10_hut 15 = .ok (.iconst 3, 1) := by decide +kernel
theorem dX10_hut_16 : decode cX10_hut 16 = .ok (.invokestatic 92, 3) := by decide +kernel
theorem dX10_hut_19 : decode cX10_hut 19 = .ok (.ifCond .eq 15, 3) := by decide +kernel
theorem dX10_hut_22 : decode cX10_hut 22 = .ok (.iload_n 3, 1) := by decide +kernel
theorem dX10_hut_23 : decode cX10_hut 23 = .ok (.iconst 0, 1) := by decide +kernel
theorem dX10_hut_24 : decode cX10_hut 24 = .ok (.iload_n 2, 1) := by decide +kernel
theorem dX10_hut_25 : decode cX10_hut 25 = .ok (.invokestatic 96, 3) := by decide +kernel
theorem dX10_hut_28 : decode cX10_hut 28 = .ok (.invokestatic 92, 3) := by decide +kernel
theorem dX10_hut_31 : decode cX10_hut 31 = .ok (.ifCond .ne 6, 3) := by decide +kernel
theorem dX10_hut_34 : decode cX10_hut 34 = .ok (.bipush (-2), 2) := by decide +kernel
theorem dX10_hut_36 : decode cX10_hut 36 = .ok (.ireturn, 1) := by decide +kernel
theorem dX10_hut_37 : decode cX10_hut 37 = .ok (.iload_n 2, 1) := by decide +kernel
theorem dX10_hut_38 : decode cX10_hut 38 = .ok (.iconst 3, 1) := by decide +kernel
theorem dX10_hut_39 : decode cX10_hut 39 = .ok (.if_icmp .ne 18, 3) := by decide +kernel
theorem dX10_hut_42 : decode cX10_hut 42 = .ok (.aload_n 0, 1) := by decide +kernel
theorem dX10_hut_43 : decode cX10_hut 43 = .ok (.getfield 12, 3) := by decide +kernel
theorem dX10_hut_46 : decode cX10_hut 46 = .ok (.iload_n 3, 1) := by decide +kernel
theorem dX10_hut_47 : decode cX10_hut 47 = .ok (.iload_n 1, 1) := by decide +kernel
theorem dX10_hut_48 : decode cX10_hut 48 = .ok (.invokevirtual 100, 3) := by decide +kernel
theorem dX10_hut_51 : decode cX10_hut 51 = .ok (.ifCond .eq 6, 3) := by decide +kernel
theorem dX10_hut_54 : decode cX10_hut 54 = .ok (.bipush (-3), 2) := by decide +kernel
theorem dX10_hut_56 : decode cX10_hut 56 = .ok (.ireturn, 1) := by decide +kernel
theorem dX10_hut_57 : decode cX10_hut 57 = .ok (.aload_n 0, 1) := by decide +kernel
theorem dX10_hut_58 : decode cX10_hut 58 = .ok (.getfield 12, 3) := by decide +kernel
theorem dX10_hut_61 : decode cX10_hut 61 = .ok (.iload_n 1, 1) := by decide +kernel
theorem dX10_hut_62 : decode cX10_hut 62 = .ok (.iload_n 2, 1) := by decide +kernel
theorem dX10_hut_63 : decode cX10_hut 63 = .ok (.iload_n 3, 1) := by decide +kernel
theorem dX10_hut_64 : decode cX10_hut 64 = .ok (.invokevirtual 104, 3) := by decide +kernel
theorem dX10_hut_67 : decode cX10_hut 67 = .ok (.ireturn, 1) := by decide +kernel
theorem dX10_say_0 : decode cX10_say 0 = .ok (.iload_n 1, 1) := by decide +kernel
theorem dX10_say_1 : decode cX10_say 1 = .ok (.bipush 33, 2) := by decide +kernel
theorem dX10_say_3 : decode cX10_say 3 = .ok (.bipush 126, 2) := by decide +kernel
theorem dX10_say_5 : decode cX10_say 5 = .ok (.invokestatic 92, 3) := by decide +kernel
theorem dX10_say_8 : decode cX10_say 8 = .ok (.ifCond .ne 6, 3) := by decide +kernel
theorem dX10_say_11 : decode cX10_say 11 = .ok (.bipush (-2), 2) := by decide +kernel
theorem dX10_say_13 : decode cX10_say 13 = .ok (.ireturn, 1) := by decide +kernel
theorem dX10_say_14 : decode cX10_say 14 = .ok (.aload_n 0, 1) := by decide +kernel
theorem dX10_say_15 : decode cX10_say 15 = .ok (.getfield 27, 3) := by decide +kernel
theorem dX10_say_18 : decode cX10_say 18 = .ok (.iload_n 1, 1) := by decide +kernel
theorem dX10_say_19 : decode cX10_say 19 = .ok (.invokevirtual 108, 3) := by decide +kernel
theorem dX10_say_22 : decode cX10_say 22 = .ok (.ireturn, 1) := by decide +kernel
theorem dX10_wipe_0 : decode cX10_wipe 0 = .ok (.aload_n 0, 1) := by decide +kernel
theorem dX10_wipe_1 : decode cX10_wipe 1 = .ok (.getfield 27, 3) := by decide +kernel
theorem dX10_wipe_4 : decode cX10_wipe 4 = .ok (.invokevirtual 111, 3) := by decide +kernel
theorem dX10_wipe_7 : decode cX10_wipe 7 = .ok (.ireturn, 1) := by decide +kernel
theorem dX10_fault_0 : decode cX10_fault 0 = .ok (.iload_n 1, 1) := by decide +kernel
theorem dX10_fault_1 : decode cX10_fault 1 = .ok (.iconst 0, 1) := by decide +kernel
theorem dX10_fault_2 : decode cX10_fault 2 = .ok (.iconst 1, 1) := by decide +kernel
theorem dX10_fault_3 : decode cX10_fault 3 = .ok (.invokestatic 92, 3) := by decide +kernel
theorem dX10_fault_6 : decode cX10_fault 6 = .ok (.ifCond .ne 6, 3) := by decide +kernel
theorem dX10_fault_9 : decode cX10_fault 9 = .ok (.bipush (-2), 2) := by decide +kernel
theorem dX10_fault_11 : decode cX10_fault 11 = .ok (.ireturn, 1) := by decide +kernel
theorem dX10_fault_12 : decode cX10_fault 12 = .ok (.iload_n 1, 1) := by decide +kernel
theorem dX10_fault_13 : decode cX10_fault 13 = .ok (.ifCond .ne 20, 3) := by decide +kernel
theorem dX10_fault_16 : decode cX10_fault 16 = .ok (.aload_n 0, 1) := by decide +kernel
theorem dX10_fault_17 : decode cX10_fault 17 = .ok (.getfield 27, 3) := by decide +kernel
theorem dX10_fault_20 : decode cX10_fault 20 = .ok (.aload_n 0, 1) := by decide +kernel
theorem dX10_fault_21 : decode cX10_fault 21 = .ok (.getfield 12, 3) := by decide +kernel
theorem dX10_fault_24 : decode cX10_fault 24 = .ok (.getfield 80, 3) := by decide +kernel
theorem dX10_fault_27 : decode cX10_fault 27 = .ok (.invokevirtual 115, 3) := by decide +kernel
theorem dX10_fault_30 : decode cX10_fault 30 = .ok (.goto 17, 3) := by decide +kernel
theorem dX10_fault_33 : decode cX10_fault 33 = .ok (.aload_n 0, 1) := by decide +kernel
theorem dX10_fault_34 : decode cX10_fault 34 = .ok (.getfield 27, 3) := by decide +kernel
theorem dX10_fault_37 : decode cX10_fault 37 = .ok (.aload_n 0, 1) := by decide +kernel
theorem dX10_fault_38 : decode cX10_fault 38 = .ok (.getfield 12, 3) := by decide +kernel
theorem dX10_fault_41 : decode cX10_fault 41 = .ok (.getfield 80, 3) := by decide +kernel
theorem dX10_fault_44 : decode cX10_fault 44 = .ok (.invokevirtual 118, 3) := by decide +kernel
theorem dX10_fault_47 : decode cX10_fault 47 = .ok (.ireturn, 1) := by decide +kernel
theorem dX10_word_0 : decode cX10_word 0 = .ok (.iload_n 1, 1) := by decide +kernel
theorem dX10_word_1 : decode cX10_word 1 = .ok (.iconst 0, 1) := by decide +kernel
theorem dX10_word_2 : decode cX10_word 2 = .ok (.iconst 5, 1) := by decide +kernel
theorem dX10_word_3 : decode cX10_word 3 = .ok (.invokestatic 92, 3) := by decide +kernel
theorem dX10_word_6 : decode cX10_word 6 = .ok (.ifCond .ne 5, 3) := by decide +kernel
theorem dX10_word_9 : decode cX10_word 9 = .ok (.iconst (-1), 1) := by decide +kernel
theorem dX10_word_10 : decode cX10_word 10 = .ok (.ireturn, 1) := by decide +kernel
theorem dX10_word_11 : decode cX10_word 11 = .ok (.aload_n 0, 1) := by decide +kernel
theorem dX10_word_12 : decode cX10_word 12 = .ok (.getfield 27, 3) := by decide +kernel
theorem dX10_word_15 : decode cX10_word 15 = .ok (.aload_n 0, 1) := by decide +kernel
theorem dX10_word_16 : decode cX10_word 16 = .ok (.getfield 12, 3) := by decide +kernel
theorem dX10_word_19 : decode cX10_word 19 = .ok (.getfield 80, 3) := by decide +kernel
theorem dX10_word_22 : decode cX10_word 22 = .ok (.invokevirtual 115, 3) := by decide +kernel
theorem dX10_word_25 : decode cX10_word 25 = .ok (.bipush (-6), 2) := by decide +kernel
theorem dX10_word_27 : decode cX10_word 27 = .ok (.if_icmp .eq 6, 3) := by decide +kernel
theorem dX10_word_30 : decode cX10_word 30 = .ok (.bipush (-5), 2) := by decide +kernel
theorem dX10_word_32 : decode cX10_word 32 = .ok (.ireturn, 1) := by decide +kernel
theorem dX10_word_33 : decode cX10_word 33 = .ok (.iconst 0, 1) := by decide +kernel
theorem dX10_word_34 : decode cX10_word 34 = .ok (.istore_n 2, 1) := by decide +kernel
theorem dX10_word_35 : decode cX10_word 35 = .ok (.iload_n 2, 1) := by decide +kernel
theorem dX10_word_36 : decode cX10_word 36 = .ok (.aload_n 0, 1) := by decide +kernel
theorem dX10_word_37 : decode cX10_word 37 = .ok (.getfield 12, 3) := by decide +kernel
theorem dX10_word_40 : decode cX10_word 40 = .ok (.getfield 80, 3) := by decide +kernel
theorem dX10_word_43 : decode cX10_word 43 = .ok (.if_icmp .ge 33, 3) := by decide +kernel
theorem dX10_word_46 : decode cX10_word 46 = .ok (.aload_n 0, 1) := by decide +kernel
theorem dX10_word_47 : decode cX10_word 47 = .ok (.getfield 12, 3) := by decide +kernel
theorem dX10_word_50 : decode cX10_word 50 = .ok (.getfield 121, 3) := by decide +kernel
theorem dX10_word_53 : decode cX10_word 53 = .ok (.iload_n 1, 1) := by decide +kernel
theorem dX10_word_54 : decode cX10_word 54 = .ok (.iconst 5, 1) := by decide +kernel
theorem dX10_word_55 : decode cX10_word 55 = .ok (.imul, 1) := by decide +kernel
theorem dX10_word_56 : decode cX10_word 56 = .ok (.iload_n 2, 1) := by decide +kernel
theorem dX10_word_57 : decode cX10_word 57 = .ok (.iadd, 1) := by decide +kernel
theorem dX10_word_58 : decode cX10_word 58 = .ok (.aload_n 0, 1) := by decide +kernel
theorem dX10_word_59 : decode cX10_word 59 = .ok (.getfield 27, 3) := by decide +kernel
theorem dX10_word_62 : decode cX10_word 62 = .ok (.iload_n 2, 1) := by decide +kernel
theorem dX10_word_63 : decode cX10_word 63 = .ok (.invokevirtual 125, 3) := by decide +kernel
theorem dX10_word_66 : decode cX10_word 66 = .ok (.bipush 48, 2) := by decide +kernel
theorem dX10_word_68 : decode cX10_word 68 = .ok (.isub, 1) := by decide +kernel
theorem dX10_word_69 : decode cX10_word 69 = .ok (.iastore, 1) := by decide +kernel
theorem dX10_word_70 : decode cX10_word 70 = .ok (.iinc 2 1, 3) := by decide +kernel
theorem dX10_word_73 : decode cX10_word 73 = .ok (.goto (-38), 3) := by decide +kernel
theorem dX10_word_76 : decode cX10_word 76 = .ok (.aload_n 0, 1) := by decide +kernel
theorem dX10_word_77 : decode cX10_word 77 = .ok (.getfield 12, 3) := by decide +kernel
theorem dX10_word_80 : decode cX10_word 80 = .ok (.dup, 1) := by decide +kernel
theorem dX10_word_81 : decode cX10_word 81 = .ok (.getfield 128, 3) := by decide +kernel
theorem dX10_word_84 : decode cX10_word 84 = .ok (.iconst 1, 1) := by decide +kernel
theorem dX10_word_85 : decode cX10_word 85 = .ok (.iload_n 1, 1) := by decide +kernel
theorem dX10_word_86 : decode cX10_word 86 = .ok (.ishl, 1) := by decide +kernel
theorem dX10_word_87 : decode cX10_word 87 = .ok (.ior, 1) := by decide +kernel
theorem dX10_word_88 : decode cX10_word 88 = .ok (.putfield 128, 3) := by decide +kernel
theorem dX10_word_91 : decode cX10_word 91 = .ok (.aload_n 0, 1) := by decide +kernel
theorem dX10_word_92 : decode cX10_word 92 = .ok (.getfield 27, 3) := by decide +kernel
theorem dX10_word_95 : decode cX10_word 95 = .ok (.invokevirtual 111, 3) := by decide +kernel
theorem dX10_word_98 : decode cX10_word 98 = .ok (.pop, 1) := by decide +kernel
theorem dX10_word_99 : decode cX10_word 99 = .ok (.aload_n 0, 1) := by decide +kernel
theorem dX10_word_100 : decode cX10_word 100 = .ok (.getfield 12, 3) := by decide +kernel
theorem dX10_word_103 : decode cX10_word 103 = .ok (.getfield 128, 3) := by decide +kernel
theorem dX10_word_106 : decode cX10_word 106 = .ok (.invokestatic 131, 3) := by decide +kernel
theorem dX10_word_109 : decode cX10_word 109 = .ok (.ireturn, 1) := by decide +kernel
theorem dX10_unword_0 : decode cX10_unword 0 = .ok (.aload_n 0, 1) := by decide +kernel
theorem dX10_unword_1 : decode cX10_unword 1 = .ok (.getfield 12, 3) := by decide +kernel
theorem dX10_unword_4 : decode cX10_unword 4 = .ok (.iload_n 1, 1) := by decide +kernel
theorem dX10_unword_5 : decode cX10_unword 5 = .ok (.invokevirtual 136, 3) := by decide +kernel
theorem dX10_unword_8 : decode cX10_unword 8 = .ok (.ifCond .ne 5, 3) := by decide +kernel
theorem dX10_unword_11 : decode cX10_unword 11 = .ok (.iconst (-1), 1) := by decide +kernel
theorem dX10_unword_12 : decode cX10_unword 12 = .ok (.ireturn, 1) := by decide +kernel
theorem dX10_unword_13 : decode cX10_unword 13 = .ok (.aload_n 0, 1) := by decide +kernel
theorem dX10_unword_14 : decode cX10_unword 14 = .ok (.getfield 12, 3) := by decide +kernel
theorem dX10_unword_17 : decode cX10_unword 17 = .ok (.dup, 1) := by decide +kernel
theorem dX10_unword_18 : decode cX10_unword 18 = .ok (.getfield 128, 3) := by decide +kernel
theorem dX10_unword_21 : decode cX10_unword 21 = .ok (.iconst 1, 1) := by decide +kernel
theorem dX10_unword_22 : decode cX10_unword 22 = .ok (.iload_n 1, 1) := by decide +kernel
theorem dX10_unword_23 : decode cX10_unword 23 = .ok (.ishl, 1) := by decide +kernel
theorem dX10_unword_24 : decode cX10_unword 24 = .ok (.iconst (-1), 1) := by decide +kernel
theorem dX10_unword_25 : decode cX10_unword 25 = .ok (.ixor, 1) := by decide +kernel
theorem dX10_unword_26 : decode cX10_unword 26 = .ok (.iand, 1) := by decide +kernel
theorem dX10_unword_27 : decode cX10_unword 27 = .ok (.putfield 128, 3) := by decide +kernel
theorem dX10_unword_30 : decode cX10_unword 30 = .ok (.aload_n 0, 1) := by decide +kernel
theorem dX10_unword_31 : decode cX10_unword 31 = .ok (.getfield 12, 3) := by decide +kernel
theorem dX10_unword_34 : decode cX10_unword 34 = .ok (.getfield 128, 3) := by decide +kernel
theorem dX10_unword_37 : decode cX10_unword 37 = .ok (.invokestatic 131, 3) := by decide +kernel
theorem dX10_unword_40 : decode cX10_unword 40 = .ok (.ireturn, 1) := by decide +kernel
theorem dX10_judge_0 : decode cX10_judge 0 = .ok (.iload_n 1, 1) := by decide +kernel
theorem dX10_judge_1 : decode cX10_judge 1 = .ok (.iconst 0, 1) := by decide +kernel
theorem dX10_judge_2 : decode cX10_judge 2 = .ok (.iconst 3, 1) := by decide +kernel
theorem dX10_judge_3 : decode cX10_judge 3 = .ok (.invokestatic 92, 3) := by decide +kernel
theorem dX10_judge_6 : decode cX10_judge 6 = .ok (.ifCond .ne 6, 3) := by decide +kernel
theorem dX10_judge_9 : decode cX10_judge 9 = .ok (.bipush (-2), 2) := by decide +kernel
theorem dX10_judge_11 : decode cX10_judge 11 = .ok (.ireturn, 1) := by decide +kernel
theorem dX10_judge_12 : decode cX10_judge 12 = .ok (.aload_n 0, 1) := by decide +kernel
theorem dX10_judge_13 : decode cX10_judge 13 = .ok (.getfield 27, 3) := by decide +kernel
theorem dX10_judge_16 : decode cX10_judge 16 = .ok (.aload_n 0, 1) := by decide +kernel
theorem dX10_judge_17 : decode cX10_judge 17 = .ok (.getfield 12, 3) := by decide +kernel
theorem dX10_judge_20 : decode cX10_judge 20 = .ok (.getfield 80, 3) := by decide +kernel
theorem dX10_judge_23 : decode cX10_judge 23 = .ok (.invokevirtual 118, 3) := by decide +kernel
theorem dX10_judge_26 : decode cX10_judge 26 = .ok (.bipush (-6), 2) := by decide +kernel
theorem dX10_judge_28 : decode cX10_judge 28 = .ok (.if_icmp .eq 6, 3) := by decide +kernel
theorem dX10_judge_31 : decode cX10_judge 31 = .ok (.bipush (-5), 2) := by decide +kernel
theorem dX10_judge_33 : decode cX10_judge 33 = .ok (.ireturn, 1) := by decide +kernel
theorem dX10_judge_34 : decode cX10_judge 34 = .ok (.aload_n 0, 1) := by decide +kernel
theorem dX10_judge_35 : decode cX10_judge 35 = .ok (.getfield 34, 3) := by decide +kernel
theorem dX10_judge_38 : decode cX10_judge 38 = .ok (.aload_n 0, 1) := by decide +kernel
theorem dX10_judge_39 : decode cX10_judge 39 = .ok (.getfield 12, 3) := by decide +kernel
theorem dX10_judge_42 : decode cX10_judge 42 = .ok (.aload_n 0, 1) := by decide +kernel
theorem dX10_judge_43 : decode cX10_judge 43 = .ok (.getfield 27, 3) := by decide +kernel
theorem dX10_judge_46 : decode cX10_judge 46 = .ok (.invokevirtual 139, 3) := by decide +kernel
theorem dX10_judge_49 : decode cX10_judge 49 = .ok (.iload_n 1, 1) := by decide +kernel
theorem dX10_judge_50 : decode cX10_judge 50 = .ok (.ifCond .ne 26, 3) := by decide +kernel
theorem dX10_judge_53 : decode cX10_judge 53 = .ok (.aload_n 0, 1) := by decide +kernel
theorem dX10_judge_54 : decode cX10_judge 54 = .ok (.getfield 34, 3) := by decide +kernel
theorem dX10_judge_57 : decode cX10_judge 57 = .ok (.getfield 143, 3) := by decide +kernel
theorem dX10_judge_60 : decode cX10_judge 60 = .ok (.ifCond .ne 8, 3) := by decide +kernel
theorem dX10_judge_63 : decode cX10_judge 63 = .ok (.bipush (-6), 2) := by decide +kernel
theorem dX10_judge_65 : decode cX10_judge 65 = .ok (.goto 10, 3) := by decide +kernel
theorem dX10_judge_68 : decode cX10_judge 68 = .ok (.aload_n 0, 1) := by decide +kernel
theorem dX10_judge_69 : decode cX10_judge 69 = .ok (.getfield 34, 3) := by decide +kernel
theorem dX10_judge_72 : decode cX10_judge 72 = .ok (.getfield 146, 3) := by decide +kernel
theorem dX10_judge_75 : decode cX10_judge 75 = .ok (.ireturn, 1) := by decide +kernel
theorem dX10_judge_76 : decode cX10_judge 76 = .ok (.iload_n 1, 1) := by decide +kernel
theorem dX10_judge_77 : decode cX10_judge 77 = .ok (.iconst 1, 1) := by decide +kernel
theorem dX10_judge_78 : decode cX10_judge 78 = .ok (.if_icmp .ne 26, 3) := by decide +kernel
theorem dX10_judge_81 : decode cX10_judge 81 = .ok (.aload_n 0, 1) := by decide +kernel
theorem dX10_judge_82 : decode cX10_judge 82 = .ok (.getfield 34, 3) := by decide +kernel
theorem dX10_judge_85 : decode cX10_judge 85 = .ok (.getfield 143, 3) := by decide +kernel
theorem dX10_judge_88 : decode cX10_judge 88 = .ok (.ifCond .ne 8, 3) := by decide +kernel
theorem dX10_judge_91 : decode cX10_judge 91 = .ok (.bipush (-6), 2) := by decide +kernel
theorem dX10_judge_93 : decode cX10_judge 93 = .ok (.goto 10, 3) := by decide +kernel
theorem dX10_judge_96 : decode cX10_judge 96 = .ok (.aload_n 0, 1) := by decide +kernel
theorem dX10_judge_97 : decode cX10_judge 97 = .ok (.getfield 34, 3) := by decide +kernel
theorem dX10_judge_100 : decode cX10_judge 100 = .ok (.getfield 143, 3) := by decide +kernel
theorem dX10_judge_103 : decode cX10_judge 103 = .ok (.ireturn, 1) := by decide +kernel
theorem dX10_judge_104 : decode cX10_judge 104 = .ok (.aload_n 0, 1) := by decide +kernel
theorem dX10_judge_105 : decode cX10_judge 105 = .ok (.getfield 34, 3) := by decide +kernel
theorem dX10_judge_108 : decode cX10_judge 108 = .ok (.getfield 143, 3) := by decide +kernel
theorem dX10_judge_111 : decode cX10_judge 111 = .ok (.ifCond .eq 6, 3) := by decide +kernel
theorem dX10_judge_114 : decode cX10_judge 114 = .ok (.bipush (-3), 2) := by decide +kernel
theorem dX10_judge_116 : decode cX10_judge 116 = .ok (.ireturn, 1) := by decide +kernel
theorem dX10_judge_117 : decode cX10_judge 117 = .ok (.iload_n 1, 1) := by decide +kernel
theorem dX10_judge_118 : decode cX10_judge 118 = .ok (.iconst 2, 1) := by decide +kernel
theorem dX10_judge_119 : decode cX10_judge 119 = .ok (.if_icmp .ne 13, 3) := by decide +kernel
theorem dX10_judge_122 : decode cX10_judge 122 = .ok (.aload_n 0, 1) := by decide +kernel
theorem dX10_judge_123 : decode cX10_judge 123 = .ok (.getfield 34, 3) := by decide +kernel
theorem dX10_judge_126 : decode cX10_judge 126 = .ok (.getfield 149, 3) := by decide +kernel
theorem dX10_judge_129 : decode cX10_judge 129 = .ok (.goto 10, 3) := by decide +kernel
theorem dX10_judge_132 : decode cX10_judge 132 = .ok (.aload_n 0, 1) := by decide +kernel
theorem dX10_judge_133 : decode cX10_judge 133 = .ok (.getfield 34, 3) := by decide +kernel
theorem dX10_judge_136 : decode cX10_judge 136 = .ok (.getfield 152, 3) := by decide +kernel
theorem dX10_judge_139 : decode cX10_judge 139 = .ok (.ireturn, 1) := by decide +kernel
theorem dX10_behind_0 : decode cX10_behind 0 = .ok (.aload_n 0, 1) := by decide +kernel
theorem dX10_behind_1 : decode cX10_behind 1 = .ok (.getfield 12, 3) := by decide +kernel
theorem dX10_behind_4 : decode cX10_behind 4 = .ok (.iload_n 1, 1) := by decide +kernel
theorem dX10_behind_5 : decode cX10_behind 5 = .ok (.invokevirtual 88, 3) := by decide +kernel
theorem dX10_behind_8 : decode cX10_behind 8 = .ok (.ifCond .ne 5, 3) := by decide +kernel
theorem dX10_behind_11 : decode cX10_behind 11 = .ok (.iconst (-1), 1) := by decide +kernel
theorem dX10_behind_12 : decode cX10_behind 12 = .ok (.ireturn, 1) := by decide +kernel
theorem dX10_behind_13 : decode cX10_behind 13 = .ok (.iload_n 2, 1) := by decide +kernel
theorem dX10_behind_14 : decode cX10_behind 14 = .ok (.iconst 0, 1) := by decide +kernel
theorem dX10_behind_15 : decode cX10_behind 15 = .ok (.iconst 1, 1) := by decide +kernel
theorem dX10_behind_16 : decode cX10_behind 16 = .ok (.invokestatic 92, 3) := by decide +kernel
theorem dX10_behind_19 : decode cX10_behind 19 = .ok (.ifCond .ne 6, 3) := by decide +kernel
theorem dX10_behind_22 : decode cX10_behind 22 = .ok (.bipush (-2), 2) := by decide +kernel
theorem dX10_behind_24 : decode cX10_behind 24 = .ok (.ireturn, 1) := by decide +kernel
theorem dX10_behind_25 : decode cX10_behind 25 = .ok (.aload_n 0, 1) := by decide +kernel
theorem dX10_behind_26 : decode cX10_behind 26 = .ok (.invokevirtual 155, 3) := by decide +kernel
theorem dX10_behind_29 : decode cX10_behind 29 = .ok (.istore_n 3, 1) := by decide +kernel
theorem dX10_behind_30 : decode cX10_behind 30 = .ok (.iload_n 3, 1) := by decide +kernel
theorem dX10_behind_31 : decode cX10_behind 31 = .ok (.ifCond .eq 5, 3) := by decide +kernel
theorem dX10_behind_34 : decode cX10_behind 34 = .ok (.iload_n 3, 1) := by decide +kernel
theorem dX10_behind_35 : decode cX10_behind 35 = .ok (.ireturn, 1) := by decide +kernel
theorem dX10_behind_36 : decode cX10_behind 36 = .ok (.iload_n 2, 1) := by decide +kernel
theorem dX10_behind_37 : decode cX10_behind 37 = .ok (.ifCond .ne 15, 3) := by decide +kernel
theorem dX10_behind_40 : decode cX10_behind 40 = .ok (.aload_n 0, 1) := by decide +kernel
theorem dX10_behind_41 : decode cX10_behind 41 = .ok (.getfield 34, 3) := by decide +kernel
theorem dX10_behind_44 : decode cX10_behind 44 = .ok (.getfield 158, 3) := by decide +kernel
theorem dX10_behind_47 : decode cX10_behind 47 = .ok (.iload_n 1, 1) := by decide +kernel
theorem dX10_behind_48 : decode cX10_behind 48 = .ok (.iaload, 1) := by decide +kernel
theorem dX10_behind_49 : decode cX10_behind 49 = .ok (.goto 12, 3) := by decide +kernel
theorem dX10_behind_52 : decode cX10_behind 52 = .ok (.aload_n 0, 1) := by decide +kernel
theorem dX10_behind_53 : decode cX10_behind 53 = .ok (.getfield 34, 3) := by decide +kernel
theorem dX10_behind_56 : decode cX10_behind 56 = .ok (.getfield 161, 3) := by decide +kernel
theorem dX10_behind_59 : decode cX10_behind 59 = .ok (.iload_n 1, 1) := by decide +kernel
theorem dX10_behind_60 : decode cX10_behind 60 = .ok (.iaload, 1) := by decide +kernel
theorem dX10_behind_61 : decode cX10_behind 61 = .ok (.ireturn, 1) := by decide +kernel
theorem dX10_done_0 : decode cX10_done 0 = .ok (.aload_n 0, 1) := by decide +kernel
theorem dX10_done_1 : decode cX10_done 1 = .ok (.invokevirtual 155, 3) := by decide +kernel
theorem dX10_done_4 : decode cX10_done 4 = .ok (.istore_n 1, 1) := by decide +kernel
theorem dX10_done_5 : decode cX10_done 5 = .ok (.iload_n 1, 1) := by decide +kernel
theorem dX10_done_6 : decode cX10_done 6 = .ok (.ifCond .eq 5, 3) := by decide +kernel
theorem dX10_done_9 : decode cX10_done 9 = .ok (.iload_n 1, 1) := by decide +kernel
theorem dX10_done_10 : decode cX10_done 10 = .ok (.ireturn, 1) := by decide +kernel
theorem dX10_done_11 : decode cX10_done 11 = .ok (.aload_n 0, 1) := by decide +kernel
theorem dX10_done_12 : decode cX10_done 12 = .ok (.getfield 34, 3) := by decide +kernel
theorem dX10_done_15 : decode cX10_done 15 = .ok (.aload_n 0, 1) := by decide +kernel
theorem dX10_done_16 : decode cX10_done 16 = .ok (.getfield 12, 3) := by decide +kernel
theorem dX10_done_19 : decode cX10_done 19 = .ok (.invokevirtual 164, 3) := by decide +kernel
theorem dX10_done_22 : decode cX10_done 22 = .ok (.aload_n 0, 1) := by decide +kernel
theorem dX10_done_23 : decode cX10_done 23 = .ok (.getfield 27, 3) := by decide +kernel
theorem dX10_done_26 : decode cX10_done 26 = .ok (.invokevirtual 111, 3) := by decide +kernel
theorem dX10_done_29 : decode cX10_done 29 = .ok (.pop, 1) := by decide +kernel
theorem dX10_done_30 : decode cX10_done 30 = .ok (.aload_n 0, 1) := by decide +kernel
theorem dX10_done_31 : decode cX10_done 31 = .ok (.getfield 34, 3) := by decide +kernel
theorem dX10_done_34 : decode cX10_done 34 = .ok (.getfield 146, 3) := by decide +kernel
theorem dX10_done_37 : decode cX10_done 37 = .ok (.ireturn, 1) := by decide +kernel
theorem dX10_state_0 : decode cX10_state 0 = .ok (.aload_n 0, 1) := by decide +kernel
theorem dX10_state_1 : decode cX10_state 1 = .ok (.getfield 12, 3) := by decide +kernel
theorem dX10_state_4 : decode cX10_state 4 = .ok (.iload_n 1, 1) := by decide +kernel
theorem dX10_state_5 : decode cX10_state 5 = .ok (.invokevirtual 88, 3) := by decide +kernel
theorem dX10_state_8 : decode cX10_state 8 = .ok (.ifCond .ne 5, 3) := by decide +kernel
theorem dX10_state_11 : decode cX10_state 11 = .ok (.iconst (-1), 1) := by decide +kernel
theorem dX10_state_12 : decode cX10_state 12 = .ok (.ireturn, 1) := by decide +kernel
theorem dX10_state_13 : decode cX10_state 13 = .ok (.iload_n 2, 1) := by decide +kernel
theorem dX10_state_14 : decode cX10_state 14 = .ok (.iconst 0, 1) := by decide +kernel
theorem dX10_state_15 : decode cX10_state 15 = .ok (.iconst 1, 1) := by decide +kernel
theorem dX10_state_16 : decode cX10_state 16 = .ok (.invokestatic 92, 3) := by decide +kernel
theorem dX10_state_19 : decode cX10_state 19 = .ok (.ifCond .ne 6, 3) := by decide +kernel
theorem dX10_state_22 : decode cX10_state 22 = .ok (.bipush (-2), 2) := by decide +kernel
theorem dX10_state_24 : decode cX10_state 24 = .ok (.ireturn, 1) := by decide +kernel
theorem dX10_state_25 : decode cX10_state 25 = .ok (.iload_n 2, 1) := by decide +kernel
theorem dX10_state_26 : decode cX10_state 26 = .ok (.ifCond .ne 15, 3) := by decide +kernel
theorem dX10_state_29 : decode cX10_state 29 = .ok (.aload_n 0, 1) := by decide +kernel
theorem dX10_state_30 : decode cX10_state 30 = .ok (.getfield 12, 3) := by decide +kernel
theorem dX10_state_33 : decode cX10_state 33 = .ok (.getfield 168, 3) := by decide +kernel
theorem dX10_state_36 : decode cX10_state 36 = .ok (.iload_n 1, 1) := by decide +kernel
theorem dX10_state_37 : decode cX10_state 37 = .ok (.iaload, 1) := by decide +kernel
theorem dX10_state_38 : decode cX10_state 38 = .ok (.goto 12, 3) := by decide +kernel
theorem dX10_state_41 : decode cX10_state 41 = .ok (.aload_n 0, 1) := by decide +kernel
theorem dX10_state_42 : decode cX10_state 42 = .ok (.getfield 12, 3) := by decide +kernel
theorem dX10_state_45 : decode cX10_state 45 = .ok (.getfield 169, 3) := by decide +kernel
theorem dX10_state_48 : decode cX10_state 48 = .ok (.iload_n 1, 1) := by decide +kernel
theorem dX10_state_49 : decode cX10_state 49 = .ok (.iaload, 1) := by decide +kernel
theorem dX10_state_50 : decode cX10_state 50 = .ok (.ireturn, 1) := by decide +kernel
theorem dX10_bare_0 : decode cX10_bare 0 = .ok (.aload_n 0, 1) := by decide +kernel
theorem dX10_bare_1 : decode cX10_bare 1 = .ok (.getfield 12, 3) := by decide +kernel
theorem dX10_bare_4 : decode cX10_bare 4 = .ok (.iload_n 1, 1) := by decide +kernel
theorem dX10_bare_5 : decode cX10_bare 5 = .ok (.invokevirtual 136, 3) := by decide +kernel
theorem dX10_bare_8 : decode cX10_bare 8 = .ok (.ifCond .eq 14, 3) := by decide +kernel
theorem dX10_bare_11 : decode cX10_bare 11 = .ok (.aload_n 0, 1) := by decide +kernel
theorem dX10_bare_12 : decode cX10_bare 12 = .ok (.getfield 12, 3) := by decide +kernel
theorem dX10_bare_15 : decode cX10_bare 15 = .ok (.iload_n 2, 1) := by decide +kernel
theorem dX10_bare_16 : decode cX10_bare 16 = .ok (.invokevirtual 88, 3) := by decide +kernel
theorem dX10_bare_19 : decode cX10_bare 19 = .ok (.ifCond .ne 5, 3) := by decide +kernel
theorem dX10_bare_22 : decode cX10_bare 22 = .ok (.iconst (-1), 1) := by decide +kernel
theorem dX10_bare_23 : decode cX10_bare 23 = .ok (.ireturn, 1) := by decide +kernel
theorem dX10_bare_24 : decode cX10_bare 24 = .ok (.aload_n 0, 1) := by decide +kernel
theorem dX10_bare_25 : decode cX10_bare 25 = .ok (.getfield 12, 3) := by decide +kernel
theorem dX10_bare_28 : decode cX10_bare 28 = .ok (.iload_n 1, 1) := by decide +kernel
theorem dX10_bare_29 : decode cX10_bare 29 = .ok (.iload_n 2, 1) := by decide +kernel
theorem dX10_bare_30 : decode cX10_bare 30 = .ok (.aload_n 0, 1) := by decide +kernel
theorem dX10_bare_31 : decode cX10_bare 31 = .ok (.getfield 12, 3) := by decide +kernel
theorem dX10_bare_34 : decode cX10_bare 34 = .ok (.getfield 168, 3) := by decide +kernel
theorem dX10_bare_37 : decode cX10_bare 37 = .ok (.iload_n 2, 1) := by decide +kernel
theorem dX10_bare_38 : decode cX10_bare 38 = .ok (.iaload, 1) := by decide +kernel
theorem dX10_bare_39 : decode cX10_bare 39 = .ok (.invokevirtual 170, 3) := by decide +kernel
theorem dX10_bare_42 : decode cX10_bare 42 = .ok (.istore_n 3, 1) := by decide +kernel
theorem dX10_bare_43 : decode cX10_bare 43 = .ok (.iload_n 3, 1) := by decide +kernel
theorem dX10_bare_44 : decode cX10_bare 44 = .ok (.ifCond .eq 16, 3) := by decide +kernel
theorem dX10_bare_47 : decode cX10_bare 47 = .ok (.iload_n 3, 1) := by decide +kernel
theorem dX10_bare_48 : decode cX10_bare 48 = .ok (.aload_n 0, 1) := by decide +kernel
theorem dX10_bare_49 : decode cX10_bare 49 = .ok (.getfield 12, 3) := by decide +kernel
theorem dX10_bare_52 : decode cX10_bare 52 = .ok (.getfield 169, 3) := by decide +kernel
theorem dX10_bare_55 : decode cX10_bare 55 = .ok (.iload_n 2, 1) := by decide +kernel
theorem dX10_bare_56 : decode cX10_bare 56 = .ok (.iaload, 1) := by decide +kernel
theorem dX10_bare_57 : decode cX10_bare 57 = .ok (.if_icmp .le 7, 3) := by decide +kernel
theorem dX10_bare_60 : decode cX10_bare 60 = .ok (.iconst 1, 1) := by decide +kernel
theorem dX10_bare_61 : decode cX10_bare 61 = .ok (.goto 4, 3) := by decide +kernel
theorem dX10_bare_64 : decode cX10_bare 64 = .ok (.iconst 0, 1) := by decide +kernel
theorem dX10_bare_65 : decode cX10_bare 65 = .ok (.ireturn, 1) := by decide +kernel
theorem dX10_reached_0 : decode cX10_reached 0 = .ok (.aload_n 0, 1) := by decide +kernel
theorem dX10_reached_1 : decode cX10_reached 1 = .ok (.getfield 41, 3) := by decide +kernel
theorem dX10_reached_4 : decode cX10_reached 4 = .ok (.aload_n 0, 1) := by decide +kernel
theorem dX10_reached_5 : decode cX10_reached 5 = .ok (.getfield 12, 3) := by decide +kernel
theorem dX10_reached_8 : decode cX10_reached 8 = .ok (.aload_n 0, 1) := by decide +kernel
theorem dX10_reached_9 : decode cX10_reached 9 = .ok (.getfield 12, 3) := by decide +kernel
theorem dX10_reached_12 : decode cX10_reached 12 = .ok (.getfield 128, 3) := by decide +kernel
theorem dX10_reached_15 : decode cX10_reached 15 = .ok (.invokevirtual 172, 3) := by decide +kernel
theorem dX10_reached_18 : decode cX10_reached 18 = .ok (.aload_n 0, 1) := by decide +kernel
theorem dX10_reached_19 : decode cX10_reached 19 = .ok (.getfield 41, 3) := by decide +kernel
theorem dX10_reached_22 : decode cX10_reached 22 = .ok (.getfield 176, 3) := by decide +kernel
theorem dX10_reached_25 : decode cX10_reached 25 = .ok (.ireturn, 1) := by decide +kernel
theorem dX10_can_0 : decode cX10_can 0 = .ok (.aload_n 0, 1) := by decide +kernel
theorem dX10_can_1 : decode cX10_can 1 = .ok (.getfield 12, 3) := by decide +kernel
theorem dX10_can_4 : decode cX10_can 4 = .ok (.iload_n 1, 1) := by decide +kernel
theorem dX10_can_5 : decode cX10_can 5 = .ok (.invokevirtual 179, 3) := by decide +kernel
theorem dX10_can_8 : decode cX10_can 8 = .ok (.ifCond .ne 6, 3) := by decide +kernel
theorem dX10_can_11 : decode cX10_can 11 = .ok (.bipush (-2), 2) := by decide +kernel
theorem dX10_can_13 : decode cX10_can 13 = .ok (.ireturn, 1) := by decide +kernel
theorem dX10_can_14 : decode cX10_can 14 = .ok (.aload_n 0, 1) := by decide +kernel
theorem dX10_can_15 : decode cX10_can 15 = .ok (.getfield 41, 3) := by decide +kernel
theorem dX10_can_18 : decode cX10_can 18 = .ok (.aload_n 0, 1) := by decide +kernel
theorem dX10_can_19 : decode cX10_can 19 = .ok (.getfield 12, 3) := by decide +kernel
theorem dX10_can_22 : decode cX10_can 22 = .ok (.aload_n 0, 1) := by decide +kernel
theorem dX10_can_23 : decode cX10_can 23 = .ok (.getfield 12, 3) := by decide +kernel
theorem dX10_can_26 : decode cX10_can 26 = .ok (.getfield 128, 3) := by decide +kernel
theorem dX10_can_29 : decode cX10_can 29 = .ok (.invokevirtual 172, 3) := by decide +kernel
theorem dX10_can_32 : decode cX10_can 32 = .ok (.aload_n 0, 1) := by decide +kernel
theorem dX10_can_33 : decode cX10_can 33 = .ok (.getfield 41, 3) := by decide +kernel
theorem dX10_can_36 : decode cX10_can 36 = .ok (.getfield 182, 3) := by decide +kernel
theorem dX10_can_39 : decode cX10_can 39 = .ok (.iload_n 1, 1) := by decide +kernel
theorem dX10_can_40 : decode cX10_can 40 = .ok (.iaload, 1) := by decide +kernel
theorem dX10_can_41 : decode cX10_can 41 = .ok (.ifCond .ge 7, 3) := by decide +kernel
theorem dX10_can_44 : decode cX10_can 44 = .ok (.iconst 0, 1) := by decide +kernel
theorem dX10_can_45 : decode cX10_can 45 = .ok (.goto 4, 3) := by decide +kernel
theorem dX10_can_48 : decode cX10_can 48 = .ok (.iconst 1, 1) := by decide +kernel
theorem dX10_can_49 : decode cX10_can 49 = .ok (.ireturn, 1) := by decide +kernel
theorem dX10_spelled_0 : decode cX10_spelled 0 = .ok (.aload_n 0, 1) := by decide +kernel
theorem dX10_spelled_1 : decode cX10_spelled 1 = .ok (.iload_n 1, 1) := by decide +kernel
theorem dX10_spelled_2 : decode cX10_spelled 2 = .ok (.iload_n 2, 1) := by decide +kernel
theorem dX10_spelled_3 : decode cX10_spelled 3 = .ok (.invokevirtual 185, 3) := by decide +kernel
theorem dX10_spelled_6 : decode cX10_spelled 6 = .ok (.ifCond .ne 6, 3) := by decide +kernel
theorem dX10_spelled_9 : decode cX10_spelled 9 = .ok (.bipush (-2), 2) := by decide +kernel
theorem dX10_spelled_11 : decode cX10_spelled 11 = .ok (.ireturn, 1) := by decide +kernel
theorem dX10_spelled_12 : decode cX10_spelled 12 = .ok (.aload_n 0, 1) := by decide +kernel
theorem dX10_spelled_13 : decode cX10_spelled 13 = .ok (.getfield 41, 3) := by decide +kernel
theorem dX10_spelled_16 : decode cX10_spelled 16 = .ok (.aload_n 0, 1) := by decide +kernel
theorem dX10_spelled_17 : decode cX10_spelled 17 = .ok (.getfield 12, 3) := by decide +kernel
theorem dX10_spelled_20 : decode cX10_spelled 20 = .ok (.aload_n 0, 1) := by decide +kernel
theorem dX10_spelled_21 : decode cX10_spelled 21 = .ok (.getfield 12, 3) := by decide +kernel
theorem dX10_spelled_24 : decode cX10_spelled 24 = .ok (.getfield 128, 3) := by decide +kernel
theorem dX10_spelled_27 : decode cX10_spelled 27 = .ok (.invokevirtual 172, 3) := by decide +kernel
theorem dX10_spelled_30 : decode cX10_spelled 30 = .ok (.aload_n 0, 1) := by decide +kernel
theorem dX10_spelled_31 : decode cX10_spelled 31 = .ok (.getfield 41, 3) := by decide +kernel
theorem dX10_spelled_34 : decode cX10_spelled 34 = .ok (.iload_n 1, 1) := by decide +kernel
theorem dX10_spelled_35 : decode cX10_spelled 35 = .ok (.iload_n 2, 1) := by decide +kernel
theorem dX10_spelled_36 : decode cX10_spelled 36 = .ok (.invokevirtual 188, 3) := by decide +kernel
theorem dX10_spelled_39 : decode cX10_spelled 39 = .ok (.istore 4, 2) := by decide +kernel
theorem dX10_spelled_41 : decode cX10_spelled 41 = .ok (.iload 4, 2) := by decide +kernel
theorem dX10_spelled_43 : decode cX10_spelled 43 = .ok (.ifCond .ge 6, 3) := by decide +kernel
theorem dX10_spelled_46 : decode cX10_spelled 46 = .ok (.bipush (-6), 2) := by decide +kernel
theorem dX10_spelled_48 : decode cX10_spelled 48 = .ok (.ireturn, 1) := by decide +kernel
theorem dX10_spelled_49 : decode cX10_spelled 49 = .ok (.iload_n 3, 1) := by decide +kernel
theorem dX10_spelled_50 : decode cX10_spelled 50 = .ok (.iconst (-1), 1) := by decide +kernel
theorem dX10_spelled_51 : decode cX10_spelled 51 = .ok (.if_icmp .ne 16, 3) := by decide +kernel
theorem dX10_spelled_54 : decode cX10_spelled 54 = .ok (.aload_n 0, 1) := by decide +kernel
theorem dX10_spelled_55 : decode cX10_spelled 55 = .ok (.getfield 41, 3) := by decide +kernel
theorem dX10_spelled_58 : decode cX10_spelled 58 = .ok (.getfield 182, 3) := by decide +kernel
theorem dX10_spelled_61 : decode cX10_spelled 61 = .ok (.iload 4, 2) := by decide +kernel
theorem dX10_spelled_63 : decode cX10_spelled 63 = .ok (.iaload, 1) := by decide +kernel
theorem dX10_spelled_64 : decode cX10_spelled 64 = .ok (.goto 13, 3) := by decide +kernel
theorem dX10_spelled_67 : decode cX10_spelled 67 = .ok (.aload_n 0, 1) := by decide +kernel
theorem dX10_spelled_68 : decode cX10_spelled 68 = .ok (.getfield 41, 3) := by decide +kernel
theorem dX10_spelled_71 : decode cX10_spelled 71 = .ok (.iload 4, 2) := by decide +kernel
theorem dX10_spelled_73 : decode cX10_spelled 73 = .ok (.iload_n 3, 1) := by decide +kernel
theorem dX10_spelled_74 : decode cX10_spelled 74 = .ok (.invokevirtual 192, 3) := by decide +kernel
theorem dX10_spelled_77 : decode cX10_spelled 77 = .ok (.ireturn, 1) := by decide +kernel
theorem dX10_tired_0 : decode cX10_tired 0 = .ok (.aload_n 0, 1) := by decide +kernel
theorem dX10_tired_1 : decode cX10_tired 1 = .ok (.iload_n 1, 1) := by decide +kernel
theorem dX10_tired_2 : decode cX10_tired 2 = .ok (.iload_n 2, 1) := by decide +kernel
theorem dX10_tired_3 : decode cX10_tired 3 = .ok (.invokevirtual 185, 3) := by decide +kernel
theorem dX10_tired_6 : decode cX10_tired 6 = .ok (.ifCond .ne 6, 3) := by decide +kernel
theorem dX10_tired_9 : decode cX10_tired 9 = .ok (.bipush (-2), 2) := by decide +kernel
theorem dX10_tired_11 : decode cX10_tired 11 = .ok (.ireturn, 1) := by decide +kernel
theorem dX10_tired_12 : decode cX10_tired 12 = .ok (.aload_n 0, 1) := by decide +kernel
theorem dX10_tired_13 : decode cX10_tired 13 = .ok (.getfield 41, 3) := by decide +kernel
theorem dX10_tired_16 : decode cX10_tired 16 = .ok (.aload_n 0, 1) := by decide +kernel
theorem dX10_tired_17 : decode cX10_tired 17 = .ok (.getfield 12, 3) := by decide +kernel
theorem dX10_tired_20 : decode cX10_tired 20 = .ok (.iload_n 1, 1) := by decide +kernel
theorem dX10_tired_21 : decode cX10_tired 21 = .ok (.iload_n 2, 1) := by decide +kernel
theorem dX10_tired_22 : decode cX10_tired 22 = .ok (.invokevirtual 195, 3) := by decide +kernel
theorem dX10_tired_25 : decode cX10_tired 25 = .ok (.ireturn, 1) := by decide +kernel
theorem dX10_able_0 : decode cX10_able 0 = .ok (.aload_n 0, 1) := by decide +kernel
theorem dX10_able_1 : decode cX10_able 1 = .ok (.iload_n 1, 1) := by decide +kernel
theorem dX10_able_2 : decode cX10_able 2 = .ok (.iload_n 2, 1) := by decide +kernel
theorem dX10_able_3 : decode cX10_able 3 = .ok (.invokevirtual 185, 3) := by decide +kernel
theorem dX10_able_6 : decode cX10_able 6 = .ok (.ifCond .ne 6, 3) := by decide +kernel
theorem dX10_able_9 : decode cX10_able 9 = .ok (.bipush (-2), 2) := by decide +kernel
theorem dX10_able_11 : decode cX10_able 11 = .ok (.ireturn, 1) := by decide +kernel
theorem dX10_able_12 : decode cX10_able 12 = .ok (.aload_n 0, 1) := by decide +kernel
theorem dX10_able_13 : decode cX10_able 13 = .ok (.getfield 48, 3) := by decide +kernel
theorem dX10_able_16 : decode cX10_able 16 = .ok (.aload_n 0, 1) := by decide +kernel
theorem dX10_able_17 : decode cX10_able 17 = .ok (.getfield 12, 3) := by decide +kernel
theorem dX10_able_20 : decode cX10_able 20 = .ok (.iload_n 1, 1) := by decide +kernel
theorem dX10_able_21 : decode cX10_able 21 = .ok (.iload_n 2, 1) := by decide +kernel
theorem dX10_able_22 : decode cX10_able 22 = .ok (.invokevirtual 199, 3) := by decide +kernel
theorem dX10_able_25 : decode cX10_able 25 = .ok (.ireturn, 1) := by decide +kernel
theorem dX10_without_0 : decode cX10_without 0 = .ok (.aload_n 0, 1) := by decide +kernel
theorem dX10_without_1 : decode cX10_without 1 = .ok (.getfield 12, 3) := by decide +kernel
theorem dX10_without_4 : decode cX10_without 4 = .ok (.iload_n 1, 1) := by decide +kernel
theorem dX10_without_5 : decode cX10_without 5 = .ok (.invokevirtual 136, 3) := by decide +kernel
theorem dX10_without_8 : decode cX10_without 8 = .ok (.ifCond .ne 5, 3) := by decide +kernel
theorem dX10_without_11 : decode cX10_without 11 = .ok (.iconst (-1), 1) := by decide +kernel
theorem dX10_without_12 : decode cX10_without 12 = .ok (.ireturn, 1) := by decide +kernel
theorem dX10_without_13 : decode cX10_without 13 = .ok (.aload_n 0, 1) := by decide +kernel
theorem dX10_without_14 : decode cX10_without 14 = .ok (.iload_n 2, 1) := by decide +kernel
theorem dX10_without_15 : decode cX10_without 15 = .ok (.iload_n 3, 1) := by decide +kernel
theorem dX10_without_16 : decode cX10_without 16 = .ok (.invokevirtual 185, 3) := by decide +kernel
theorem dX10_without_19 : decode cX10_without 19 = .ok (.ifCond .ne 6, 3) := by decide +kernel
theorem dX10_without_22 : decode cX10_without 22 = .ok (.bipush (-2), 2) := by decide +kernel
theorem dX10_without_24 : decode cX10_without 24 = .ok (.ireturn, 1) := by decide +kernel
theorem dX10_without_25 : decode cX10_without 25 = .ok (.aload_n 0, 1) := by decide +kernel
theorem dX10_without_26 : decode cX10_without 26 = .ok (.aload_n 0, 1) := by decide +kernel
theorem dX10_without_27 : decode cX10_without 27 = .ok (.getfield 12, 3) := by decide +kernel
theorem dX10_without_30 : decode cX10_without 30 = .ok (.getfield 128, 3) := by decide +kernel
theorem dX10_without_33 : decode cX10_without 33 = .ok (.iconst 1, 1) := by decide +kernel
theorem dX10_without_34 : decode cX10_without 34 = .ok (.iload_n 1, 1) := by decide +kernel
theorem dX10_without_35 : decode cX10_without 35 = .ok (.ishl, 1) := by decide +kernel
theorem dX10_without_36 : decode cX10_without 36 = .ok (.iconst (-1), 1) := by decide +kernel
theorem dX10_without_37 : decode cX10_without 37 = .ok (.ixor, 1) := by decide +kernel
theorem dX10_without_38 : decode cX10_without 38 = .ok (.iand, 1) := by decide +kernel
theorem dX10_without_39 : decode cX10_without 39 = .ok (.iload_n 2, 1) := by decide +kernel
theorem dX10_without_40 : decode cX10_without 40 = .ok (.iload_n 3, 1) := by decide +kernel
theorem dX10_without_41 : decode cX10_without 41 = .ok (.invokevirtual 202, 3) := by decide +kernel
theorem dX10_without_44 : decode cX10_without 44 = .ok (.istore 4, 2) := by decide +kernel
theorem dX10_without_46 : decode cX10_without 46 = .ok (.iload 4, 2) := by decide +kernel
theorem dX10_without_48 : decode cX10_without 48 = .ok (.bipush (-6), 2) := by decide +kernel
theorem dX10_without_50 : decode cX10_without 50 = .ok (.if_icmp .ne 8, 3) := by decide +kernel
theorem dX10_without_53 : decode cX10_without 53 = .ok (.bipush (-6), 2) := by decide +kernel
theorem dX10_without_55 : decode cX10_without 55 = .ok (.goto 19, 3) := by decide +kernel
theorem dX10_without_58 : decode cX10_without 58 = .ok (.iload 4, 2) := by decide +kernel
theorem dX10_without_60 : decode cX10_without 60 = .ok (.aload_n 0, 1) := by decide +kernel
theorem dX10_without_61 : decode cX10_without 61 = .ok (.aload_n 0, 1) := by decide +kernel
theorem dX10_without_62 : decode cX10_without 62 = .ok (.getfield 12, 3) := by decide +kernel
theorem dX10_without_65 : decode cX10_without 65 = .ok (.getfield 128, 3) := by decide +kernel
theorem dX10_without_68 : decode cX10_without 68 = .ok (.iload_n 2, 1) := by decide +kernel
theorem dX10_without_69 : decode cX10_without 69 = .ok (.iload_n 3, 1) := by decide +kernel
theorem dX10_without_70 : decode cX10_without 70 = .ok (.invokevirtual 202, 3) := by decide +kernel
theorem dX10_without_73 : decode cX10_without 73 = .ok (.isub, 1) := by decide +kernel
theorem dX10_without_74 : decode cX10_without 74 = .ok (.ireturn, 1) := by decide +kernel
theorem dX10_round_0 : decode cX10_round 0 = .ok (.aload_n 0, 1) := by decide +kernel
theorem dX10_round_1 : decode cX10_round 1 = .ok (.getfield 12, 3) := by decide +kernel
theorem dX10_round_4 : decode cX10_round 4 = .ok (.iload_n 1, 1) := by decide +kernel
theorem dX10_round_5 : decode cX10_round 5 = .ok (.invokevirtual 204, 3) := by decide +kernel
theorem dX10_round_8 : decode cX10_round 8 = .ok (.ifCond .ne 6, 3) := by decide +kernel
theorem dX10_round_11 : decode cX10_round 11 = .ok (.bipush (-2), 2) := by decide +kernel
theorem dX10_round_13 : decode cX10_round 13 = .ok (.ireturn, 1) := by decide +kernel
theorem dX10_round_14 : decode cX10_round 14 = .ok (.aload_n 0, 1) := by decide +kernel
theorem dX10_round_15 : decode cX10_round 15 = .ok (.iload_n 1, 1) := by decide +kernel
theorem dX10_round_16 : decode cX10_round 16 = .ok (.iload_n 2, 1) := by decide +kernel
theorem dX10_round_17 : decode cX10_round 17 = .ok (.invokevirtual 207, 3) := by decide +kernel
theorem dX10_round_20 : decode cX10_round 20 = .ok (.istore_n 3, 1) := by decide +kernel
theorem dX10_round_21 : decode cX10_round 21 = .ok (.iload_n 3, 1) := by decide +kernel
theorem dX10_round_22 : decode cX10_round 22 = .ok (.ifCond .ge 8, 3) := by decide +kernel
theorem dX10_round_25 : decode cX10_round 25 = .ok (.bipush (-2), 2) := by decide +kernel
theorem dX10_round_27 : decode cX10_round 27 = .ok (.goto 23, 3) := by decide +kernel
theorem dX10_round_30 : decode cX10_round 30 = .ok (.aload_n 0, 1) := by decide +kernel
theorem dX10_round_31 : decode cX10_round 31 = .ok (.getfield 55, 3) := by decide +kernel
theorem dX10_round_34 : decode cX10_round 34 = .ok (.aload_n 0, 1) := by decide +kernel
theorem dX10_round_35 : decode cX10_round 35 = .ok (.getfield 12, 3) := by decide +kernel
theorem dX10_round_38 : decode cX10_round 38 = .ok (.aload_n 0, 1) := by decide +kernel
theorem dX10_round_39 : decode cX10_round 39 = .ok (.getfield 41, 3) := by decide +kernel
theorem dX10_round_42 : decode cX10_round 42 = .ok (.getfield 210, 3) := by decide +kernel
theorem dX10_round_45 : decode cX10_round 45 = .ok (.iload_n 1, 1) := by decide +kernel
theorem dX10_round_46 : decode cX10_round 46 = .ok (.iload_n 3, 1) := by decide +kernel
theorem dX10_round_47 : decode cX10_round 47 = .ok (.invokevirtual 214, 3) := by decide +kernel
theorem dX10_round_50 : decode cX10_round 50 = .ok (.ireturn, 1) := by decide +kernel
theorem dX10_two_0 : decode cX10_two 0 = .ok (.aload_n 0, 1) := by decide +kernel
theorem dX10_two_1 : decode cX10_two 1 = .ok (.getfield 12, 3) := by decide +kernel
theorem dX10_two_4 : decode cX10_two 4 = .ok (.iload_n 1, 1) := by decide +kernel
theorem dX10_two_5 : decode cX10_two 5 = .ok (.invokevirtual 88, 3) := by decide +kernel
theorem dX10_two_8 : decode cX10_two 8 = .ok (.ifCond .ne 5, 3) := by decide +kernel
theorem dX10_two_11 : decode cX10_two 11 = .ok (.iconst (-1), 1) := by decide +kernel
theorem dX10_two_12 : decode cX10_two 12 = .ok (.ireturn, 1) := by decide +kernel
theorem dX10_two_13 : decode cX10_two 13 = .ok (.iload_n 2, 1) := by decide +kernel
theorem dX10_two_14 : decode cX10_two 14 = .ok (.iconst 0, 1) := by decide +kernel
theorem dX10_two_15 : decode cX10_two 15 = .ok (.iconst 3, 1) := by decide +kernel
theorem dX10_two_16 : decode cX10_two 16 = .ok (.invokestatic 92, 3) := by decide +kernel
theorem dX10_two_19 : decode cX10_two 19 = .ok (.ifCond .eq 17, 3) := by decide +kernel
theorem dX10_two_22 : decode cX10_two 22 = .ok (.iload_n 3, 1) := by decide +kernel
theorem dX10_two_23 : decode cX10_two 23 = .ok (.iconst 0, 1) := by decide +kernel
theorem dX10_two_24 : decode cX10_two 24 = .ok (.iconst 3, 1) := by decide +kernel
theorem dX10_two_25 : decode cX10_two 25 = .ok (.invokestatic 92, 3) := by decide +kernel
theorem dX10_two_28 : decode cX10_two 28 = .ok (.ifCond .eq 8, 3) := by decide +kernel
theorem dX10_two_31 : decode cX10_two 31 = .ok (.iload_n 2, 1) := by decide +kernel
theorem dX10_two_32 : decode cX10_two 32 = .ok (.iload_n 3, 1) := by decide +kernel
theorem dX10_two_33 : decode cX10_two 33 = .ok (.if_icmp .ne 6, 3) := by decide +kernel
theorem dX10_two_36 : decode cX10_two 36 = .ok (.bipush (-2), 2) := by decide +kernel
theorem dX10_two_38 : decode cX10_two 38 = .ok (.ireturn, 1) := by decide +kernel
theorem dX10_two_39 : decode cX10_two 39 = .ok (.aload_n 0, 1) := by decide +kernel
theorem dX10_two_40 : decode cX10_two 40 = .ok (.getfield 12, 3) := by decide +kernel
theorem dX10_two_43 : decode cX10_two 43 = .ok (.iload 4, 2) := by decide +kernel
theorem dX10_two_45 : decode cX10_two 45 = .ok (.invokevirtual 218, 3) := by decide +kernel
theorem dX10_two_48 : decode cX10_two 48 = .ok (.ifCond .eq 25, 3) := by decide +kernel
theorem dX10_two_51 : decode cX10_two 51 = .ok (.aload_n 0, 1) := by decide +kernel
theorem dX10_two_52 : decode cX10_two 52 = .ok (.getfield 12, 3) := by decide +kernel
theorem dX10_two_55 : decode cX10_two 55 = .ok (.iload 5, 2) := by decide +kernel
theorem dX10_two_57 : decode cX10_two 57 = .ok (.invokevirtual 218, 3) := by decide +kernel
theorem dX10_two_60 : decode cX10_two 60 = .ok (.ifCond .eq 13, 3) := by decide +kernel
theorem dX10_two_63 : decode cX10_two 63 = .ok (.iload 6, 2) := by decide +kernel
theorem dX10_two_65 : decode cX10_two 65 = .ok (.iconst 0, 1) := by decide +kernel
theorem dX10_two_66 : decode cX10_two 66 = .ok (.iconst 1, 1) := by decide +kernel
theorem dX10_two_67 : decode cX10_two 67 = .ok (.invokestatic 92, 3) := by decide +kernel
theorem dX10_two_70 : decode cX10_two 70 = .ok (.ifCond .ne 6, 3) := by decide +kernel
theorem dX10_two_73 : decode cX10_two 73 = .ok (.bipush (-2), 2) := by decide +kernel
theorem dX10_two_75 : decode cX10_two 75 = .ok (.ireturn, 1) := by decide +kernel
theorem dX10_two_76 : decode cX10_two 76 = .ok (.aload_n 0, 1) := by decide +kernel
theorem dX10_two_77 : decode cX10_two 77 = .ok (.getfield 62, 3) := by decide +kernel
theorem dX10_two_80 : decode cX10_two 80 = .ok (.aload_n 0, 1) := by decide +kernel
theorem dX10_two_81 : decode cX10_two 81 = .ok (.getfield 12, 3) := by decide +kernel
theorem dX10_two_84 : decode cX10_two 84 = .ok (.iload_n 1, 1) := by decide +kernel
theorem dX10_two_85 : decode cX10_two 85 = .ok (.iload_n 2, 1) := by decide +kernel
theorem dX10_two_86 : decode cX10_two 86 = .ok (.iload_n 3, 1) := by decide +kernel
theorem dX10_two_87 : decode cX10_two 87 = .ok (.iload 4, 2) := by decide +kernel
theorem dX10_two_89 : decode cX10_two 89 = .ok (.iload 5, 2) := by decide +kernel
theorem dX10_two_91 : decode cX10_two 91 = .ok (.invokevirtual 221, 3) := by decide +kernel
theorem dX10_two_94 : decode cX10_two 94 = .ok (.aload_n 0, 1) := by decide +kernel
theorem dX10_two_95 : decode cX10_two 95 = .ok (.getfield 12, 3) := by decide +kernel
theorem dX10_two_98 : decode cX10_two 98 = .ok (.getfield 168, 3) := by decide +kernel
theorem dX10_two_101 : decode cX10_two 101 = .ok (.iload_n 1, 1) := by decide +kernel
theorem dX10_two_102 : decode cX10_two 102 = .ok (.iaload, 1) := by decide +kernel
theorem dX10_two_103 : decode cX10_two 103 = .ok (.istore 7, 2) := by decide +kernel
theorem dX10_two_105 : decode cX10_two 105 = .ok (.iload 6, 2) := by decide +kernel
theorem dX10_two_107 : decode cX10_two 107 = .ok (.ifCond .ne 16, 3) := by decide +kernel
theorem dX10_two_110 : decode cX10_two 110 = .ok (.aload_n 0, 1) := by decide +kernel
theorem dX10_two_111 : decode cX10_two 111 = .ok (.getfield 62, 3) := by decide +kernel
theorem dX10_two_114 : decode cX10_two 114 = .ok (.getfield 225, 3) := by decide +kernel
theorem dX10_two_117 : decode cX10_two 117 = .ok (.iload 7, 2) := by decide +kernel
theorem dX10_two_119 : decode cX10_two 119 = .ok (.iaload, 1) := by decide +kernel
theorem dX10_two_120 : decode cX10_two 120 = .ok (.goto 13, 3) := by decide +kernel
theorem dX10_two_123 : decode cX10_two 123 = .ok (.aload_n 0, 1) := by decide +kernel
theorem dX10_two_124 : decode cX10_two 124 = .ok (.getfield 62, 3) := by decide +kernel
theorem dX10_two_127 : decode cX10_two 127 = .ok (.getfield 228, 3) := by decide +kernel
theorem dX10_two_130 : decode cX10_two 130 = .ok (.iload 7, 2) := by decide +kernel
theorem dX10_two_132 : decode cX10_two 132 = .ok (.iaload, 1) := by decide +kernel
theorem dX10_two_133 : decode cX10_two 133 = .ok (.ireturn, 1) := by decide +kernel
theorem dX10_pairs_0 : decode cX10_pairs 0 = .ok (.aload_n 0, 1) := by decide +kernel
theorem dX10_pairs_1 : decode cX10_pairs 1 = .ok (.getfield 69, 3) := by decide +kernel
theorem dX10_pairs_4 : decode cX10_pairs 4 = .ok (.aload_n 0, 1) := by decide +kernel
theorem dX10_pairs_5 : decode cX10_pairs 5 = .ok (.getfield 12, 3) := by decide +kernel
theorem dX10_pairs_8 : decode cX10_pairs 8 = .ok (.invokevirtual 231, 3) := by decide +kernel
theorem dX10_pairs_11 : decode cX10_pairs 11 = .ok (.aload_n 0, 1) := by decide +kernel
theorem dX10_pairs_12 : decode cX10_pairs 12 = .ok (.getfield 69, 3) := by decide +kernel
theorem dX10_pairs_15 : decode cX10_pairs 15 = .ok (.aload_n 0, 1) := by decide +kernel
theorem dX10_pairs_16 : decode cX10_pairs 16 = .ok (.getfield 12, 3) := by decide +kernel
theorem dX10_pairs_19 : decode cX10_pairs 19 = .ok (.invokevirtual 234, 3) := by decide +kernel
theorem dX10_pairs_22 : decode cX10_pairs 22 = .ok (.invokevirtual 237, 3) := by decide +kernel
theorem dX10_pairs_25 : decode cX10_pairs 25 = .ok (.ireturn, 1) := by decide +kernel
theorem dX10_danced_0 : decode cX10_danced 0 = .ok (.iload_n 1, 1) := by decide +kernel
theorem dX10_danced_1 : decode cX10_danced 1 = .ok (.iconst 1, 1) := by decide +kernel
theorem dX10_danced_2 : decode cX10_danced 2 = .ok (.iconst 2, 1) := by decide +kernel
theorem dX10_danced_3 : decode cX10_danced 3 = .ok (.invokestatic 92, 3) := by decide +kernel
theorem dX10_danced_6 : decode cX10_danced 6 = .ok (.ifCond .ne 6, 3) := by decide +kernel
theorem dX10_danced_9 : decode cX10_danced 9 = .ok (.bipush (-2), 2) := by decide +kernel
theorem dX10_danced_11 : decode cX10_danced 11 = .ok (.ireturn, 1) := by decide +kernel
theorem dX10_danced_12 : decode cX10_danced 12 = .ok (.aload_n 0, 1) := by decide +kernel
theorem dX10_danced_13 : decode cX10_danced 13 = .ok (.getfield 69, 3) := by decide +kernel
theorem dX10_danced_16 : decode cX10_danced 16 = .ok (.aload_n 0, 1) := by decide +kernel
theorem dX10_danced_17 : decode cX10_danced 17 = .ok (.getfield 12, 3) := by decide +kernel
theorem dX10_danced_20 : decode cX10_danced 20 = .ok (.invokevirtual 231, 3) := by decide +kernel
theorem dX10_danced_23 : decode cX10_danced 23 = .ok (.aload_n 0, 1) := by decide +kernel
theorem dX10_danced_24 : decode cX10_danced 24 = .ok (.getfield 41, 3) := by decide +kernel
theorem dX10_danced_27 : decode cX10_danced 27 = .ok (.aload_n 0, 1) := by decide +kernel
theorem dX10_danced_28 : decode cX10_danced 28 = .ok (.getfield 12, 3) := by decide +kernel
theorem dX10_danced_31 : decode cX10_danced 31 = .ok (.aload_n 0, 1) := by decide +kernel
theorem dX10_danced_32 : decode cX10_danced 32 = .ok (.getfield 12, 3) := by decide +kernel
theorem dX10_danced_35 : decode cX10_danced 35 = .ok (.getfield 128, 3) := by decide +kernel
theorem dX10_danced_38 : decode cX10_danced 38 = .ok (.invokevirtual 172, 3) := by decide +kernel
theorem dX10_danced_41 : decode cX10_danced 41 = .ok (.iconst 0, 1) := by decide +kernel
theorem dX10_danced_42 : decode cX10_danced 42 = .ok (.istore_n 2, 1) := by decide +kernel
theorem dX10_danced_43 : decode cX10_danced 43 = .ok (.iload_n 2, 1) := by decide +kernel
theorem dX10_danced_44 : decode cX10_danced 44 = .ok (.aload_n 0, 1) := by decide +kernel
theorem dX10_danced_45 : decode cX10_danced 45 = .ok (.getfield 41, 3) := by decide +kernel
theorem dX10_danced_48 : decode cX10_danced 48 = .ok (.getfield 176, 3) := by decide +kernel
theorem dX10_danced_51 : decode cX10_danced 51 = .ok (.if_icmp .ge 47, 3) := by decide +kernel
theorem dX10_danced_54 : decode cX10_danced 54 = .ok (.aload_n 0, 1) := by decide +kernel
theorem dX10_danced_55 : decode cX10_danced 55 = .ok (.getfield 69, 3) := by decide +kernel
theorem dX10_danced_58 : decode cX10_danced 58 = .ok (.aload_n 0, 1) := by decide +kernel
theorem dX10_danced_59 : decode cX10_danced 59 = .ok (.getfield 41, 3) := by decide +kernel
theorem dX10_danced_62 : decode cX10_danced 62 = .ok (.getfield 240, 3) := by decide +kernel
theorem dX10_danced_65 : decode cX10_danced 65 = .ok (.iload_n 2, 1) := by decide +kernel
theorem dX10_danced_66 : decode cX10_danced 66 = .ok (.iaload, 1) := by decide +kernel
theorem dX10_danced_67 : decode cX10_danced 67 = .ok (.invokevirtual 237, 3) := by decide +kernel
theorem dX10_danced_70 : decode cX10_danced 70 = .ok (.iload_n 1, 1) := by decide +kernel
theorem dX10_danced_71 : decode cX10_danced 71 = .ok (.if_icmp .lt 21, 3) := by decide +kernel
theorem dX10_danced_74 : decode cX10_danced 74 = .ok (.aload_n 0, 1) := by decide +kernel
theorem dX10_danced_75 : decode cX10_danced 75 = .ok (.getfield 41, 3) := by decide +kernel
theorem dX10_danced_78 : decode cX10_danced 78 = .ok (.getfield 182, 3) := by decide +kernel
theorem dX10_danced_81 : decode cX10_danced 81 = .ok (.aload_n 0, 1) := by decide +kernel
theorem dX10_danced_82 : decode cX10_danced 82 = .ok (.getfield 41, 3) := by decide +kernel
theorem dX10_danced_85 : decode cX10_danced 85 = .ok (.getfield 240, 3) := by decide +kernel
theorem dX10_danced_88 : decode cX10_danced 88 = .ok (.iload_n 2, 1) := by decide +kernel
theorem dX10_danced_89 : decode cX10_danced 89 = .ok (.iaload, 1) := by decide +kernel
theorem dX10_danced_90 : decode cX10_danced 90 = .ok (.iaload, 1) := by decide +kernel
theorem dX10_danced_91 : decode cX10_danced 91 = .ok (.ireturn, 1) := by decide +kernel
theorem dX10_danced_92 : decode cX10_danced 92 = .ok (.iinc 2 1, 3) := by decide +kernel
theorem dX10_danced_95 : decode cX10_danced 95 = .ok (.goto (-52), 3) := by decide +kernel
theorem dX10_danced_98 : decode cX10_danced 98 = .ok (.bipush (-6), 2) := by decide +kernel
theorem dX10_danced_100 : decode cX10_danced 100 = .ok (.ireturn, 1) := by decide +kernel
theorem dX10_elected_0 : decode cX10_elected 0 = .ok (.aload_n 0, 1) := by decide +kernel
theorem dX10_elected_1 : decode cX10_elected 1 = .ok (.getfield 12, 3) := by decide +kernel
theorem dX10_elected_4 : decode cX10_elected 4 = .ok (.invokevirtual 234, 3) := by decide +kernel
theorem dX10_elected_7 : decode cX10_elected 7 = .ok (.istore_n 1, 1) := by decide +kernel
theorem dX10_elected_8 : decode cX10_elected 8 = .ok (.iconst 0, 1) := by decide +kernel
theorem dX10_elected_9 : decode cX10_elected 9 = .ok (.istore_n 2, 1) := by decide +kernel
theorem dX10_elected_10 : decode cX10_elected 10 = .ok (.iconst 1, 1) := by decide +kernel
theorem dX10_elected_11 : decode cX10_elected 11 = .ok (.istore_n 3, 1) := by decide +kernel
theorem dX10_elected_12 : decode cX10_elected 12 = .ok (.iload_n 3, 1) := by decide +kernel
theorem dX10_elected_13 : decode cX10_elected 13 = .ok (.iconst 4, 1) := by decide +kernel
theorem dX10_elected_14 : decode cX10_elected 14 = .ok (.if_icmp .ge 26, 3) := by decide +kernel
theorem dX10_elected_17 : decode cX10_elected 17 = .ok (.aload_n 0, 1) := by decide +kernel
theorem dX10_elected_18 : decode cX10_elected 18 = .ok (.iload_n 1, 1) := by decide +kernel
theorem dX10_elected_19 : decode cX10_elected 19 = .ok (.iload_n 3, 1) := by decide +kernel
theorem dX10_elected_20 : decode cX10_elected 20 = .ok (.invokevirtual 243, 3) := by decide +kernel
theorem dX10_elected_23 : decode cX10_elected 23 = .ok (.aload_n 0, 1) := by decide +kernel
theorem dX10_elected_24 : decode cX10_elected 24 = .ok (.iload_n 1, 1) := by decide +kernel
theorem dX10_elected_25 : decode cX10_elected 25 = .ok (.iload_n 2, 1) := by decide +kernel
theorem dX10_elected_26 : decode cX10_elected 26 = .ok (.invokevirtual 243, 3) := by decide +kernel
theorem dX10_elected_29 : decode cX10_elected 29 = .ok (.if_icmp .le 5, 3) := by decide +kernel
theorem dX10_elected_32 : decode cX10_elected 32 = .ok (.iload_n 3, 1) := by decide +kernel
theorem dX10_elected_33 : decode cX10_elected 33 = .ok (.istore_n 2, 1) := by decide +kernel
theorem dX10_elected_34 : decode cX10_elected 34 = .ok (.iinc 3 1, 3) := by decide +kernel
theorem dX10_elected_37 : decode cX10_elected 37 = .ok (.goto (-25), 3) := by decide +kernel
theorem dX10_elected_40 : decode cX10_elected 40 = .ok (.iload_n 2, 1) := by decide +kernel
theorem dX10_elected_41 : decode cX10_elected 41 = .ok (.ireturn, 1) := by decide +kernel
theorem dX10_majority_0 : decode cX10_majority 0 = .ok (.iload_n 1, 1) := by decide +kernel
theorem dX10_majority_1 : decode cX10_majority 1 = .ok (.iconst 0, 1) := by decide +kernel
theorem dX10_majority_2 : decode cX10_majority 2 = .ok (.iconst 3, 1) := by decide +kernel
theorem dX10_majority_3 : decode cX10_majority 3 = .ok (.invokestatic 92, 3) := by decide +kernel
theorem dX10_majority_6 : decode cX10_majority 6 = .ok (.ifCond .ne 6, 3) := by decide +kernel
theorem dX10_majority_9 : decode cX10_majority 9 = .ok (.bipush (-2), 2) := by decide +kernel
theorem dX10_majority_11 : decode cX10_majority 11 = .ok (.ireturn, 1) := by decide +kernel
theorem dX10_majority_12 : decode cX10_majority 12 = .ok (.aload_n 0, 1) := by decide +kernel
theorem dX10_majority_13 : decode cX10_majority 13 = .ok (.getfield 41, 3) := by decide +kernel
theorem dX10_majority_16 : decode cX10_majority 16 = .ok (.aload_n 0, 1) := by decide +kernel
theorem dX10_majority_17 : decode cX10_majority 17 = .ok (.getfield 12, 3) := by decide +kernel
theorem dX10_majority_20 : decode cX10_majority 20 = .ok (.aload_n 0, 1) := by decide +kernel
theorem dX10_majority_21 : decode cX10_majority 21 = .ok (.getfield 12, 3) := by decide +kernel
theorem dX10_majority_24 : decode cX10_majority 24 = .ok (.getfield 128, 3) := by decide +kernel
theorem dX10_majority_27 : decode cX10_majority 27 = .ok (.invokevirtual 172, 3) := by decide +kernel
theorem dX10_majority_30 : decode cX10_majority 30 = .ok (.iconst 0, 1) := by decide +kernel
theorem dX10_majority_31 : decode cX10_majority 31 = .ok (.istore_n 2, 1) := by decide +kernel
theorem dX10_majority_32 : decode cX10_majority 32 = .ok (.iload_n 2, 1) := by decide +kernel
theorem dX10_majority_33 : decode cX10_majority 33 = .ok (.aload_n 0, 1) := by decide +kernel
theorem dX10_majority_34 : decode cX10_majority 34 = .ok (.getfield 41, 3) := by decide +kernel
theorem dX10_majority_37 : decode cX10_majority 37 = .ok (.getfield 176, 3) := by decide +kernel
theorem dX10_majority_40 : decode cX10_majority 40 = .ok (.if_icmp .ge 53, 3) := by decide +kernel
theorem dX10_majority_43 : decode cX10_majority 43 = .ok (.iconst 2, 1) := by decide +kernel
theorem dX10_majority_44 : decode cX10_majority 44 = .ok (.aload_n 0, 1) := by decide +kernel
theorem dX10_majority_45 : decode cX10_majority 45 = .ok (.aload_n 0, 1) := by decide +kernel
theorem dX10_majority_46 : decode cX10_majority 46 = .ok (.getfield 41, 3) := by decide +kernel
theorem dX10_majority_49 : decode cX10_majority 49 = .ok (.getfield 240, 3) := by decide +kernel
theorem dX10_majority_52 : decode cX10_majority 52 = .ok (.iload_n 2, 1) := by decide +kernel
theorem dX10_majority_53 : decode cX10_majority 53 = .ok (.iaload, 1) := by decide +kernel
theorem dX10_majority_54 : decode cX10_majority 54 = .ok (.iload_n 1, 1) := by decide +kernel
theorem dX10_majority_55 : decode cX10_majority 55 = .ok (.invokevirtual 243, 3) := by decide +kernel
theorem dX10_majority_58 : decode cX10_majority 58 = .ok (.imul, 1) := by decide +kernel
theorem dX10_majority_59 : decode cX10_majority 59 = .ok (.aload_n 0, 1) := by decide +kernel
theorem dX10_majority_60 : decode cX10_majority 60 = .ok (.getfield 12, 3) := by decide +kernel
theorem dX10_majority_63 : decode cX10_majority 63 = .ok (.getfield 80, 3) := by decide +kernel
theorem dX10_majority_66 : decode cX10_majority 66 = .ok (.if_icmp .le 21, 3) := by decide +kernel
theorem dX10_majority_69 : decode cX10_majority 69 = .ok (.aload_n 0, 1) := by decide +kernel
theorem dX10_majority_70 : decode cX10_majority 70 = .ok (.getfield 41, 3) := by decide +kernel
theorem dX10_majority_73 : decode cX10_majority 73 = .ok (.getfield 182, 3) := by decide +kernel
theorem dX10_majority_76 : decode cX10_majority 76 = .ok (.aload_n 0, 1) := by decide +kernel
theorem dX10_majority_77 : decode cX10_majority 77 = .ok (.getfield 41, 3) := by decide +kernel
theorem dX10_majority_80 : decode cX10_majority 80 = .ok (.getfield 240, 3) := by decide +kernel
theorem dX10_majority_83 : decode cX10_majority 83 = .ok (.iload_n 2, 1) := by decide +kernel
theorem dX10_majority_84 : decode cX10_majority 84 = .ok (.iaload, 1) := by decide +kernel
theorem dX10_majority_85 : decode cX10_majority 85 = .ok (.iaload, 1) := by decide +kernel
theorem dX10_majority_86 : decode cX10_majority 86 = .ok (.ireturn, 1) := by decide +kernel
theorem dX10_majority_87 : decode cX10_majority 87 = .ok (.iinc 2 1, 3) := by decide +kernel
theorem dX10_majority_90 : decode cX10_majority 90 = .ok (.goto (-58), 3) := by decide +kernel
theorem dX10_majority_93 : decode cX10_majority 93 = .ok (.bipush (-6), 2) := by decide +kernel
theorem dX10_majority_95 : decode cX10_majority 95 = .ok (.ireturn, 1) := by decide +kernel
theorem dX10_seen_0 : decode cX10_seen 0 = .ok (.aload_n 0, 1) := by decide +kernel
theorem dX10_seen_1 : decode cX10_seen 1 = .ok (.getfield 12, 3) := by decide +kernel
theorem dX10_seen_4 : decode cX10_seen 4 = .ok (.iload_n 1, 1) := by decide +kernel
theorem dX10_seen_5 : decode cX10_seen 5 = .ok (.invokevirtual 88, 3) := by decide +kernel
theorem dX10_seen_8 : decode cX10_seen 8 = .ok (.ifCond .ne 5, 3) := by decide +kernel
theorem dX10_seen_11 : decode cX10_seen 11 = .ok (.iconst (-1), 1) := by decide +kernel
theorem dX10_seen_12 : decode cX10_seen 12 = .ok (.ireturn, 1) := by decide +kernel
theorem dX10_seen_13 : decode cX10_seen 13 = .ok (.iload_n 2, 1) := by decide +kernel
theorem dX10_seen_14 : decode cX10_seen 14 = .ok (.iconst 0, 1) := by decide +kernel
theorem dX10_seen_15 : decode cX10_seen 15 = .ok (.bipush 30, 2) := by decide +kernel
theorem dX10_seen_17 : decode cX10_seen 17 = .ok (.invokestatic 92, 3) := by decide +kernel
theorem dX10_seen_20 : decode cX10_seen 20 = .ok (.ifCond .eq 12, 3) := by decide +kernel
theorem dX10_seen_23 : decode cX10_seen 23 = .ok (.iload_n 3, 1) := by decide +kernel
theorem dX10_seen_24 : decode cX10_seen 24 = .ok (.iconst 0, 1) := by decide +kernel
theorem dX10_seen_25 : decode cX10_seen 25 = .ok (.iconst 3, 1) := by decide +kernel
theorem dX10_seen_26 : decode cX10_seen 26 = .ok (.invokestatic 92, 3) := by decide +kernel
theorem dX10_seen_29 : decode cX10_seen 29 = .ok (.ifCond .ne 6, 3) := by decide +kernel
theorem dX10_seen_32 : decode cX10_seen 32 = .ok (.bipush (-2), 2) := by decide +kernel
theorem dX10_seen_34 : decode cX10_seen 34 = .ok (.ireturn, 1) := by decide +kernel
theorem dX10_seen_35 : decode cX10_seen 35 = .ok (.aload_n 0, 1) := by decide +kernel
theorem dX10_seen_36 : decode cX10_seen 36 = .ok (.getfield 12, 3) := by decide +kernel
theorem dX10_seen_39 : decode cX10_seen 39 = .ok (.iload_n 1, 1) := by decide +kernel
theorem dX10_seen_40 : decode cX10_seen 40 = .ok (.iload_n 2, 1) := by decide +kernel
theorem dX10_seen_41 : decode cX10_seen 41 = .ok (.iload_n 3, 1) := by decide +kernel
theorem dX10_seen_42 : decode cX10_seen 42 = .ok (.invokevirtual 246, 3) := by decide +kernel
theorem dX10_seen_45 : decode cX10_seen 45 = .ok (.ireturn, 1) := by decide +kernel
theorem dX10_forget_0 : decode cX10_forget 0 = .ok (.aload_n 0, 1) := by decide +kernel
theorem dX10_forget_1 : decode cX10_forget 1 = .ok (.getfield 12, 3) := by decide +kernel
theorem dX10_forget_4 : decode cX10_forget 4 = .ok (.getfield 249, 3) := by decide +kernel
theorem dX10_forget_7 : decode cX10_forget 7 = .ok (.istore_n 1, 1) := by decide +kernel
theorem dX10_forget_8 : decode cX10_forget 8 = .ok (.aload_n 0, 1) := by decide +kernel
theorem dX10_forget_9 : decode cX10_forget 9 = .ok (.getfield 12, 3) := by decide +kernel
theorem dX10_forget_12 : decode cX10_forget 12 = .ok (.iconst 0, 1) := by decide +kernel
theorem dX10_forget_13 : decode cX10_forget 13 = .ok (.putfield 249, 3) := by decide +kernel
theorem dX10_forget_16 : decode cX10_forget 16 = .ok (.iload_n 1, 1) := by decide +kernel
theorem dX10_forget_17 : decode cX10_forget 17 = .ok (.ireturn, 1) := by decide +kernel
theorem dX10_tracks_0 : decode cX10_tracks 0 = .ok (.iload_n 1, 1) := by decide +kernel
theorem dX10_tracks_1 : decode cX10_tracks 1 = .ok (.iconst 0, 1) := by decide +kernel
theorem dX10_tracks_2 : decode cX10_tracks 2 = .ok (.iconst 1, 1) := by decide +kernel
theorem dX10_tracks_3 : decode cX10_tracks 3 = .ok (.invokestatic 92, 3) := by decide +kernel
theorem dX10_tracks_6 : decode cX10_tracks 6 = .ok (.ifCond .ne 6, 3) := by decide +kernel
theorem dX10_tracks_9 : decode cX10_tracks 9 = .ok (.bipush (-2), 2) := by decide +kernel
theorem dX10_tracks_11 : decode cX10_tracks 11 = .ok (.ireturn, 1) := by decide +kernel
theorem dX10_tracks_12 : decode cX10_tracks 12 = .ok (.aload_n 0, 1) := by decide +kernel
theorem dX10_tracks_13 : decode cX10_tracks 13 = .ok (.invokevirtual 252, 3) := by decide +kernel
theorem dX10_tracks_16 : decode cX10_tracks 16 = .ok (.ifCond .ne 6, 3) := by decide +kernel
theorem dX10_tracks_19 : decode cX10_tracks 19 = .ok (.bipush (-5), 2) := by decide +kernel
theorem dX10_tracks_21 : decode cX10_tracks 21 = .ok (.ireturn, 1) := by decide +kernel
theorem dX10_tracks_22 : decode cX10_tracks 22 = .ok (.aload_n 0, 1) := by decide +kernel
theorem dX10_tracks_23 : decode cX10_tracks 23 = .ok (.getfield 76, 3) := by decide +kernel
theorem dX10_tracks_26 : decode cX10_tracks 26 = .ok (.aload_n 0, 1) := by decide +kernel
theorem dX10_tracks_27 : decode cX10_tracks 27 = .ok (.getfield 12, 3) := by decide +kernel
theorem dX10_tracks_30 : decode cX10_tracks 30 = .ok (.aload_n 0, 1) := by decide +kernel
theorem dX10_tracks_31 : decode cX10_tracks 31 = .ok (.getfield 27, 3) := by decide +kernel
theorem dX10_tracks_34 : decode cX10_tracks 34 = .ok (.invokevirtual 256, 3) := by decide +kernel
theorem dX10_tracks_37 : decode cX10_tracks 37 = .ok (.iload_n 1, 1) := by decide +kernel
theorem dX10_tracks_38 : decode cX10_tracks 38 = .ok (.ifCond .ne 13, 3) := by decide +kernel
theorem dX10_tracks_41 : decode cX10_tracks 41 = .ok (.aload_n 0, 1) := by decide +kernel
theorem dX10_tracks_42 : decode cX10_tracks 42 = .ok (.getfield 76, 3) := by decide +kernel
theorem dX10_tracks_45 : decode cX10_tracks 45 = .ok (.getfield 259, 3) := by decide +kernel
theorem dX10_tracks_48 : decode cX10_tracks 48 = .ok (.goto 10, 3) := by decide +kernel
theorem dX10_tracks_51 : decode cX10_tracks 51 = .ok (.aload_n 0, 1) := by decide +kernel
theorem dX10_tracks_52 : decode cX10_tracks 52 = .ok (.getfield 76, 3) := by decide +kernel
theorem dX10_tracks_55 : decode cX10_tracks 55 = .ok (.getfield 262, 3) := by decide +kernel
theorem dX10_tracks_58 : decode cX10_tracks 58 = .ok (.ireturn, 1) := by decide +kernel
theorem dX10_looked_0 : decode cX10_looked 0 = .ok (.aload_n 0, 1) := by decide +kernel
theorem dX10_looked_1 : decode cX10_looked 1 = .ok (.getfield 12, 3) := by decide +kernel
theorem dX10_looked_4 : decode cX10_looked 4 = .ok (.iload_n 1, 1) := by decide +kernel
theorem dX10_looked_5 : decode cX10_looked 5 = .ok (.invokevirtual 88, 3) := by decide +kernel
theorem dX10_looked_8 : decode cX10_looked 8 = .ok (.ifCond .ne 5, 3) := by decide +kernel
theorem dX10_looked_11 : decode cX10_looked 11 = .ok (.iconst (-1), 1) := by decide +kernel
theorem dX10_looked_12 : decode cX10_looked 12 = .ok (.ireturn, 1) := by decide +kernel
theorem dX10_looked_13 : decode cX10_looked 13 = .ok (.aload_n 0, 1) := by decide +kernel
theorem dX10_looked_14 : decode cX10_looked 14 = .ok (.invokevirtual 252, 3) := by decide +kernel
theorem dX10_looked_17 : decode cX10_looked 17 = .ok (.ifCond .ne 6, 3) := by decide +kernel
theorem dX10_looked_20 : decode cX10_looked 20 = .ok (.bipush (-5), 2) := by decide +kernel
theorem dX10_looked_22 : decode cX10_looked 22 = .ok (.ireturn, 1) := by decide +kernel
theorem dX10_looked_23 : decode cX10_looked 23 = .ok (.aload_n 0, 1) := by decide +kernel
theorem dX10_looked_24 : decode cX10_looked 24 = .ok (.getfield 76, 3) := by decide +kernel
theorem dX10_looked_27 : decode cX10_looked 27 = .ok (.aload_n 0, 1) := by decide +kernel
theorem dX10_looked_28 : decode cX10_looked 28 = .ok (.getfield 12, 3) := by decide +kernel
theorem dX10_looked_31 : decode cX10_looked 31 = .ok (.aload_n 0, 1) := by decide +kernel
theorem dX10_looked_32 : decode cX10_looked 32 = .ok (.getfield 27, 3) := by decide +kernel
theorem dX10_looked_35 : decode cX10_looked 35 = .ok (.invokevirtual 256, 3) := by decide +kernel
theorem dX10_looked_38 : decode cX10_looked 38 = .ok (.aload_n 0, 1) := by decide +kernel
theorem dX10_looked_39 : decode cX10_looked 39 = .ok (.getfield 76, 3) := by decide +kernel
theorem dX10_looked_42 : decode cX10_looked 42 = .ok (.getfield 259, 3) := by decide +kernel
theorem dX10_looked_45 : decode cX10_looked 45 = .ok (.ifCond .ne 7, 3) := by decide +kernel
theorem dX10_looked_48 : decode cX10_looked 48 = .ok (.iconst 0, 1) := by decide +kernel
theorem dX10_looked_49 : decode cX10_looked 49 = .ok (.goto 12, 3) := by decide +kernel
theorem dX10_looked_52 : decode cX10_looked 52 = .ok (.aload_n 0, 1) := by decide +kernel
theorem dX10_looked_53 : decode cX10_looked 53 = .ok (.getfield 76, 3) := by decide +kernel
theorem dX10_looked_56 : decode cX10_looked 56 = .ok (.getfield 265, 3) := by decide +kernel
theorem dX10_looked_59 : decode cX10_looked 59 = .ok (.iload_n 1, 1) := by decide +kernel
theorem dX10_looked_60 : decode cX10_looked 60 = .ok (.iaload, 1) := by decide +kernel
theorem dX10_looked_61 : decode cX10_looked 61 = .ok (.ireturn, 1) := by decide +kernel
theorem dX10_storm_0 : decode cX10_storm 0 = .ok (.aload_n 0, 1) := by decide +kernel
theorem dX10_storm_1 : decode cX10_storm 1 = .ok (.getfield 12, 3) := by decide +kernel
theorem dX10_storm_4 : decode cX10_storm 4 = .ok (.iload_n 1, 1) := by decide +kernel
theorem dX10_storm_5 : decode cX10_storm 5 = .ok (.invokevirtual 88, 3) := by decide +kernel
theorem dX10_storm_8 : decode cX10_storm 8 = .ok (.ifCond .ne 7, 3) := by decide +kernel
theorem dX10_storm_11 : decode cX10_storm 11 = .ok (.ldc2_w 268, 3) := by decide +kernel
theorem dX10_storm_14 : decode cX10_storm 14 = .ok (.lreturn, 1) := by decide +kernel
theorem dX10_storm_15 : decode cX10_storm 15 = .ok (.iload_n 2, 1) := by decide +kernel
theorem dX10_storm_16 : decode cX10_storm 16 = .ok (.iconst 0, 1) := by decide +kernel
theorem dX10_storm_17 : decode cX10_storm 17 = .ok (.iconst 3, 1) := by decide +kernel
theorem dX10_storm_18 : decode cX10_storm 18 = .ok (.invokestatic 92, 3) := by decide +kernel
theorem dX10_storm_21 : decode cX10_storm 21 = .ok (.ifCond .eq 34, 3) := by decide +kernel
theorem dX10_storm_24 : decode cX10_storm 24 = .ok (.iload_n 3, 1) := by decide +kernel
theorem dX10_storm_25 : decode cX10_storm 25 = .ok (.iconst 0, 1) := by decide +kernel
theorem dX10_storm_26 : decode cX10_storm 26 = .ok (.bipush 10, 2) := by decide +kernel
theorem dX10_storm_28 : decode cX10_storm 28 = .ok (.invokestatic 92, 3) := by decide +kernel
theorem dX10_storm_31 : decode cX10_storm 31 = .ok (.ifCond .eq 24, 3) := by decide +kernel
theorem dX10_storm_34 : decode cX10_storm 34 = .ok (.iload 4, 2) := by decide +kernel
theorem dX10_storm_36 : decode cX10_storm 36 = .ok (.iconst 0, 1) := by decide +kernel
theorem dX10_storm_37 : decode cX10_storm 37 = .ok (.bipush 15, 2) := by decide +kernel
theorem dX10_storm_39 : decode cX10_storm 39 = .ok (.invokestatic 92, 3) := by decide +kernel
theorem dX10_storm_42 : decode cX10_storm 42 = .ok (.ifCond .eq 13, 3) := by decide +kernel
theorem dX10_storm_45 : decode cX10_storm 45 = .ok (.iload 5, 2) := by decide +kernel
theorem dX10_storm_47 : decode cX10_storm 47 = .ok (.iconst 0, 1) := by decide +kernel
theorem dX10_storm_48 : decode cX10_storm 48 = .ok (.iconst 1, 1) := by decide +kernel
theorem dX10_storm_49 : decode cX10_storm 49 = .ok (.invokestatic 92, 3) := by decide +kernel
theorem dX10_storm_52 : decode cX10_storm 52 = .ok (.ifCond .ne 7, 3) := by decide +kernel
theorem dX10_storm_55 : decode cX10_storm 55 = .ok (.ldc2_w 270, 3) := by decide +kernel
theorem dX10_storm_58 : decode cX10_storm 58 = .ok (.lreturn, 1) := by decide +kernel
theorem dX10_storm_59 : decode cX10_storm 59 = .ok (.iload_n 2, 1) := by decide +kernel
theorem dX10_storm_60 : decode cX10_storm 60 = .ok (.aload_n 0, 1) := by decide +kernel
theorem dX10_storm_61 : decode cX10_storm 61 = .ok (.getfield 12, 3) := by decide +kernel
theorem dX10_storm_64 : decode cX10_storm 64 = .ok (.getfield 168, 3) := by decide +kernel
theorem dX10_storm_67 : decode cX10_storm 67 = .ok (.iload_n 1, 1) := by decide +kernel
theorem dX10_storm_68 : decode cX10_storm 68 = .ok (.iaload, 1) := by decide +kernel
theorem dX10_storm_69 : decode cX10_storm 69 = .ok (.isub, 1) := by decide +kernel
theorem dX10_storm_70 : decode cX10_storm 70 = .ok (.iconst 3, 1) := by decide +kernel
theorem dX10_storm_71 : decode cX10_storm 71 = .ok (.iand, 1) := by decide +kernel
theorem dX10_storm_72 : decode cX10_storm 72 = .ok (.iload_n 3, 1) := by decide +kernel
theorem dX10_storm_73 : decode cX10_storm 73 = .ok (.iload 4, 2) := by decide +kernel
theorem dX10_storm_75 : decode cX10_storm 75 = .ok (.invokestatic 272, 3) := by decide +kernel
theorem dX10_storm_78 : decode cX10_storm 78 = .ok (.lstore 6, 2) := by decide +kernel
theorem dX10_storm_80 : decode cX10_storm 80 = .ok (.lconst 1, 1) := by decide +kernel
theorem dX10_storm_81 : decode cX10_storm 81 = .ok (.lstore 8, 2) := by decide +kernel
theorem dX10_storm_83 : decode cX10_storm 83 = .ok (.iconst 0, 1) := by decide +kernel
theorem dX10_storm_84 : decode cX10_storm 84 = .ok (.istore 10, 2) := by decide +kernel
theorem dX10_storm_86 : decode cX10_storm 86 = .ok (.iload 10, 2) := by decide +kernel
theorem dX10_storm_88 : decode cX10_storm 88 = .ok (.iload 4, 2) := by decide +kernel
theorem dX10_storm_90 : decode cX10_storm 90 = .ok (.if_icmp .ge 17, 3) := by decide +kernel
theorem dX10_storm_93 : decode cX10_storm 93 = .ok (.lload 8, 2) := by decide +kernel
theorem dX10_storm_95 : decode cX10_storm 95 = .ok (.ldc2_w 276, 3) := by decide +kernel
theorem dX10_storm_98 : decode cX10_storm 98 = .ok (.lmul, 1) := by decide +kernel
theorem dX10_storm_99 : decode cX10_storm 99 = .ok (.lstore 8, 2) := by decide +kernel
theorem dX10_storm_101 : decode cX10_storm 101 = .ok (.iinc 10 1, 3) := by decide +kernel
theorem dX10_storm_104 : decode cX10_storm 104 = .ok (.goto (-18), 3) := by decide +kernel
theorem dX10_storm_107 : decode cX10_storm 107 = .ok (.lload 6, 2) := by decide +kernel
theorem dX10_storm_109 : decode cX10_storm 109 = .ok (.lload 8, 2) := by decide +kernel
theorem dX10_storm_111 : decode cX10_storm 111 = .ok (.invokestatic 278, 3) := by decide +kernel
theorem dX10_storm_114 : decode cX10_storm 114 = .ok (.lstore 10, 2) := by decide +kernel
theorem dX10_storm_116 : decode cX10_storm 116 = .ok (.iload 5, 2) := by decide +kernel
theorem dX10_storm_118 : decode cX10_storm 118 = .ok (.ifCond .ne 8, 3) := by decide +kernel
theorem dX10_storm_121 : decode cX10_storm 121 = .ok (.lload 6, 2) := by decide +kernel
theorem dX10_storm_123 : decode cX10_storm 123 = .ok (.goto 5, 3) := by decide +kernel
theorem dX10_storm_126 : decode cX10_storm 126 = .ok (.lload 8, 2) := by decide +kernel
theorem dX10_storm_128 : decode cX10_storm 128 = .ok (.lconst 1, 1) := by decide +kernel
theorem dX10_storm_129 : decode cX10_storm 129 = .ok (.lload 10, 2) := by decide +kernel
theorem dX10_storm_131 : decode cX10_storm 131 = .ok (.invokestatic 282, 3) := by decide +kernel
theorem dX10_storm_134 : decode cX10_storm 134 = .ok (.ldiv, 1) := by decide +kernel
theorem dX10_storm_135 : decode cX10_storm 135 = .ok (.lreturn, 1) := by decide +kernel
theorem dX10_ninety_0 : decode cX10_ninety 0 = .ok (.iload_n 1, 1) := by decide +kernel
theorem dX10_ninety_1 : decode cX10_ninety 1 = .ok (.iconst 0, 1) := by decide +kernel
theorem dX10_ninety_2 : decode cX10_ninety 2 = .ok (.sipush 9999, 3) := by decide +kernel
theorem dX10_ninety_5 : decode cX10_ninety 5 = .ok (.invokestatic 92, 3) := by decide +kernel
theorem dX10_ninety_8 : decode cX10_ninety 8 = .ok (.ifCond .eq 22, 3) := by decide +kernel
theorem dX10_ninety_11 : decode cX10_ninety 11 = .ok (.iload_n 2, 1) := by decide +kernel
theorem dX10_ninety_12 : decode cX10_ninety 12 = .ok (.iconst 1, 1) := by decide +kernel
theorem dX10_ninety_13 : decode cX10_ninety 13 = .ok (.bipush 99, 2) := by decide +kernel
theorem dX10_ninety_15 : decode cX10_ninety 15 = .ok (.invokestatic 92, 3) := by decide +kernel
theorem dX10_ninety_18 : decode cX10_ninety 18 = .ok (.ifCond .eq 12, 3) := by decide +kernel
theorem dX10_ninety_21 : decode cX10_ninety 21 = .ok (.iload_n 3, 1) := by decide +kernel
theorem dX10_ninety_22 : decode cX10_ninety 22 = .ok (.iconst 0, 1) := by decide +kernel
theorem dX10_ninety_23 : decode cX10_ninety 23 = .ok (.iconst 2, 1) := by decide +kernel
theorem dX10_ninety_24 : decode cX10_ninety 24 = .ok (.invokestatic 92, 3) := by decide +kernel
theorem dX10_ninety_27 : decode cX10_ninety 27 = .ok (.ifCond .ne 6, 3) := by decide +kernel
theorem dX10_ninety_30 : decode cX10_ninety 30 = .ok (.bipush (-2), 2) := by decide +kernel
theorem dX10_ninety_32 : decode cX10_ninety 32 = .ok (.ireturn, 1) := by decide +kernel
theorem dX10_ninety_33 : decode cX10_ninety 33 = .ok (.aload_n 0, 1) := by decide +kernel
theorem dX10_ninety_34 : decode cX10_ninety 34 = .ok (.getfield 34, 3) := by decide +kernel
theorem dX10_ninety_37 : decode cX10_ninety 37 = .ok (.aload_n 0, 1) := by decide +kernel
theorem dX10_ninety_38 : decode cX10_ninety 38 = .ok (.getfield 12, 3) := by decide +kernel
theorem dX10_ninety_41 : decode cX10_ninety 41 = .ok (.iload_n 1, 1) := by decide +kernel
theorem dX10_ninety_42 : decode cX10_ninety 42 = .ok (.iload_n 2, 1) := by decide +kernel
theorem dX10_ninety_43 : decode cX10_ninety 43 = .ok (.invokevirtual 287, 3) := by decide +kernel
theorem dX10_ninety_46 : decode cX10_ninety 46 = .ok (.iload_n 3, 1) := by decide +kernel
theorem dX10_ninety_47 : decode cX10_ninety 47 = .ok (.lookupswitch 51 #[(0, 25), (1, 33)], 25) := by decide +kernel
theorem dX10_ninety_72 : decode cX10_ninety 72 = .ok (.aload_n 0, 1) := by decide +kernel
theorem dX10_ninety_73 : decode cX10_ninety 73 = .ok (.getfield 34, 3) := by decide +kernel
theorem dX10_ninety_76 : decode cX10_ninety 76 = .ok (.getfield 149, 3) := by decide +kernel
theorem dX10_ninety_79 : decode cX10_ninety 79 = .ok (.ireturn, 1) := by decide +kernel
theorem dX10_ninety_80 : decode cX10_ninety 80 = .ok (.aload_n 0, 1) := by decide +kernel
theorem dX10_ninety_81 : decode cX10_ninety 81 = .ok (.getfield 34, 3) := by decide +kernel
theorem dX10_ninety_84 : decode cX10_ninety 84 = .ok (.getfield 158, 3) := by decide +kernel
theorem dX10_ninety_87 : decode cX10_ninety 87 = .ok (.aload_n 0, 1) := by decide +kernel
theorem dX10_ninety_88 : decode cX10_ninety 88 = .ok (.getfield 12, 3) := by decide +kernel
theorem dX10_ninety_91 : decode cX10_ninety 91 = .ok (.getfield 80, 3) := by decide +kernel
theorem dX10_ninety_94 : decode cX10_ninety 94 = .ok (.invokestatic 291, 3) := by decide +kernel
theorem dX10_ninety_97 : decode cX10_ninety 97 = .ok (.ireturn, 1) := by decide +kernel
theorem dX10_ninety_98 : decode cX10_ninety 98 = .ok (.aload_n 0, 1) := by decide +kernel
theorem dX10_ninety_99 : decode cX10_ninety 99 = .ok (.getfield 34, 3) := by decide +kernel
theorem dX10_ninety_102 : decode cX10_ninety 102 = .ok (.getfield 295, 3) := by decide +kernel
theorem dX10_ninety_105 : decode cX10_ninety 105 = .ok (.ireturn, 1) := by decide +kernel
theorem dX10_image_0 : decode cX10_image 0 = .ok (.iload_n 1, 1) := by decide +kernel
theorem dX10_image_1 : decode cX10_image 1 = .ok (.iconst 0, 1) := by decide +kernel
theorem dX10_image_2 : decode cX10_image 2 = .ok (.iconst 1, 1) := by decide +kernel
theorem dX10_image_3 : decode cX10_image 3 = .ok (.invokestatic 92, 3) := by decide +kernel
theorem dX10_image_6 : decode cX10_image 6 = .ok (.ifCond .ne 6, 3) := by decide +kernel
theorem dX10_image_9 : decode cX10_image 9 = .ok (.bipush (-2), 2) := by decide +kernel
theorem dX10_image_11 : decode cX10_image 11 = .ok (.ireturn, 1) := by decide +kernel
theorem dX10_image_12 : decode cX10_image 12 = .ok (.aload_n 0, 1) := by decide +kernel
theorem dX10_image_13 : decode cX10_image 13 = .ok (.getfield 16, 3) := by decide +kernel
theorem dX10_image_16 : decode cX10_image 16 = .ok (.iload_n 1, 1) := by decide +kernel
theorem dX10_image_17 : decode cX10_image 17 = .ok (.aaload, 1) := by decide +kernel
theorem dX10_image_18 : decode cX10_image 18 = .ok (.aload_n 0, 1) := by decide +kernel
theorem dX10_image_19 : decode cX10_image 19 = .ok (.getfield 12, 3) := by decide +kernel
theorem dX10_image_22 : decode cX10_image 22 = .ok (.invokevirtual 298, 3) := by decide +kernel
theorem dX10_image_25 : decode cX10_image 25 = .ok (.aload_n 0, 1) := by decide +kernel
theorem dX10_image_26 : decode cX10_image 26 = .ok (.getfield 20, 3) := by decide +kernel
theorem dX10_image_29 : decode cX10_image 29 = .ok (.iload_n 1, 1) := by decide +kernel
theorem dX10_image_30 : decode cX10_image 30 = .ok (.iconst 1, 1) := by decide +kernel
theorem dX10_image_31 : decode cX10_image 31 = .ok (.bastore, 1) := by decide +kernel
theorem dX10_image_32 : decode cX10_image 32 = .ok (.iconst 1, 1) := by decide +kernel
theorem dX10_image_33 : decode cX10_image 33 = .ok (.ireturn, 1) := by decide +kernel
theorem dX10_restore_0 : decode cX10_restore 0 = .ok (.iload_n 1, 1) := by decide +kernel
theorem dX10_restore_1 : decode cX10_restore 1 = .ok (.iconst 0, 1) := by decide +kernel
theorem dX10_restore_2 : decode cX10_restore 2 = .ok (.iconst 1, 1) := by decide +kernel
theorem dX10_restore_3 : decode cX10_restore 3 = .ok (.invokestatic 92, 3) := by decide +kernel
theorem dX10_restore_6 : decode cX10_restore 6 = .ok (.ifCond .ne 6, 3) := by decide +kernel
theorem dX10_restore_9 : decode cX10_restore 9 = .ok (.bipush (-2), 2) := by decide +kernel
theorem dX10_restore_11 : decode cX10_restore 11 = .ok (.ireturn, 1) := by decide +kernel
theorem dX10_restore_12 : decode cX10_restore 12 = .ok (.aload_n 0, 1) := by decide +kernel
theorem dX10_restore_13 : decode cX10_restore 13 = .ok (.getfield 20, 3) := by decide +kernel
theorem dX10_restore_16 : decode cX10_restore 16 = .ok (.iload_n 1, 1) := by decide +kernel
theorem dX10_restore_17 : decode cX10_restore 17 = .ok (.baload, 1) := by decide +kernel
theorem dX10_restore_18 : decode cX10_restore 18 = .ok (.ifCond .ne 6, 3) := by decide +kernel
theorem dX10_restore_21 : decode cX10_restore 21 = .ok (.bipush (-3), 2) := by decide +kernel
theorem dX10_restore_23 : decode cX10_restore 23 = .ok (.ireturn, 1) := by decide +kernel
theorem dX10_restore_24 : decode cX10_restore 24 = .ok (.aload_n 0, 1) := by decide +kernel
theorem dX10_restore_25 : decode cX10_restore 25 = .ok (.getfield 12, 3) := by decide +kernel
theorem dX10_restore_28 : decode cX10_restore 28 = .ok (.aload_n 0, 1) := by decide +kernel
theorem dX10_restore_29 : decode cX10_restore 29 = .ok (.getfield 16, 3) := by decide +kernel
theorem dX10_restore_32 : decode cX10_restore 32 = .ok (.iload_n 1, 1) := by decide +kernel
theorem dX10_restore_33 : decode cX10_restore 33 = .ok (.aaload, 1) := by decide +kernel
theorem dX10_restore_34 : decode cX10_restore 34 = .ok (.invokevirtual 298, 3) := by decide +kernel
theorem dX10_restore_37 : decode cX10_restore 37 = .ok (.iconst 1, 1) := by decide +kernel
theorem dX10_restore_38 : decode cX10_restore 38 = .ok (.ireturn, 1) := by decide +kernel
theorem dX10_told_0 : decode cX10_told 0 = .ok (.iload_n 1, 1) := by decide +kernel
theorem dX10_told_1 : decode cX10_told 1 = .ok (.tableswitch 75 0 4 #[35, 43, 51, 59, 67], 35) := by decide +kernel
theorem dX10_told_36 : decode cX10_told 36 = .ok (.aload_n 0, 1) := by decide +kernel
theorem dX10_told_37 : decode cX10_told 37 = .ok (.getfield 27, 3) := by decide +kernel
theorem dX10_told_40 : decode cX10_told 40 = .ok (.getfield 301, 3) := by decide +kernel
theorem dX10_told_43 : decode cX10_told 43 = .ok (.ireturn, 1) := by decide +kernel
theorem dX10_told_44 : decode cX10_told 44 = .ok (.aload_n 0, 1) := by decide +kernel
theorem dX10_told_45 : decode cX10_told 45 = .ok (.getfield 12, 3) := by decide +kernel
theorem dX10_told_48 : decode cX10_told 48 = .ok (.getfield 80, 3) := by decide +kernel
theorem dX10_told_51 : decode cX10_told 51 = .ok (.ireturn, 1) := by decide +kernel
theorem dX10_told_52 : decode cX10_told 52 = .ok (.aload_n 0, 1) := by decide +kernel
theorem dX10_told_53 : decode cX10_told 53 = .ok (.getfield 12, 3) := by decide +kernel
theorem dX10_told_56 : decode cX10_told 56 = .ok (.getfield 128, 3) := by decide +kernel
theorem dX10_told_59 : decode cX10_told 59 = .ok (.ireturn, 1) := by decide +kernel
theorem dX10_told_60 : decode cX10_told 60 = .ok (.aload_n 0, 1) := by decide +kernel
theorem dX10_told_61 : decode cX10_told 61 = .ok (.getfield 12, 3) := by decide +kernel
theorem dX10_told_64 : decode cX10_told 64 = .ok (.getfield 249, 3) := by decide +kernel
theorem dX10_told_67 : decode cX10_told 67 = .ok (.ireturn, 1) := by decide +kernel
theorem dX10_told_68 : decode cX10_told 68 = .ok (.aload_n 0, 1) := by decide +kernel
theorem dX10_told_69 : decode cX10_told 69 = .ok (.getfield 12, 3) := by decide +kernel
theorem dX10_told_72 : decode cX10_told 72 = .ok (.invokevirtual 234, 3) := by decide +kernel
theorem dX10_told_75 : decode cX10_told 75 = .ok (.ireturn, 1) := by decide +kernel
theorem dX10_told_76 : decode cX10_told 76 = .ok (.iload_n 1, 1) := by decide +kernel
theorem dX10_told_77 : decode cX10_told 77 = .ok (.bipush 100, 2) := by decide +kernel
theorem dX10_told_79 : decode cX10_told 79 = .ok (.if_icmp .ge 20, 3) := by decide +kernel
theorem dX10_told_82 : decode cX10_told 82 = .ok (.aload_n 0, 1) := by decide +kernel
theorem dX10_told_83 : decode cX10_told 83 = .ok (.iload_n 1, 1) := by decide +kernel
theorem dX10_told_84 : decode cX10_told 84 = .ok (.bipush 10, 2) := by decide +kernel
theorem dX10_told_86 : decode cX10_told 86 = .ok (.idiv, 1) := by decide +kernel
theorem dX10_told_87 : decode cX10_told 87 = .ok (.iconst 1, 1) := by decide +kernel
theorem dX10_told_88 : decode cX10_told 88 = .ok (.isub, 1) := by decide +kernel
theorem dX10_told_89 : decode cX10_told 89 = .ok (.iload_n 1, 1) := by decide +kernel
theorem dX10_told_90 : decode cX10_told 90 = .ok (.bipush 10, 2) := by decide +kernel
theorem dX10_told_92 : decode cX10_told 92 = .ok (.irem, 1) := by decide +kernel
theorem dX10_told_93 : decode cX10_told 93 = .ok (.invokevirtual 304, 3) := by decide +kernel
theorem dX10_told_96 : decode cX10_told 96 = .ok (.goto 17, 3) := by decide +kernel
theorem dX10_told_99 : decode cX10_told 99 = .ok (.aload_n 0, 1) := by decide +kernel
theorem dX10_told_100 : decode cX10_told 100 = .ok (.iload_n 1, 1) := by decide +kernel
theorem dX10_told_101 : decode cX10_told 101 = .ok (.bipush 100, 2) := by decide +kernel
theorem dX10_told_103 : decode cX10_told 103 = .ok (.idiv, 1) := by decide +kernel
theorem dX10_told_104 : decode cX10_told 104 = .ok (.iconst 1, 1) := by decide +kernel
theorem dX10_told_105 : decode cX10_told 105 = .ok (.isub, 1) := by decide +kernel
theorem dX10_told_106 : decode cX10_told 106 = .ok (.iload_n 1, 1) := by decide +kernel
theorem dX10_told_107 : decode cX10_told 107 = .ok (.bipush 100, 2) := by decide +kernel
theorem dX10_told_109 : decode cX10_told 109 = .ok (.irem, 1) := by decide +kernel
theorem dX10_told_110 : decode cX10_told 110 = .ok (.invokevirtual 307, 3) := by decide +kernel
theorem dX10_told_113 : decode cX10_told 113 = .ok (.ireturn, 1) := by decide +kernel
theorem dX10_toldOfHut_0 : decode cX10_toldOfHut 0 = .ok (.aload_n 0, 1) := by decide +kernel
theorem dX10_toldOfHut_1 : decode cX10_toldOfHut 1 = .ok (.getfield 12, 3) := by decide +kernel
theorem dX10_toldOfHut_4 : decode cX10_toldOfHut 4 = .ok (.iload_n 1, 1) := by decide +kernel
theorem dX10_toldOfHut_5 : decode cX10_toldOfHut 5 = .ok (.invokevirtual 88, 3) := by decide +kernel
theorem dX10_toldOfHut_8 : decode cX10_toldOfHut 8 = .ok (.ifCond .ne 6, 3) := by decide +kernel
theorem dX10_toldOfHut_11 : decode cX10_toldOfHut 11 = .ok (.bipush (-2), 2) := by decide +kernel
theorem dX10_toldOfHut_13 : decode cX10_toldOfHut 13 = .ok (.ireturn, 1) := by decide +kernel
theorem dX10_toldOfHut_14 : decode cX10_toldOfHut 14 = .ok (.iload_n 2, 1) := by decide +kernel
theorem dX10_toldOfHut_15 : decode cX10_toldOfHut 15 = .ok (.tableswitch 83 0 4 #[33, 43, 53, 63, 73], 33) := by decide +kernel
theorem dX10_toldOfHut_48 : decode cX10_toldOfHut 48 = .ok (.aload_n 0, 1) := by decide +kernel
theorem dX10_toldOfHut_49 : decode cX10_toldOfHut 49 = .ok (.getfield 12, 3) := by decide +kernel
theorem dX10_toldOfHut_52 : decode cX10_toldOfHut 52 = .ok (.getfield 168, 3) := by decide +kernel
theorem dX10_toldOfHut_55 : decode cX10_toldOfHut 55 = .ok (.iload_n 1, 1) := by decide +kernel
theorem dX10_toldOfHut_56 : decode cX10_toldOfHut 56 = .ok (.iaload, 1) := by decide +kernel
theorem dX10_toldOfHut_57 : decode cX10_toldOfHut 57 = .ok (.ireturn, 1) := by decide +kernel
theorem dX10_toldOfHut_58 : decode cX10_toldOfHut 58 = .ok (.aload_n 0, 1) := by decide +kernel
theorem dX10_toldOfHut_59 : decode cX10_toldOfHut 59 = .ok (.getfield 12, 3) := by decide +kernel
theorem dX10_toldOfHut_62 : decode cX10_toldOfHut 62 = .ok (.getfield 169, 3) := by decide +kernel
theorem dX10_toldOfHut_65 : decode cX10_toldOfHut 65 = .ok (.iload_n 1, 1) := by decide +kernel
theorem dX10_toldOfHut_66 : decode cX10_toldOfHut 66 = .ok (.iaload, 1) := by decide +kernel
theorem dX10_toldOfHut_67 : decode cX10_toldOfHut 67 = .ok (.ireturn, 1) := by decide +kernel
theorem dX10_toldOfHut_68 : decode cX10_toldOfHut 68 = .ok (.aload_n 0, 1) := by decide +kernel
theorem dX10_toldOfHut_69 : decode cX10_toldOfHut 69 = .ok (.getfield 12, 3) := by decide +kernel
theorem dX10_toldOfHut_72 : decode cX10_toldOfHut 72 = .ok (.getfield 310, 3) := by decide +kernel
theorem dX10_toldOfHut_75 : decode cX10_toldOfHut 75 = .ok (.iload_n 1, 1) := by decide +kernel
theorem dX10_toldOfHut_76 : decode cX10_toldOfHut 76 = .ok (.iaload, 1) := by decide +kernel
theorem dX10_toldOfHut_77 : decode cX10_toldOfHut 77 = .ok (.ireturn, 1) := by decide +kernel
theorem dX10_toldOfHut_78 : decode cX10_toldOfHut 78 = .ok (.aload_n 0, 1) := by decide +kernel
theorem dX10_toldOfHut_79 : decode cX10_toldOfHut 79 = .ok (.getfield 12, 3) := by decide +kernel
theorem dX10_toldOfHut_82 : decode cX10_toldOfHut 82 = .ok (.getfield 313, 3) := by decide +kernel
theorem dX10_toldOfHut_85 : decode cX10_toldOfHut 85 = .ok (.iload_n 1, 1) := by decide +kernel
theorem dX10_toldOfHut_86 : decode cX10_toldOfHut 86 = .ok (.iaload, 1) := by decide +kernel
theorem dX10_toldOfHut_87 : decode cX10_toldOfHut 87 = .ok (.ireturn, 1) := by decide +kernel
theorem dX10_toldOfHut_88 : decode cX10_toldOfHut 88 = .ok (.aload_n 0, 1) := by decide +kernel
theorem dX10_toldOfHut_89 : decode cX10_toldOfHut 89 = .ok (.getfield 12, 3) := by decide +kernel
theorem dX10_toldOfHut_92 : decode cX10_toldOfHut 92 = .ok (.getfield 316, 3) := by decide +kernel
theorem dX10_toldOfHut_95 : decode cX10_toldOfHut 95 = .ok (.iload_n 1, 1) := by decide +kernel
theorem dX10_toldOfHut_96 : decode cX10_toldOfHut 96 = .ok (.iaload, 1) := by decide +kernel
theorem dX10_toldOfHut_97 : decode cX10_toldOfHut 97 = .ok (.ireturn, 1) := by decide +kernel
theorem dX10_toldOfHut_98 : decode cX10_toldOfHut 98 = .ok (.bipush (-2), 2) := by decide +kernel
theorem dX10_toldOfHut_100 : decode cX10_toldOfHut 100 = .ok (.ireturn, 1) := by decide +kernel
theorem dX10_toldOfWord_0 : decode cX10_toldOfWord 0 = .ok (.aload_n 0, 1) := by decide +kernel
theorem dX10_toldOfWord_1 : decode cX10_toldOfWord 1 = .ok (.getfield 12, 3) := by decide +kernel
theorem dX10_toldOfWord_4 : decode cX10_toldOfWord 4 = .ok (.iload_n 1, 1) := by decide +kernel
theorem dX10_toldOfWord_5 : decode cX10_toldOfWord 5 = .ok (.invokevirtual 136, 3) := by decide +kernel
theorem dX10_toldOfWord_8 : decode cX10_toldOfWord 8 = .ok (.ifCond .eq 14, 3) := by decide +kernel
theorem dX10_toldOfWord_11 : decode cX10_toldOfWord 11 = .ok (.aload_n 0, 1) := by decide +kernel
theorem dX10_toldOfWord_12 : decode cX10_toldOfWord 12 = .ok (.getfield 12, 3) := by decide +kernel
theorem dX10_toldOfWord_15 : decode cX10_toldOfWord 15 = .ok (.iload_n 2, 1) := by decide +kernel
theorem dX10_toldOfWord_16 : decode cX10_toldOfWord 16 = .ok (.invokevirtual 88, 3) := by decide +kernel
theorem dX10_toldOfWord_19 : decode cX10_toldOfWord 19 = .ok (.ifCond .ne 6, 3) := by decide +kernel
theorem dX10_toldOfWord_22 : decode cX10_toldOfWord 22 = .ok (.bipush (-2), 2) := by decide +kernel
theorem dX10_toldOfWord_24 : decode cX10_toldOfWord 24 = .ok (.ireturn, 1) := by decide +kernel
theorem dX10_toldOfWord_25 : decode cX10_toldOfWord 25 = .ok (.aload_n 0, 1) := by decide +kernel
theorem dX10_toldOfWord_26 : decode cX10_toldOfWord 26 = .ok (.getfield 12, 3) := by decide +kernel
theorem dX10_toldOfWord_29 : decode cX10_toldOfWord 29 = .ok (.getfield 121, 3) := by decide +kernel
theorem dX10_toldOfWord_32 : decode cX10_toldOfWord 32 = .ok (.iload_n 1, 1) := by decide +kernel
theorem dX10_toldOfWord_33 : decode cX10_toldOfWord 33 = .ok (.iconst 5, 1) := by decide +kernel
theorem dX10_toldOfWord_34 : decode cX10_toldOfWord 34 = .ok (.imul, 1) := by decide +kernel
theorem dX10_toldOfWord_35 : decode cX10_toldOfWord 35 = .ok (.iload_n 2, 1) := by decide +kernel
theorem dX10_toldOfWord_36 : decode cX10_toldOfWord 36 = .ok (.iadd, 1) := by decide +kernel
theorem dX10_toldOfWord_37 : decode cX10_toldOfWord 37 = .ok (.iaload, 1) := by decide +kernel
theorem dX10_toldOfWord_38 : decode cX10_toldOfWord 38 = .ok (.ireturn, 1) := by decide +kernel
theorem dX10_playWhole_0 : decode cX10_playWhole 0 = .ok (.aload_n 0, 1) := by decide +kernel
theorem dX10_playWhole_1 : decode cX10_playWhole 1 = .ok (.getfield 27, 3) := by decide +kernel
theorem dX10_playWhole_4 : decode cX10_playWhole 4 = .ok (.aload_n 0, 1) := by decide +kernel
theorem dX10_playWhole_5 : decode cX10_playWhole 5 = .ok (.getfield 12, 3) := by decide +kernel
theorem dX10_playWhole_8 : decode cX10_playWhole 8 = .ok (.getfield 80, 3) := by decide +kernel
theorem dX10_playWhole_11 : decode cX10_playWhole 11 = .ok (.invokevirtual 118, 3) := by decide +kernel
theorem dX10_playWhole_14 : decode cX10_playWhole 14 = .ok (.bipush (-6), 2) := by decide +kernel
theorem dX10_playWhole_16 : decode cX10_playWhole 16 = .ok (.if_icmp .eq 6, 3) := by decide +kernel
theorem dX10_playWhole_19 : decode cX10_playWhole 19 = .ok (.bipush (-5), 2) := by decide +kernel
theorem dX10_playWhole_21 : decode cX10_playWhole 21 = .ok (.ireturn, 1) := by decide +kernel
theorem dX10_playWhole_22 : decode cX10_playWhole 22 = .ok (.aload_n 0, 1) := by decide +kernel
theorem dX10_playWhole_23 : decode cX10_playWhole 23 = .ok (.getfield 34, 3) := by decide +kernel
theorem dX10_playWhole_26 : decode cX10_playWhole 26 = .ok (.aload_n 0, 1) := by decide +kernel
theorem dX10_playWhole_27 : decode cX10_playWhole 27 = .ok (.getfield 12, 3) := by decide +kernel
theorem dX10_playWhole_30 : decode cX10_playWhole 30 = .ok (.aload_n 0, 1) := by decide +kernel
theorem dX10_playWhole_31 : decode cX10_playWhole 31 = .ok (.getfield 27, 3) := by decide +kernel
theorem dX10_playWhole_34 : decode cX10_playWhole 34 = .ok (.invokevirtual 139, 3) := by decide +kernel
theorem dX10_playWhole_37 : decode cX10_playWhole 37 = .ok (.aload_n 0, 1) := by decide +kernel
theorem dX10_playWhole_38 : decode cX10_playWhole 38 = .ok (.getfield 34, 3) := by decide +kernel
theorem dX10_playWhole_41 : decode cX10_playWhole 41 = .ok (.getfield 143, 3) := by decide +kernel
theorem dX10_playWhole_44 : decode cX10_playWhole 44 = .ok (.ifCond .ne 7, 3) := by decide +kernel
theorem dX10_playWhole_47 : decode cX10_playWhole 47 = .ok (.iconst 0, 1) := by decide +kernel
theorem dX10_playWhole_48 : decode cX10_playWhole 48 = .ok (.goto 5, 3) := by decide +kernel
theorem dX10_playWhole_51 : decode cX10_playWhole 51 = .ok (.bipush (-3), 2) := by decide +kernel
theorem dX10_playWhole_53 : decode cX10_playWhole 53 = .ok (.ireturn, 1) := by decide +kernel
theorem dX10_isTrackable_0 : decode cX10_isTrackable 0 = .ok (.aload_n 0, 1) := by decide +kernel
theorem dX10_isTrackable_1 : decode cX10_isTrackable 1 = .ok (.getfield 27, 3) := by decide +kernel
theorem dX10_isTrackable_4 : decode cX10_isTrackable 4 = .ok (.aload_n 0, 1) := by decide +kernel
theorem dX10_isTrackable_5 : decode cX10_isTrackable 5 = .ok (.getfield 12, 3) := by decide +kernel
theorem dX10_isTrackable_8 : decode cX10_isTrackable 8 = .ok (.getfield 80, 3) := by decide +kernel
theorem dX10_isTrackable_11 : decode cX10_isTrackable 11 = .ok (.invokevirtual 118, 3) := by decide +kernel
theorem dX10_isTrackable_14 : decode cX10_isTrackable 14 = .ok (.bipush (-6), 2) := by decide +kernel
theorem dX10_isTrackable_16 : decode cX10_isTrackable 16 = .ok (.if_icmp .ne 21, 3) := by decide +kernel
theorem dX10_isTrackable_19 : decode cX10_isTrackable 19 = .ok (.aload_n 0, 1) := by decide +kernel
theorem dX10_isTrackable_20 : decode cX10_isTrackable 20 = .ok (.getfield 27, 3) := by decide +kernel
theorem dX10_isTrackable_23 : decode cX10_isTrackable 23 = .ok (.aload_n 0, 1) := by decide +kernel
theorem dX10_isTrackable_24 : decode cX10_isTrackable 24 = .ok (.getfield 12, 3) := by decide +kernel
theorem dX10_isTrackable_27 : decode cX10_isTrackable 27 = .ok (.invokevirtual 319, 3) := by decide +kernel
theorem dX10_isTrackable_30 : decode cX10_isTrackable 30 = .ok (.ifCond .eq 7, 3) := by decide +kernel
theorem dX10_isTrackable_33 : decode cX10_isTrackable 33 = .ok (.iconst 1, 1) := by decide +kernel
theorem dX10_isTrackable_34 : decode cX10_isTrackable 34 = .ok (.goto 4, 3) := by decide +kernel
theorem dX10_isTrackable_37 : decode cX10_isTrackable 37 = .ok (.iconst 0, 1) := by decide +kernel
theorem dX10_isTrackable_38 : decode cX10_isTrackable 38 = .ok (.ireturn, 1) := by decide +kernel
theorem dX10_isAim_0 : decode cX10_isAim 0 = .ok (.aload_n 0, 1) := by decide +kernel
theorem dX10_isAim_1 : decode cX10_isAim 1 = .ok (.getfield 12, 3) := by decide +kernel
theorem dX10_isAim_4 : decode cX10_isAim 4 = .ok (.iload_n 1, 1) := by decide +kernel
theorem dX10_isAim_5 : decode cX10_isAim 5 = .ok (.invokevirtual 204, 3) := by decide +kernel
theorem dX10_isAim_8 : decode cX10_isAim 8 = .ok (.ifCond .eq 18, 3) := by decide +kernel
theorem dX10_isAim_11 : decode cX10_isAim 11 = .ok (.aload_n 0, 1) := by decide +kernel
theorem dX10_isAim_12 : decode cX10_isAim 12 = .ok (.getfield 12, 3) := by decide +kernel
theorem dX10_isAim_15 : decode cX10_isAim 15 = .ok (.iload_n 2, 1) := by decide +kernel
theorem dX10_isAim_16 : decode cX10_isAim 16 = .ok (.invokevirtual 179, 3) := by decide +kernel
theorem dX10_isAim_19 : decode cX10_isAim 19 = .ok (.ifCond .eq 7, 3) := by decide +kernel
theorem dX10_isAim_22 : decode cX10_isAim 22 = .ok (.iconst 1, 1) := by decide +kernel
theorem dX10_isAim_23 : decode cX10_isAim 23 = .ok (.goto 4, 3) := by decide +kernel
theorem dX10_isAim_26 : decode cX10_isAim 26 = .ok (.iconst 0, 1) := by decide +kernel
theorem dX10_isAim_27 : decode cX10_isAim 27 = .ok (.ireturn, 1) := by decide +kernel
theorem dX10_fewestWords_0 : decode cX10_fewestWords 0 = .ok (.aload_n 0, 1) := by decide +kernel
theorem dX10_fewestWords_1 : decode cX10_fewestWords 1 = .ok (.getfield 41, 3) := by decide +kernel
theorem dX10_fewestWords_4 : decode cX10_fewestWords 4 = .ok (.aload_n 0, 1) := by decide +kernel
theorem dX10_fewestWords_5 : decode cX10_fewestWords 5 = .ok (.getfield 12, 3) := by decide +kernel
theorem dX10_fewestWords_8 : decode cX10_fewestWords 8 = .ok (.iload_n 1, 1) := by decide +kernel
theorem dX10_fewestWords_9 : decode cX10_fewestWords 9 = .ok (.invokevirtual 172, 3) := by decide +kernel
theorem dX10_fewestWords_12 : decode cX10_fewestWords 12 = .ok (.aload_n 0, 1) := by decide +kernel
theorem dX10_fewestWords_13 : decode cX10_fewestWords 13 = .ok (.getfield 41, 3) := by decide +kernel
theorem dX10_fewestWords_16 : decode cX10_fewestWords 16 = .ok (.iload_n 2, 1) := by decide +kernel
theorem dX10_fewestWords_17 : decode cX10_fewestWords 17 = .ok (.iload_n 3, 1) := by decide +kernel
theorem dX10_fewestWords_18 : decode cX10_fewestWords 18 = .ok (.invokevirtual 188, 3) := by decide +kernel
theorem dX10_fewestWords_21 : decode cX10_fewestWords 21 = .ok (.istore 4, 2) := by decide +kernel
theorem dX10_fewestWords_23 : decode cX10_fewestWords 23 = .ok (.iload 4, 2) := by decide +kernel
theorem dX10_fewestWords_25 : decode cX10_fewestWords 25 = .ok (.ifCond .ge 8, 3) := by decide +kernel
theorem dX10_fewestWords_28 : decode cX10_fewestWords 28 = .ok (.bipush (-6), 2) := by decide +kernel
theorem dX10_fewestWords_30 : decode cX10_fewestWords 30 = .ok (.goto 13, 3) := by decide +kernel
theorem dX10_fewestWords_33 : decode cX10_fewestWords 33 = .ok (.aload_n 0, 1) := by decide +kernel
theorem dX10_fewestWords_34 : decode cX10_fewestWords 34 = .ok (.getfield 41, 3) := by decide +kernel
theorem dX10_fewestWords_37 : decode cX10_fewestWords 37 = .ok (.getfield 182, 3) := by decide +kernel
theorem dX10_fewestWords_40 : decode cX10_fewestWords 40 = .ok (.iload 4, 2) := by decide +kernel
theorem dX10_fewestWords_42 : decode cX10_fewestWords 42 = .ok (.iaload, 1) := by decide +kernel
theorem dX10_fewestWords_43 : decode cX10_fewestWords 43 = .ok (.ireturn, 1) := by decide +kernel
theorem dX10_votes_0 : decode cX10_votes 0 = .ok (.iconst 0, 1) := by decide +kernel
theorem dX10_votes_1 : decode cX10_votes 1 = .ok (.istore_n 3, 1) := by decide +kernel
theorem dX10_votes_2 : decode cX10_votes 2 = .ok (.iconst 0, 1) := by decide +kernel
theorem dX10_votes_3 : decode cX10_votes 3 = .ok (.istore 4, 2) := by decide +kernel
theorem dX10_votes_5 : decode cX10_votes 5 = .ok (.iload 4, 2) := by decide +kernel
theorem dX10_votes_7 : decode cX10_votes 7 = .ok (.aload_n 0, 1) := by decide +kernel
theorem dX10_votes_8 : decode cX10_votes 8 = .ok (.getfield 12, 3) := by decide +kernel
theorem dX10_votes_11 : decode cX10_votes 11 = .ok (.getfield 80, 3) := by decide +kernel
theorem dX10_votes_14 : decode cX10_votes 14 = .ok (.if_icmp .ge 22, 3) := by decide +kernel
theorem dX10_votes_17 : decode cX10_votes 17 = .ok (.iload_n 1, 1) := by decide +kernel
theorem dX10_votes_18 : decode cX10_votes 18 = .ok (.iload 4, 2) := by decide +kernel
theorem dX10_votes_20 : decode cX10_votes 20 = .ok (.invokestatic 323, 3) := by decide +kernel
theorem dX10_votes_23 : decode cX10_votes 23 = .ok (.iload_n 2, 1) := by decide +kernel
theorem dX10_votes_24 : decode cX10_votes 24 = .ok (.if_icmp .ne 6, 3) := by decide +kernel
theorem dX10_votes_27 : decode cX10_votes 27 = .ok (.iinc 3 1, 3) := by decide +kernel
theorem dX10_votes_30 : decode cX10_votes 30 = .ok (.iinc 4 1, 3) := by decide +kernel
theorem dX10_votes_33 : decode cX10_votes 33 = .ok (.goto (-28), 3) := by decide +kernel
theorem dX10_votes_36 : decode cX10_votes 36 = .ok (.iload_n 3, 1) := by decide +kernel
theorem dX10_votes_37 : decode cX10_votes 37 = .ok (.ireturn, 1) := by decide +kernel
theorem dX10_looksOfSides_0 : decode cX10_looksOfSides 0 = .ok (.iconst 0, 1) := by decide +kernel
theorem dX10_looksOfSides_1 : decode cX10_looksOfSides 1 = .ok (.istore_n 3, 1) := by decide +kernel
theorem dX10_looksOfSides_2 : decode cX10_looksOfSides 2 = .ok (.iload_n 2, 1) := by decide +kernel
theorem dX10_looksOfSides_3 : decode cX10_looksOfSides 3 = .ok (.istore 4, 2) := by decide +kernel
theorem dX10_looksOfSides_5 : decode cX10_looksOfSides 5 = .ok (.aload_n 0, 1) := by decide +kernel
theorem dX10_looksOfSides_6 : decode cX10_looksOfSides 6 = .ok (.getfield 12, 3) := by decide +kernel
theorem dX10_looksOfSides_9 : decode cX10_looksOfSides 9 = .ok (.getfield 80, 3) := by decide +kernel
theorem dX10_looksOfSides_12 : decode cX10_looksOfSides 12 = .ok (.iconst 1, 1) := by decide +kernel
theorem dX10_looksOfSides_13 : decode cX10_looksOfSides 13 = .ok (.isub, 1) := by decide +kernel
theorem dX10_looksOfSides_14 : decode cX10_looksOfSides 14 = .ok (.istore 5, 2) := by decide +kernel
theorem dX10_looksOfSides_16 : decode cX10_looksOfSides 16 = .ok (.iload 5, 2) := by decide +kernel
theorem dX10_looksOfSides_18 : decode cX10_looksOfSides 18 = .ok (.ifCond .lt 53, 3) := by decide +kernel
theorem dX10_looksOfSides_21 : decode cX10_looksOfSides 21 = .ok (.iload_n 1, 1) := by decide +kernel
theorem dX10_looksOfSides_22 : decode cX10_looksOfSides 22 = .ok (.iload 5, 2) := by decide +kernel
theorem dX10_looksOfSides_24 : decode cX10_looksOfSides 24 = .ok (.invokestatic 326, 3) := by decide +kernel
theorem dX10_looksOfSides_27 : decode cX10_looksOfSides 27 = .ok (.ifCond .eq 38, 3) := by decide +kernel
theorem dX10_looksOfSides_30 : decode cX10_looksOfSides 30 = .ok (.iload 4, 2) := by decide +kernel
theorem dX10_looksOfSides_32 : decode cX10_looksOfSides 32 = .ok (.bipush 10, 2) := by decide +kernel
theorem dX10_looksOfSides_34 : decode cX10_looksOfSides 34 = .ok (.irem, 1) := by decide +kernel
theorem dX10_looksOfSides_35 : decode cX10_looksOfSides 35 = .ok (.iconst 0, 1) := by decide +kernel
theorem dX10_looksOfSides_36 : decode cX10_looksOfSides 36 = .ok (.iconst 3, 1) := by decide +kernel
theorem dX10_looksOfSides_37 : decode cX10_looksOfSides 37 = .ok (.invokestatic 92, 3) := by decide +kernel
theorem dX10_looksOfSides_40 : decode cX10_looksOfSides 40 = .ok (.ifCond .ne 5, 3) := by decide +kernel
theorem dX10_looksOfSides_43 : decode cX10_looksOfSides 43 = .ok (.iconst (-1), 1) := by decide +kernel
theorem dX10_looksOfSides_44 : decode cX10_looksOfSides 44 = .ok (.ireturn, 1) := by decide +kernel
theorem dX10_looksOfSides_45 : decode cX10_looksOfSides 45 = .ok (.iload_n 3, 1) := by decide +kernel
theorem dX10_looksOfSides_46 : decode cX10_looksOfSides 46 = .ok (.iload 4, 2) := by decide +kernel
theorem dX10_looksOfSides_48 : decode cX10_looksOfSides 48 = .ok (.bipush 10, 2) := by decide +kernel
theorem dX10_looksOfSides_50 : decode cX10_looksOfSides 50 = .ok (.irem, 1) := by decide +kernel
theorem dX10_looksOfSides_51 : decode cX10_looksOfSides 51 = .ok (.iconst 2, 1) := by decide +kernel
theorem dX10_looksOfSides_52 : decode cX10_looksOfSides 52 = .ok (.iload 5, 2) := by decide +kernel
theorem dX10_looksOfSides_54 : decode cX10_looksOfSides 54 = .ok (.imul, 1) := by decide +kernel
theorem dX10_looksOfSides_55 : decode cX10_looksOfSides 55 = .ok (.ishl, 1) := by decide +kernel
theorem dX10_looksOfSides_56 : decode cX10_looksOfSides 56 = .ok (.ior, 1) := by decide +kernel
theorem dX10_looksOfSides_57 : decode cX10_looksOfSides 57 = .ok (.istore_n 3, 1) := by decide +kernel
theorem dX10_looksOfSides_58 : decode cX10_looksOfSides 58 = .ok (.iload 4, 2) := by decide +kernel
theorem dX10_looksOfSides_60 : decode cX10_looksOfSides 60 = .ok (.bipush 10, 2) := by decide +kernel
theorem dX10_looksOfSides_62 : decode cX10_looksOfSides 62 = .ok (.idiv, 1) := by decide +kernel
theorem dX10_looksOfSides_63 : decode cX10_looksOfSides 63 = .ok (.istore 4, 2) := by decide +kernel
theorem dX10_looksOfSides_65 : decode cX10_looksOfSides 65 = .ok (.iinc 5 (-1), 3) := by decide +kernel
theorem dX10_looksOfSides_68 : decode cX10_looksOfSides 68 = .ok (.goto (-52), 3) := by decide +kernel
theorem dX10_looksOfSides_71 : decode cX10_looksOfSides 71 = .ok (.iload 4, 2) := by decide +kernel
theorem dX10_looksOfSides_73 : decode cX10_looksOfSides 73 = .ok (.ifCond .ne 7, 3) := by decide +kernel
theorem dX10_looksOfSides_76 : decode cX10_looksOfSides 76 = .ok (.iload_n 3, 1) := by decide +kernel
theorem dX10_looksOfSides_77 : decode cX10_looksOfSides 77 = .ok (.goto 4, 3) := by decide +kernel
theorem dX10_looksOfSides_80 : decode cX10_looksOfSides 80 = .ok (.iconst (-1), 1) := by decide +kernel
theorem dX10_looksOfSides_81 : decode cX10_looksOfSides 81 = .ok (.ireturn, 1) := by decide +kernel
theorem dX10_mostOf_0 : decode cX10_mostOf 0 = .ok (.iload_n 0, 1) := by decide +kernel
theorem dX10_mostOf_1 : decode cX10_mostOf 1 = .ok (.lookupswitch 33 #[(1, 27), (3, 30)], 27) := by decide +kernel
theorem dX10_mostOf_28 : decode cX10_mostOf 28 = .ok (.bipush 30, 2) := by decide +kernel
theorem dX10_mostOf_30 : decode cX10_mostOf 30 = .ok (.ireturn, 1) := by decide +kernel
theorem dX10_mostOf_31 : decode cX10_mostOf 31 = .ok (.bipush 24, 2) := by decide +kernel
theorem dX10_mostOf_33 : decode cX10_mostOf 33 = .ok (.ireturn, 1) := by decide +kernel
theorem dX10_mostOf_34 : decode cX10_mostOf 34 = .ok (.iconst 3, 1) := by decide +kernel
theorem dX10_mostOf_35 : decode cX10_mostOf 35 = .ok (.ireturn, 1) := by decide +kernel
theorem dX10_isWithin_0 : decode cX10_isWithin 0 = .ok (.iload_n 0, 1) := by decide +kernel
theorem dX10_isWithin_1 : decode cX10_isWithin 1 = .ok (.iload_n 1, 1) := by decide +kernel
theorem dX10_isWithin_2 : decode cX10_isWithin 2 = .ok (.if_icmp .lt 12, 3) := by decide +kernel
theorem dX10_isWithin_5 : decode cX10_isWithin 5 = .ok (.iload_n 0, 1) := by decide +kernel
theorem dX10_isWithin_6 : decode cX10_isWithin 6 = .ok (.iload_n 2, 1) := by decide +kernel
theorem dX10_isWithin_7 : decode cX10_isWithin 7 = .ok (.if_icmp .gt 7, 3) := by decide +kernel
theorem dX10_isWithin_10 : decode cX10_isWithin 10 = .ok (.iconst 1, 1) := by decide +kernel
theorem dX10_isWithin_11 : decode cX10_isWithin 11 = .ok (.goto 4, 3) := by decide +kernel
theorem dX10_isWithin_14 : decode cX10_isWithin 14 = .ok (.iconst 0, 1) := by decide +kernel
theorem dX10_isWithin_15 : decode cX10_isWithin 15 = .ok (.ireturn, 1) := by decide +kernel
theorem dX10_isIn_0 : decode cX10_isIn 0 = .ok (.iload_n 0, 1) := by decide +kernel
theorem dX10_isIn_1 : decode cX10_isIn 1 = .ok (.iload_n 1, 1) := by decide +kernel
theorem dX10_isIn_2 : decode cX10_isIn 2 = .ok (.ishr, 1) := by decide +kernel
theorem dX10_isIn_3 : decode cX10_isIn 3 = .ok (.iconst 1, 1) := by decide +kernel
theorem dX10_isIn_4 : decode cX10_isIn 4 = .ok (.iand, 1) := by decide +kernel
theorem dX10_isIn_5 : decode cX10_isIn 5 = .ok (.ifCond .eq 7, 3) := by decide +kernel
theorem dX10_isIn_8 : decode cX10_isIn 8 = .ok (.iconst 1, 1) := by decide +kernel
theorem dX10_isIn_9 : decode cX10_isIn 9 = .ok (.goto 4, 3) := by decide +kernel
theorem dX10_isIn_12 : decode cX10_isIn 12 = .ok (.iconst 0, 1) := by decide +kernel
theorem dX10_isIn_13 : decode cX10_isIn 13 = .ok (.ireturn, 1) := by decide +kernel
theorem dX10_lookIn_0 : decode cX10_lookIn 0 = .ok (.iload_n 0, 1) := by decide +kernel
theorem dX10_lookIn_1 : decode cX10_lookIn 1 = .ok (.iconst 2, 1) := by decide +kernel
theorem dX10_lookIn_2 : decode cX10_lookIn 2 = .ok (.iload_n 1, 1) := by decide +kernel
theorem dX10_lookIn_3 : decode cX10_lookIn 3 = .ok (.imul, 1) := by decide +kernel
theorem dX10_lookIn_4 : decode cX10_lookIn 4 = .ok (.ishr, 1) := by decide +kernel
theorem dX10_lookIn_5 : decode cX10_lookIn 5 = .ok (.iconst 3, 1) := by decide +kernel
theorem dX10_lookIn_6 : decode cX10_lookIn 6 = .ok (.iand, 1) := by decide +kernel
theorem dX10_lookIn_7 : decode cX10_lookIn 7 = .ok (.ireturn, 1) := by decide +kernel
theorem dX10_numberOf_0 : decode cX10_numberOf 0 = .ok (.iconst 0, 1) := by decide +kernel
theorem dX10_numberOf_1 : decode cX10_numberOf 1 = .ok (.istore_n 2, 1) := by decide +kernel
theorem dX10_numberOf_2 : decode cX10_numberOf 2 = .ok (.iconst 0, 1) := by decide +kernel
theorem dX10_numberOf_3 : decode cX10_numberOf 3 = .ok (.istore_n 3, 1) := by decide +kernel
theorem dX10_numberOf_4 : decode cX10_numberOf 4 = .ok (.iload_n 3, 1) := by decide +kernel
theorem dX10_numberOf_5 : decode cX10_numberOf 5 = .ok (.iload_n 1, 1) := by decide +kernel
theorem dX10_numberOf_6 : decode cX10_numberOf 6 = .ok (.if_icmp .ge 25, 3) := by decide +kernel
theorem dX10_numberOf_9 : decode cX10_numberOf 9 = .ok (.iload_n 3, 1) := by decide +kernel
theorem dX10_numberOf_10 : decode cX10_numberOf 10 = .ok (.aload_n 0, 1) := by decide +kernel
theorem dX10_numberOf_11 : decode cX10_numberOf 11 = .ok (.arraylength, 1) := by decide +kernel
theorem dX10_numberOf_12 : decode cX10_numberOf 12 = .ok (.if_icmp .ge 19, 3) := by decide +kernel
theorem dX10_numberOf_15 : decode cX10_numberOf 15 = .ok (.iload_n 2, 1) := by decide +kernel
theorem dX10_numberOf_16 : decode cX10_numberOf 16 = .ok (.aload_n 0, 1) := by decide +kernel
theorem dX10_numberOf_17 : decode cX10_numberOf 17 = .ok (.iload_n 3, 1) := by decide +kernel
theorem dX10_numberOf_18 : decode cX10_numberOf 18 = .ok (.iaload, 1) := by decide +kernel
theorem dX10_numberOf_19 : decode cX10_numberOf 19 = .ok (.iconst 2, 1) := by decide +kernel
theorem dX10_numberOf_20 : decode cX10_numberOf 20 = .ok (.iload_n 3, 1) := by decide +kernel
theorem dX10_numberOf_21 : decode cX10_numberOf 21 = .ok (.imul, 1) := by decide +kernel
theorem dX10_numberOf_22 : decode cX10_numberOf 22 = .ok (.ishl, 1) := by decide +kernel
theorem dX10_numberOf_23 : decode cX10_numberOf 23 = .ok (.ior, 1) := by decide +kernel
theorem dX10_numberOf_24 : decode cX10_numberOf 24 = .ok (.istore_n 2, 1) := by decide +kernel
theorem dX10_numberOf_25 : decode cX10_numberOf 25 = .ok (.iinc 3 1, 3) := by decide +kernel
theorem dX10_numberOf_28 : decode cX10_numberOf 28 = .ok (.goto (-24), 3) := by decide +kernel
theorem dX10_numberOf_31 : decode cX10_numberOf 31 = .ok (.iload_n 2, 1) := by decide +kernel
theorem dX10_numberOf_32 : decode cX10_numberOf 32 = .ok (.ireturn, 1) := by decide +kernel
theorem dX10_maskOf_0 : decode cX10_maskOf 0 = .ok (.iconst 0, 1) := by decide +kernel
theorem dX10_maskOf_1 : decode cX10_maskOf 1 = .ok (.istore_n 1, 1) := by decide +kernel
theorem dX10_maskOf_2 : decode cX10_maskOf 2 = .ok (.iconst 0, 1) := by decide +kernel
theorem dX10_maskOf_3 : decode cX10_maskOf 3 = .ok (.istore_n 2, 1) := by decide +kernel
theorem dX10_maskOf_4 : decode cX10_maskOf 4 = .ok (.iload_n 2, 1) := by decide +kernel
theorem dX10_maskOf_5 : decode cX10_maskOf 5 = .ok (.iconst 5, 1) := by decide +kernel
theorem dX10_maskOf_6 : decode cX10_maskOf 6 = .ok (.if_icmp .ge 25, 3) := by decide +kernel
theorem dX10_maskOf_9 : decode cX10_maskOf 9 = .ok (.iload_n 0, 1) := by decide +kernel
theorem dX10_maskOf_10 : decode cX10_maskOf 10 = .ok (.iload_n 2, 1) := by decide +kernel
theorem dX10_maskOf_11 : decode cX10_maskOf 11 = .ok (.invokestatic 326, 3) := by decide +kernel
theorem dX10_maskOf_14 : decode cX10_maskOf 14 = .ok (.ifCond .eq 11, 3) := by decide +kernel
theorem dX10_maskOf_17 : decode cX10_maskOf 17 = .ok (.iload_n 1, 1) := by decide +kernel
theorem dX10_maskOf_18 : decode cX10_maskOf 18 = .ok (.iconst 3, 1) := by decide +kernel
theorem dX10_maskOf_19 : decode cX10_maskOf 19 = .ok (.iconst 2, 1) := by decide +kernel
theorem dX10_maskOf_20 : decode cX10_maskOf 20 = .ok (.iload_n 2, 1) := by decide +kernel
theorem dX10_maskOf_21 : decode cX10_maskOf 21 = .ok (.imul, 1) := by decide +kernel
theorem dX10_maskOf_22 : decode cX10_maskOf 22 = .ok (.ishl, 1) := by decide +kernel
theorem dX10_maskOf_23 : decode cX10_maskOf 23 = .ok (.ior, 1) := by decide +kernel
theorem dX10_maskOf_24 : decode cX10_maskOf 24 = .ok (.istore_n 1, 1) := by decide +kernel
theorem dX10_maskOf_25 : decode cX10_maskOf 25 = .ok (.iinc 2 1, 3) := by decide +kernel
theorem dX10_maskOf_28 : decode cX10_maskOf 28 = .ok (.goto (-24), 3) := by decide +kernel
theorem dX10_maskOf_31 : decode cX10_maskOf 31 = .ok (.iload_n 1, 1) := by decide +kernel
theorem dX10_maskOf_32 : decode cX10_maskOf 32 = .ok (.ireturn, 1) := by decide +kernel
theorem dX10_stormUpper_0 : decode cX10_stormUpper 0 = .ok (.lconst 1, 1) := by decide +kernel
theorem dX10_stormUpper_1 : decode cX10_stormUpper 1 = .ok (.lstore_n 3, 1) := by decide +kernel
theorem dX10_stormUpper_2 : decode cX10_stormUpper 2 = .ok (.lconst 0, 1) := by decide +kernel
theorem dX10_stormUpper_3 : decode cX10_stormUpper 3 = .ok (.lstore 5, 2) := by decide +kernel
theorem dX10_stormUpper_5 : decode cX10_stormUpper 5 = .ok (.iconst 0, 1) := by decide +kernel
theorem dX10_stormUpper_6 : decode cX10_stormUpper 6 = .ok (.istore 7, 2) := by decide +kernel
theorem dX10_stormUpper_8 : decode cX10_stormUpper 8 = .ok (.iload 7, 2) := by decide +kernel
theorem dX10_stormUpper_10 : decode cX10_stormUpper 10 = .ok (.iload_n 2, 1) := by decide +kernel
theorem dX10_stormUpper_11 : decode cX10_stormUpper 11 = .ok (.if_icmp .ge 42, 3) := by decide +kernel
theorem dX10_stormUpper_14 : decode cX10_stormUpper 14 = .ok (.lload_n 3, 1) := by decide +kernel
theorem dX10_stormUpper_15 : decode cX10_stormUpper 15 = .ok (.lstore 8, 2) := by decide +kernel
theorem dX10_stormUpper_17 : decode cX10_stormUpper 17 = .ok (.lload_n 3, 1) := by decide +kernel
theorem dX10_stormUpper_18 : decode cX10_stormUpper 18 = .ok (.bipush 10, 2) := by decide +kernel
theorem dX10_stormUpper_20 : decode cX10_stormUpper 20 = .ok (.iload_n 1, 1) := by decide +kernel
theorem dX10_stormUpper_21 : decode cX10_stormUpper 21 = .ok (.isub, 1) := by decide +kernel
theorem dX10_stormUpper_22 : decode cX10_stormUpper 22 = .ok (.i2l, 1) := by decide +kernel
theorem dX10_stormUpper_23 : decode cX10_stormUpper 23 = .ok (.lmul, 1) := by decide +kernel
theorem dX10_stormUpper_24 : decode cX10_stormUpper 24 = .ok (.lload 5, 2) := by decide +kernel
theorem dX10_stormUpper_26 : decode cX10_stormUpper 26 = .ok (.iload_n 1, 1) := by decide +kernel
theorem dX10_stormUpper_27 : decode cX10_stormUpper 27 = .ok (.i2l, 1) := by decide +kernel
theorem dX10_stormUpper_28 : decode cX10_stormUpper 28 = .ok (.lmul, 1) := by decide +kernel
theorem dX10_stormUpper_29 : decode cX10_stormUpper 29 = .ok (.ladd, 1) := by decide +kernel
theorem dX10_stormUpper_30 : decode cX10_stormUpper 30 = .ok (.lstore_n 3, 1) := by decide +kernel
theorem dX10_stormUpper_31 : decode cX10_stormUpper 31 = .ok (.lload 5, 2) := by decide +kernel
theorem dX10_stormUpper_33 : decode cX10_stormUpper 33 = .ok (.bipush 10, 2) := by decide +kernel
theorem dX10_stormUpper_35 : decode cX10_stormUpper 35 = .ok (.iload_n 1, 1) := by decide +kernel
theorem dX10_stormUpper_36 : decode cX10_stormUpper 36 = .ok (.isub, 1) := by decide +kernel
theorem dX10_stormUpper_37 : decode cX10_stormUpper 37 = .ok (.i2l, 1) := by decide +kernel
theorem dX10_stormUpper_38 : decode cX10_stormUpper 38 = .ok (.lmul, 1) := by decide +kernel
theorem dX10_stormUpper_39 : decode cX10_stormUpper 39 = .ok (.lload 8, 2) := by decide +kernel
theorem dX10_stormUpper_41 : decode cX10_stormUpper 41 = .ok (.iload_n 1, 1) := by decide +kernel
theorem dX10_stormUpper_42 : decode cX10_stormUpper 42 = .ok (.i2l, 1) := by decide +kernel
theorem dX10_stormUpper_43 : decode cX10_stormUpper 43 = .ok (.lmul, 1) := by decide +kernel
theorem dX10_stormUpper_44 : decode cX10_stormUpper 44 = .ok (.ladd, 1) := by decide +kernel
theorem dX10_stormUpper_45 : decode cX10_stormUpper 45 = .ok (.lstore 5, 2) := by decide +kernel
theorem dX10_stormUpper_47 : decode cX10_stormUpper 47 = .ok (.iinc 7 1, 3) := by decide +kernel
theorem dX10_stormUpper_50 : decode cX10_stormUpper 50 = .ok (.goto (-42), 3) := by decide +kernel
theorem dX10_stormUpper_53 : decode cX10_stormUpper 53 = .ok (.iload_n 0, 1) := by decide +kernel
theorem dX10_stormUpper_54 : decode cX10_stormUpper 54 = .ok (.ifCond .ne 5, 3) := by decide +kernel
theorem dX10_stormUpper_57 : decode cX10_stormUpper 57 = .ok (.lload_n 3, 1) := by decide +kernel
theorem dX10_stormUpper_58 : decode cX10_stormUpper 58 = .ok (.lreturn, 1) := by decide +kernel
theorem dX10_stormUpper_59 : decode cX10_stormUpper 59 = .ok (.iload_n 0, 1) := by decide +kernel
theorem dX10_stormUpper_60 : decode cX10_stormUpper 60 = .ok (.iconst 2, 1) := by decide +kernel
theorem dX10_stormUpper_61 : decode cX10_stormUpper 61 = .ok (.if_icmp .ne 8, 3) := by decide +kernel
theorem dX10_stormUpper_64 : decode cX10_stormUpper 64 = .ok (.lload 5, 2) := by decide +kernel
theorem dX10_stormUpper_66 : decode cX10_stormUpper 66 = .ok (.goto 4, 3) := by decide +kernel
theorem dX10_stormUpper_69 : decode cX10_stormUpper 69 = .ok (.lconst 0, 1) := by decide +kernel
theorem dX10_stormUpper_70 : decode cX10_stormUpper 70 = .ok (.lreturn, 1) := by decide +kernel
theorem dX10_commonDivisor_0 : decode cX10_commonDivisor 0 = .ok (.lload_n 0, 1) := by decide +kernel
theorem dX10_commonDivisor_1 : decode cX10_commonDivisor 1 = .ok (.lstore 4, 2) := by decide +kernel
theorem dX10_commonDivisor_3 : decode cX10_commonDivisor 3 = .ok (.lload_n 2, 1) := by decide +kernel
theorem dX10_commonDivisor_4 : decode cX10_commonDivisor 4 = .ok (.lstore 6, 2) := by decide +kernel
theorem dX10_commonDivisor_6 : decode cX10_commonDivisor 6 = .ok (.iconst 0, 1) := by decide +kernel
theorem dX10_commonDivisor_7 : decode cX10_commonDivisor 7 = .ok (.istore 8, 2) := by decide +kernel
theorem dX10_commonDivisor_9 : decode cX10_commonDivisor 9 = .ok (.iload 8, 2) := by decide +kernel
theorem dX10_commonDivisor_11 : decode cX10_commonDivisor 11 = .ok (.sipush 200, 3) := by decide +kernel
theorem dX10_commonDivisor_14 : decode cX10_commonDivisor 14 = .ok (.if_icmp .ge 31, 3) := by decide +kernel
theorem dX10_commonDivisor_17 : decode cX10_commonDivisor 17 = .ok (.lload 6, 2) := by decide +kernel
theorem dX10_commonDivisor_19 : decode cX10_commonDivisor 19 = .ok (.lconst 0, 1) := by decide +kernel
theorem dX10_commonDivisor_20 : decode cX10_commonDivisor 20 = .ok (.lcmp, 1) := by decide +kernel
theorem dX10_commonDivisor_21 : decode cX10_commonDivisor 21 = .ok (.ifCond .eq 24, 3) := by decide +kernel
theorem dX10_commonDivisor_24 : decode cX10_commonDivisor 24 = .ok (.lload 4, 2) := by decide +kernel
theorem dX10_commonDivisor_26 : decode cX10_commonDivisor 26 = .ok (.lload 6, 2) := by decide +kernel
theorem dX10_commonDivisor_28 : decode cX10_commonDivisor 28 = .ok (.lrem, 1) := by decide +kernel
theorem dX10_commonDivisor_29 : decode cX10_commonDivisor 29 = .ok (.lstore 9, 2) := by decide +kernel
theorem dX10_commonDivisor_31 : decode cX10_commonDivisor 31 = .ok (.lload 6, 2) := by decide +kernel
theorem dX10_commonDivisor_33 : decode cX10_commonDivisor 33 = .ok (.lstore 4, 2) := by decide +kernel
theorem dX10_commonDivisor_35 : decode cX10_commonDivisor 35 = .ok (.lload 9, 2) := by decide +kernel
theorem dX10_commonDivisor_37 : decode cX10_commonDivisor 37 = .ok (.lstore 6, 2) := by decide +kernel
theorem dX10_commonDivisor_39 : decode cX10_commonDivisor 39 = .ok (.iinc 8 1, 3) := by decide +kernel
theorem dX10_commonDivisor_42 : decode cX10_commonDivisor 42 = .ok (.goto (-33), 3) := by decide +kernel
theorem dX10_commonDivisor_45 : decode cX10_commonDivisor 45 = .ok (.lload 4, 2) := by decide +kernel
theorem dX10_commonDivisor_47 : decode cX10_commonDivisor 47 = .ok (.lreturn, 1) := by decide +kernel
theorem dX10_wayOf_0 : decode cX10_wayOf 0 = .ok (.iload_n 0, 1) := by decide +kernel
theorem dX10_wayOf_1 : decode cX10_wayOf 1 = .ok (.lookupswitch 51 #[(101, 45), (110, 43), (115, 47), (119, 49)], 43) := by decide +kernel
theorem dX10_wayOf_44 : decode cX10_wayOf 44 = .ok (.iconst 0, 1) := by decide +kernel
theorem dX10_wayOf_45 : decode cX10_wayOf 45 = .ok (.ireturn, 1) := by decide +kernel
theorem dX10_wayOf_46 : decode cX10_wayOf 46 = .ok (.iconst 1, 1) := by decide +kernel
theorem dX10_wayOf_47 : decode cX10_wayOf 47 = .ok (.ireturn, 1) := by decide +kernel
theorem dX10_wayOf_48 : decode cX10_wayOf 48 = .ok (.iconst 2, 1) := by decide +kernel
theorem dX10_wayOf_49 : decode cX10_wayOf 49 = .ok (.ireturn, 1) := by decide +kernel
theorem dX10_wayOf_50 : decode cX10_wayOf 50 = .ok (.iconst 3, 1) := by decide +kernel
theorem dX10_wayOf_51 : decode cX10_wayOf 51 = .ok (.ireturn, 1) := by decide +kernel
theorem dX10_wayOf_52 : decode cX10_wayOf 52 = .ok (.iconst (-1), 1) := by decide +kernel
theorem dX10_wayOf_53 : decode cX10_wayOf 53 = .ok (.ireturn, 1) := by decide +kernel
theorem dX10_isDigit_0 : decode cX10_isDigit 0 = .ok (.iload_n 0, 1) := by decide +kernel
theorem dX10_isDigit_1 : decode cX10_isDigit 1 = .ok (.bipush 48, 2) := by decide +kernel
theorem dX10_isDigit_3 : decode cX10_isDigit 3 = .ok (.bipush 57, 2) := by decide +kernel
theorem dX10_isDigit_5 : decode cX10_isDigit 5 = .ok (.invokestatic 92, 3) := by decide +kernel
theorem dX10_isDigit_8 : decode cX10_isDigit 8 = .ok (.ireturn, 1) := by decide +kernel
theorem dX10_isLetter_0 : decode cX10_isLetter 0 = .ok (.iload_n 0, 1) := by decide +kernel
theorem dX10_isLetter_1 : decode cX10_isLetter 1 = .ok (.bipush 97, 2) := by decide +kernel
theorem dX10_isLetter_3 : decode cX10_isLetter 3 = .ok (.bipush 102, 2) := by decide +kernel
theorem dX10_isLetter_5 : decode cX10_isLetter 5 = .ok (.invokestatic 92, 3) := by decide +kernel
theorem dX10_isLetter_8 : decode cX10_isLetter 8 = .ok (.ireturn, 1) := by decide +kernel
theorem dX11_init_0 : decode cX11_init 0 = .ok (.aload_n 0, 1) := by decide +kernel
theorem dX11_init_1 : decode cX11_init 1 = .ok (.invokespecial 1, 3) := by decide +kernel
theorem dX11_init_4 : decode cX11_init 4 = .ok (.aload_n 0, 1) := by decide +kernel
theorem dX11_init_5 : decode cX11_init 5 = .ok (.iconst 5, 1) := by decide +kernel
theorem dX11_init_6 : decode cX11_init 6 = .ok (.newarray .int, 2) := by decide +kernel
theorem dX11_init_8 : decode cX11_init 8 = .ok (.putfield 7, 3) := by decide +kernel
theorem dX11_init_11 : decode cX11_init 11 = .ok (.aload_n 0, 1) := by decide +kernel
theorem dX11_init_12 : decode cX11_init 12 = .ok (.iconst 5, 1) := by decide +kernel
theorem dX11_init_13 : decode cX11_init 13 = .ok (.newarray .int, 2) := by decide +kernel
theorem dX11_init_15 : decode cX11_init 15 = .ok (.putfield 13, 3) := by decide +kernel
theorem dX11_init_18 : decode cX11_init 18 = .ok (.aload_n 0, 1) := by decide +kernel
theorem dX11_init_19 : decode cX11_init 19 = .ok (.iconst 5, 1) := by decide +kernel
theorem dX11_init_20 : decode cX11_init 20 = .ok (.newarray .int, 2) := by decide +kernel
theorem dX11_init_22 : decode cX11_init 22 = .ok (.putfield 16, 3) := by decide +kernel
theorem dX11_init_25 : decode cX11_init 25 = .ok (.aload_n 0, 1) := by decide +kernel
theorem dX11_init_26 : decode cX11_init 26 = .ok (.iconst 5, 1) := by decide +kernel
theorem dX11_init_27 : decode cX11_init 27 = .ok (.newarray .int, 2) := by decide +kernel
theorem dX11_init_29 : decode cX11_init 29 = .ok (.putfield 19, 3) := by decide +kernel
theorem dX11_init_32 : decode cX11_init 32 = .ok (.aload_n 0, 1) := by decide +kernel
theorem dX11_init_33 : decode cX11_init 33 = .ok (.iconst 5, 1) := by decide +kernel
theorem dX11_init_34 : decode cX11_init 34 = .ok (.newarray .int, 2) := by decide +kernel
theorem dX11_init_36 : decode cX11_init 36 = .ok (.putfield 22, 3) := by decide +kernel
theorem dX11_init_39 : decode cX11_init 39 = .ok (.aload_n 0, 1) := by decide +kernel
theorem dX11_init_40 : decode cX11_init 40 = .ok (.bipush 30, 2) := by decide +kernel
theorem dX11_init_42 : decode cX11_init 42 = .ok (.newarray .int, 2) := by decide +kernel
theorem dX11_init_44 : decode cX11_init 44 = .ok (.putfield 25, 3) := by decide +kernel
theorem dX11_init_47 : decode cX11_init 47 = .ok (.aload_n 0, 1) := by decide +kernel
theorem dX11_init_48 : decode cX11_init 48 = .ok (.bipush 6, 2) := by decide +kernel
theorem dX11_init_50 : decode cX11_init 50 = .ok (.newarray .int, 2) := by decide +kernel
theorem dX11_init_52 : decode cX11_init 52 = .ok (.putfield 28, 3) := by decide +kernel
theorem dX11_init_55 : decode cX11_init 55 = .ok (.aload_n 0, 1) := by decide +kernel
theorem dX11_init_56 : decode cX11_init 56 = .ok (.bipush 6, 2) := by decide +kernel
theorem dX11_init_58 : decode cX11_init 58 = .ok (.newarray .int, 2) := by decide +kernel
theorem dX11_init_60 : decode cX11_init 60 = .ok (.putfield 31, 3) := by decide +kernel
theorem dX11_init_63 : decode cX11_init 63 = .ok (.aload_n 0, 1) := by decide +kernel
theorem dX11_init_64 : decode cX11_init 64 = .ok (.bipush 6, 2) := by decide +kernel
theorem dX11_init_66 : decode cX11_init 66 = .ok (.newarray .int, 2) := by decide +kernel
theorem dX11_init_68 : decode cX11_init 68 = .ok (.putfield 34, 3) := by decide +kernel
theorem dX11_init_71 : decode cX11_init 71 = .ok (.aload_n 0, 1) := by decide +kernel
theorem dX11_init_72 : decode cX11_init 72 = .ok (.bipush 60, 2) := by decide +kernel
theorem dX11_init_74 : decode cX11_init 74 = .ok (.newarray .int, 2) := by decide +kernel
theorem dX11_init_76 : decode cX11_init 76 = .ok (.putfield 37, 3) := by decide +kernel
theorem dX11_init_79 : decode cX11_init 79 = .ok (.aload_n 0, 1) := by decide +kernel
theorem dX11_init_80 : decode cX11_init 80 = .ok (.bipush 60, 2) := by decide +kernel
theorem dX11_init_82 : decode cX11_init 82 = .ok (.newarray .int, 2) := by decide +kernel
theorem dX11_init_84 : decode cX11_init 84 = .ok (.putfield 40, 3) := by decide +kernel
theorem dX11_init_87 : decode cX11_init 87 = .ok (.aload_n 0, 1) := by decide +kernel
theorem dX11_init_88 : decode cX11_init 88 = .ok (.iconst 5, 1) := by decide +kernel
theorem dX11_init_89 : decode cX11_init 89 = .ok (.newarray .int, 2) := by decide +kernel
theorem dX11_init_91 : decode cX11_init 91 = .ok (.putfield 43, 3) := by decide +kernel
theorem dX11_init_94 : decode cX11_init 94 = .ok (.aload_n 0, 1) := by decide +kernel
theorem dX11_init_95 : decode cX11_init 95 = .ok (.iconst 5, 1) := by decide +kernel
theorem dX11_init_96 : decode cX11_init 96 = .ok (.newarray .int, 2) := by decide +kernel
theorem dX11_init_98 : decode cX11_init 98 = .ok (.putfield 46, 3) := by decide +kernel
theorem dX11_init_101 : decode cX11_init 101 = .ok (.aload_n 0, 1) := by decide +kernel
theorem dX11_init_102 : decode cX11_init 102 = .ok (.sipush 1024, 3) := by decide +kernel
theorem dX11_init_105 : decode cX11_init 105 = .ok (.newarray .int, 2) := by decide +kernel
theorem dX11_init_107 : decode cX11_init 107 = .ok (.putfield 49, 3) := by decide +kernel
theorem dX11_init_110 : decode cX11_init 110 = .ok (.aload_n 0, 1) := by decide +kernel
theorem dX11_init_111 : decode cX11_init 111 = .ok (.sipush 1024, 3) := by decide +kernel
theorem dX11_init_114 : decode cX11_init 114 = .ok (.newarray .int, 2) := by decide +kernel
theorem dX11_init_116 : decode cX11_init 116 = .ok (.putfield 52, 3) := by decide +kernel
theorem dX11_init_119 : decode cX11_init 119 = .ok (.aload_n 0, 1) := by decide +kernel
theorem dX11_init_120 : decode cX11_init 120 = .ok (.sipush 1024, 3) := by decide +kernel
theorem dX11_init_123 : decode cX11_init 123 = .ok (.newarray .int, 2) := by decide +kernel
theorem dX11_init_125 : decode cX11_init 125 = .ok (.putfield 55, 3) := by decide +kernel
theorem dX11_init_128 : decode cX11_init 128 = .ok (.aload_n 0, 1) := by decide +kernel
theorem dX11_init_129 : decode cX11_init 129 = .ok (.sipush 1024, 3) := by decide +kernel
theorem dX11_init_132 : decode cX11_init 132 = .ok (.newarray .int, 2) := by decide +kernel
theorem dX11_init_134 : decode cX11_init 134 = .ok (.putfield 58, 3) := by decide +kernel
theorem dX11_init_137 : decode cX11_init 137 = .ok (.aload_n 0, 1) := by decide +kernel
theorem dX11_init_138 : decode cX11_init 138 = .ok (.sipush 1024, 3) := by decide +kernel
theorem dX11_init_141 : decode cX11_init 141 = .ok (.newarray .int, 2) := by decide +kernel
theorem dX11_init_143 : decode cX11_init 143 = .ok (.putfield 61, 3) := by decide +kernel
theorem dX11_init_146 : decode cX11_init 146 = .ok (.aload_n 0, 1) := by decide +kernel
theorem dX11_init_147 : decode cX11_init 147 = .ok (.ldc 64, 2) := by decide +kernel
theorem dX11_init_149 : decode cX11_init 149 = .ok (.newarray .int, 2) := by decide +kernel
theorem dX11_init_151 : decode cX11_init 151 = .ok (.putfield 65, 3) := by decide +kernel
theorem dX11_init_154 : decode cX11_init 154 = .ok (.aload_n 0, 1) := by decide +kernel
theorem dX11_init_155 : decode cX11_init 155 = .ok (.ldc 64, 2) := by decide +kernel
theorem dX11_init_157 : decode cX11_init 157 = .ok (.newarray .int, 2) := by decide +kernel
theorem dX11_init_159 : decode cX11_init 159 = .ok (.putfield 68, 3) := by decide +kernel
theorem dX11_init_162 : decode cX11_init 162 = .ok (.aload_n 0, 1) := by decide +kernel
theorem dX11_init_163 : decode cX11_init 163 = .ok (.iconst 5, 1) := by decide +kernel
theorem dX11_init_164 : decode cX11_init 164 = .ok (.newarray .int, 2) := by decide +kernel
theorem dX11_init_166 : decode cX11_init 166 = .ok (.putfield 71, 3) := by decide +kernel
theorem dX11_init_169 : decode cX11_init 169 = .ok (.aload_n 0, 1) := by decide +kernel
theorem dX11_init_170 : decode cX11_init 170 = .ok (.bipush 8, 2) := by decide +kernel
theorem dX11_init_172 : decode cX11_init 172 = .ok (.newarray .int, 2) := by decide +kernel
theorem dX11_init_174 : decode cX11_init 174 = .ok (.putfield 74, 3) := by decide +kernel
theorem dX11_init_177 : decode cX11_init 177 = .ok (.aload_n 0, 1) := by decide +kernel
theorem dX11_init_178 : decode cX11_init 178 = .ok (.bipush 8, 2) := by decide +kernel
theorem dX11_init_180 : decode cX11_init 180 = .ok (.newarray .int, 2) := by decide +kernel
theorem dX11_init_182 : decode cX11_init 182 = .ok (.putfield 77, 3) := by decide +kernel
theorem dX11_init_185 : decode cX11_init 185 = .ok (.aload_n 0, 1) := by decide +kernel
theorem dX11_init_186 : decode cX11_init 186 = .ok (.iconst 5, 1) := by decide +kernel
theorem dX11_init_187 : decode cX11_init 187 = .ok (.newarray .int, 2) := by decide +kernel
theorem dX11_init_189 : decode cX11_init 189 = .ok (.putfield 80, 3) := by decide +kernel
theorem dX11_init_192 : decode cX11_init 192 = .ok (.aload_n 0, 1) := by decide +kernel
theorem dX11_init_193 : decode cX11_init 193 = .ok (.sipush 200, 3) := by decide +kernel
theorem dX11_init_196 : decode cX11_init 196 = .ok (.newarray .int, 2) := by decide +kernel
theorem dX11_init_198 : decode cX11_init 198 = .ok (.putfield 83, 3) := by decide +kernel
theorem dX11_init_201 : decode cX11_init 201 = .ok (.aload_n 0, 1) := by decide +kernel
theorem dX11_init_202 : decode cX11_init 202 = .ok (.iconst 2, 1) := by decide +kernel
theorem dX11_init_203 : decode cX11_init 203 = .ok (.newarray .boolean, 2) := by decide +kernel
theorem dX11_init_205 : decode cX11_init 205 = .ok (.putfield 86, 3) := by decide +kernel
theorem dX11_init_208 : decode cX11_init 208 = .ok (.aload_n 0, 1) := by decide +kernel
theorem dX11_init_209 : decode cX11_init 209 = .ok (.iconst 3, 1) := by decide +kernel
theorem dX11_init_210 : decode cX11_init 210 = .ok (.invokevirtual 90, 3) := by decide +kernel
theorem dX11_init_213 : decode cX11_init 213 = .ok (.return_, 1) := by decide +kernel
theorem dX11_in_0 : decode cX11_in 0 = .ok (.lload_n 0, 1) := by decide +kernel
theorem dX11_in_1 : decode cX11_in 1 = .ok (.lload_n 2, 1) := by decide +kernel
theorem dX11_in_2 : decode cX11_in 2 = .ok (.lcmp, 1) := by decide +kernel
theorem dX11_in_3 : decode cX11_in 3 = .ok (.ifCond .lt 14, 3) := by decide +kernel
theorem dX11_in_6 : decode cX11_in 6 = .ok (.lload_n 0, 1) := by decide +kernel
theorem dX11_in_7 : decode cX11_in 7 = .ok (.lload 4, 2) := by decide +kernel
theorem dX11_in_9 : decode cX11_in 9 = .ok (.lcmp, 1) := by decide +kernel
theorem dX11_in_10 : decode cX11_in 10 = .ok (.ifCond .gt 7, 3) := by decide +kernel
theorem dX11_in_13 : decode cX11_in 13 = .ok (.iconst 1, 1) := by decide +kernel
theorem dX11_in_14 : decode cX11_in 14 = .ok (.goto 4, 3) := by decide +kernel
theorem dX11_in_17 : decode cX11_in 17 = .ok (.iconst 0, 1) := by decide +kernel
theorem dX11_in_18 : decode cX11_in 18 = .ok (.ireturn, 1) := by decide +kernel
theorem dX11_ones_0 : decode cX11_ones 0 = .ok (.iconst 0, 1) := by decide +kernel
theorem dX11_ones_1 : decode cX11_ones 1 = .ok (.istore_n 1, 1) := by decide +kernel
theorem dX11_ones_2 : decode cX11_ones 2 = .ok (.iload_n 0, 1) := by decide +kernel
theorem dX11_ones_3 : decode cX11_ones 3 = .ok (.istore_n 2, 1) := by decide +kernel
theorem dX11_ones_4 : decode cX11_ones 4 = .ok (.iload_n 2, 1) := by decide +kernel
theorem dX11_ones_5 : decode cX11_ones 5 = .ok (.ifCond .eq 15, 3) := by decide +kernel
theorem dX11_ones_8 : decode cX11_ones 8 = .ok (.iinc 1 1, 3) := by decide +kernel
theorem dX11_ones_11 : decode cX11_ones 11 = .ok (.iload_n 2, 1) := by decide +kernel
theorem dX11_ones_12 : decode cX11_ones 12 = .ok (.iload_n 2, 1) := by decide +kernel
theorem dX11_ones_13 : decode cX11_ones 13 = .ok (.iconst 1, 1) := by decide +kernel
theorem dX11_ones_14 : decode cX11_ones 14 = .ok (.isub, 1) := by decide +kernel
theorem dX11_ones_15 : decode cX11_ones 15 = .ok (.iand, 1) := by decide +kernel
theorem dX11_ones_16 : decode cX11_ones 16 = .ok (.istore_n 2, 1) := by decide +kernel
theorem dX11_ones_17 : decode cX11_ones 17 = .ok (.goto (-13), 3) := by decide +kernel
theorem dX11_ones_20 : decode cX11_ones 20 = .ok (.iload_n 1, 1) := by decide +kernel
theorem dX11_ones_21 : decode cX11_ones 21 = .ok (.ireturn, 1) := by decide +kernel
theorem dX11_begin_0 : decode cX11_begin 0 = .ok (.aload_n 0, 1) := by decide +kernel
theorem dX11_begin_1 : decode cX11_begin 1 = .ok (.iload_n 1, 1) := by decide +kernel
theorem dX11_begin_2 : decode cX11_begin 2 = .ok (.putfield 94, 3) := by decide +kernel
theorem dX11_begin_5 : decode cX11_begin 5 = .ok (.aload_n 0, 1) := by decide +kernel
theorem dX11_begin_6 : decode cX11_begin 6 = .ok (.iconst 0, 1) := by decide +kernel
theorem dX11_begin_7 : decode cX11_begin 7 = .ok (.putfield 98, 3) := by decide +kernel
theorem dX11_begin_10 : decode cX11_begin 10 = .ok (.aload_n 0, 1) := by decide +kernel
theorem dX11_begin_11 : decode cX11_begin 11 = .ok (.iconst 0, 1) := by decide +kernel
theorem dX11_begin_12 : decode cX11_begin 12 = .ok (.putfield 101, 3) := by decide +kernel
theorem dX11_begin_15 : decode cX11_begin 15 = .ok (.iconst 0, 1) := by decide +kernel
theorem dX11_begin_16 : decode cX11_begin 16 = .ok (.istore_n 2, 1) := by decide +kernel
theorem dX11_begin_17 : decode cX11_begin 17 = .ok (.iload_n 2, 1) := by decide +kernel
theorem dX11_begin_18 : decode cX11_begin 18 = .ok (.iconst 5, 1) := by decide +kernel
theorem dX11_begin_19 : decode cX11_begin 19 = .ok (.if_icmp .ge 46, 3) := by decide +kernel
theorem dX11_begin_22 : decode cX11_begin 22 = .ok (.aload_n 0, 1) := by decide +kernel
theorem dX11_begin_23 : decode cX11_begin 23 = .ok (.getfield 7, 3) := by decide +kernel
theorem dX11_begin_26 : decode cX11_begin 26 = .ok (.iload_n 2, 1) := by decide +kernel
theorem dX11_begin_27 : decode cX11_begin 27 = .ok (.iconst 0, 1) := by decide +kernel
theorem dX11_begin_28 : decode cX11_begin 28 = .ok (.iastore, 1) := by decide +kernel
theorem dX11_begin_29 : decode cX11_begin 29 = .ok (.aload_n 0, 1) := by decide +kernel
theorem dX11_begin_30 : decode cX11_begin 30 = .ok (.getfield 13, 3) := by decide +kernel
theorem dX11_begin_33 : decode cX11_begin 33 = .ok (.iload_n 2, 1) := by decide +kernel
theorem dX11_begin_34 : decode cX11_begin 34 = .ok (.bipush 9, 2) := by decide +kernel
theorem dX11_begin_36 : decode cX11_begin 36 = .ok (.iastore, 1) := by decide +kernel
theorem dX11_begin_37 : decode cX11_begin 37 = .ok (.aload_n 0, 1) := by decide +kernel
theorem dX11_begin_38 : decode cX11_begin 38 = .ok (.getfield 16, 3) := by decide +kernel
theorem dX11_begin_41 : decode cX11_begin 41 = .ok (.iload_n 2, 1) := by decide +kernel
theorem dX11_begin_42 : decode cX11_begin 42 = .ok (.bipush 9, 2) := by decide +kernel
theorem dX11_begin_44 : decode cX11_begin 44 = .ok (.iastore, 1) := by decide +kernel
theorem dX11_begin_45 : decode cX11_begin 45 = .ok (.aload_n 0, 1) := by decide +kernel
theorem dX11_begin_46 : decode cX11_begin 46 = .ok (.getfield 19, 3) := by decide +kernel
theorem dX11_begin_49 : decode cX11_begin 49 = .ok (.iload_n 2, 1) := by decide +kernel
theorem dX11_begin_50 : decode cX11_begin 50 = .ok (.iconst 0, 1) := by decide +kernel
theorem dX11_begin_51 : decode cX11_begin 51 = .ok (.iastore, 1) := by decide +kernel
theorem dX11_begin_52 : decode cX11_begin 52 = .ok (.aload_n 0, 1) := by decide +kernel
theorem dX11_begin_53 : decode cX11_begin 53 = .ok (.getfield 22, 3) := by decide +kernel
theorem dX11_begin_56 : decode cX11_begin 56 = .ok (.iload_n 2, 1) := by decide +kernel
theorem dX11_begin_57 : decode cX11_begin 57 = .ok (.iload_n 2, 1) := by decide +kernel
theorem dX11_begin_58 : decode cX11_begin 58 = .ok (.iastore, 1) := by decide +kernel
theorem dX11_begin_59 : decode cX11_begin 59 = .ok (.iinc 2 1, 3) := by decide +kernel
theorem dX11_begin_62 : decode cX11_begin 62 = .ok (.goto (-45), 3) := by decide +kernel
theorem dX11_begin_65 : decode cX11_begin 65 = .ok (.return_, 1) := by decide +kernel
theorem dX11_isHut_0 : decode cX11_isHut 0 = .ok (.iload_n 1, 1) := by decide +kernel
theorem dX11_isHut_1 : decode cX11_isHut 1 = .ok (.i2l, 1) := by decide +kernel
theorem dX11_isHut_2 : decode cX11_isHut 2 = .ok (.lconst 0, 1) := by decide +kernel
theorem dX11_isHut_3 : decode cX11_isHut 3 = .ok (.aload_n 0, 1) := by decide +kernel
theorem dX11_isHut_4 : decode cX11_isHut 4 = .ok (.getfield 94, 3) := by decide +kernel
theorem dX11_isHut_7 : decode cX11_isHut 7 = .ok (.iconst 1, 1) := by decide +kernel
theorem dX11_isHut_8 : decode cX11_isHut 8 = .ok (.isub, 1) := by decide +kernel
theorem dX11_isHut_9 : decode cX11_isHut 9 = .ok (.i2l, 1) := by decide +kernel
theorem dX11_isHut_10 : decode cX11_isHut 10 = .ok (.invokestatic 104, 3) := by decide +kernel
theorem dX11_isHut_13 : decode cX11_isHut 13 = .ok (.ireturn, 1) := by decide +kernel
theorem dX11_isWay_0 : decode cX11_isWay 0 = .ok (.iload_n 0, 1) := by decide +kernel
theorem dX11_isWay_1 : decode cX11_isWay 1 = .ok (.i2l, 1) := by decide +kernel
theorem dX11_isWay_2 : decode cX11_isWay 2 = .ok (.lconst 0, 1) := by decide +kernel
theorem dX11_isWay_3 : decode cX11_isWay 3 = .ok (.ldc2_w 108, 3) := by decide +kernel
theorem dX11_isWay_6 : decode cX11_isWay 6 = .ok (.invokestatic 104, 3) := by decide +kernel
theorem dX11_isWay_9 : decode cX11_isWay 9 = .ok (.ireturn, 1) := by decide +kernel
theorem dX11_isKnown_0 : decode cX11_isKnown 0 = .ok (.iload_n 1, 1) := by decide +kernel
theorem dX11_isKnown_1 : decode cX11_isKnown 1 = .ok (.i2l, 1) := by decide +kernel
theorem dX11_isKnown_2 : decode cX11_isKnown 2 = .ok (.lconst 0, 1) := by decide +kernel
theorem dX11_isKnown_3 : decode cX11_isKnown 3 = .ok (.ldc2_w 110, 3) := by decide +kernel
theorem dX11_isKnown_6 : decode cX11_isKnown 6 = .ok (.invokestatic 104, 3) := by decide +kernel
theorem dX11_isKnown_9 : decode cX11_isKnown 9 = .ok (.ifCond .eq 19, 3) := by decide +kernel
theorem dX11_isKnown_12 : decode cX11_isKnown 12 = .ok (.aload_n 0, 1) := by decide +kernel
theorem dX11_isKnown_13 : decode cX11_isKnown 13 = .ok (.getfield 98, 3) := by decide +kernel
theorem dX11_isKnown_16 : decode cX11_isKnown 16 = .ok (.iload_n 1, 1) := by decide +kernel
theorem dX11_isKnown_17 : decode cX11_isKnown 17 = .ok (.ishr, 1) := by decide +kernel
theorem dX11_isKnown_18 : decode cX11_isKnown 18 = .ok (.iconst 1, 1) := by decide +kernel
theorem dX11_isKnown_19 : decode cX11_isKnown 19 = .ok (.iand, 1) := by decide +kernel
theorem dX11_isKnown_20 : decode cX11_isKnown 20 = .ok (.iconst 1, 1) := by decide +kernel
theorem dX11_isKnown_21 : decode cX11_isKnown 21 = .ok (.if_icmp .ne 7, 3) := by decide +kernel
theorem dX11_isKnown_24 : decode cX11_isKnown 24 = .ok (.iconst 1, 1) := by decide +kernel
theorem dX11_isKnown_25 : decode cX11_isKnown 25 = .ok (.goto 4, 3) := by decide +kernel
theorem dX11_isKnown_28 : decode cX11_isKnown 28 = .ok (.iconst 0, 1) := by decide +kernel
theorem dX11_isKnown_29 : decode cX11_isKnown 29 = .ok (.ireturn, 1) := by decide +kernel
theorem dX11_huts_0 : decode cX11_huts 0 = .ok (.iload_n 1, 1) := by decide +kernel
theorem dX11_huts_1 : decode cX11_huts 1 = .ok (.i2l, 1) := by decide +kernel
theorem dX11_huts_2 : decode cX11_huts 2 = .ok (.lconst 1, 1) := by decide +kernel
theorem dX11_huts_3 : decode cX11_huts 3 = .ok (.ldc2_w 110, 3) := by decide +kernel
theorem dX11_huts_6 : decode cX11_huts 6 = .ok (.invokestatic 104, 3) := by decide +kernel
theorem dX11_huts_9 : decode cX11_huts 9 = .ok (.ifCond .ne 6, 3) := by decide +kernel
theorem dX11_huts_12 : decode cX11_huts 12 = .ok (.bipush (-2), 2) := by decide +kernel
theorem dX11_huts_14 : decode cX11_huts 14 = .ok (.ireturn, 1) := by decide +kernel
theorem dX11_huts_15 : decode cX11_huts 15 = .ok (.aload_n 0, 1) := by decide +kernel
theorem dX11_huts_16 : decode cX11_huts 16 = .ok (.getfield 94, 3) := by decide +kernel
theorem dX11_huts_19 : decode cX11_huts 19 = .ok (.istore_n 2, 1) := by decide +kernel
theorem dX11_huts_20 : decode cX11_huts 20 = .ok (.aload_n 0, 1) := by decide +kernel
theorem dX11_huts_21 : decode cX11_huts 21 = .ok (.iload_n 1, 1) := by decide +kernel
theorem dX11_huts_22 : decode cX11_huts 22 = .ok (.invokevirtual 90, 3) := by decide +kernel
theorem dX11_huts_25 : decode cX11_huts 25 = .ok (.iload_n 2, 1) := by decide +kernel
theorem dX11_huts_26 : decode cX11_huts 26 = .ok (.ireturn, 1) := by decide +kernel
theorem dX11_greatest_0 : decode cX11_greatest 0 = .ok (.iload_n 0, 1) := by decide +kernel
theorem dX11_greatest_1 : decode cX11_greatest 1 = .ok (.iconst 1, 1) := by decide +kernel
theorem dX11_greatest_2 : decode cX11_greatest 2 = .ok (.if_icmp .ne 8, 3) := by decide +kernel
theorem dX11_greatest_5 : decode cX11_greatest 5 = .ok (.bipush 30, 2) := by decide +kernel
theorem dX11_greatest_7 : decode cX11_greatest 7 = .ok (.goto 14, 3) := by decide +kernel
theorem dX11_greatest_10 : decode cX11_greatest 10 = .ok (.iload_n 0, 1) := by decide +kernel
theorem dX11_greatest_11 : decode cX11_greatest 11 = .ok (.iconst 3, 1) := by decide +kernel
theorem dX11_greatest_12 : decode cX11_greatest 12 = .ok (.if_icmp .ne 8, 3) := by decide +kernel
theorem dX11_greatest_15 : decode cX11_greatest 15 = .ok (.bipush 24, 2) := by decide +kernel
theorem dX11_greatest_17 : decode cX11_greatest 17 = .ok (.goto 4, 3) := by decide +kernel
theorem dX11_greatest_20 : decode cX11_greatest 20 = .ok (.iconst 3, 1) := by decide +kernel
theorem dX11_greatest_21 : decode cX11_greatest 21 = .ok (.ireturn, 1) := by decide +kernel
theorem dX11_isTaken_0 : decode cX11_isTaken 0 = .ok (.iconst 0, 1) := by decide +kernel
theorem dX11_isTaken_1 : decode cX11_isTaken 1 = .ok (.istore_n 3, 1) := by decide +kernel
theorem dX11_isTaken_2 : decode cX11_isTaken 2 = .ok (.iconst 0, 1) := by decide +kernel
theorem dX11_isTaken_3 : decode cX11_isTaken 3 = .ok (.istore 4, 2) := by decide +kernel
theorem dX11_isTaken_5 : decode cX11_isTaken 5 = .ok (.iload 4, 2) := by decide +kernel
theorem dX11_isTaken_7 : decode cX11_isTaken 7 = .ok (.aload_n 0, 1) := by decide +kernel
theorem dX11_isTaken_8 : decode cX11_isTaken 8 = .ok (.getfield 94, 3) := by decide +kernel
theorem dX11_isTaken_11 : decode cX11_isTaken 11 = .ok (.if_icmp .ge 36, 3) := by decide +kernel
theorem dX11_isTaken_14 : decode cX11_isTaken 14 = .ok (.iload_n 3, 1) := by decide +kernel
theorem dX11_isTaken_15 : decode cX11_isTaken 15 = .ok (.ifCond .ne 20, 3) := by decide +kernel
theorem dX11_isTaken_18 : decode cX11_isTaken 18 = .ok (.iload 4, 2) := by decide +kernel
theorem dX11_isTaken_20 : decode cX11_isTaken 20 = .ok (.iload_n 1, 1) := by decide +kernel
theorem dX11_isTaken_21 : decode cX11_isTaken 21 = .ok (.if_icmp .eq 18, 3) := by decide +kernel
theorem dX11_isTaken_24 : decode cX11_isTaken 24 = .ok (.aload_n 0, 1) := by decide +kernel
theorem dX11_isTaken_25 : decode cX11_isTaken 25 = .ok (.getfield 22, 3) := by decide +kernel
theorem dX11_isTaken_28 : decode cX11_isTaken 28 = .ok (.iload 4, 2) := by decide +kernel
theorem dX11_isTaken_30 : decode cX11_isTaken 30 = .ok (.iaload, 1) := by decide +kernel
theorem dX11_isTaken_31 : decode cX11_isTaken 31 = .ok (.iload_n 2, 1) := by decide +kernel
theorem dX11_isTaken_32 : decode cX11_isTaken 32 = .ok (.if_icmp .ne 7, 3) := by decide +kernel
theorem dX11_isTaken_35 : decode cX11_isTaken 35 = .ok (.iconst 1, 1) := by decide +kernel
theorem dX11_isTaken_36 : decode cX11_isTaken 36 = .ok (.goto 4, 3) := by decide +kernel
theorem dX11_isTaken_39 : decode cX11_isTaken 39 = .ok (.iconst 0, 1) := by decide +kernel
theorem dX11_isTaken_40 : decode cX11_isTaken 40 = .ok (.istore_n 3, 1) := by decide +kernel
theorem dX11_isTaken_41 : decode cX11_isTaken 41 = .ok (.iinc 4 1, 3) := by decide +kernel
theorem dX11_isTaken_44 : decode cX11_isTaken 44 = .ok (.goto (-39), 3) := by decide +kernel
theorem dX11_isTaken_47 : decode cX11_isTaken 47 = .ok (.iload_n 3, 1) := by decide +kernel
theorem dX11_isTaken_48 : decode cX11_isTaken 48 = .ok (.ireturn, 1) := by decide +kernel
theorem dX11_hut_0 : decode cX11_hut 0 = .ok (.aload_n 0, 1) := by decide +kernel
theorem dX11_hut_1 : decode cX11_hut 1 = .ok (.iload_n 1, 1) := by decide +kernel
theorem dX11_hut_2 : decode cX11_hut 2 = .ok (.invokevirtual 112, 3) := by decide +kernel
theorem dX11_hut_5 : decode cX11_hut 5 = .ok (.ifCond .ne 5, 3) := by decide +kernel
theorem dX11_hut_8 : decode cX11_hut 8 = .ok (.iconst (-1), 1) := by decide +kernel
theorem dX11_hut_9 : decode cX11_hut 9 = .ok (.ireturn, 1) := by decide +kernel
theorem dX11_hut_10 : decode cX11_hut 10 = .ok (.iload_n 2, 1) := by decide +kernel
theorem dX11_hut_11 : decode cX11_hut 11 = .ok (.i2l, 1) := by decide +kernel
theorem dX11_hut_12 : decode cX11_hut 12 = .ok (.lconst 0, 1) := by decide +kernel
theorem dX11_hut_13 : decode cX11_hut 13 = .ok (.ldc2_w 108, 3) := by decide +kernel
theorem dX11_hut_16 : decode cX11_hut 16 = .ok (.invokestatic 104, 3) := by decide +kernel
theorem dX11_hut_19 : decode cX11_hut 19 = .ok (.ifCond .eq 17, 3) := by decide +kernel
theorem dX11_hut_22 : decode cX11_hut 22 = .ok (.iload_n 3, 1) := by decide +kernel
theorem dX11_hut_23 : decode cX11_hut 23 = .ok (.i2l, 1) := by decide +kernel
theorem dX11_hut_24 : decode cX11_hut 24 = .ok (.lconst 0, 1) := by decide +kernel
theorem dX11_hut_25 : decode cX11_hut 25 = .ok (.iload_n 2, 1) := by decide +kernel
theorem dX11_hut_26 : decode cX11_hut 26 = .ok (.invokestatic 116, 3) := by decide +kernel
theorem dX11_hut_29 : decode cX11_hut 29 = .ok (.i2l, 1) := by decide +kernel
theorem dX11_hut_30 : decode cX11_hut 30 = .ok (.invokestatic 104, 3) := by decide +kernel
theorem dX11_hut_33 : decode cX11_hut 33 = .ok (.ifCond .ne 6, 3) := by decide +kernel
theorem dX11_hut_36 : decode cX11_hut 36 = .ok (.bipush (-2), 2) := by decide +kernel
theorem dX11_hut_38 : decode cX11_hut 38 = .ok (.ireturn, 1) := by decide +kernel
theorem dX11_hut_39 : decode cX11_hut 39 = .ok (.iload_n 2, 1) := by decide +kernel
theorem dX11_hut_40 : decode cX11_hut 40 = .ok (.iconst 3, 1) := by decide +kernel
theorem dX11_hut_41 : decode cX11_hut 41 = .ok (.if_icmp .ne 15, 3) := by decide +kernel
theorem dX11_hut_44 : decode cX11_hut 44 = .ok (.aload_n 0, 1) := by decide +kernel
theorem dX11_hut_45 : decode cX11_hut 45 = .ok (.iload_n 1, 1) := by decide +kernel
theorem dX11_hut_46 : decode cX11_hut 46 = .ok (.iload_n 3, 1) := by decide +kernel
theorem dX11_hut_47 : decode cX11_hut 47 = .ok (.invokevirtual 120, 3) := by decide +kernel
theorem dX11_hut_50 : decode cX11_hut 50 = .ok (.ifCond .eq 6, 3) := by decide +kernel
theorem dX11_hut_53 : decode cX11_hut 53 = .ok (.bipush (-3), 2) := by decide +kernel
theorem dX11_hut_55 : decode cX11_hut 55 = .ok (.ireturn, 1) := by decide +kernel
theorem dX11_hut_56 : decode cX11_hut 56 = .ok (.iload_n 2, 1) := by decide +kernel
theorem dX11_hut_57 : decode cX11_hut 57 = .ok (.ifCond .ne 12, 3) := by decide +kernel
theorem dX11_hut_60 : decode cX11_hut 60 = .ok (.aload_n 0, 1) := by decide +kernel
theorem dX11_hut_61 : decode cX11_hut 61 = .ok (.getfield 7, 3) := by decide +kernel
theorem dX11_hut_64 : decode cX11_hut 64 = .ok (.iload_n 1, 1) := by decide +kernel
theorem dX11_hut_65 : decode cX11_hut 65 = .ok (.iaload, 1) := by decide +kernel
theorem dX11_hut_66 : decode cX11_hut 66 = .ok (.goto 37, 3) := by decide +kernel
theorem dX11_hut_69 : decode cX11_hut 69 = .ok (.iload_n 2, 1) := by decide +kernel
theorem dX11_hut_70 : decode cX11_hut 70 = .ok (.iconst 1, 1) := by decide +kernel
theorem dX11_hut_71 : decode cX11_hut 71 = .ok (.if_icmp .ne 12, 3) := by decide +kernel
theorem dX11_hut_74 : decode cX11_hut 74 = .ok (.aload_n 0, 1) := by decide +kernel
theorem dX11_hut_75 : decode cX11_hut 75 = .ok (.getfield 16, 3) := by decide +kernel
theorem dX11_hut_78 : decode cX11_hut 78 = .ok (.iload_n 1, 1) := by decide +kernel
theorem dX11_hut_79 : decode cX11_hut 79 = .ok (.iaload, 1) := by decide +kernel
theorem dX11_hut_80 : decode cX11_hut 80 = .ok (.goto 23, 3) := by decide +kernel
theorem dX11_hut_83 : decode cX11_hut 83 = .ok (.iload_n 2, 1) := by decide +kernel
theorem dX11_hut_84 : decode cX11_hut 84 = .ok (.iconst 2, 1) := by decide +kernel
theorem dX11_hut_85 : decode cX11_hut 85 = .ok (.if_icmp .ne 12, 3) := by decide +kernel
theorem dX11_hut_88 : decode cX11_hut 88 = .ok (.aload_n 0, 1) := by decide +kernel
theorem dX11_hut_89 : decode cX11_hut 89 = .ok (.getfield 19, 3) := by decide +kernel
theorem dX11_hut_92 : decode cX11_hut 92 = .ok (.iload_n 1, 1) := by decide +kernel
theorem dX11_hut_93 : decode cX11_hut 93 = .ok (.iaload, 1) := by decide +kernel
theorem dX11_hut_94 : decode cX11_hut 94 = .ok (.goto 9, 3) := by decide +kernel
theorem dX11_hut_97 : decode cX11_hut 97 = .ok (.aload_n 0, 1) := by decide +kernel
theorem dX11_hut_98 : decode cX11_hut 98 = .ok (.getfield 22, 3) := by decide +kernel
theorem dX11_hut_101 : decode cX11_hut 101 = .ok (.iload_n 1, 1) := by decide +kernel
theorem dX11_hut_102 : decode cX11_hut 102 = .ok (.iaload, 1) := by decide +kernel
theorem dX11_hut_103 : decode cX11_hut 103 = .ok (.istore 4, 2) := by decide +kernel
theorem dX11_hut_105 : decode cX11_hut 105 = .ok (.aload_n 0, 1) := by decide +kernel
theorem dX11_hut_106 : decode cX11_hut 106 = .ok (.getfield 7, 3) := by decide +kernel
theorem dX11_hut_109 : decode cX11_hut 109 = .ok (.iload_n 1, 1) := by decide +kernel
theorem dX11_hut_110 : decode cX11_hut 110 = .ok (.iload_n 2, 1) := by decide +kernel
theorem dX11_hut_111 : decode cX11_hut 111 = .ok (.ifCond .ne 7, 3) := by decide +kernel
theorem dX11_hut_114 : decode cX11_hut 114 = .ok (.iload_n 3, 1) := by decide +kernel
theorem dX11_hut_115 : decode cX11_hut 115 = .ok (.goto 9, 3) := by decide +kernel
theorem dX11_hut_118 : decode cX11_hut 118 = .ok (.aload_n 0, 1) := by decide +kernel
theorem dX11_hut_119 : decode cX11_hut 119 = .ok (.getfield 7, 3) := by decide +kernel
theorem dX11_hut_122 : decode cX11_hut 122 = .ok (.iload_n 1, 1) := by decide +kernel
theorem dX11_hut_123 : decode cX11_hut 123 = .ok (.iaload, 1) := by decide +kernel
theorem dX11_hut_124 : decode cX11_hut 124 = .ok (.iastore, 1) := by decide +kernel
theorem dX11_hut_125 : decode cX11_hut 125 = .ok (.aload_n 0, 1) := by decide +kernel
theorem dX11_hut_126 : decode cX11_hut 126 = .ok (.getfield 16, 3) := by decide +kernel
theorem dX11_hut_129 : decode cX11_hut 129 = .ok (.iload_n 1, 1) := by decide +kernel
theorem dX11_hut_130 : decode cX11_hut 130 = .ok (.iload_n 2, 1) := by decide +kernel
theorem dX11_hut_131 : decode cX11_hut 131 = .ok (.iconst 1, 1) := by decide +kernel
