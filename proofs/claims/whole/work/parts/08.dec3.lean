theorem dX11_hut_132 : decode cX11_hut 132 = .ok (.if_icmp .ne 7, 3) := by decide +kernel
theorem dX11_hut_135 : decode cX11_hut 135 = .ok (.iload_n 3, 1) := by decide +kernel
theorem dX11_hut_136 : decode cX11_hut 136 = .ok (.goto 9, 3) := by decide +kernel
theorem dX11_hut_139 : decode cX11_hut 139 = .ok (.aload_n 0, 1) := by decide +kernel
theorem dX11_hut_140 : decode cX11_hut 140 = .ok (.getfield 16, 3) := by decide +kernel
theorem dX11_hut_143 : decode cX11_hut 143 = .ok (.iload_n 1, 1) := by decide +kernel
theorem dX11_hut_144 : decode cX11_hut 144 = .ok (.iaload, 1) := by decide +kernel
theorem dX11_hut_145 : decode cX11_hut 145 = .ok (.iastore, 1) := by decide +kernel
theorem dX11_hut_146 : decode cX11_hut 146 = .ok (.aload_n 0, 1) := by decide +kernel
theorem dX11_hut_147 : decode cX11_hut 147 = .ok (.getfield 13, 3) := by decide +kernel
theorem dX11_hut_150 : decode cX11_hut 150 = .ok (.iload_n 1, 1) := by decide +kernel
theorem dX11_hut_151 : decode cX11_hut 151 = .ok (.iload_n 2, 1) := by decide +kernel
theorem dX11_hut_152 : decode cX11_hut 152 = .ok (.iconst 1, 1) := by decide +kernel
theorem dX11_hut_153 : decode cX11_hut 153 = .ok (.if_icmp .ne 7, 3) := by decide +kernel
theorem dX11_hut_156 : decode cX11_hut 156 = .ok (.iload_n 3, 1) := by decide +kernel
theorem dX11_hut_157 : decode cX11_hut 157 = .ok (.goto 9, 3) := by decide +kernel
theorem dX11_hut_160 : decode cX11_hut 160 = .ok (.aload_n 0, 1) := by decide +kernel
theorem dX11_hut_161 : decode cX11_hut 161 = .ok (.getfield 13, 3) := by decide +kernel
theorem dX11_hut_164 : decode cX11_hut 164 = .ok (.iload_n 1, 1) := by decide +kernel
theorem dX11_hut_165 : decode cX11_hut 165 = .ok (.iaload, 1) := by decide +kernel
theorem dX11_hut_166 : decode cX11_hut 166 = .ok (.iastore, 1) := by decide +kernel
theorem dX11_hut_167 : decode cX11_hut 167 = .ok (.aload_n 0, 1) := by decide +kernel
theorem dX11_hut_168 : decode cX11_hut 168 = .ok (.getfield 19, 3) := by decide +kernel
theorem dX11_hut_171 : decode cX11_hut 171 = .ok (.iload_n 1, 1) := by decide +kernel
theorem dX11_hut_172 : decode cX11_hut 172 = .ok (.iload_n 2, 1) := by decide +kernel
theorem dX11_hut_173 : decode cX11_hut 173 = .ok (.iconst 2, 1) := by decide +kernel
theorem dX11_hut_174 : decode cX11_hut 174 = .ok (.if_icmp .ne 7, 3) := by decide +kernel
theorem dX11_hut_177 : decode cX11_hut 177 = .ok (.iload_n 3, 1) := by decide +kernel
theorem dX11_hut_178 : decode cX11_hut 178 = .ok (.goto 9, 3) := by decide +kernel
theorem dX11_hut_181 : decode cX11_hut 181 = .ok (.aload_n 0, 1) := by decide +kernel
theorem dX11_hut_182 : decode cX11_hut 182 = .ok (.getfield 19, 3) := by decide +kernel
theorem dX11_hut_185 : decode cX11_hut 185 = .ok (.iload_n 1, 1) := by decide +kernel
theorem dX11_hut_186 : decode cX11_hut 186 = .ok (.iaload, 1) := by decide +kernel
theorem dX11_hut_187 : decode cX11_hut 187 = .ok (.iastore, 1) := by decide +kernel
theorem dX11_hut_188 : decode cX11_hut 188 = .ok (.aload_n 0, 1) := by decide +kernel
theorem dX11_hut_189 : decode cX11_hut 189 = .ok (.getfield 22, 3) := by decide +kernel
theorem dX11_hut_192 : decode cX11_hut 192 = .ok (.iload_n 1, 1) := by decide +kernel
theorem dX11_hut_193 : decode cX11_hut 193 = .ok (.iload_n 2, 1) := by decide +kernel
theorem dX11_hut_194 : decode cX11_hut 194 = .ok (.iconst 3, 1) := by decide +kernel
theorem dX11_hut_195 : decode cX11_hut 195 = .ok (.if_icmp .ne 7, 3) := by decide +kernel
theorem dX11_hut_198 : decode cX11_hut 198 = .ok (.iload_n 3, 1) := by decide +kernel
theorem dX11_hut_199 : decode cX11_hut 199 = .ok (.goto 9, 3) := by decide +kernel
theorem dX11_hut_202 : decode cX11_hut 202 = .ok (.aload_n 0, 1) := by decide +kernel
theorem dX11_hut_203 : decode cX11_hut 203 = .ok (.getfield 22, 3) := by decide +kernel
theorem dX11_hut_206 : decode cX11_hut 206 = .ok (.iload_n 1, 1) := by decide +kernel
theorem dX11_hut_207 : decode cX11_hut 207 = .ok (.iaload, 1) := by decide +kernel
theorem dX11_hut_208 : decode cX11_hut 208 = .ok (.iastore, 1) := by decide +kernel
theorem dX11_hut_209 : decode cX11_hut 209 = .ok (.iload 4, 2) := by decide +kernel
theorem dX11_hut_211 : decode cX11_hut 211 = .ok (.ireturn, 1) := by decide +kernel
theorem dX11_say_0 : decode cX11_say 0 = .ok (.iload_n 1, 1) := by decide +kernel
theorem dX11_say_1 : decode cX11_say 1 = .ok (.i2l, 1) := by decide +kernel
theorem dX11_say_2 : decode cX11_say 2 = .ok (.ldc2_w 124, 3) := by decide +kernel
theorem dX11_say_5 : decode cX11_say 5 = .ok (.ldc2_w 126, 3) := by decide +kernel
theorem dX11_say_8 : decode cX11_say 8 = .ok (.invokestatic 104, 3) := by decide +kernel
theorem dX11_say_11 : decode cX11_say 11 = .ok (.ifCond .ne 6, 3) := by decide +kernel
theorem dX11_say_14 : decode cX11_say 14 = .ok (.bipush (-2), 2) := by decide +kernel
theorem dX11_say_16 : decode cX11_say 16 = .ok (.ireturn, 1) := by decide +kernel
theorem dX11_say_17 : decode cX11_say 17 = .ok (.aload_n 0, 1) := by decide +kernel
theorem dX11_say_18 : decode cX11_say 18 = .ok (.getfield 128, 3) := by decide +kernel
theorem dX11_say_21 : decode cX11_say 21 = .ok (.bipush 60, 2) := by decide +kernel
theorem dX11_say_23 : decode cX11_say 23 = .ok (.if_icmp .ne 6, 3) := by decide +kernel
theorem dX11_say_26 : decode cX11_say 26 = .ok (.bipush (-4), 2) := by decide +kernel
theorem dX11_say_28 : decode cX11_say 28 = .ok (.ireturn, 1) := by decide +kernel
theorem dX11_say_29 : decode cX11_say 29 = .ok (.aload_n 0, 1) := by decide +kernel
theorem dX11_say_30 : decode cX11_say 30 = .ok (.getfield 37, 3) := by decide +kernel
theorem dX11_say_33 : decode cX11_say 33 = .ok (.aload_n 0, 1) := by decide +kernel
theorem dX11_say_34 : decode cX11_say 34 = .ok (.getfield 128, 3) := by decide +kernel
theorem dX11_say_37 : decode cX11_say 37 = .ok (.iload_n 1, 1) := by decide +kernel
theorem dX11_say_38 : decode cX11_say 38 = .ok (.iastore, 1) := by decide +kernel
theorem dX11_say_39 : decode cX11_say 39 = .ok (.aload_n 0, 1) := by decide +kernel
theorem dX11_say_40 : decode cX11_say 40 = .ok (.dup, 1) := by decide +kernel
theorem dX11_say_41 : decode cX11_say 41 = .ok (.getfield 128, 3) := by decide +kernel
theorem dX11_say_44 : decode cX11_say 44 = .ok (.iconst 1, 1) := by decide +kernel
theorem dX11_say_45 : decode cX11_say 45 = .ok (.iadd, 1) := by decide +kernel
theorem dX11_say_46 : decode cX11_say 46 = .ok (.putfield 128, 3) := by decide +kernel
theorem dX11_say_49 : decode cX11_say 49 = .ok (.aload_n 0, 1) := by decide +kernel
theorem dX11_say_50 : decode cX11_say 50 = .ok (.getfield 128, 3) := by decide +kernel
theorem dX11_say_53 : decode cX11_say 53 = .ok (.ireturn, 1) := by decide +kernel
theorem dX11_wipe_0 : decode cX11_wipe 0 = .ok (.aload_n 0, 1) := by decide +kernel
theorem dX11_wipe_1 : decode cX11_wipe 1 = .ok (.getfield 128, 3) := by decide +kernel
theorem dX11_wipe_4 : decode cX11_wipe 4 = .ok (.istore_n 1, 1) := by decide +kernel
theorem dX11_wipe_5 : decode cX11_wipe 5 = .ok (.aload_n 0, 1) := by decide +kernel
theorem dX11_wipe_6 : decode cX11_wipe 6 = .ok (.iconst 0, 1) := by decide +kernel
theorem dX11_wipe_7 : decode cX11_wipe 7 = .ok (.putfield 128, 3) := by decide +kernel
theorem dX11_wipe_10 : decode cX11_wipe 10 = .ok (.iload_n 1, 1) := by decide +kernel
theorem dX11_wipe_11 : decode cX11_wipe 11 = .ok (.ireturn, 1) := by decide +kernel
theorem dX11_faultOfSpell_0 : decode cX11_faultOfSpell 0 = .ok (.iconst 0, 1) := by decide +kernel
theorem dX11_faultOfSpell_1 : decode cX11_faultOfSpell 1 = .ok (.istore_n 1, 1) := by decide +kernel
theorem dX11_faultOfSpell_2 : decode cX11_faultOfSpell 2 = .ok (.iload_n 1, 1) := by decide +kernel
theorem dX11_faultOfSpell_3 : decode cX11_faultOfSpell 3 = .ok (.aload_n 0, 1) := by decide +kernel
theorem dX11_faultOfSpell_4 : decode cX11_faultOfSpell 4 = .ok (.getfield 128, 3) := by decide +kernel
theorem dX11_faultOfSpell_7 : decode cX11_faultOfSpell 7 = .ok (.if_icmp .ge 38, 3) := by decide +kernel
theorem dX11_faultOfSpell_10 : decode cX11_faultOfSpell 10 = .ok (.iload_n 1, 1) := by decide +kernel
theorem dX11_faultOfSpell_11 : decode cX11_faultOfSpell 11 = .ok (.aload_n 0, 1) := by decide +kernel
theorem dX11_faultOfSpell_12 : decode cX11_faultOfSpell 12 = .ok (.getfield 94, 3) := by decide +kernel
theorem dX11_faultOfSpell_15 : decode cX11_faultOfSpell 15 = .ok (.if_icmp .eq 22, 3) := by decide +kernel
theorem dX11_faultOfSpell_18 : decode cX11_faultOfSpell 18 = .ok (.aload_n 0, 1) := by decide +kernel
theorem dX11_faultOfSpell_19 : decode cX11_faultOfSpell 19 = .ok (.getfield 37, 3) := by decide +kernel
theorem dX11_faultOfSpell_22 : decode cX11_faultOfSpell 22 = .ok (.iload_n 1, 1) := by decide +kernel
theorem dX11_faultOfSpell_23 : decode cX11_faultOfSpell 23 = .ok (.iaload, 1) := by decide +kernel
theorem dX11_faultOfSpell_24 : decode cX11_faultOfSpell 24 = .ok (.i2l, 1) := by decide +kernel
theorem dX11_faultOfSpell_25 : decode cX11_faultOfSpell 25 = .ok (.ldc2_w 131, 3) := by decide +kernel
theorem dX11_faultOfSpell_28 : decode cX11_faultOfSpell 28 = .ok (.ldc2_w 133, 3) := by decide +kernel
theorem dX11_faultOfSpell_31 : decode cX11_faultOfSpell 31 = .ok (.invokestatic 104, 3) := by decide +kernel
theorem dX11_faultOfSpell_34 : decode cX11_faultOfSpell 34 = .ok (.ifCond .ne 5, 3) := by decide +kernel
theorem dX11_faultOfSpell_37 : decode cX11_faultOfSpell 37 = .ok (.iload_n 1, 1) := by decide +kernel
theorem dX11_faultOfSpell_38 : decode cX11_faultOfSpell 38 = .ok (.ireturn, 1) := by decide +kernel
theorem dX11_faultOfSpell_39 : decode cX11_faultOfSpell 39 = .ok (.iinc 1 1, 3) := by decide +kernel
theorem dX11_faultOfSpell_42 : decode cX11_faultOfSpell 42 = .ok (.goto (-40), 3) := by decide +kernel
theorem dX11_faultOfSpell_45 : decode cX11_faultOfSpell 45 = .ok (.aload_n 0, 1) := by decide +kernel
theorem dX11_faultOfSpell_46 : decode cX11_faultOfSpell 46 = .ok (.getfield 128, 3) := by decide +kernel
theorem dX11_faultOfSpell_49 : decode cX11_faultOfSpell 49 = .ok (.aload_n 0, 1) := by decide +kernel
theorem dX11_faultOfSpell_50 : decode cX11_faultOfSpell 50 = .ok (.getfield 94, 3) := by decide +kernel
theorem dX11_faultOfSpell_53 : decode cX11_faultOfSpell 53 = .ok (.if_icmp .ge 10, 3) := by decide +kernel
theorem dX11_faultOfSpell_56 : decode cX11_faultOfSpell 56 = .ok (.aload_n 0, 1) := by decide +kernel
theorem dX11_faultOfSpell_57 : decode cX11_faultOfSpell 57 = .ok (.getfield 128, 3) := by decide +kernel
theorem dX11_faultOfSpell_60 : decode cX11_faultOfSpell 60 = .ok (.goto 5, 3) := by decide +kernel
theorem dX11_faultOfSpell_63 : decode cX11_faultOfSpell 63 = .ok (.bipush (-6), 2) := by decide +kernel
theorem dX11_faultOfSpell_65 : decode cX11_faultOfSpell 65 = .ok (.ireturn, 1) := by decide +kernel
theorem dX11_wayOf_0 : decode cX11_wayOf 0 = .ok (.iload_n 0, 1) := by decide +kernel
theorem dX11_wayOf_1 : decode cX11_wayOf 1 = .ok (.bipush 110, 2) := by decide +kernel
theorem dX11_wayOf_3 : decode cX11_wayOf 3 = .ok (.if_icmp .ne 7, 3) := by decide +kernel
theorem dX11_wayOf_6 : decode cX11_wayOf 6 = .ok (.iconst 0, 1) := by decide +kernel
theorem dX11_wayOf_7 : decode cX11_wayOf 7 = .ok (.goto 35, 3) := by decide +kernel
theorem dX11_wayOf_10 : decode cX11_wayOf 10 = .ok (.iload_n 0, 1) := by decide +kernel
theorem dX11_wayOf_11 : decode cX11_wayOf 11 = .ok (.bipush 101, 2) := by decide +kernel
theorem dX11_wayOf_13 : decode cX11_wayOf 13 = .ok (.if_icmp .ne 7, 3) := by decide +kernel
theorem dX11_wayOf_16 : decode cX11_wayOf 16 = .ok (.iconst 1, 1) := by decide +kernel
theorem dX11_wayOf_17 : decode cX11_wayOf 17 = .ok (.goto 25, 3) := by decide +kernel
theorem dX11_wayOf_20 : decode cX11_wayOf 20 = .ok (.iload_n 0, 1) := by decide +kernel
theorem dX11_wayOf_21 : decode cX11_wayOf 21 = .ok (.bipush 115, 2) := by decide +kernel
theorem dX11_wayOf_23 : decode cX11_wayOf 23 = .ok (.if_icmp .ne 7, 3) := by decide +kernel
theorem dX11_wayOf_26 : decode cX11_wayOf 26 = .ok (.iconst 2, 1) := by decide +kernel
theorem dX11_wayOf_27 : decode cX11_wayOf 27 = .ok (.goto 15, 3) := by decide +kernel
theorem dX11_wayOf_30 : decode cX11_wayOf 30 = .ok (.iload_n 0, 1) := by decide +kernel
theorem dX11_wayOf_31 : decode cX11_wayOf 31 = .ok (.bipush 119, 2) := by decide +kernel
theorem dX11_wayOf_33 : decode cX11_wayOf 33 = .ok (.if_icmp .ne 7, 3) := by decide +kernel
theorem dX11_wayOf_36 : decode cX11_wayOf 36 = .ok (.iconst 3, 1) := by decide +kernel
theorem dX11_wayOf_37 : decode cX11_wayOf 37 = .ok (.goto 5, 3) := by decide +kernel
theorem dX11_wayOf_40 : decode cX11_wayOf 40 = .ok (.bipush (-6), 2) := by decide +kernel
theorem dX11_wayOf_42 : decode cX11_wayOf 42 = .ok (.ireturn, 1) := by decide +kernel
theorem dX11_faultOfEvening_0 : decode cX11_faultOfEvening 0 = .ok (.aload_n 0, 1) := by decide +kernel
theorem dX11_faultOfEvening_1 : decode cX11_faultOfEvening 1 = .ok (.iconst 0, 1) := by decide +kernel
theorem dX11_faultOfEvening_2 : decode cX11_faultOfEvening 2 = .ok (.putfield 135, 3) := by decide +kernel
theorem dX11_faultOfEvening_5 : decode cX11_faultOfEvening 5 = .ok (.bipush (-6), 2) := by decide +kernel
theorem dX11_faultOfEvening_7 : decode cX11_faultOfEvening 7 = .ok (.istore_n 1, 1) := by decide +kernel
theorem dX11_faultOfEvening_8 : decode cX11_faultOfEvening 8 = .ok (.iconst 0, 1) := by decide +kernel
theorem dX11_faultOfEvening_9 : decode cX11_faultOfEvening 9 = .ok (.istore_n 2, 1) := by decide +kernel
theorem dX11_faultOfEvening_10 : decode cX11_faultOfEvening 10 = .ok (.iload_n 2, 1) := by decide +kernel
theorem dX11_faultOfEvening_11 : decode cX11_faultOfEvening 11 = .ok (.aload_n 0, 1) := by decide +kernel
theorem dX11_faultOfEvening_12 : decode cX11_faultOfEvening 12 = .ok (.getfield 128, 3) := by decide +kernel
theorem dX11_faultOfEvening_15 : decode cX11_faultOfEvening 15 = .ok (.if_icmp .ge 190, 3) := by decide +kernel
theorem dX11_faultOfEvening_18 : decode cX11_faultOfEvening 18 = .ok (.aload_n 0, 1) := by decide +kernel
theorem dX11_faultOfEvening_19 : decode cX11_faultOfEvening 19 = .ok (.getfield 37, 3) := by decide +kernel
theorem dX11_faultOfEvening_22 : decode cX11_faultOfEvening 22 = .ok (.iload_n 2, 1) := by decide +kernel
theorem dX11_faultOfEvening_23 : decode cX11_faultOfEvening 23 = .ok (.iaload, 1) := by decide +kernel
theorem dX11_faultOfEvening_24 : decode cX11_faultOfEvening 24 = .ok (.istore_n 3, 1) := by decide +kernel
theorem dX11_faultOfEvening_25 : decode cX11_faultOfEvening 25 = .ok (.iload_n 1, 1) := by decide +kernel
theorem dX11_faultOfEvening_26 : decode cX11_faultOfEvening 26 = .ok (.ifCond .lt 18, 3) := by decide +kernel
theorem dX11_faultOfEvening_29 : decode cX11_faultOfEvening 29 = .ok (.iload_n 3, 1) := by decide +kernel
theorem dX11_faultOfEvening_30 : decode cX11_faultOfEvening 30 = .ok (.invokestatic 138, 3) := by decide +kernel
theorem dX11_faultOfEvening_33 : decode cX11_faultOfEvening 33 = .ok (.ifCond .lt 7, 3) := by decide +kernel
theorem dX11_faultOfEvening_36 : decode cX11_faultOfEvening 36 = .ok (.iconst 1, 1) := by decide +kernel
theorem dX11_faultOfEvening_37 : decode cX11_faultOfEvening 37 = .ok (.goto 49, 3) := by decide +kernel
theorem dX11_faultOfEvening_40 : decode cX11_faultOfEvening 40 = .ok (.iconst 0, 1) := by decide +kernel
theorem dX11_faultOfEvening_41 : decode cX11_faultOfEvening 41 = .ok (.goto 45, 3) := by decide +kernel
theorem dX11_faultOfEvening_44 : decode cX11_faultOfEvening 44 = .ok (.iload_n 3, 1) := by decide +kernel
theorem dX11_faultOfEvening_45 : decode cX11_faultOfEvening 45 = .ok (.i2l, 1) := by decide +kernel
theorem dX11_faultOfEvening_46 : decode cX11_faultOfEvening 46 = .ok (.ldc2_w 141, 3) := by decide +kernel
theorem dX11_faultOfEvening_49 : decode cX11_faultOfEvening 49 = .ok (.ldc2_w 143, 3) := by decide +kernel
theorem dX11_faultOfEvening_52 : decode cX11_faultOfEvening 52 = .ok (.invokestatic 104, 3) := by decide +kernel
theorem dX11_faultOfEvening_55 : decode cX11_faultOfEvening 55 = .ok (.ifCond .ne 26, 3) := by decide +kernel
theorem dX11_faultOfEvening_58 : decode cX11_faultOfEvening 58 = .ok (.iload_n 3, 1) := by decide +kernel
theorem dX11_faultOfEvening_59 : decode cX11_faultOfEvening 59 = .ok (.bipush 42, 2) := by decide +kernel
theorem dX11_faultOfEvening_61 : decode cX11_faultOfEvening 61 = .ok (.if_icmp .eq 20, 3) := by decide +kernel
theorem dX11_faultOfEvening_64 : decode cX11_faultOfEvening 64 = .ok (.iload_n 3, 1) := by decide +kernel
theorem dX11_faultOfEvening_65 : decode cX11_faultOfEvening 65 = .ok (.bipush 46, 2) := by decide +kernel
theorem dX11_faultOfEvening_67 : decode cX11_faultOfEvening 67 = .ok (.if_icmp .eq 14, 3) := by decide +kernel
theorem dX11_faultOfEvening_70 : decode cX11_faultOfEvening 70 = .ok (.aload_n 0, 1) := by decide +kernel
theorem dX11_faultOfEvening_71 : decode cX11_faultOfEvening 71 = .ok (.iload_n 3, 1) := by decide +kernel
theorem dX11_faultOfEvening_72 : decode cX11_faultOfEvening 72 = .ok (.bipush 48, 2) := by decide +kernel
theorem dX11_faultOfEvening_74 : decode cX11_faultOfEvening 74 = .ok (.isub, 1) := by decide +kernel
theorem dX11_faultOfEvening_75 : decode cX11_faultOfEvening 75 = .ok (.invokevirtual 112, 3) := by decide +kernel
theorem dX11_faultOfEvening_78 : decode cX11_faultOfEvening 78 = .ok (.ifCond .eq 7, 3) := by decide +kernel
theorem dX11_faultOfEvening_81 : decode cX11_faultOfEvening 81 = .ok (.iconst 1, 1) := by decide +kernel
theorem dX11_faultOfEvening_82 : decode cX11_faultOfEvening 82 = .ok (.goto 4, 3) := by decide +kernel
theorem dX11_faultOfEvening_85 : decode cX11_faultOfEvening 85 = .ok (.iconst 0, 1) := by decide +kernel
theorem dX11_faultOfEvening_86 : decode cX11_faultOfEvening 86 = .ok (.istore 4, 2) := by decide +kernel
theorem dX11_faultOfEvening_88 : decode cX11_faultOfEvening 88 = .ok (.iload 4, 2) := by decide +kernel
theorem dX11_faultOfEvening_90 : decode cX11_faultOfEvening 90 = .ok (.ifCond .ne 5, 3) := by decide +kernel
theorem dX11_faultOfEvening_93 : decode cX11_faultOfEvening 93 = .ok (.iload_n 2, 1) := by decide +kernel
theorem dX11_faultOfEvening_94 : decode cX11_faultOfEvening 94 = .ok (.ireturn, 1) := by decide +kernel
theorem dX11_faultOfEvening_95 : decode cX11_faultOfEvening 95 = .ok (.iload_n 1, 1) := by decide +kernel
theorem dX11_faultOfEvening_96 : decode cX11_faultOfEvening 96 = .ok (.ifCond .lt 39, 3) := by decide +kernel
theorem dX11_faultOfEvening_99 : decode cX11_faultOfEvening 99 = .ok (.aload_n 0, 1) := by decide +kernel
theorem dX11_faultOfEvening_100 : decode cX11_faultOfEvening 100 = .ok (.getfield 40, 3) := by decide +kernel
theorem dX11_faultOfEvening_103 : decode cX11_faultOfEvening 103 = .ok (.aload_n 0, 1) := by decide +kernel
theorem dX11_faultOfEvening_104 : decode cX11_faultOfEvening 104 = .ok (.getfield 135, 3) := by decide +kernel
theorem dX11_faultOfEvening_107 : decode cX11_faultOfEvening 107 = .ok (.bipush 10, 2) := by decide +kernel
theorem dX11_faultOfEvening_109 : decode cX11_faultOfEvening 109 = .ok (.iload_n 1, 1) := by decide +kernel
theorem dX11_faultOfEvening_110 : decode cX11_faultOfEvening 110 = .ok (.iconst 1, 1) := by decide +kernel
theorem dX11_faultOfEvening_111 : decode cX11_faultOfEvening 111 = .ok (.iadd, 1) := by decide +kernel
theorem dX11_faultOfEvening_112 : decode cX11_faultOfEvening 112 = .ok (.imul, 1) := by decide +kernel
theorem dX11_faultOfEvening_113 : decode cX11_faultOfEvening 113 = .ok (.iload_n 3, 1) := by decide +kernel
theorem dX11_faultOfEvening_114 : decode cX11_faultOfEvening 114 = .ok (.invokestatic 138, 3) := by decide +kernel
theorem dX11_faultOfEvening_117 : decode cX11_faultOfEvening 117 = .ok (.iadd, 1) := by decide +kernel
theorem dX11_faultOfEvening_118 : decode cX11_faultOfEvening 118 = .ok (.iastore, 1) := by decide +kernel
theorem dX11_faultOfEvening_119 : decode cX11_faultOfEvening 119 = .ok (.aload_n 0, 1) := by decide +kernel
theorem dX11_faultOfEvening_120 : decode cX11_faultOfEvening 120 = .ok (.dup, 1) := by decide +kernel
theorem dX11_faultOfEvening_121 : decode cX11_faultOfEvening 121 = .ok (.getfield 135, 3) := by decide +kernel
theorem dX11_faultOfEvening_124 : decode cX11_faultOfEvening 124 = .ok (.iconst 1, 1) := by decide +kernel
theorem dX11_faultOfEvening_125 : decode cX11_faultOfEvening 125 = .ok (.iadd, 1) := by decide +kernel
theorem dX11_faultOfEvening_126 : decode cX11_faultOfEvening 126 = .ok (.putfield 135, 3) := by decide +kernel
theorem dX11_faultOfEvening_129 : decode cX11_faultOfEvening 129 = .ok (.bipush (-6), 2) := by decide +kernel
theorem dX11_faultOfEvening_131 : decode cX11_faultOfEvening 131 = .ok (.istore_n 1, 1) := by decide +kernel
theorem dX11_faultOfEvening_132 : decode cX11_faultOfEvening 132 = .ok (.goto 67, 3) := by decide +kernel
theorem dX11_faultOfEvening_135 : decode cX11_faultOfEvening 135 = .ok (.aload_n 0, 1) := by decide +kernel
theorem dX11_faultOfEvening_136 : decode cX11_faultOfEvening 136 = .ok (.iload_n 3, 1) := by decide +kernel
theorem dX11_faultOfEvening_137 : decode cX11_faultOfEvening 137 = .ok (.bipush 48, 2) := by decide +kernel
theorem dX11_faultOfEvening_139 : decode cX11_faultOfEvening 139 = .ok (.isub, 1) := by decide +kernel
theorem dX11_faultOfEvening_140 : decode cX11_faultOfEvening 140 = .ok (.invokevirtual 112, 3) := by decide +kernel
theorem dX11_faultOfEvening_143 : decode cX11_faultOfEvening 143 = .ok (.ifCond .eq 11, 3) := by decide +kernel
theorem dX11_faultOfEvening_146 : decode cX11_faultOfEvening 146 = .ok (.iload_n 3, 1) := by decide +kernel
theorem dX11_faultOfEvening_147 : decode cX11_faultOfEvening 147 = .ok (.bipush 48, 2) := by decide +kernel
theorem dX11_faultOfEvening_149 : decode cX11_faultOfEvening 149 = .ok (.isub, 1) := by decide +kernel
theorem dX11_faultOfEvening_150 : decode cX11_faultOfEvening 150 = .ok (.istore_n 1, 1) := by decide +kernel
theorem dX11_faultOfEvening_151 : decode cX11_faultOfEvening 151 = .ok (.goto 48, 3) := by decide +kernel
theorem dX11_faultOfEvening_154 : decode cX11_faultOfEvening 154 = .ok (.aload_n 0, 1) := by decide +kernel
theorem dX11_faultOfEvening_155 : decode cX11_faultOfEvening 155 = .ok (.getfield 40, 3) := by decide +kernel
theorem dX11_faultOfEvening_158 : decode cX11_faultOfEvening 158 = .ok (.aload_n 0, 1) := by decide +kernel
theorem dX11_faultOfEvening_159 : decode cX11_faultOfEvening 159 = .ok (.getfield 135, 3) := by decide +kernel
theorem dX11_faultOfEvening_162 : decode cX11_faultOfEvening 162 = .ok (.iload_n 3, 1) := by decide +kernel
theorem dX11_faultOfEvening_163 : decode cX11_faultOfEvening 163 = .ok (.bipush 42, 2) := by decide +kernel
theorem dX11_faultOfEvening_165 : decode cX11_faultOfEvening 165 = .ok (.if_icmp .ne 8, 3) := by decide +kernel
theorem dX11_faultOfEvening_168 : decode cX11_faultOfEvening 168 = .ok (.bipush 6, 2) := by decide +kernel
theorem dX11_faultOfEvening_170 : decode cX11_faultOfEvening 170 = .ok (.goto 18, 3) := by decide +kernel
theorem dX11_faultOfEvening_173 : decode cX11_faultOfEvening 173 = .ok (.iload_n 3, 1) := by decide +kernel
theorem dX11_faultOfEvening_174 : decode cX11_faultOfEvening 174 = .ok (.bipush 46, 2) := by decide +kernel
theorem dX11_faultOfEvening_176 : decode cX11_faultOfEvening 176 = .ok (.if_icmp .ne 8, 3) := by decide +kernel
theorem dX11_faultOfEvening_179 : decode cX11_faultOfEvening 179 = .ok (.bipush 7, 2) := by decide +kernel
theorem dX11_faultOfEvening_181 : decode cX11_faultOfEvening 181 = .ok (.goto 7, 3) := by decide +kernel
theorem dX11_faultOfEvening_184 : decode cX11_faultOfEvening 184 = .ok (.iload_n 3, 1) := by decide +kernel
theorem dX11_faultOfEvening_185 : decode cX11_faultOfEvening 185 = .ok (.bipush 97, 2) := by decide +kernel
theorem dX11_faultOfEvening_187 : decode cX11_faultOfEvening 187 = .ok (.isub, 1) := by decide +kernel
theorem dX11_faultOfEvening_188 : decode cX11_faultOfEvening 188 = .ok (.iastore, 1) := by decide +kernel
theorem dX11_faultOfEvening_189 : decode cX11_faultOfEvening 189 = .ok (.aload_n 0, 1) := by decide +kernel
theorem dX11_faultOfEvening_190 : decode cX11_faultOfEvening 190 = .ok (.dup, 1) := by decide +kernel
theorem dX11_faultOfEvening_191 : decode cX11_faultOfEvening 191 = .ok (.getfield 135, 3) := by decide +kernel
theorem dX11_faultOfEvening_194 : decode cX11_faultOfEvening 194 = .ok (.iconst 1, 1) := by decide +kernel
theorem dX11_faultOfEvening_195 : decode cX11_faultOfEvening 195 = .ok (.iadd, 1) := by decide +kernel
theorem dX11_faultOfEvening_196 : decode cX11_faultOfEvening 196 = .ok (.putfield 135, 3) := by decide +kernel
theorem dX11_faultOfEvening_199 : decode cX11_faultOfEvening 199 = .ok (.iinc 2 1, 3) := by decide +kernel
theorem dX11_faultOfEvening_202 : decode cX11_faultOfEvening 202 = .ok (.goto (-192), 3) := by decide +kernel
theorem dX11_faultOfEvening_205 : decode cX11_faultOfEvening 205 = .ok (.iload_n 1, 1) := by decide +kernel
theorem dX11_faultOfEvening_206 : decode cX11_faultOfEvening 206 = .ok (.ifCond .lt 10, 3) := by decide +kernel
theorem dX11_faultOfEvening_209 : decode cX11_faultOfEvening 209 = .ok (.aload_n 0, 1) := by decide +kernel
theorem dX11_faultOfEvening_210 : decode cX11_faultOfEvening 210 = .ok (.getfield 128, 3) := by decide +kernel
theorem dX11_faultOfEvening_213 : decode cX11_faultOfEvening 213 = .ok (.goto 5, 3) := by decide +kernel
theorem dX11_faultOfEvening_216 : decode cX11_faultOfEvening 216 = .ok (.bipush (-6), 2) := by decide +kernel
theorem dX11_faultOfEvening_218 : decode cX11_faultOfEvening 218 = .ok (.ireturn, 1) := by decide +kernel
theorem dX11_fault_0 : decode cX11_fault 0 = .ok (.iload_n 1, 1) := by decide +kernel
theorem dX11_fault_1 : decode cX11_fault 1 = .ok (.ifCond .ne 10, 3) := by decide +kernel
theorem dX11_fault_4 : decode cX11_fault 4 = .ok (.aload_n 0, 1) := by decide +kernel
theorem dX11_fault_5 : decode cX11_fault 5 = .ok (.invokevirtual 145, 3) := by decide +kernel
theorem dX11_fault_8 : decode cX11_fault 8 = .ok (.goto 17, 3) := by decide +kernel
theorem dX11_fault_11 : decode cX11_fault 11 = .ok (.iload_n 1, 1) := by decide +kernel
theorem dX11_fault_12 : decode cX11_fault 12 = .ok (.iconst 1, 1) := by decide +kernel
theorem dX11_fault_13 : decode cX11_fault 13 = .ok (.if_icmp .ne 10, 3) := by decide +kernel
theorem dX11_fault_16 : decode cX11_fault 16 = .ok (.aload_n 0, 1) := by decide +kernel
theorem dX11_fault_17 : decode cX11_fault 17 = .ok (.invokevirtual 149, 3) := by decide +kernel
theorem dX11_fault_20 : decode cX11_fault 20 = .ok (.goto 5, 3) := by decide +kernel
theorem dX11_fault_23 : decode cX11_fault 23 = .ok (.bipush (-2), 2) := by decide +kernel
theorem dX11_fault_25 : decode cX11_fault 25 = .ok (.ireturn, 1) := by decide +kernel
theorem dX11_word_0 : decode cX11_word 0 = .ok (.iload_n 1, 1) := by decide +kernel
theorem dX11_word_1 : decode cX11_word 1 = .ok (.i2l, 1) := by decide +kernel
theorem dX11_word_2 : decode cX11_word 2 = .ok (.lconst 0, 1) := by decide +kernel
theorem dX11_word_3 : decode cX11_word 3 = .ok (.ldc2_w 110, 3) := by decide +kernel
theorem dX11_word_6 : decode cX11_word 6 = .ok (.invokestatic 104, 3) := by decide +kernel
theorem dX11_word_9 : decode cX11_word 9 = .ok (.ifCond .ne 5, 3) := by decide +kernel
theorem dX11_word_12 : decode cX11_word 12 = .ok (.iconst (-1), 1) := by decide +kernel
theorem dX11_word_13 : decode cX11_word 13 = .ok (.ireturn, 1) := by decide +kernel
theorem dX11_word_14 : decode cX11_word 14 = .ok (.aload_n 0, 1) := by decide +kernel
theorem dX11_word_15 : decode cX11_word 15 = .ok (.invokevirtual 145, 3) := by decide +kernel
theorem dX11_word_18 : decode cX11_word 18 = .ok (.ifCond .lt 6, 3) := by decide +kernel
theorem dX11_word_21 : decode cX11_word 21 = .ok (.bipush (-5), 2) := by decide +kernel
theorem dX11_word_23 : decode cX11_word 23 = .ok (.ireturn, 1) := by decide +kernel
theorem dX11_word_24 : decode cX11_word 24 = .ok (.iconst 0, 1) := by decide +kernel
theorem dX11_word_25 : decode cX11_word 25 = .ok (.istore_n 2, 1) := by decide +kernel
theorem dX11_word_26 : decode cX11_word 26 = .ok (.iload_n 2, 1) := by decide +kernel
theorem dX11_word_27 : decode cX11_word 27 = .ok (.aload_n 0, 1) := by decide +kernel
theorem dX11_word_28 : decode cX11_word 28 = .ok (.getfield 94, 3) := by decide +kernel
theorem dX11_word_31 : decode cX11_word 31 = .ok (.if_icmp .ge 28, 3) := by decide +kernel
theorem dX11_word_34 : decode cX11_word 34 = .ok (.aload_n 0, 1) := by decide +kernel
theorem dX11_word_35 : decode cX11_word 35 = .ok (.getfield 25, 3) := by decide +kernel
theorem dX11_word_38 : decode cX11_word 38 = .ok (.iconst 5, 1) := by decide +kernel
theorem dX11_word_39 : decode cX11_word 39 = .ok (.iload_n 1, 1) := by decide +kernel
theorem dX11_word_40 : decode cX11_word 40 = .ok (.imul, 1) := by decide +kernel
theorem dX11_word_41 : decode cX11_word 41 = .ok (.iload_n 2, 1) := by decide +kernel
theorem dX11_word_42 : decode cX11_word 42 = .ok (.iadd, 1) := by decide +kernel
theorem dX11_word_43 : decode cX11_word 43 = .ok (.aload_n 0, 1) := by decide +kernel
theorem dX11_word_44 : decode cX11_word 44 = .ok (.getfield 37, 3) := by decide +kernel
theorem dX11_word_47 : decode cX11_word 47 = .ok (.iload_n 2, 1) := by decide +kernel
theorem dX11_word_48 : decode cX11_word 48 = .ok (.iaload, 1) := by decide +kernel
theorem dX11_word_49 : decode cX11_word 49 = .ok (.bipush 48, 2) := by decide +kernel
theorem dX11_word_51 : decode cX11_word 51 = .ok (.isub, 1) := by decide +kernel
theorem dX11_word_52 : decode cX11_word 52 = .ok (.iastore, 1) := by decide +kernel
theorem dX11_word_53 : decode cX11_word 53 = .ok (.iinc 2 1, 3) := by decide +kernel
theorem dX11_word_56 : decode cX11_word 56 = .ok (.goto (-30), 3) := by decide +kernel
theorem dX11_word_59 : decode cX11_word 59 = .ok (.aload_n 0, 1) := by decide +kernel
theorem dX11_word_60 : decode cX11_word 60 = .ok (.dup, 1) := by decide +kernel
theorem dX11_word_61 : decode cX11_word 61 = .ok (.getfield 98, 3) := by decide +kernel
theorem dX11_word_64 : decode cX11_word 64 = .ok (.iconst 1, 1) := by decide +kernel
theorem dX11_word_65 : decode cX11_word 65 = .ok (.iload_n 1, 1) := by decide +kernel
theorem dX11_word_66 : decode cX11_word 66 = .ok (.ishl, 1) := by decide +kernel
theorem dX11_word_67 : decode cX11_word 67 = .ok (.ior, 1) := by decide +kernel
theorem dX11_word_68 : decode cX11_word 68 = .ok (.putfield 98, 3) := by decide +kernel
theorem dX11_word_71 : decode cX11_word 71 = .ok (.aload_n 0, 1) := by decide +kernel
theorem dX11_word_72 : decode cX11_word 72 = .ok (.iconst 0, 1) := by decide +kernel
theorem dX11_word_73 : decode cX11_word 73 = .ok (.putfield 128, 3) := by decide +kernel
theorem dX11_word_76 : decode cX11_word 76 = .ok (.aload_n 0, 1) := by decide +kernel
theorem dX11_word_77 : decode cX11_word 77 = .ok (.getfield 98, 3) := by decide +kernel
theorem dX11_word_80 : decode cX11_word 80 = .ok (.invokestatic 152, 3) := by decide +kernel
theorem dX11_word_83 : decode cX11_word 83 = .ok (.ireturn, 1) := by decide +kernel
theorem dX11_unword_0 : decode cX11_unword 0 = .ok (.aload_n 0, 1) := by decide +kernel
theorem dX11_unword_1 : decode cX11_unword 1 = .ok (.iload_n 1, 1) := by decide +kernel
theorem dX11_unword_2 : decode cX11_unword 2 = .ok (.invokevirtual 155, 3) := by decide +kernel
theorem dX11_unword_5 : decode cX11_unword 5 = .ok (.ifCond .ne 5, 3) := by decide +kernel
theorem dX11_unword_8 : decode cX11_unword 8 = .ok (.iconst (-1), 1) := by decide +kernel
theorem dX11_unword_9 : decode cX11_unword 9 = .ok (.ireturn, 1) := by decide +kernel
theorem dX11_unword_10 : decode cX11_unword 10 = .ok (.aload_n 0, 1) := by decide +kernel
theorem dX11_unword_11 : decode cX11_unword 11 = .ok (.dup, 1) := by decide +kernel
theorem dX11_unword_12 : decode cX11_unword 12 = .ok (.getfield 98, 3) := by decide +kernel
theorem dX11_unword_15 : decode cX11_unword 15 = .ok (.iconst 1, 1) := by decide +kernel
theorem dX11_unword_16 : decode cX11_unword 16 = .ok (.iload_n 1, 1) := by decide +kernel
theorem dX11_unword_17 : decode cX11_unword 17 = .ok (.ishl, 1) := by decide +kernel
theorem dX11_unword_18 : decode cX11_unword 18 = .ok (.iconst (-1), 1) := by decide +kernel
theorem dX11_unword_19 : decode cX11_unword 19 = .ok (.ixor, 1) := by decide +kernel
theorem dX11_unword_20 : decode cX11_unword 20 = .ok (.iand, 1) := by decide +kernel
theorem dX11_unword_21 : decode cX11_unword 21 = .ok (.putfield 98, 3) := by decide +kernel
theorem dX11_unword_24 : decode cX11_unword 24 = .ok (.aload_n 0, 1) := by decide +kernel
theorem dX11_unword_25 : decode cX11_unword 25 = .ok (.getfield 98, 3) := by decide +kernel
theorem dX11_unword_28 : decode cX11_unword 28 = .ok (.invokestatic 152, 3) := by decide +kernel
theorem dX11_unword_31 : decode cX11_unword 31 = .ok (.ireturn, 1) := by decide +kernel
theorem dX11_heeds_0 : decode cX11_heeds 0 = .ok (.aload_n 0, 1) := by decide +kernel
theorem dX11_heeds_1 : decode cX11_heeds 1 = .ok (.getfield 25, 3) := by decide +kernel
theorem dX11_heeds_4 : decode cX11_heeds 4 = .ok (.iconst 5, 1) := by decide +kernel
theorem dX11_heeds_5 : decode cX11_heeds 5 = .ok (.iload_n 1, 1) := by decide +kernel
theorem dX11_heeds_6 : decode cX11_heeds 6 = .ok (.imul, 1) := by decide +kernel
theorem dX11_heeds_7 : decode cX11_heeds 7 = .ok (.iload_n 2, 1) := by decide +kernel
theorem dX11_heeds_8 : decode cX11_heeds 8 = .ok (.iadd, 1) := by decide +kernel
theorem dX11_heeds_9 : decode cX11_heeds 9 = .ok (.iaload, 1) := by decide +kernel
theorem dX11_heeds_10 : decode cX11_heeds 10 = .ok (.istore 4, 2) := by decide +kernel
theorem dX11_heeds_12 : decode cX11_heeds 12 = .ok (.aload_n 0, 1) := by decide +kernel
theorem dX11_heeds_13 : decode cX11_heeds 13 = .ok (.getfield 19, 3) := by decide +kernel
theorem dX11_heeds_16 : decode cX11_heeds 16 = .ok (.iload_n 2, 1) := by decide +kernel
theorem dX11_heeds_17 : decode cX11_heeds 17 = .ok (.iaload, 1) := by decide +kernel
theorem dX11_heeds_18 : decode cX11_heeds 18 = .ok (.iconst 1, 1) := by decide +kernel
theorem dX11_heeds_19 : decode cX11_heeds 19 = .ok (.if_icmp .eq 19, 3) := by decide +kernel
theorem dX11_heeds_22 : decode cX11_heeds 22 = .ok (.aload_n 0, 1) := by decide +kernel
theorem dX11_heeds_23 : decode cX11_heeds 23 = .ok (.getfield 19, 3) := by decide +kernel
theorem dX11_heeds_26 : decode cX11_heeds 26 = .ok (.iload_n 2, 1) := by decide +kernel
theorem dX11_heeds_27 : decode cX11_heeds 27 = .ok (.iaload, 1) := by decide +kernel
theorem dX11_heeds_28 : decode cX11_heeds 28 = .ok (.iconst 3, 1) := by decide +kernel
theorem dX11_heeds_29 : decode cX11_heeds 29 = .ok (.if_icmp .ne 13, 3) := by decide +kernel
theorem dX11_heeds_32 : decode cX11_heeds 32 = .ok (.iload_n 3, 1) := by decide +kernel
theorem dX11_heeds_33 : decode cX11_heeds 33 = .ok (.iconst 2, 1) := by decide +kernel
theorem dX11_heeds_34 : decode cX11_heeds 34 = .ok (.irem, 1) := by decide +kernel
theorem dX11_heeds_35 : decode cX11_heeds 35 = .ok (.ifCond .ne 7, 3) := by decide +kernel
theorem dX11_heeds_38 : decode cX11_heeds 38 = .ok (.iconst 0, 1) := by decide +kernel
theorem dX11_heeds_39 : decode cX11_heeds 39 = .ok (.goto 5, 3) := by decide +kernel
theorem dX11_heeds_42 : decode cX11_heeds 42 = .ok (.iload 4, 2) := by decide +kernel
theorem dX11_heeds_44 : decode cX11_heeds 44 = .ok (.ireturn, 1) := by decide +kernel
theorem dX11_turned_0 : decode cX11_turned 0 = .ok (.iload_n 2, 1) := by decide +kernel
theorem dX11_turned_1 : decode cX11_turned 1 = .ok (.aload_n 0, 1) := by decide +kernel
theorem dX11_turned_2 : decode cX11_turned 2 = .ok (.getfield 19, 3) := by decide +kernel
theorem dX11_turned_5 : decode cX11_turned 5 = .ok (.iload_n 1, 1) := by decide +kernel
theorem dX11_turned_6 : decode cX11_turned 6 = .ok (.iaload, 1) := by decide +kernel
theorem dX11_turned_7 : decode cX11_turned 7 = .ok (.iconst 2, 1) := by decide +kernel
theorem dX11_turned_8 : decode cX11_turned 8 = .ok (.if_icmp .ne 9, 3) := by decide +kernel
theorem dX11_turned_11 : decode cX11_turned 11 = .ok (.iconst 4, 1) := by decide +kernel
theorem dX11_turned_12 : decode cX11_turned 12 = .ok (.iload_n 3, 1) := by decide +kernel
theorem dX11_turned_13 : decode cX11_turned 13 = .ok (.isub, 1) := by decide +kernel
theorem dX11_turned_14 : decode cX11_turned 14 = .ok (.goto 4, 3) := by decide +kernel
theorem dX11_turned_17 : decode cX11_turned 17 = .ok (.iload_n 3, 1) := by decide +kernel
theorem dX11_turned_18 : decode cX11_turned 18 = .ok (.iadd, 1) := by decide +kernel
theorem dX11_turned_19 : decode cX11_turned 19 = .ok (.iconst 4, 1) := by decide +kernel
theorem dX11_turned_20 : decode cX11_turned 20 = .ok (.irem, 1) := by decide +kernel
theorem dX11_turned_21 : decode cX11_turned 21 = .ok (.ireturn, 1) := by decide +kernel
theorem dX11_sayWord_0 : decode cX11_sayWord 0 = .ok (.iconst 0, 1) := by decide +kernel
theorem dX11_sayWord_1 : decode cX11_sayWord 1 = .ok (.istore_n 2, 1) := by decide +kernel
theorem dX11_sayWord_2 : decode cX11_sayWord 2 = .ok (.iload_n 2, 1) := by decide +kernel
theorem dX11_sayWord_3 : decode cX11_sayWord 3 = .ok (.aload_n 0, 1) := by decide +kernel
theorem dX11_sayWord_4 : decode cX11_sayWord 4 = .ok (.getfield 94, 3) := by decide +kernel
theorem dX11_sayWord_7 : decode cX11_sayWord 7 = .ok (.if_icmp .ge 128, 3) := by decide +kernel
theorem dX11_sayWord_10 : decode cX11_sayWord 10 = .ok (.aload_n 0, 1) := by decide +kernel
theorem dX11_sayWord_11 : decode cX11_sayWord 11 = .ok (.iload_n 1, 1) := by decide +kernel
theorem dX11_sayWord_12 : decode cX11_sayWord 12 = .ok (.iload_n 2, 1) := by decide +kernel
theorem dX11_sayWord_13 : decode cX11_sayWord 13 = .ok (.aload_n 0, 1) := by decide +kernel
theorem dX11_sayWord_14 : decode cX11_sayWord 14 = .ok (.getfield 7, 3) := by decide +kernel
theorem dX11_sayWord_17 : decode cX11_sayWord 17 = .ok (.iload_n 2, 1) := by decide +kernel
theorem dX11_sayWord_18 : decode cX11_sayWord 18 = .ok (.iaload, 1) := by decide +kernel
theorem dX11_sayWord_19 : decode cX11_sayWord 19 = .ok (.invokevirtual 158, 3) := by decide +kernel
theorem dX11_sayWord_22 : decode cX11_sayWord 22 = .ok (.istore_n 3, 1) := by decide +kernel
theorem dX11_sayWord_23 : decode cX11_sayWord 23 = .ok (.aload_n 0, 1) := by decide +kernel
theorem dX11_sayWord_24 : decode cX11_sayWord 24 = .ok (.getfield 13, 3) := by decide +kernel
theorem dX11_sayWord_27 : decode cX11_sayWord 27 = .ok (.iload_n 2, 1) := by decide +kernel
theorem dX11_sayWord_28 : decode cX11_sayWord 28 = .ok (.iaload, 1) := by decide +kernel
theorem dX11_sayWord_29 : decode cX11_sayWord 29 = .ok (.iload_n 3, 1) := by decide +kernel
theorem dX11_sayWord_30 : decode cX11_sayWord 30 = .ok (.if_icmp .lt 7, 3) := by decide +kernel
theorem dX11_sayWord_33 : decode cX11_sayWord 33 = .ok (.iconst 1, 1) := by decide +kernel
theorem dX11_sayWord_34 : decode cX11_sayWord 34 = .ok (.goto 4, 3) := by decide +kernel
theorem dX11_sayWord_37 : decode cX11_sayWord 37 = .ok (.iconst 0, 1) := by decide +kernel
theorem dX11_sayWord_38 : decode cX11_sayWord 38 = .ok (.istore 4, 2) := by decide +kernel
theorem dX11_sayWord_40 : decode cX11_sayWord 40 = .ok (.aload_n 0, 1) := by decide +kernel
theorem dX11_sayWord_41 : decode cX11_sayWord 41 = .ok (.dup, 1) := by decide +kernel
theorem dX11_sayWord_42 : decode cX11_sayWord 42 = .ok (.getfield 162, 3) := by decide +kernel
theorem dX11_sayWord_45 : decode cX11_sayWord 45 = .ok (.iload 4, 2) := by decide +kernel
theorem dX11_sayWord_47 : decode cX11_sayWord 47 = .ok (.ifCond .eq 7, 3) := by decide +kernel
theorem dX11_sayWord_50 : decode cX11_sayWord 50 = .ok (.iconst 0, 1) := by decide +kernel
theorem dX11_sayWord_51 : decode cX11_sayWord 51 = .ok (.goto 4, 3) := by decide +kernel
theorem dX11_sayWord_54 : decode cX11_sayWord 54 = .ok (.iconst 1, 1) := by decide +kernel
theorem dX11_sayWord_55 : decode cX11_sayWord 55 = .ok (.iadd, 1) := by decide +kernel
theorem dX11_sayWord_56 : decode cX11_sayWord 56 = .ok (.putfield 162, 3) := by decide +kernel
theorem dX11_sayWord_59 : decode cX11_sayWord 59 = .ok (.aload_n 0, 1) := by decide +kernel
theorem dX11_sayWord_60 : decode cX11_sayWord 60 = .ok (.dup, 1) := by decide +kernel
theorem dX11_sayWord_61 : decode cX11_sayWord 61 = .ok (.getfield 165, 3) := by decide +kernel
theorem dX11_sayWord_64 : decode cX11_sayWord 64 = .ok (.iload 4, 2) := by decide +kernel
theorem dX11_sayWord_66 : decode cX11_sayWord 66 = .ok (.ifCond .eq 7, 3) := by decide +kernel
theorem dX11_sayWord_69 : decode cX11_sayWord 69 = .ok (.iload_n 3, 1) := by decide +kernel
theorem dX11_sayWord_70 : decode cX11_sayWord 70 = .ok (.goto 4, 3) := by decide +kernel
theorem dX11_sayWord_73 : decode cX11_sayWord 73 = .ok (.iconst 0, 1) := by decide +kernel
theorem dX11_sayWord_74 : decode cX11_sayWord 74 = .ok (.iadd, 1) := by decide +kernel
theorem dX11_sayWord_75 : decode cX11_sayWord 75 = .ok (.putfield 165, 3) := by decide +kernel
theorem dX11_sayWord_78 : decode cX11_sayWord 78 = .ok (.aload_n 0, 1) := by decide +kernel
theorem dX11_sayWord_79 : decode cX11_sayWord 79 = .ok (.getfield 7, 3) := by decide +kernel
theorem dX11_sayWord_82 : decode cX11_sayWord 82 = .ok (.iload_n 2, 1) := by decide +kernel
theorem dX11_sayWord_83 : decode cX11_sayWord 83 = .ok (.iload 4, 2) := by decide +kernel
theorem dX11_sayWord_85 : decode cX11_sayWord 85 = .ok (.ifCond .eq 18, 3) := by decide +kernel
theorem dX11_sayWord_88 : decode cX11_sayWord 88 = .ok (.aload_n 0, 1) := by decide +kernel
theorem dX11_sayWord_89 : decode cX11_sayWord 89 = .ok (.iload_n 2, 1) := by decide +kernel
theorem dX11_sayWord_90 : decode cX11_sayWord 90 = .ok (.aload_n 0, 1) := by decide +kernel
theorem dX11_sayWord_91 : decode cX11_sayWord 91 = .ok (.getfield 7, 3) := by decide +kernel
theorem dX11_sayWord_94 : decode cX11_sayWord 94 = .ok (.iload_n 2, 1) := by decide +kernel
theorem dX11_sayWord_95 : decode cX11_sayWord 95 = .ok (.iaload, 1) := by decide +kernel
theorem dX11_sayWord_96 : decode cX11_sayWord 96 = .ok (.iload_n 3, 1) := by decide +kernel
theorem dX11_sayWord_97 : decode cX11_sayWord 97 = .ok (.invokevirtual 168, 3) := by decide +kernel
theorem dX11_sayWord_100 : decode cX11_sayWord 100 = .ok (.goto 9, 3) := by decide +kernel
theorem dX11_sayWord_103 : decode cX11_sayWord 103 = .ok (.aload_n 0, 1) := by decide +kernel
theorem dX11_sayWord_104 : decode cX11_sayWord 104 = .ok (.getfield 7, 3) := by decide +kernel
theorem dX11_sayWord_107 : decode cX11_sayWord 107 = .ok (.iload_n 2, 1) := by decide +kernel
theorem dX11_sayWord_108 : decode cX11_sayWord 108 = .ok (.iaload, 1) := by decide +kernel
theorem dX11_sayWord_109 : decode cX11_sayWord 109 = .ok (.iastore, 1) := by decide +kernel
theorem dX11_sayWord_110 : decode cX11_sayWord 110 = .ok (.aload_n 0, 1) := by decide +kernel
theorem dX11_sayWord_111 : decode cX11_sayWord 111 = .ok (.getfield 13, 3) := by decide +kernel
theorem dX11_sayWord_114 : decode cX11_sayWord 114 = .ok (.iload_n 2, 1) := by decide +kernel
theorem dX11_sayWord_115 : decode cX11_sayWord 115 = .ok (.dup2, 1) := by decide +kernel
theorem dX11_sayWord_116 : decode cX11_sayWord 116 = .ok (.iaload, 1) := by decide +kernel
theorem dX11_sayWord_117 : decode cX11_sayWord 117 = .ok (.iload 4, 2) := by decide +kernel
theorem dX11_sayWord_119 : decode cX11_sayWord 119 = .ok (.ifCond .eq 7, 3) := by decide +kernel
theorem dX11_sayWord_122 : decode cX11_sayWord 122 = .ok (.iload_n 3, 1) := by decide +kernel
theorem dX11_sayWord_123 : decode cX11_sayWord 123 = .ok (.goto 4, 3) := by decide +kernel
theorem dX11_sayWord_126 : decode cX11_sayWord 126 = .ok (.iconst 0, 1) := by decide +kernel
theorem dX11_sayWord_127 : decode cX11_sayWord 127 = .ok (.isub, 1) := by decide +kernel
theorem dX11_sayWord_128 : decode cX11_sayWord 128 = .ok (.iastore, 1) := by decide +kernel
theorem dX11_sayWord_129 : decode cX11_sayWord 129 = .ok (.iinc 2 1, 3) := by decide +kernel
theorem dX11_sayWord_132 : decode cX11_sayWord 132 = .ok (.goto (-130), 3) := by decide +kernel
theorem dX11_sayWord_135 : decode cX11_sayWord 135 = .ok (.return_, 1) := by decide +kernel
theorem dX11_thunder_0 : decode cX11_thunder 0 = .ok (.iconst 0, 1) := by decide +kernel
theorem dX11_thunder_1 : decode cX11_thunder 1 = .ok (.istore_n 1, 1) := by decide +kernel
theorem dX11_thunder_2 : decode cX11_thunder 2 = .ok (.iload_n 1, 1) := by decide +kernel
theorem dX11_thunder_3 : decode cX11_thunder 3 = .ok (.aload_n 0, 1) := by decide +kernel
theorem dX11_thunder_4 : decode cX11_thunder 4 = .ok (.getfield 94, 3) := by decide +kernel
theorem dX11_thunder_7 : decode cX11_thunder 7 = .ok (.if_icmp .ge 25, 3) := by decide +kernel
theorem dX11_thunder_10 : decode cX11_thunder 10 = .ok (.aload_n 0, 1) := by decide +kernel
theorem dX11_thunder_11 : decode cX11_thunder 11 = .ok (.getfield 7, 3) := by decide +kernel
theorem dX11_thunder_14 : decode cX11_thunder 14 = .ok (.iload_n 1, 1) := by decide +kernel
theorem dX11_thunder_15 : decode cX11_thunder 15 = .ok (.aload_n 0, 1) := by decide +kernel
theorem dX11_thunder_16 : decode cX11_thunder 16 = .ok (.getfield 7, 3) := by decide +kernel
theorem dX11_thunder_19 : decode cX11_thunder 19 = .ok (.iload_n 1, 1) := by decide +kernel
theorem dX11_thunder_20 : decode cX11_thunder 20 = .ok (.iaload, 1) := by decide +kernel
theorem dX11_thunder_21 : decode cX11_thunder 21 = .ok (.iconst 2, 1) := by decide +kernel
theorem dX11_thunder_22 : decode cX11_thunder 22 = .ok (.iadd, 1) := by decide +kernel
theorem dX11_thunder_23 : decode cX11_thunder 23 = .ok (.iconst 4, 1) := by decide +kernel
theorem dX11_thunder_24 : decode cX11_thunder 24 = .ok (.irem, 1) := by decide +kernel
theorem dX11_thunder_25 : decode cX11_thunder 25 = .ok (.iastore, 1) := by decide +kernel
theorem dX11_thunder_26 : decode cX11_thunder 26 = .ok (.iinc 1 1, 3) := by decide +kernel
theorem dX11_thunder_29 : decode cX11_thunder 29 = .ok (.goto (-27), 3) := by decide +kernel
theorem dX11_thunder_32 : decode cX11_thunder 32 = .ok (.return_, 1) := by decide +kernel
theorem dX11_night_0 : decode cX11_night 0 = .ok (.iconst 0, 1) := by decide +kernel
theorem dX11_night_1 : decode cX11_night 1 = .ok (.istore_n 1, 1) := by decide +kernel
theorem dX11_night_2 : decode cX11_night 2 = .ok (.iload_n 1, 1) := by decide +kernel
theorem dX11_night_3 : decode cX11_night 3 = .ok (.aload_n 0, 1) := by decide +kernel
theorem dX11_night_4 : decode cX11_night 4 = .ok (.getfield 94, 3) := by decide +kernel
theorem dX11_night_7 : decode cX11_night 7 = .ok (.if_icmp .ge 21, 3) := by decide +kernel
theorem dX11_night_10 : decode cX11_night 10 = .ok (.aload_n 0, 1) := by decide +kernel
theorem dX11_night_11 : decode cX11_night 11 = .ok (.getfield 13, 3) := by decide +kernel
theorem dX11_night_14 : decode cX11_night 14 = .ok (.iload_n 1, 1) := by decide +kernel
theorem dX11_night_15 : decode cX11_night 15 = .ok (.aload_n 0, 1) := by decide +kernel
theorem dX11_night_16 : decode cX11_night 16 = .ok (.getfield 16, 3) := by decide +kernel
theorem dX11_night_19 : decode cX11_night 19 = .ok (.iload_n 1, 1) := by decide +kernel
theorem dX11_night_20 : decode cX11_night 20 = .ok (.iaload, 1) := by decide +kernel
theorem dX11_night_21 : decode cX11_night 21 = .ok (.iastore, 1) := by decide +kernel
theorem dX11_night_22 : decode cX11_night 22 = .ok (.iinc 1 1, 3) := by decide +kernel
theorem dX11_night_25 : decode cX11_night 25 = .ok (.goto (-23), 3) := by decide +kernel
theorem dX11_night_28 : decode cX11_night 28 = .ok (.return_, 1) := by decide +kernel
theorem dX11_keepNow_0 : decode cX11_keepNow 0 = .ok (.iconst 0, 1) := by decide +kernel
theorem dX11_keepNow_1 : decode cX11_keepNow 1 = .ok (.istore_n 1, 1) := by decide +kernel
theorem dX11_keepNow_2 : decode cX11_keepNow 2 = .ok (.iload_n 1, 1) := by decide +kernel
theorem dX11_keepNow_3 : decode cX11_keepNow 3 = .ok (.iconst 5, 1) := by decide +kernel
theorem dX11_keepNow_4 : decode cX11_keepNow 4 = .ok (.if_icmp .ge 33, 3) := by decide +kernel
theorem dX11_keepNow_7 : decode cX11_keepNow 7 = .ok (.aload_n 0, 1) := by decide +kernel
theorem dX11_keepNow_8 : decode cX11_keepNow 8 = .ok (.getfield 43, 3) := by decide +kernel
theorem dX11_keepNow_11 : decode cX11_keepNow 11 = .ok (.iload_n 1, 1) := by decide +kernel
theorem dX11_keepNow_12 : decode cX11_keepNow 12 = .ok (.aload_n 0, 1) := by decide +kernel
theorem dX11_keepNow_13 : decode cX11_keepNow 13 = .ok (.getfield 7, 3) := by decide +kernel
theorem dX11_keepNow_16 : decode cX11_keepNow 16 = .ok (.iload_n 1, 1) := by decide +kernel
theorem dX11_keepNow_17 : decode cX11_keepNow 17 = .ok (.iaload, 1) := by decide +kernel
theorem dX11_keepNow_18 : decode cX11_keepNow 18 = .ok (.iastore, 1) := by decide +kernel
theorem dX11_keepNow_19 : decode cX11_keepNow 19 = .ok (.aload_n 0, 1) := by decide +kernel
theorem dX11_keepNow_20 : decode cX11_keepNow 20 = .ok (.getfield 46, 3) := by decide +kernel
theorem dX11_keepNow_23 : decode cX11_keepNow 23 = .ok (.iload_n 1, 1) := by decide +kernel
theorem dX11_keepNow_24 : decode cX11_keepNow 24 = .ok (.aload_n 0, 1) := by decide +kernel
theorem dX11_keepNow_25 : decode cX11_keepNow 25 = .ok (.getfield 13, 3) := by decide +kernel
theorem dX11_keepNow_28 : decode cX11_keepNow 28 = .ok (.iload_n 1, 1) := by decide +kernel
theorem dX11_keepNow_29 : decode cX11_keepNow 29 = .ok (.iaload, 1) := by decide +kernel
theorem dX11_keepNow_30 : decode cX11_keepNow 30 = .ok (.iastore, 1) := by decide +kernel
theorem dX11_keepNow_31 : decode cX11_keepNow 31 = .ok (.iinc 1 1, 3) := by decide +kernel
theorem dX11_keepNow_34 : decode cX11_keepNow 34 = .ok (.goto (-32), 3) := by decide +kernel
theorem dX11_keepNow_37 : decode cX11_keepNow 37 = .ok (.return_, 1) := by decide +kernel
theorem dX11_putBack_0 : decode cX11_putBack 0 = .ok (.iconst 0, 1) := by decide +kernel
theorem dX11_putBack_1 : decode cX11_putBack 1 = .ok (.istore_n 1, 1) := by decide +kernel
theorem dX11_putBack_2 : decode cX11_putBack 2 = .ok (.iload_n 1, 1) := by decide +kernel
theorem dX11_putBack_3 : decode cX11_putBack 3 = .ok (.iconst 5, 1) := by decide +kernel
theorem dX11_putBack_4 : decode cX11_putBack 4 = .ok (.if_icmp .ge 33, 3) := by decide +kernel
theorem dX11_putBack_7 : decode cX11_putBack 7 = .ok (.aload_n 0, 1) := by decide +kernel
theorem dX11_putBack_8 : decode cX11_putBack 8 = .ok (.getfield 7, 3) := by decide +kernel
theorem dX11_putBack_11 : decode cX11_putBack 11 = .ok (.iload_n 1, 1) := by decide +kernel
theorem dX11_putBack_12 : decode cX11_putBack 12 = .ok (.aload_n 0, 1) := by decide +kernel
theorem dX11_putBack_13 : decode cX11_putBack 13 = .ok (.getfield 43, 3) := by decide +kernel
theorem dX11_putBack_16 : decode cX11_putBack 16 = .ok (.iload_n 1, 1) := by decide +kernel
theorem dX11_putBack_17 : decode cX11_putBack 17 = .ok (.iaload, 1) := by decide +kernel
theorem dX11_putBack_18 : decode cX11_putBack 18 = .ok (.iastore, 1) := by decide +kernel
theorem dX11_putBack_19 : decode cX11_putBack 19 = .ok (.aload_n 0, 1) := by decide +kernel
theorem dX11_putBack_20 : decode cX11_putBack 20 = .ok (.getfield 13, 3) := by decide +kernel
theorem dX11_putBack_23 : decode cX11_putBack 23 = .ok (.iload_n 1, 1) := by decide +kernel
theorem dX11_putBack_24 : decode cX11_putBack 24 = .ok (.aload_n 0, 1) := by decide +kernel
theorem dX11_putBack_25 : decode cX11_putBack 25 = .ok (.getfield 46, 3) := by decide +kernel
theorem dX11_putBack_28 : decode cX11_putBack 28 = .ok (.iload_n 1, 1) := by decide +kernel
theorem dX11_putBack_29 : decode cX11_putBack 29 = .ok (.iaload, 1) := by decide +kernel
theorem dX11_putBack_30 : decode cX11_putBack 30 = .ok (.iastore, 1) := by decide +kernel
theorem dX11_putBack_31 : decode cX11_putBack 31 = .ok (.iinc 1 1, 3) := by decide +kernel
theorem dX11_putBack_34 : decode cX11_putBack 34 = .ok (.goto (-32), 3) := by decide +kernel
theorem dX11_putBack_37 : decode cX11_putBack 37 = .ok (.return_, 1) := by decide +kernel
theorem dX11_happen_0 : decode cX11_happen 0 = .ok (.iload_n 1, 1) := by decide +kernel
theorem dX11_happen_1 : decode cX11_happen 1 = .ok (.bipush 6, 2) := by decide +kernel
theorem dX11_happen_3 : decode cX11_happen 3 = .ok (.if_icmp .ge 11, 3) := by decide +kernel
theorem dX11_happen_6 : decode cX11_happen 6 = .ok (.aload_n 0, 1) := by decide +kernel
theorem dX11_happen_7 : decode cX11_happen 7 = .ok (.iload_n 1, 1) := by decide +kernel
theorem dX11_happen_8 : decode cX11_happen 8 = .ok (.invokevirtual 171, 3) := by decide +kernel
theorem dX11_happen_11 : decode cX11_happen 11 = .ok (.goto 39, 3) := by decide +kernel
theorem dX11_happen_14 : decode cX11_happen 14 = .ok (.iload_n 1, 1) := by decide +kernel
theorem dX11_happen_15 : decode cX11_happen 15 = .ok (.bipush 6, 2) := by decide +kernel
theorem dX11_happen_17 : decode cX11_happen 17 = .ok (.if_icmp .ne 10, 3) := by decide +kernel
theorem dX11_happen_20 : decode cX11_happen 20 = .ok (.aload_n 0, 1) := by decide +kernel
theorem dX11_happen_21 : decode cX11_happen 21 = .ok (.invokevirtual 174, 3) := by decide +kernel
theorem dX11_happen_24 : decode cX11_happen 24 = .ok (.goto 26, 3) := by decide +kernel
theorem dX11_happen_27 : decode cX11_happen 27 = .ok (.iload_n 1, 1) := by decide +kernel
theorem dX11_happen_28 : decode cX11_happen 28 = .ok (.bipush 7, 2) := by decide +kernel
theorem dX11_happen_30 : decode cX11_happen 30 = .ok (.if_icmp .ne 10, 3) := by decide +kernel
theorem dX11_happen_33 : decode cX11_happen 33 = .ok (.aload_n 0, 1) := by decide +kernel
theorem dX11_happen_34 : decode cX11_happen 34 = .ok (.invokevirtual 177, 3) := by decide +kernel
theorem dX11_happen_37 : decode cX11_happen 37 = .ok (.goto 13, 3) := by decide +kernel
theorem dX11_happen_40 : decode cX11_happen 40 = .ok (.aload_n 0, 1) := by decide +kernel
theorem dX11_happen_41 : decode cX11_happen 41 = .ok (.dup, 1) := by decide +kernel
theorem dX11_happen_42 : decode cX11_happen 42 = .ok (.getfield 180, 3) := by decide +kernel
theorem dX11_happen_45 : decode cX11_happen 45 = .ok (.iconst 1, 1) := by decide +kernel
theorem dX11_happen_46 : decode cX11_happen 46 = .ok (.iadd, 1) := by decide +kernel
theorem dX11_happen_47 : decode cX11_happen 47 = .ok (.putfield 180, 3) := by decide +kernel
theorem dX11_happen_50 : decode cX11_happen 50 = .ok (.return_, 1) := by decide +kernel
theorem dX11_whyNot_0 : decode cX11_whyNot 0 = .ok (.iload_n 1, 1) := by decide +kernel
theorem dX11_whyNot_1 : decode cX11_whyNot 1 = .ok (.bipush 6, 2) := by decide +kernel
theorem dX11_whyNot_3 : decode cX11_whyNot 3 = .ok (.if_icmp .ge 17, 3) := by decide +kernel
theorem dX11_whyNot_6 : decode cX11_whyNot 6 = .ok (.aload_n 0, 1) := by decide +kernel
theorem dX11_whyNot_7 : decode cX11_whyNot 7 = .ok (.iload_n 1, 1) := by decide +kernel
theorem dX11_whyNot_8 : decode cX11_whyNot 8 = .ok (.invokevirtual 155, 3) := by decide +kernel
theorem dX11_whyNot_11 : decode cX11_whyNot 11 = .ok (.ifCond .eq 7, 3) := by decide +kernel
theorem dX11_whyNot_14 : decode cX11_whyNot 14 = .ok (.iconst 0, 1) := by decide +kernel
theorem dX11_whyNot_15 : decode cX11_whyNot 15 = .ok (.goto 4, 3) := by decide +kernel
theorem dX11_whyNot_18 : decode cX11_whyNot 18 = .ok (.iconst 1, 1) := by decide +kernel
theorem dX11_whyNot_19 : decode cX11_whyNot 19 = .ok (.ireturn, 1) := by decide +kernel
theorem dX11_whyNot_20 : decode cX11_whyNot 20 = .ok (.iload_n 1, 1) := by decide +kernel
theorem dX11_whyNot_21 : decode cX11_whyNot 21 = .ok (.bipush 7, 2) := by decide +kernel
theorem dX11_whyNot_23 : decode cX11_whyNot 23 = .ok (.if_icmp .le 25, 3) := by decide +kernel
theorem dX11_whyNot_26 : decode cX11_whyNot 26 = .ok (.aload_n 0, 1) := by decide +kernel
theorem dX11_whyNot_27 : decode cX11_whyNot 27 = .ok (.getfield 7, 3) := by decide +kernel
theorem dX11_whyNot_30 : decode cX11_whyNot 30 = .ok (.iload_n 1, 1) := by decide +kernel
theorem dX11_whyNot_31 : decode cX11_whyNot 31 = .ok (.bipush 10, 2) := by decide +kernel
theorem dX11_whyNot_33 : decode cX11_whyNot 33 = .ok (.idiv, 1) := by decide +kernel
theorem dX11_whyNot_34 : decode cX11_whyNot 34 = .ok (.iconst 1, 1) := by decide +kernel
theorem dX11_whyNot_35 : decode cX11_whyNot 35 = .ok (.isub, 1) := by decide +kernel
theorem dX11_whyNot_36 : decode cX11_whyNot 36 = .ok (.iaload, 1) := by decide +kernel
theorem dX11_whyNot_37 : decode cX11_whyNot 37 = .ok (.iload_n 1, 1) := by decide +kernel
theorem dX11_whyNot_38 : decode cX11_whyNot 38 = .ok (.bipush 10, 2) := by decide +kernel
theorem dX11_whyNot_40 : decode cX11_whyNot 40 = .ok (.irem, 1) := by decide +kernel
theorem dX11_whyNot_41 : decode cX11_whyNot 41 = .ok (.if_icmp .eq 7, 3) := by decide +kernel
theorem dX11_whyNot_44 : decode cX11_whyNot 44 = .ok (.iconst 2, 1) := by decide +kernel
theorem dX11_whyNot_45 : decode cX11_whyNot 45 = .ok (.goto 4, 3) := by decide +kernel
theorem dX11_whyNot_48 : decode cX11_whyNot 48 = .ok (.iconst 0, 1) := by decide +kernel
theorem dX11_whyNot_49 : decode cX11_whyNot 49 = .ok (.ireturn, 1) := by decide +kernel
theorem dX11_goEvening_0 : decode cX11_goEvening 0 = .ok (.aload_n 0, 1) := by decide +kernel
theorem dX11_goEvening_1 : decode cX11_goEvening 1 = .ok (.bipush (-6), 2) := by decide +kernel
theorem dX11_goEvening_3 : decode cX11_goEvening 3 = .ok (.putfield 183, 3) := by decide +kernel
theorem dX11_goEvening_6 : decode cX11_goEvening 6 = .ok (.aload_n 0, 1) := by decide +kernel
theorem dX11_goEvening_7 : decode cX11_goEvening 7 = .ok (.bipush (-6), 2) := by decide +kernel
theorem dX11_goEvening_9 : decode cX11_goEvening 9 = .ok (.putfield 186, 3) := by decide +kernel
theorem dX11_goEvening_12 : decode cX11_goEvening 12 = .ok (.aload_n 0, 1) := by decide +kernel
theorem dX11_goEvening_13 : decode cX11_goEvening 13 = .ok (.iconst 0, 1) := by decide +kernel
theorem dX11_goEvening_14 : decode cX11_goEvening 14 = .ok (.putfield 165, 3) := by decide +kernel
theorem dX11_goEvening_17 : decode cX11_goEvening 17 = .ok (.aload_n 0, 1) := by decide +kernel
theorem dX11_goEvening_18 : decode cX11_goEvening 18 = .ok (.iconst 0, 1) := by decide +kernel
theorem dX11_goEvening_19 : decode cX11_goEvening 19 = .ok (.putfield 180, 3) := by decide +kernel
theorem dX11_goEvening_22 : decode cX11_goEvening 22 = .ok (.iconst 0, 1) := by decide +kernel
theorem dX11_goEvening_23 : decode cX11_goEvening 23 = .ok (.istore_n 1, 1) := by decide +kernel
theorem dX11_goEvening_24 : decode cX11_goEvening 24 = .ok (.iload_n 1, 1) := by decide +kernel
theorem dX11_goEvening_25 : decode cX11_goEvening 25 = .ok (.aload_n 0, 1) := by decide +kernel
theorem dX11_goEvening_26 : decode cX11_goEvening 26 = .ok (.getfield 135, 3) := by decide +kernel
theorem dX11_goEvening_29 : decode cX11_goEvening 29 = .ok (.if_icmp .ge 69, 3) := by decide +kernel
theorem dX11_goEvening_32 : decode cX11_goEvening 32 = .ok (.aload_n 0, 1) := by decide +kernel
theorem dX11_goEvening_33 : decode cX11_goEvening 33 = .ok (.getfield 183, 3) := by decide +kernel
theorem dX11_goEvening_36 : decode cX11_goEvening 36 = .ok (.ifCond .ge 62, 3) := by decide +kernel
theorem dX11_goEvening_39 : decode cX11_goEvening 39 = .ok (.aload_n 0, 1) := by decide +kernel
theorem dX11_goEvening_40 : decode cX11_goEvening 40 = .ok (.aload_n 0, 1) := by decide +kernel
theorem dX11_goEvening_41 : decode cX11_goEvening 41 = .ok (.getfield 40, 3) := by decide +kernel
theorem dX11_goEvening_44 : decode cX11_goEvening 44 = .ok (.iload_n 1, 1) := by decide +kernel
theorem dX11_goEvening_45 : decode cX11_goEvening 45 = .ok (.iaload, 1) := by decide +kernel
theorem dX11_goEvening_46 : decode cX11_goEvening 46 = .ok (.invokevirtual 189, 3) := by decide +kernel
theorem dX11_goEvening_49 : decode cX11_goEvening 49 = .ok (.istore_n 2, 1) := by decide +kernel
theorem dX11_goEvening_50 : decode cX11_goEvening 50 = .ok (.aload_n 0, 1) := by decide +kernel
theorem dX11_goEvening_51 : decode cX11_goEvening 51 = .ok (.iload_n 2, 1) := by decide +kernel
theorem dX11_goEvening_52 : decode cX11_goEvening 52 = .ok (.ifCond .le 7, 3) := by decide +kernel
theorem dX11_goEvening_55 : decode cX11_goEvening 55 = .ok (.iload_n 1, 1) := by decide +kernel
theorem dX11_goEvening_56 : decode cX11_goEvening 56 = .ok (.goto 5, 3) := by decide +kernel
theorem dX11_goEvening_59 : decode cX11_goEvening 59 = .ok (.bipush (-6), 2) := by decide +kernel
theorem dX11_goEvening_61 : decode cX11_goEvening 61 = .ok (.putfield 183, 3) := by decide +kernel
theorem dX11_goEvening_64 : decode cX11_goEvening 64 = .ok (.aload_n 0, 1) := by decide +kernel
theorem dX11_goEvening_65 : decode cX11_goEvening 65 = .ok (.iload_n 2, 1) := by decide +kernel
theorem dX11_goEvening_66 : decode cX11_goEvening 66 = .ok (.ifCond .le 7, 3) := by decide +kernel
theorem dX11_goEvening_69 : decode cX11_goEvening 69 = .ok (.iload_n 2, 1) := by decide +kernel
theorem dX11_goEvening_70 : decode cX11_goEvening 70 = .ok (.goto 5, 3) := by decide +kernel
theorem dX11_goEvening_73 : decode cX11_goEvening 73 = .ok (.bipush (-6), 2) := by decide +kernel
theorem dX11_goEvening_75 : decode cX11_goEvening 75 = .ok (.putfield 186, 3) := by decide +kernel
theorem dX11_goEvening_78 : decode cX11_goEvening 78 = .ok (.iload_n 2, 1) := by decide +kernel
theorem dX11_goEvening_79 : decode cX11_goEvening 79 = .ok (.ifCond .ne 13, 3) := by decide +kernel
theorem dX11_goEvening_82 : decode cX11_goEvening 82 = .ok (.aload_n 0, 1) := by decide +kernel
theorem dX11_goEvening_83 : decode cX11_goEvening 83 = .ok (.aload_n 0, 1) := by decide +kernel
theorem dX11_goEvening_84 : decode cX11_goEvening 84 = .ok (.getfield 40, 3) := by decide +kernel
theorem dX11_goEvening_87 : decode cX11_goEvening 87 = .ok (.iload_n 1, 1) := by decide +kernel
theorem dX11_goEvening_88 : decode cX11_goEvening 88 = .ok (.iaload, 1) := by decide +kernel
theorem dX11_goEvening_89 : decode cX11_goEvening 89 = .ok (.invokevirtual 192, 3) := by decide +kernel
theorem dX11_goEvening_92 : decode cX11_goEvening 92 = .ok (.iinc 1 1, 3) := by decide +kernel
theorem dX11_goEvening_95 : decode cX11_goEvening 95 = .ok (.goto (-71), 3) := by decide +kernel
theorem dX11_goEvening_98 : decode cX11_goEvening 98 = .ok (.return_, 1) := by decide +kernel
theorem dX11_judge_0 : decode cX11_judge 0 = .ok (.iload_n 1, 1) := by decide +kernel
theorem dX11_judge_1 : decode cX11_judge 1 = .ok (.i2l, 1) := by decide +kernel
theorem dX11_judge_2 : decode cX11_judge 2 = .ok (.lconst 0, 1) := by decide +kernel
theorem dX11_judge_3 : decode cX11_judge 3 = .ok (.ldc2_w 108, 3) := by decide +kernel
theorem dX11_judge_6 : decode cX11_judge 6 = .ok (.invokestatic 104, 3) := by decide +kernel
theorem dX11_judge_9 : decode cX11_judge 9 = .ok (.ifCond .ne 6, 3) := by decide +kernel
theorem dX11_judge_12 : decode cX11_judge 12 = .ok (.bipush (-2), 2) := by decide +kernel
theorem dX11_judge_14 : decode cX11_judge 14 = .ok (.ireturn, 1) := by decide +kernel
theorem dX11_judge_15 : decode cX11_judge 15 = .ok (.aload_n 0, 1) := by decide +kernel
theorem dX11_judge_16 : decode cX11_judge 16 = .ok (.invokevirtual 149, 3) := by decide +kernel
theorem dX11_judge_19 : decode cX11_judge 19 = .ok (.ifCond .lt 6, 3) := by decide +kernel
theorem dX11_judge_22 : decode cX11_judge 22 = .ok (.bipush (-5), 2) := by decide +kernel
theorem dX11_judge_24 : decode cX11_judge 24 = .ok (.ireturn, 1) := by decide +kernel
theorem dX11_judge_25 : decode cX11_judge 25 = .ok (.aload_n 0, 1) := by decide +kernel
theorem dX11_judge_26 : decode cX11_judge 26 = .ok (.invokevirtual 195, 3) := by decide +kernel
theorem dX11_judge_29 : decode cX11_judge 29 = .ok (.aload_n 0, 1) := by decide +kernel
theorem dX11_judge_30 : decode cX11_judge 30 = .ok (.invokevirtual 198, 3) := by decide +kernel
theorem dX11_judge_33 : decode cX11_judge 33 = .ok (.aload_n 0, 1) := by decide +kernel
theorem dX11_judge_34 : decode cX11_judge 34 = .ok (.invokevirtual 201, 3) := by decide +kernel
theorem dX11_judge_37 : decode cX11_judge 37 = .ok (.iload_n 1, 1) := by decide +kernel
theorem dX11_judge_38 : decode cX11_judge 38 = .ok (.iconst 1, 1) := by decide +kernel
theorem dX11_judge_39 : decode cX11_judge 39 = .ok (.if_icmp .le 13, 3) := by decide +kernel
theorem dX11_judge_42 : decode cX11_judge 42 = .ok (.aload_n 0, 1) := by decide +kernel
theorem dX11_judge_43 : decode cX11_judge 43 = .ok (.getfield 183, 3) := by decide +kernel
theorem dX11_judge_46 : decode cX11_judge 46 = .ok (.ifCond .lt 6, 3) := by decide +kernel
theorem dX11_judge_49 : decode cX11_judge 49 = .ok (.bipush (-3), 2) := by decide +kernel
theorem dX11_judge_51 : decode cX11_judge 51 = .ok (.ireturn, 1) := by decide +kernel
theorem dX11_judge_52 : decode cX11_judge 52 = .ok (.iload_n 1, 1) := by decide +kernel
theorem dX11_judge_53 : decode cX11_judge 53 = .ok (.ifCond .ne 10, 3) := by decide +kernel
theorem dX11_judge_56 : decode cX11_judge 56 = .ok (.aload_n 0, 1) := by decide +kernel
theorem dX11_judge_57 : decode cX11_judge 57 = .ok (.getfield 183, 3) := by decide +kernel
theorem dX11_judge_60 : decode cX11_judge 60 = .ok (.goto 31, 3) := by decide +kernel
theorem dX11_judge_63 : decode cX11_judge 63 = .ok (.iload_n 1, 1) := by decide +kernel
theorem dX11_judge_64 : decode cX11_judge 64 = .ok (.iconst 1, 1) := by decide +kernel
theorem dX11_judge_65 : decode cX11_judge 65 = .ok (.if_icmp .ne 10, 3) := by decide +kernel
theorem dX11_judge_68 : decode cX11_judge 68 = .ok (.aload_n 0, 1) := by decide +kernel
theorem dX11_judge_69 : decode cX11_judge 69 = .ok (.getfield 186, 3) := by decide +kernel
theorem dX11_judge_72 : decode cX11_judge 72 = .ok (.goto 19, 3) := by decide +kernel
theorem dX11_judge_75 : decode cX11_judge 75 = .ok (.iload_n 1, 1) := by decide +kernel
theorem dX11_judge_76 : decode cX11_judge 76 = .ok (.iconst 2, 1) := by decide +kernel
theorem dX11_judge_77 : decode cX11_judge 77 = .ok (.if_icmp .ne 10, 3) := by decide +kernel
theorem dX11_judge_80 : decode cX11_judge 80 = .ok (.aload_n 0, 1) := by decide +kernel
theorem dX11_judge_81 : decode cX11_judge 81 = .ok (.getfield 165, 3) := by decide +kernel
theorem dX11_judge_84 : decode cX11_judge 84 = .ok (.goto 7, 3) := by decide +kernel
theorem dX11_judge_87 : decode cX11_judge 87 = .ok (.aload_n 0, 1) := by decide +kernel
theorem dX11_judge_88 : decode cX11_judge 88 = .ok (.getfield 180, 3) := by decide +kernel
theorem dX11_judge_91 : decode cX11_judge 91 = .ok (.ireturn, 1) := by decide +kernel
theorem dX11_behind_0 : decode cX11_behind 0 = .ok (.aload_n 0, 1) := by decide +kernel
theorem dX11_behind_1 : decode cX11_behind 1 = .ok (.iload_n 1, 1) := by decide +kernel
theorem dX11_behind_2 : decode cX11_behind 2 = .ok (.invokevirtual 112, 3) := by decide +kernel
theorem dX11_behind_5 : decode cX11_behind 5 = .ok (.ifCond .ne 5, 3) := by decide +kernel
theorem dX11_behind_8 : decode cX11_behind 8 = .ok (.iconst (-1), 1) := by decide +kernel
theorem dX11_behind_9 : decode cX11_behind 9 = .ok (.ireturn, 1) := by decide +kernel
theorem dX11_behind_10 : decode cX11_behind 10 = .ok (.iload_n 2, 1) := by decide +kernel
theorem dX11_behind_11 : decode cX11_behind 11 = .ok (.i2l, 1) := by decide +kernel
theorem dX11_behind_12 : decode cX11_behind 12 = .ok (.lconst 0, 1) := by decide +kernel
theorem dX11_behind_13 : decode cX11_behind 13 = .ok (.lconst 1, 1) := by decide +kernel
theorem dX11_behind_14 : decode cX11_behind 14 = .ok (.invokestatic 104, 3) := by decide +kernel
theorem dX11_behind_17 : decode cX11_behind 17 = .ok (.ifCond .ne 6, 3) := by decide +kernel
theorem dX11_behind_20 : decode cX11_behind 20 = .ok (.bipush (-2), 2) := by decide +kernel
theorem dX11_behind_22 : decode cX11_behind 22 = .ok (.ireturn, 1) := by decide +kernel
theorem dX11_behind_23 : decode cX11_behind 23 = .ok (.aload_n 0, 1) := by decide +kernel
theorem dX11_behind_24 : decode cX11_behind 24 = .ok (.invokevirtual 149, 3) := by decide +kernel
theorem dX11_behind_27 : decode cX11_behind 27 = .ok (.ifCond .lt 6, 3) := by decide +kernel
theorem dX11_behind_30 : decode cX11_behind 30 = .ok (.bipush (-5), 2) := by decide +kernel
theorem dX11_behind_32 : decode cX11_behind 32 = .ok (.ireturn, 1) := by decide +kernel
theorem dX11_behind_33 : decode cX11_behind 33 = .ok (.aload_n 0, 1) := by decide +kernel
theorem dX11_behind_34 : decode cX11_behind 34 = .ok (.invokevirtual 195, 3) := by decide +kernel
theorem dX11_behind_37 : decode cX11_behind 37 = .ok (.aload_n 0, 1) := by decide +kernel
theorem dX11_behind_38 : decode cX11_behind 38 = .ok (.invokevirtual 198, 3) := by decide +kernel
theorem dX11_behind_41 : decode cX11_behind 41 = .ok (.iload_n 2, 1) := by decide +kernel
theorem dX11_behind_42 : decode cX11_behind 42 = .ok (.ifCond .ne 12, 3) := by decide +kernel
theorem dX11_behind_45 : decode cX11_behind 45 = .ok (.aload_n 0, 1) := by decide +kernel
theorem dX11_behind_46 : decode cX11_behind 46 = .ok (.getfield 7, 3) := by decide +kernel
theorem dX11_behind_49 : decode cX11_behind 49 = .ok (.iload_n 1, 1) := by decide +kernel
theorem dX11_behind_50 : decode cX11_behind 50 = .ok (.iaload, 1) := by decide +kernel
theorem dX11_behind_51 : decode cX11_behind 51 = .ok (.goto 9, 3) := by decide +kernel
theorem dX11_behind_54 : decode cX11_behind 54 = .ok (.aload_n 0, 1) := by decide +kernel
theorem dX11_behind_55 : decode cX11_behind 55 = .ok (.getfield 13, 3) := by decide +kernel
theorem dX11_behind_58 : decode cX11_behind 58 = .ok (.iload_n 1, 1) := by decide +kernel
theorem dX11_behind_59 : decode cX11_behind 59 = .ok (.iaload, 1) := by decide +kernel
theorem dX11_behind_60 : decode cX11_behind 60 = .ok (.istore_n 3, 1) := by decide +kernel
theorem dX11_behind_61 : decode cX11_behind 61 = .ok (.aload_n 0, 1) := by decide +kernel
theorem dX11_behind_62 : decode cX11_behind 62 = .ok (.invokevirtual 201, 3) := by decide +kernel
theorem dX11_behind_65 : decode cX11_behind 65 = .ok (.aload_n 0, 1) := by decide +kernel
theorem dX11_behind_66 : decode cX11_behind 66 = .ok (.getfield 183, 3) := by decide +kernel
theorem dX11_behind_69 : decode cX11_behind 69 = .ok (.ifCond .lt 8, 3) := by decide +kernel
theorem dX11_behind_72 : decode cX11_behind 72 = .ok (.bipush (-3), 2) := by decide +kernel
theorem dX11_behind_74 : decode cX11_behind 74 = .ok (.goto 4, 3) := by decide +kernel
theorem dX11_behind_77 : decode cX11_behind 77 = .ok (.iload_n 3, 1) := by decide +kernel
theorem dX11_behind_78 : decode cX11_behind 78 = .ok (.ireturn, 1) := by decide +kernel
theorem dX11_done_0 : decode cX11_done 0 = .ok (.aload_n 0, 1) := by decide +kernel
theorem dX11_done_1 : decode cX11_done 1 = .ok (.invokevirtual 149, 3) := by decide +kernel
theorem dX11_done_4 : decode cX11_done 4 = .ok (.ifCond .lt 6, 3) := by decide +kernel
theorem dX11_done_7 : decode cX11_done 7 = .ok (.bipush (-5), 2) := by decide +kernel
theorem dX11_done_9 : decode cX11_done 9 = .ok (.ireturn, 1) := by decide +kernel
theorem dX11_done_10 : decode cX11_done 10 = .ok (.aload_n 0, 1) := by decide +kernel
theorem dX11_done_11 : decode cX11_done 11 = .ok (.invokevirtual 195, 3) := by decide +kernel
theorem dX11_done_14 : decode cX11_done 14 = .ok (.aload_n 0, 1) := by decide +kernel
theorem dX11_done_15 : decode cX11_done 15 = .ok (.invokevirtual 198, 3) := by decide +kernel
theorem dX11_done_18 : decode cX11_done 18 = .ok (.aload_n 0, 1) := by decide +kernel
theorem dX11_done_19 : decode cX11_done 19 = .ok (.getfield 183, 3) := by decide +kernel
theorem dX11_done_22 : decode cX11_done 22 = .ok (.ifCond .lt 10, 3) := by decide +kernel
theorem dX11_done_25 : decode cX11_done 25 = .ok (.aload_n 0, 1) := by decide +kernel
theorem dX11_done_26 : decode cX11_done 26 = .ok (.invokevirtual 201, 3) := by decide +kernel
theorem dX11_done_29 : decode cX11_done 29 = .ok (.bipush (-3), 2) := by decide +kernel
theorem dX11_done_31 : decode cX11_done 31 = .ok (.ireturn, 1) := by decide +kernel
theorem dX11_done_32 : decode cX11_done 32 = .ok (.aload_n 0, 1) := by decide +kernel
theorem dX11_done_33 : decode cX11_done 33 = .ok (.iconst 0, 1) := by decide +kernel
theorem dX11_done_34 : decode cX11_done 34 = .ok (.putfield 128, 3) := by decide +kernel
theorem dX11_done_37 : decode cX11_done 37 = .ok (.aload_n 0, 1) := by decide +kernel
theorem dX11_done_38 : decode cX11_done 38 = .ok (.getfield 135, 3) := by decide +kernel
theorem dX11_done_41 : decode cX11_done 41 = .ok (.ireturn, 1) := by decide +kernel
theorem dX11_state_0 : decode cX11_state 0 = .ok (.aload_n 0, 1) := by decide +kernel
theorem dX11_state_1 : decode cX11_state 1 = .ok (.iload_n 1, 1) := by decide +kernel
theorem dX11_state_2 : decode cX11_state 2 = .ok (.invokevirtual 112, 3) := by decide +kernel
theorem dX11_state_5 : decode cX11_state 5 = .ok (.ifCond .ne 5, 3) := by decide +kernel
theorem dX11_state_8 : decode cX11_state 8 = .ok (.iconst (-1), 1) := by decide +kernel
theorem dX11_state_9 : decode cX11_state 9 = .ok (.ireturn, 1) := by decide +kernel
theorem dX11_state_10 : decode cX11_state 10 = .ok (.iload_n 2, 1) := by decide +kernel
theorem dX11_state_11 : decode cX11_state 11 = .ok (.ifCond .ne 12, 3) := by decide +kernel
theorem dX11_state_14 : decode cX11_state 14 = .ok (.aload_n 0, 1) := by decide +kernel
theorem dX11_state_15 : decode cX11_state 15 = .ok (.getfield 7, 3) := by decide +kernel
theorem dX11_state_18 : decode cX11_state 18 = .ok (.iload_n 1, 1) := by decide +kernel
theorem dX11_state_19 : decode cX11_state 19 = .ok (.iaload, 1) := by decide +kernel
theorem dX11_state_20 : decode cX11_state 20 = .ok (.goto 19, 3) := by decide +kernel
theorem dX11_state_23 : decode cX11_state 23 = .ok (.iload_n 2, 1) := by decide +kernel
theorem dX11_state_24 : decode cX11_state 24 = .ok (.iconst 1, 1) := by decide +kernel
theorem dX11_state_25 : decode cX11_state 25 = .ok (.if_icmp .ne 12, 3) := by decide +kernel
theorem dX11_state_28 : decode cX11_state 28 = .ok (.aload_n 0, 1) := by decide +kernel
theorem dX11_state_29 : decode cX11_state 29 = .ok (.getfield 13, 3) := by decide +kernel
theorem dX11_state_32 : decode cX11_state 32 = .ok (.iload_n 1, 1) := by decide +kernel
theorem dX11_state_33 : decode cX11_state 33 = .ok (.iaload, 1) := by decide +kernel
theorem dX11_state_34 : decode cX11_state 34 = .ok (.goto 5, 3) := by decide +kernel
theorem dX11_state_37 : decode cX11_state 37 = .ok (.bipush (-2), 2) := by decide +kernel
theorem dX11_state_39 : decode cX11_state 39 = .ok (.ireturn, 1) := by decide +kernel
theorem dX11_bare_0 : decode cX11_bare 0 = .ok (.aload_n 0, 1) := by decide +kernel
theorem dX11_bare_1 : decode cX11_bare 1 = .ok (.iload_n 1, 1) := by decide +kernel
theorem dX11_bare_2 : decode cX11_bare 2 = .ok (.invokevirtual 155, 3) := by decide +kernel
theorem dX11_bare_5 : decode cX11_bare 5 = .ok (.ifCond .eq 11, 3) := by decide +kernel
theorem dX11_bare_8 : decode cX11_bare 8 = .ok (.aload_n 0, 1) := by decide +kernel
theorem dX11_bare_9 : decode cX11_bare 9 = .ok (.iload_n 2, 1) := by decide +kernel
theorem dX11_bare_10 : decode cX11_bare 10 = .ok (.invokevirtual 112, 3) := by decide +kernel
theorem dX11_bare_13 : decode cX11_bare 13 = .ok (.ifCond .ne 5, 3) := by decide +kernel
theorem dX11_bare_16 : decode cX11_bare 16 = .ok (.iconst (-1), 1) := by decide +kernel
theorem dX11_bare_17 : decode cX11_bare 17 = .ok (.ireturn, 1) := by decide +kernel
theorem dX11_bare_18 : decode cX11_bare 18 = .ok (.aload_n 0, 1) := by decide +kernel
theorem dX11_bare_19 : decode cX11_bare 19 = .ok (.iload_n 1, 1) := by decide +kernel
theorem dX11_bare_20 : decode cX11_bare 20 = .ok (.iload_n 2, 1) := by decide +kernel
theorem dX11_bare_21 : decode cX11_bare 21 = .ok (.aload_n 0, 1) := by decide +kernel
theorem dX11_bare_22 : decode cX11_bare 22 = .ok (.getfield 7, 3) := by decide +kernel
theorem dX11_bare_25 : decode cX11_bare 25 = .ok (.iload_n 2, 1) := by decide +kernel
theorem dX11_bare_26 : decode cX11_bare 26 = .ok (.iaload, 1) := by decide +kernel
theorem dX11_bare_27 : decode cX11_bare 27 = .ok (.invokevirtual 158, 3) := by decide +kernel
theorem dX11_bare_30 : decode cX11_bare 30 = .ok (.istore_n 3, 1) := by decide +kernel
theorem dX11_bare_31 : decode cX11_bare 31 = .ok (.iload_n 3, 1) := by decide +kernel
theorem dX11_bare_32 : decode cX11_bare 32 = .ok (.ifCond .eq 13, 3) := by decide +kernel
theorem dX11_bare_35 : decode cX11_bare 35 = .ok (.aload_n 0, 1) := by decide +kernel
theorem dX11_bare_36 : decode cX11_bare 36 = .ok (.getfield 13, 3) := by decide +kernel
theorem dX11_bare_39 : decode cX11_bare 39 = .ok (.iload_n 2, 1) := by decide +kernel
theorem dX11_bare_40 : decode cX11_bare 40 = .ok (.iaload, 1) := by decide +kernel
theorem dX11_bare_41 : decode cX11_bare 41 = .ok (.iload_n 3, 1) := by decide +kernel
theorem dX11_bare_42 : decode cX11_bare 42 = .ok (.if_icmp .ge 7, 3) := by decide +kernel
theorem dX11_bare_45 : decode cX11_bare 45 = .ok (.iconst 1, 1) := by decide +kernel
theorem dX11_bare_46 : decode cX11_bare 46 = .ok (.goto 4, 3) := by decide +kernel
theorem dX11_bare_49 : decode cX11_bare 49 = .ok (.iconst 0, 1) := by decide +kernel
theorem dX11_bare_50 : decode cX11_bare 50 = .ok (.ireturn, 1) := by decide +kernel
theorem dX11_all_0 : decode cX11_all 0 = .ok (.iconst 1, 1) := by decide +kernel
theorem dX11_all_1 : decode cX11_all 1 = .ok (.iconst 2, 1) := by decide +kernel
theorem dX11_all_2 : decode cX11_all 2 = .ok (.aload_n 0, 1) := by decide +kernel
theorem dX11_all_3 : decode cX11_all 3 = .ok (.getfield 94, 3) := by decide +kernel
theorem dX11_all_6 : decode cX11_all 6 = .ok (.imul, 1) := by decide +kernel
theorem dX11_all_7 : decode cX11_all 7 = .ok (.ishl, 1) := by decide +kernel
theorem dX11_all_8 : decode cX11_all 8 = .ok (.ireturn, 1) := by decide +kernel
theorem dX11_lookNow_0 : decode cX11_lookNow 0 = .ok (.iconst 0, 1) := by decide +kernel
theorem dX11_lookNow_1 : decode cX11_lookNow 1 = .ok (.istore_n 1, 1) := by decide +kernel
theorem dX11_lookNow_2 : decode cX11_lookNow 2 = .ok (.iconst 0, 1) := by decide +kernel
theorem dX11_lookNow_3 : decode cX11_lookNow 3 = .ok (.istore_n 2, 1) := by decide +kernel
theorem dX11_lookNow_4 : decode cX11_lookNow 4 = .ok (.iload_n 2, 1) := by decide +kernel
theorem dX11_lookNow_5 : decode cX11_lookNow 5 = .ok (.aload_n 0, 1) := by decide +kernel
theorem dX11_lookNow_6 : decode cX11_lookNow 6 = .ok (.getfield 94, 3) := by decide +kernel
theorem dX11_lookNow_9 : decode cX11_lookNow 9 = .ok (.if_icmp .ge 22, 3) := by decide +kernel
theorem dX11_lookNow_12 : decode cX11_lookNow 12 = .ok (.iload_n 1, 1) := by decide +kernel
theorem dX11_lookNow_13 : decode cX11_lookNow 13 = .ok (.aload_n 0, 1) := by decide +kernel
theorem dX11_lookNow_14 : decode cX11_lookNow 14 = .ok (.getfield 7, 3) := by decide +kernel
theorem dX11_lookNow_17 : decode cX11_lookNow 17 = .ok (.iload_n 2, 1) := by decide +kernel
theorem dX11_lookNow_18 : decode cX11_lookNow 18 = .ok (.iaload, 1) := by decide +kernel
theorem dX11_lookNow_19 : decode cX11_lookNow 19 = .ok (.iconst 2, 1) := by decide +kernel
theorem dX11_lookNow_20 : decode cX11_lookNow 20 = .ok (.iload_n 2, 1) := by decide +kernel
theorem dX11_lookNow_21 : decode cX11_lookNow 21 = .ok (.imul, 1) := by decide +kernel
theorem dX11_lookNow_22 : decode cX11_lookNow 22 = .ok (.ishl, 1) := by decide +kernel
theorem dX11_lookNow_23 : decode cX11_lookNow 23 = .ok (.ior, 1) := by decide +kernel
theorem dX11_lookNow_24 : decode cX11_lookNow 24 = .ok (.istore_n 1, 1) := by decide +kernel
theorem dX11_lookNow_25 : decode cX11_lookNow 25 = .ok (.iinc 2 1, 3) := by decide +kernel
theorem dX11_lookNow_28 : decode cX11_lookNow 28 = .ok (.goto (-24), 3) := by decide +kernel
theorem dX11_lookNow_31 : decode cX11_lookNow 31 = .ok (.iload_n 1, 1) := by decide +kernel
theorem dX11_lookNow_32 : decode cX11_lookNow 32 = .ok (.ireturn, 1) := by decide +kernel
theorem dX11_wayIn_0 : decode cX11_wayIn 0 = .ok (.iload_n 0, 1) := by decide +kernel
theorem dX11_wayIn_1 : decode cX11_wayIn 1 = .ok (.iconst 2, 1) := by decide +kernel
theorem dX11_wayIn_2 : decode cX11_wayIn 2 = .ok (.iload_n 1, 1) := by decide +kernel
theorem dX11_wayIn_3 : decode cX11_wayIn 3 = .ok (.imul, 1) := by decide +kernel
theorem dX11_wayIn_4 : decode cX11_wayIn 4 = .ok (.ishr, 1) := by decide +kernel
theorem dX11_wayIn_5 : decode cX11_wayIn 5 = .ok (.iconst 3, 1) := by decide +kernel
theorem dX11_wayIn_6 : decode cX11_wayIn 6 = .ok (.iand, 1) := by decide +kernel
theorem dX11_wayIn_7 : decode cX11_wayIn 7 = .ok (.ireturn, 1) := by decide +kernel
theorem dX11_saidTo_0 : decode cX11_saidTo 0 = .ok (.iconst 0, 1) := by decide +kernel
theorem dX11_saidTo_1 : decode cX11_saidTo 1 = .ok (.istore_n 3, 1) := by decide +kernel
theorem dX11_saidTo_2 : decode cX11_saidTo 2 = .ok (.iconst 0, 1) := by decide +kernel
theorem dX11_saidTo_3 : decode cX11_saidTo 3 = .ok (.istore 4, 2) := by decide +kernel
theorem dX11_saidTo_5 : decode cX11_saidTo 5 = .ok (.iload 4, 2) := by decide +kernel
theorem dX11_saidTo_7 : decode cX11_saidTo 7 = .ok (.aload_n 0, 1) := by decide +kernel
theorem dX11_saidTo_8 : decode cX11_saidTo 8 = .ok (.getfield 94, 3) := by decide +kernel
theorem dX11_saidTo_11 : decode cX11_saidTo 11 = .ok (.if_icmp .ge 42, 3) := by decide +kernel
theorem dX11_saidTo_14 : decode cX11_saidTo 14 = .ok (.iload_n 1, 1) := by decide +kernel
theorem dX11_saidTo_15 : decode cX11_saidTo 15 = .ok (.iload 4, 2) := by decide +kernel
theorem dX11_saidTo_17 : decode cX11_saidTo 17 = .ok (.invokestatic 204, 3) := by decide +kernel
theorem dX11_saidTo_20 : decode cX11_saidTo 20 = .ok (.istore 5, 2) := by decide +kernel
theorem dX11_saidTo_22 : decode cX11_saidTo 22 = .ok (.iload_n 3, 1) := by decide +kernel
theorem dX11_saidTo_23 : decode cX11_saidTo 23 = .ok (.aload_n 0, 1) := by decide +kernel
theorem dX11_saidTo_24 : decode cX11_saidTo 24 = .ok (.iload 4, 2) := by decide +kernel
theorem dX11_saidTo_26 : decode cX11_saidTo 26 = .ok (.iload 5, 2) := by decide +kernel
theorem dX11_saidTo_28 : decode cX11_saidTo 28 = .ok (.aload_n 0, 1) := by decide +kernel
theorem dX11_saidTo_29 : decode cX11_saidTo 29 = .ok (.iload_n 2, 1) := by decide +kernel
theorem dX11_saidTo_30 : decode cX11_saidTo 30 = .ok (.iload 4, 2) := by decide +kernel
theorem dX11_saidTo_32 : decode cX11_saidTo 32 = .ok (.iload 5, 2) := by decide +kernel
theorem dX11_saidTo_34 : decode cX11_saidTo 34 = .ok (.invokevirtual 158, 3) := by decide +kernel
theorem dX11_saidTo_37 : decode cX11_saidTo 37 = .ok (.invokevirtual 168, 3) := by decide +kernel
theorem dX11_saidTo_40 : decode cX11_saidTo 40 = .ok (.iconst 2, 1) := by decide +kernel
theorem dX11_saidTo_41 : decode cX11_saidTo 41 = .ok (.iload 4, 2) := by decide +kernel
theorem dX11_saidTo_43 : decode cX11_saidTo 43 = .ok (.imul, 1) := by decide +kernel
theorem dX11_saidTo_44 : decode cX11_saidTo 44 = .ok (.ishl, 1) := by decide +kernel
theorem dX11_saidTo_45 : decode cX11_saidTo 45 = .ok (.ior, 1) := by decide +kernel
theorem dX11_saidTo_46 : decode cX11_saidTo 46 = .ok (.istore_n 3, 1) := by decide +kernel
theorem dX11_saidTo_47 : decode cX11_saidTo 47 = .ok (.iinc 4 1, 3) := by decide +kernel
theorem dX11_saidTo_50 : decode cX11_saidTo 50 = .ok (.goto (-45), 3) := by decide +kernel
theorem dX11_saidTo_53 : decode cX11_saidTo 53 = .ok (.iload_n 3, 1) := by decide +kernel
theorem dX11_saidTo_54 : decode cX11_saidTo 54 = .ok (.ireturn, 1) := by decide +kernel
theorem dX11_quartersOf_0 : decode cX11_quartersOf 0 = .ok (.iconst 0, 1) := by decide +kernel
theorem dX11_quartersOf_1 : decode cX11_quartersOf 1 = .ok (.istore_n 3, 1) := by decide +kernel
theorem dX11_quartersOf_2 : decode cX11_quartersOf 2 = .ok (.iconst 0, 1) := by decide +kernel
theorem dX11_quartersOf_3 : decode cX11_quartersOf 3 = .ok (.istore 4, 2) := by decide +kernel
theorem dX11_quartersOf_5 : decode cX11_quartersOf 5 = .ok (.iload 4, 2) := by decide +kernel
theorem dX11_quartersOf_7 : decode cX11_quartersOf 7 = .ok (.aload_n 0, 1) := by decide +kernel
theorem dX11_quartersOf_8 : decode cX11_quartersOf 8 = .ok (.getfield 94, 3) := by decide +kernel
theorem dX11_quartersOf_11 : decode cX11_quartersOf 11 = .ok (.if_icmp .ge 25, 3) := by decide +kernel
theorem dX11_quartersOf_14 : decode cX11_quartersOf 14 = .ok (.iload_n 3, 1) := by decide +kernel
theorem dX11_quartersOf_15 : decode cX11_quartersOf 15 = .ok (.aload_n 0, 1) := by decide +kernel
theorem dX11_quartersOf_16 : decode cX11_quartersOf 16 = .ok (.iload_n 2, 1) := by decide +kernel
theorem dX11_quartersOf_17 : decode cX11_quartersOf 17 = .ok (.iload 4, 2) := by decide +kernel
theorem dX11_quartersOf_19 : decode cX11_quartersOf 19 = .ok (.iload_n 1, 1) := by decide +kernel
theorem dX11_quartersOf_20 : decode cX11_quartersOf 20 = .ok (.iload 4, 2) := by decide +kernel
theorem dX11_quartersOf_22 : decode cX11_quartersOf 22 = .ok (.invokestatic 204, 3) := by decide +kernel
theorem dX11_quartersOf_25 : decode cX11_quartersOf 25 = .ok (.invokevirtual 158, 3) := by decide +kernel
theorem dX11_quartersOf_28 : decode cX11_quartersOf 28 = .ok (.iadd, 1) := by decide +kernel
theorem dX11_quartersOf_29 : decode cX11_quartersOf 29 = .ok (.istore_n 3, 1) := by decide +kernel
theorem dX11_quartersOf_30 : decode cX11_quartersOf 30 = .ok (.iinc 4 1, 3) := by decide +kernel
theorem dX11_quartersOf_33 : decode cX11_quartersOf 33 = .ok (.goto (-28), 3) := by decide +kernel
theorem dX11_quartersOf_36 : decode cX11_quartersOf 36 = .ok (.iload_n 3, 1) := by decide +kernel
theorem dX11_quartersOf_37 : decode cX11_quartersOf 37 = .ok (.ireturn, 1) := by decide +kernel
theorem dX11_spread_0 : decode cX11_spread 0 = .ok (.iconst 0, 1) := by decide +kernel
theorem dX11_spread_1 : decode cX11_spread 1 = .ok (.istore_n 2, 1) := by decide +kernel
theorem dX11_spread_2 : decode cX11_spread 2 = .ok (.iload_n 2, 1) := by decide +kernel
theorem dX11_spread_3 : decode cX11_spread 3 = .ok (.sipush 1024, 3) := by decide +kernel
theorem dX11_spread_6 : decode cX11_spread 6 = .ok (.if_icmp .ge 17, 3) := by decide +kernel
theorem dX11_spread_9 : decode cX11_spread 9 = .ok (.aload_n 0, 1) := by decide +kernel
theorem dX11_spread_10 : decode cX11_spread 10 = .ok (.getfield 52, 3) := by decide +kernel
theorem dX11_spread_13 : decode cX11_spread 13 = .ok (.iload_n 2, 1) := by decide +kernel
theorem dX11_spread_14 : decode cX11_spread 14 = .ok (.bipush (-6), 2) := by decide +kernel
theorem dX11_spread_16 : decode cX11_spread 16 = .ok (.iastore, 1) := by decide +kernel
theorem dX11_spread_17 : decode cX11_spread 17 = .ok (.iinc 2 1, 3) := by decide +kernel
theorem dX11_spread_20 : decode cX11_spread 20 = .ok (.goto (-18), 3) := by decide +kernel
theorem dX11_spread_23 : decode cX11_spread 23 = .ok (.aload_n 0, 1) := by decide +kernel
theorem dX11_spread_24 : decode cX11_spread 24 = .ok (.iconst 1, 1) := by decide +kernel
theorem dX11_spread_25 : decode cX11_spread 25 = .ok (.putfield 208, 3) := by decide +kernel
theorem dX11_spread_28 : decode cX11_spread 28 = .ok (.aload_n 0, 1) := by decide +kernel
theorem dX11_spread_29 : decode cX11_spread 29 = .ok (.getfield 49, 3) := by decide +kernel
theorem dX11_spread_32 : decode cX11_spread 32 = .ok (.iconst 0, 1) := by decide +kernel
theorem dX11_spread_33 : decode cX11_spread 33 = .ok (.aload_n 0, 1) := by decide +kernel
theorem dX11_spread_34 : decode cX11_spread 34 = .ok (.invokevirtual 211, 3) := by decide +kernel
theorem dX11_spread_37 : decode cX11_spread 37 = .ok (.iastore, 1) := by decide +kernel
theorem dX11_spread_38 : decode cX11_spread 38 = .ok (.aload_n 0, 1) := by decide +kernel
theorem dX11_spread_39 : decode cX11_spread 39 = .ok (.getfield 52, 3) := by decide +kernel
theorem dX11_spread_42 : decode cX11_spread 42 = .ok (.aload_n 0, 1) := by decide +kernel
theorem dX11_spread_43 : decode cX11_spread 43 = .ok (.getfield 49, 3) := by decide +kernel
theorem dX11_spread_46 : decode cX11_spread 46 = .ok (.iconst 0, 1) := by decide +kernel
theorem dX11_spread_47 : decode cX11_spread 47 = .ok (.iaload, 1) := by decide +kernel
theorem dX11_spread_48 : decode cX11_spread 48 = .ok (.iconst 0, 1) := by decide +kernel
theorem dX11_spread_49 : decode cX11_spread 49 = .ok (.iastore, 1) := by decide +kernel
theorem dX11_spread_50 : decode cX11_spread 50 = .ok (.iconst 0, 1) := by decide +kernel
theorem dX11_spread_51 : decode cX11_spread 51 = .ok (.istore_n 2, 1) := by decide +kernel
theorem dX11_spread_52 : decode cX11_spread 52 = .ok (.iload_n 2, 1) := by decide +kernel
theorem dX11_spread_53 : decode cX11_spread 53 = .ok (.aload_n 0, 1) := by decide +kernel
theorem dX11_spread_54 : decode cX11_spread 54 = .ok (.getfield 208, 3) := by decide +kernel
theorem dX11_spread_57 : decode cX11_spread 57 = .ok (.if_icmp .ge 126, 3) := by decide +kernel
theorem dX11_spread_60 : decode cX11_spread 60 = .ok (.iconst 0, 1) := by decide +kernel
theorem dX11_spread_61 : decode cX11_spread 61 = .ok (.istore_n 3, 1) := by decide +kernel
theorem dX11_spread_62 : decode cX11_spread 62 = .ok (.iload_n 3, 1) := by decide +kernel
theorem dX11_spread_63 : decode cX11_spread 63 = .ok (.bipush 6, 2) := by decide +kernel
theorem dX11_spread_65 : decode cX11_spread 65 = .ok (.if_icmp .ge 112, 3) := by decide +kernel
theorem dX11_spread_68 : decode cX11_spread 68 = .ok (.iload_n 1, 1) := by decide +kernel
theorem dX11_spread_69 : decode cX11_spread 69 = .ok (.iload_n 3, 1) := by decide +kernel
theorem dX11_spread_70 : decode cX11_spread 70 = .ok (.ishr, 1) := by decide +kernel
theorem dX11_spread_71 : decode cX11_spread 71 = .ok (.iconst 1, 1) := by decide +kernel
theorem dX11_spread_72 : decode cX11_spread 72 = .ok (.iand, 1) := by decide +kernel
theorem dX11_spread_73 : decode cX11_spread 73 = .ok (.iconst 1, 1) := by decide +kernel
theorem dX11_spread_74 : decode cX11_spread 74 = .ok (.if_icmp .ne 17, 3) := by decide +kernel
theorem dX11_spread_77 : decode cX11_spread 77 = .ok (.aload_n 0, 1) := by decide +kernel
theorem dX11_spread_78 : decode cX11_spread 78 = .ok (.aload_n 0, 1) := by decide +kernel
theorem dX11_spread_79 : decode cX11_spread 79 = .ok (.getfield 49, 3) := by decide +kernel
theorem dX11_spread_82 : decode cX11_spread 82 = .ok (.iload_n 2, 1) := by decide +kernel
theorem dX11_spread_83 : decode cX11_spread 83 = .ok (.iaload, 1) := by decide +kernel
theorem dX11_spread_84 : decode cX11_spread 84 = .ok (.iload_n 3, 1) := by decide +kernel
theorem dX11_spread_85 : decode cX11_spread 85 = .ok (.invokevirtual 214, 3) := by decide +kernel
theorem dX11_spread_88 : decode cX11_spread 88 = .ok (.goto 9, 3) := by decide +kernel
theorem dX11_spread_91 : decode cX11_spread 91 = .ok (.aload_n 0, 1) := by decide +kernel
theorem dX11_spread_92 : decode cX11_spread 92 = .ok (.getfield 49, 3) := by decide +kernel
theorem dX11_spread_95 : decode cX11_spread 95 = .ok (.iload_n 2, 1) := by decide +kernel
theorem dX11_spread_96 : decode cX11_spread 96 = .ok (.iaload, 1) := by decide +kernel
theorem dX11_spread_97 : decode cX11_spread 97 = .ok (.istore 4, 2) := by decide +kernel
theorem dX11_spread_99 : decode cX11_spread 99 = .ok (.aload_n 0, 1) := by decide +kernel
theorem dX11_spread_100 : decode cX11_spread 100 = .ok (.getfield 52, 3) := by decide +kernel
theorem dX11_spread_103 : decode cX11_spread 103 = .ok (.iload 4, 2) := by decide +kernel
theorem dX11_spread_105 : decode cX11_spread 105 = .ok (.iaload, 1) := by decide +kernel
theorem dX11_spread_106 : decode cX11_spread 106 = .ok (.ifCond .ge 65, 3) := by decide +kernel
theorem dX11_spread_109 : decode cX11_spread 109 = .ok (.aload_n 0, 1) := by decide +kernel
theorem dX11_spread_110 : decode cX11_spread 110 = .ok (.getfield 52, 3) := by decide +kernel
theorem dX11_spread_113 : decode cX11_spread 113 = .ok (.iload 4, 2) := by decide +kernel
theorem dX11_spread_115 : decode cX11_spread 115 = .ok (.aload_n 0, 1) := by decide +kernel
theorem dX11_spread_116 : decode cX11_spread 116 = .ok (.getfield 52, 3) := by decide +kernel
theorem dX11_spread_119 : decode cX11_spread 119 = .ok (.aload_n 0, 1) := by decide +kernel
theorem dX11_spread_120 : decode cX11_spread 120 = .ok (.getfield 49, 3) := by decide +kernel
theorem dX11_spread_123 : decode cX11_spread 123 = .ok (.iload_n 2, 1) := by decide +kernel
theorem dX11_spread_124 : decode cX11_spread 124 = .ok (.iaload, 1) := by decide +kernel
theorem dX11_spread_125 : decode cX11_spread 125 = .ok (.iaload, 1) := by decide +kernel
theorem dX11_spread_126 : decode cX11_spread 126 = .ok (.iconst 1, 1) := by decide +kernel
theorem dX11_spread_127 : decode cX11_spread 127 = .ok (.iadd, 1) := by decide +kernel
theorem dX11_spread_128 : decode cX11_spread 128 = .ok (.iastore, 1) := by decide +kernel
theorem dX11_spread_129 : decode cX11_spread 129 = .ok (.aload_n 0, 1) := by decide +kernel
theorem dX11_spread_130 : decode cX11_spread 130 = .ok (.getfield 55, 3) := by decide +kernel
theorem dX11_spread_133 : decode cX11_spread 133 = .ok (.iload 4, 2) := by decide +kernel
theorem dX11_spread_135 : decode cX11_spread 135 = .ok (.aload_n 0, 1) := by decide +kernel
theorem dX11_spread_136 : decode cX11_spread 136 = .ok (.getfield 49, 3) := by decide +kernel
theorem dX11_spread_139 : decode cX11_spread 139 = .ok (.iload_n 2, 1) := by decide +kernel
theorem dX11_spread_140 : decode cX11_spread 140 = .ok (.iaload, 1) := by decide +kernel
theorem dX11_spread_141 : decode cX11_spread 141 = .ok (.iastore, 1) := by decide +kernel
theorem dX11_spread_142 : decode cX11_spread 142 = .ok (.aload_n 0, 1) := by decide +kernel
theorem dX11_spread_143 : decode cX11_spread 143 = .ok (.getfield 58, 3) := by decide +kernel
theorem dX11_spread_146 : decode cX11_spread 146 = .ok (.iload 4, 2) := by decide +kernel
theorem dX11_spread_148 : decode cX11_spread 148 = .ok (.iload_n 3, 1) := by decide +kernel
theorem dX11_spread_149 : decode cX11_spread 149 = .ok (.iastore, 1) := by decide +kernel
theorem dX11_spread_150 : decode cX11_spread 150 = .ok (.aload_n 0, 1) := by decide +kernel
theorem dX11_spread_151 : decode cX11_spread 151 = .ok (.getfield 49, 3) := by decide +kernel
theorem dX11_spread_154 : decode cX11_spread 154 = .ok (.aload_n 0, 1) := by decide +kernel
theorem dX11_spread_155 : decode cX11_spread 155 = .ok (.getfield 208, 3) := by decide +kernel
theorem dX11_spread_158 : decode cX11_spread 158 = .ok (.iload 4, 2) := by decide +kernel
theorem dX11_spread_160 : decode cX11_spread 160 = .ok (.iastore, 1) := by decide +kernel
theorem dX11_spread_161 : decode cX11_spread 161 = .ok (.aload_n 0, 1) := by decide +kernel
theorem dX11_spread_162 : decode cX11_spread 162 = .ok (.dup, 1) := by decide +kernel
theorem dX11_spread_163 : decode cX11_spread 163 = .ok (.getfield 208, 3) := by decide +kernel
theorem dX11_spread_166 : decode cX11_spread 166 = .ok (.iconst 1, 1) := by decide +kernel
theorem dX11_spread_167 : decode cX11_spread 167 = .ok (.iadd, 1) := by decide +kernel
theorem dX11_spread_168 : decode cX11_spread 168 = .ok (.putfield 208, 3) := by decide +kernel
theorem dX11_spread_171 : decode cX11_spread 171 = .ok (.iinc 3 1, 3) := by decide +kernel
theorem dX11_spread_174 : decode cX11_spread 174 = .ok (.goto (-112), 3) := by decide +kernel
theorem dX11_spread_177 : decode cX11_spread 177 = .ok (.iinc 2 1, 3) := by decide +kernel
theorem dX11_spread_180 : decode cX11_spread 180 = .ok (.goto (-128), 3) := by decide +kernel
theorem dX11_spread_183 : decode cX11_spread 183 = .ok (.return_, 1) := by decide +kernel
theorem dX11_reached_0 : decode cX11_reached 0 = .ok (.aload_n 0, 1) := by decide +kernel
theorem dX11_reached_1 : decode cX11_reached 1 = .ok (.aload_n 0, 1) := by decide +kernel
theorem dX11_reached_2 : decode cX11_reached 2 = .ok (.getfield 98, 3) := by decide +kernel
theorem dX11_reached_5 : decode cX11_reached 5 = .ok (.invokevirtual 217, 3) := by decide +kernel
theorem dX11_reached_8 : decode cX11_reached 8 = .ok (.aload_n 0, 1) := by decide +kernel
theorem dX11_reached_9 : decode cX11_reached 9 = .ok (.getfield 208, 3) := by decide +kernel
theorem dX11_reached_12 : decode cX11_reached 12 = .ok (.ireturn, 1) := by decide +kernel
theorem dX11_isNumber_0 : decode cX11_isNumber 0 = .ok (.iload_n 1, 1) := by decide +kernel
theorem dX11_isNumber_1 : decode cX11_isNumber 1 = .ok (.i2l, 1) := by decide +kernel
theorem dX11_isNumber_2 : decode cX11_isNumber 2 = .ok (.lconst 0, 1) := by decide +kernel
theorem dX11_isNumber_3 : decode cX11_isNumber 3 = .ok (.aload_n 0, 1) := by decide +kernel
theorem dX11_isNumber_4 : decode cX11_isNumber 4 = .ok (.invokevirtual 220, 3) := by decide +kernel
theorem dX11_isNumber_7 : decode cX11_isNumber 7 = .ok (.iconst 1, 1) := by decide +kernel
theorem dX11_isNumber_8 : decode cX11_isNumber 8 = .ok (.isub, 1) := by decide +kernel
theorem dX11_isNumber_9 : decode cX11_isNumber 9 = .ok (.i2l, 1) := by decide +kernel
theorem dX11_isNumber_10 : decode cX11_isNumber 10 = .ok (.invokestatic 104, 3) := by decide +kernel
theorem dX11_isNumber_13 : decode cX11_isNumber 13 = .ok (.ireturn, 1) := by decide +kernel
theorem dX11_can_0 : decode cX11_can 0 = .ok (.aload_n 0, 1) := by decide +kernel
theorem dX11_can_1 : decode cX11_can 1 = .ok (.iload_n 1, 1) := by decide +kernel
theorem dX11_can_2 : decode cX11_can 2 = .ok (.invokevirtual 223, 3) := by decide +kernel
theorem dX11_can_5 : decode cX11_can 5 = .ok (.ifCond .ne 6, 3) := by decide +kernel
theorem dX11_can_8 : decode cX11_can 8 = .ok (.bipush (-2), 2) := by decide +kernel
theorem dX11_can_10 : decode cX11_can 10 = .ok (.ireturn, 1) := by decide +kernel
theorem dX11_can_11 : decode cX11_can 11 = .ok (.aload_n 0, 1) := by decide +kernel
theorem dX11_can_12 : decode cX11_can 12 = .ok (.aload_n 0, 1) := by decide +kernel
theorem dX11_can_13 : decode cX11_can 13 = .ok (.getfield 98, 3) := by decide +kernel
theorem dX11_can_16 : decode cX11_can 16 = .ok (.invokevirtual 217, 3) := by decide +kernel
theorem dX11_can_19 : decode cX11_can 19 = .ok (.aload_n 0, 1) := by decide +kernel
theorem dX11_can_20 : decode cX11_can 20 = .ok (.getfield 52, 3) := by decide +kernel
theorem dX11_can_23 : decode cX11_can 23 = .ok (.iload_n 1, 1) := by decide +kernel
theorem dX11_can_24 : decode cX11_can 24 = .ok (.iaload, 1) := by decide +kernel
theorem dX11_can_25 : decode cX11_can 25 = .ok (.ifCond .ge 7, 3) := by decide +kernel
theorem dX11_can_28 : decode cX11_can 28 = .ok (.iconst 0, 1) := by decide +kernel
theorem dX11_can_29 : decode cX11_can 29 = .ok (.goto 4, 3) := by decide +kernel
theorem dX11_can_32 : decode cX11_can 32 = .ok (.iconst 1, 1) := by decide +kernel
theorem dX11_can_33 : decode cX11_can 33 = .ok (.ireturn, 1) := by decide +kernel
theorem dX11_isSet_0 : decode cX11_isSet 0 = .ok (.iload_n 1, 1) := by decide +kernel
theorem dX11_isSet_1 : decode cX11_isSet 1 = .ok (.i2l, 1) := by decide +kernel
theorem dX11_isSet_2 : decode cX11_isSet 2 = .ok (.lconst 0, 1) := by decide +kernel
theorem dX11_isSet_3 : decode cX11_isSet 3 = .ok (.iconst 1, 1) := by decide +kernel
theorem dX11_isSet_4 : decode cX11_isSet 4 = .ok (.aload_n 0, 1) := by decide +kernel
theorem dX11_isSet_5 : decode cX11_isSet 5 = .ok (.getfield 94, 3) := by decide +kernel
theorem dX11_isSet_8 : decode cX11_isSet 8 = .ok (.ishl, 1) := by decide +kernel
theorem dX11_isSet_9 : decode cX11_isSet 9 = .ok (.iconst 1, 1) := by decide +kernel
theorem dX11_isSet_10 : decode cX11_isSet 10 = .ok (.isub, 1) := by decide +kernel
theorem dX11_isSet_11 : decode cX11_isSet 11 = .ok (.i2l, 1) := by decide +kernel
theorem dX11_isSet_12 : decode cX11_isSet 12 = .ok (.invokestatic 104, 3) := by decide +kernel
theorem dX11_isSet_15 : decode cX11_isSet 15 = .ok (.ireturn, 1) := by decide +kernel
theorem dX11_isSo_0 : decode cX11_isSo 0 = .ok (.iconst 1, 1) := by decide +kernel
theorem dX11_isSo_1 : decode cX11_isSo 1 = .ok (.istore 4, 2) := by decide +kernel
theorem dX11_isSo_3 : decode cX11_isSo 3 = .ok (.iconst 0, 1) := by decide +kernel
theorem dX11_isSo_4 : decode cX11_isSo 4 = .ok (.istore 5, 2) := by decide +kernel
theorem dX11_isSo_6 : decode cX11_isSo 6 = .ok (.iload 5, 2) := by decide +kernel
theorem dX11_isSo_8 : decode cX11_isSo 8 = .ok (.aload_n 0, 1) := by decide +kernel
theorem dX11_isSo_9 : decode cX11_isSo 9 = .ok (.getfield 94, 3) := by decide +kernel
theorem dX11_isSo_12 : decode cX11_isSo 12 = .ok (.if_icmp .ge 45, 3) := by decide +kernel
theorem dX11_isSo_15 : decode cX11_isSo 15 = .ok (.iload 4, 2) := by decide +kernel
theorem dX11_isSo_17 : decode cX11_isSo 17 = .ok (.ifCond .eq 31, 3) := by decide +kernel
theorem dX11_isSo_20 : decode cX11_isSo 20 = .ok (.iload_n 2, 1) := by decide +kernel
theorem dX11_isSo_21 : decode cX11_isSo 21 = .ok (.iload 5, 2) := by decide +kernel
theorem dX11_isSo_23 : decode cX11_isSo 23 = .ok (.ishr, 1) := by decide +kernel
theorem dX11_isSo_24 : decode cX11_isSo 24 = .ok (.iconst 1, 1) := by decide +kernel
theorem dX11_isSo_25 : decode cX11_isSo 25 = .ok (.iand, 1) := by decide +kernel
theorem dX11_isSo_26 : decode cX11_isSo 26 = .ok (.ifCond .eq 18, 3) := by decide +kernel
theorem dX11_isSo_29 : decode cX11_isSo 29 = .ok (.iload_n 1, 1) := by decide +kernel
theorem dX11_isSo_30 : decode cX11_isSo 30 = .ok (.iload 5, 2) := by decide +kernel
theorem dX11_isSo_32 : decode cX11_isSo 32 = .ok (.invokestatic 204, 3) := by decide +kernel
theorem dX11_isSo_35 : decode cX11_isSo 35 = .ok (.iload_n 3, 1) := by decide +kernel
theorem dX11_isSo_36 : decode cX11_isSo 36 = .ok (.iload 5, 2) := by decide +kernel
theorem dX11_isSo_38 : decode cX11_isSo 38 = .ok (.invokestatic 204, 3) := by decide +kernel
theorem dX11_isSo_41 : decode cX11_isSo 41 = .ok (.if_icmp .ne 7, 3) := by decide +kernel
theorem dX11_isSo_44 : decode cX11_isSo 44 = .ok (.iconst 1, 1) := by decide +kernel
theorem dX11_isSo_45 : decode cX11_isSo 45 = .ok (.goto 4, 3) := by decide +kernel
theorem dX11_isSo_48 : decode cX11_isSo 48 = .ok (.iconst 0, 1) := by decide +kernel
theorem dX11_isSo_49 : decode cX11_isSo 49 = .ok (.istore 4, 2) := by decide +kernel
theorem dX11_isSo_51 : decode cX11_isSo 51 = .ok (.iinc 5 1, 3) := by decide +kernel
theorem dX11_isSo_54 : decode cX11_isSo 54 = .ok (.goto (-48), 3) := by decide +kernel
theorem dX11_isSo_57 : decode cX11_isSo 57 = .ok (.iload 4, 2) := by decide +kernel
theorem dX11_isSo_59 : decode cX11_isSo 59 = .ok (.ireturn, 1) := by decide +kernel
theorem dX11_firstSo_0 : decode cX11_firstSo 0 = .ok (.aload_n 0, 1) := by decide +kernel
theorem dX11_firstSo_1 : decode cX11_firstSo 1 = .ok (.iload_n 1, 1) := by decide +kernel
theorem dX11_firstSo_2 : decode cX11_firstSo 2 = .ok (.invokevirtual 217, 3) := by decide +kernel
theorem dX11_firstSo_5 : decode cX11_firstSo 5 = .ok (.iconst 0, 1) := by decide +kernel
theorem dX11_firstSo_6 : decode cX11_firstSo 6 = .ok (.istore 4, 2) := by decide +kernel
theorem dX11_firstSo_8 : decode cX11_firstSo 8 = .ok (.iload 4, 2) := by decide +kernel
theorem dX11_firstSo_10 : decode cX11_firstSo 10 = .ok (.aload_n 0, 1) := by decide +kernel
theorem dX11_firstSo_11 : decode cX11_firstSo 11 = .ok (.getfield 208, 3) := by decide +kernel
theorem dX11_firstSo_14 : decode cX11_firstSo 14 = .ok (.if_icmp .ge 33, 3) := by decide +kernel
theorem dX11_firstSo_17 : decode cX11_firstSo 17 = .ok (.aload_n 0, 1) := by decide +kernel
theorem dX11_firstSo_18 : decode cX11_firstSo 18 = .ok (.aload_n 0, 1) := by decide +kernel
theorem dX11_firstSo_19 : decode cX11_firstSo 19 = .ok (.getfield 49, 3) := by decide +kernel
theorem dX11_firstSo_22 : decode cX11_firstSo 22 = .ok (.iload 4, 2) := by decide +kernel
theorem dX11_firstSo_24 : decode cX11_firstSo 24 = .ok (.iaload, 1) := by decide +kernel
theorem dX11_firstSo_25 : decode cX11_firstSo 25 = .ok (.iload_n 2, 1) := by decide +kernel
theorem dX11_firstSo_26 : decode cX11_firstSo 26 = .ok (.iload_n 3, 1) := by decide +kernel
theorem dX11_firstSo_27 : decode cX11_firstSo 27 = .ok (.invokevirtual 226, 3) := by decide +kernel
theorem dX11_firstSo_30 : decode cX11_firstSo 30 = .ok (.ifCond .eq 11, 3) := by decide +kernel
theorem dX11_firstSo_33 : decode cX11_firstSo 33 = .ok (.aload_n 0, 1) := by decide +kernel
theorem dX11_firstSo_34 : decode cX11_firstSo 34 = .ok (.getfield 49, 3) := by decide +kernel
theorem dX11_firstSo_37 : decode cX11_firstSo 37 = .ok (.iload 4, 2) := by decide +kernel
theorem dX11_firstSo_39 : decode cX11_firstSo 39 = .ok (.iaload, 1) := by decide +kernel
theorem dX11_firstSo_40 : decode cX11_firstSo 40 = .ok (.ireturn, 1) := by decide +kernel
theorem dX11_firstSo_41 : decode cX11_firstSo 41 = .ok (.iinc 4 1, 3) := by decide +kernel
theorem dX11_firstSo_44 : decode cX11_firstSo 44 = .ok (.goto (-36), 3) := by decide +kernel
theorem dX11_firstSo_47 : decode cX11_firstSo 47 = .ok (.bipush (-6), 2) := by decide +kernel
theorem dX11_firstSo_49 : decode cX11_firstSo 49 = .ok (.ireturn, 1) := by decide +kernel
theorem dX11_spelled_0 : decode cX11_spelled 0 = .ok (.aload_n 0, 1) := by decide +kernel
theorem dX11_spelled_1 : decode cX11_spelled 1 = .ok (.iload_n 1, 1) := by decide +kernel
theorem dX11_spelled_2 : decode cX11_spelled 2 = .ok (.invokevirtual 230, 3) := by decide +kernel
theorem dX11_spelled_5 : decode cX11_spelled 5 = .ok (.ifCond .eq 11, 3) := by decide +kernel
theorem dX11_spelled_8 : decode cX11_spelled 8 = .ok (.aload_n 0, 1) := by decide +kernel
theorem dX11_spelled_9 : decode cX11_spelled 9 = .ok (.iload_n 2, 1) := by decide +kernel
theorem dX11_spelled_10 : decode cX11_spelled 10 = .ok (.invokevirtual 223, 3) := by decide +kernel
theorem dX11_spelled_13 : decode cX11_spelled 13 = .ok (.ifCond .ne 6, 3) := by decide +kernel
theorem dX11_spelled_16 : decode cX11_spelled 16 = .ok (.bipush (-2), 2) := by decide +kernel
theorem dX11_spelled_18 : decode cX11_spelled 18 = .ok (.ireturn, 1) := by decide +kernel
theorem dX11_spelled_19 : decode cX11_spelled 19 = .ok (.aload_n 0, 1) := by decide +kernel
theorem dX11_spelled_20 : decode cX11_spelled 20 = .ok (.aload_n 0, 1) := by decide +kernel
theorem dX11_spelled_21 : decode cX11_spelled 21 = .ok (.getfield 98, 3) := by decide +kernel
theorem dX11_spelled_24 : decode cX11_spelled 24 = .ok (.iload_n 1, 1) := by decide +kernel
theorem dX11_spelled_25 : decode cX11_spelled 25 = .ok (.iload_n 2, 1) := by decide +kernel
theorem dX11_spelled_26 : decode cX11_spelled 26 = .ok (.invokevirtual 233, 3) := by decide +kernel
theorem dX11_spelled_29 : decode cX11_spelled 29 = .ok (.istore 4, 2) := by decide +kernel
theorem dX11_spelled_31 : decode cX11_spelled 31 = .ok (.iload 4, 2) := by decide +kernel
theorem dX11_spelled_33 : decode cX11_spelled 33 = .ok (.ifCond .lt 8, 3) := by decide +kernel
theorem dX11_spelled_36 : decode cX11_spelled 36 = .ok (.iload_n 3, 1) := by decide +kernel
theorem dX11_spelled_37 : decode cX11_spelled 37 = .ok (.iconst (-1), 1) := by decide +kernel
theorem dX11_spelled_38 : decode cX11_spelled 38 = .ok (.if_icmp .ne 21, 3) := by decide +kernel
theorem dX11_spelled_41 : decode cX11_spelled 41 = .ok (.iload 4, 2) := by decide +kernel
theorem dX11_spelled_43 : decode cX11_spelled 43 = .ok (.ifCond .ge 8, 3) := by decide +kernel
theorem dX11_spelled_46 : decode cX11_spelled 46 = .ok (.bipush (-6), 2) := by decide +kernel
theorem dX11_spelled_48 : decode cX11_spelled 48 = .ok (.goto 10, 3) := by decide +kernel
theorem dX11_spelled_51 : decode cX11_spelled 51 = .ok (.aload_n 0, 1) := by decide +kernel
theorem dX11_spelled_52 : decode cX11_spelled 52 = .ok (.getfield 52, 3) := by decide +kernel
theorem dX11_spelled_55 : decode cX11_spelled 55 = .ok (.iload 4, 2) := by decide +kernel
theorem dX11_spelled_57 : decode cX11_spelled 57 = .ok (.iaload, 1) := by decide +kernel
theorem dX11_spelled_58 : decode cX11_spelled 58 = .ok (.ireturn, 1) := by decide +kernel
theorem dX11_spelled_59 : decode cX11_spelled 59 = .ok (.iload_n 3, 1) := by decide +kernel
theorem dX11_spelled_60 : decode cX11_spelled 60 = .ok (.i2l, 1) := by decide +kernel
theorem dX11_spelled_61 : decode cX11_spelled 61 = .ok (.lconst 0, 1) := by decide +kernel
theorem dX11_spelled_62 : decode cX11_spelled 62 = .ok (.aload_n 0, 1) := by decide +kernel
theorem dX11_spelled_63 : decode cX11_spelled 63 = .ok (.getfield 52, 3) := by decide +kernel
theorem dX11_spelled_66 : decode cX11_spelled 66 = .ok (.iload 4, 2) := by decide +kernel
theorem dX11_spelled_68 : decode cX11_spelled 68 = .ok (.iaload, 1) := by decide +kernel
theorem dX11_spelled_69 : decode cX11_spelled 69 = .ok (.iconst 1, 1) := by decide +kernel
theorem dX11_spelled_70 : decode cX11_spelled 70 = .ok (.isub, 1) := by decide +kernel
theorem dX11_spelled_71 : decode cX11_spelled 71 = .ok (.i2l, 1) := by decide +kernel
theorem dX11_spelled_72 : decode cX11_spelled 72 = .ok (.invokestatic 104, 3) := by decide +kernel
theorem dX11_spelled_75 : decode cX11_spelled 75 = .ok (.ifCond .ne 6, 3) := by decide +kernel
theorem dX11_spelled_78 : decode cX11_spelled 78 = .ok (.bipush (-6), 2) := by decide +kernel
theorem dX11_spelled_80 : decode cX11_spelled 80 = .ok (.ireturn, 1) := by decide +kernel
theorem dX11_spelled_81 : decode cX11_spelled 81 = .ok (.iload 4, 2) := by decide +kernel
theorem dX11_spelled_83 : decode cX11_spelled 83 = .ok (.istore 5, 2) := by decide +kernel
theorem dX11_spelled_85 : decode cX11_spelled 85 = .ok (.aload_n 0, 1) := by decide +kernel
theorem dX11_spelled_86 : decode cX11_spelled 86 = .ok (.getfield 52, 3) := by decide +kernel
theorem dX11_spelled_89 : decode cX11_spelled 89 = .ok (.iload 5, 2) := by decide +kernel
theorem dX11_spelled_91 : decode cX11_spelled 91 = .ok (.iaload, 1) := by decide +kernel
theorem dX11_spelled_92 : decode cX11_spelled 92 = .ok (.iload_n 3, 1) := by decide +kernel
theorem dX11_spelled_93 : decode cX11_spelled 93 = .ok (.iconst 1, 1) := by decide +kernel
theorem dX11_spelled_94 : decode cX11_spelled 94 = .ok (.iadd, 1) := by decide +kernel
theorem dX11_spelled_95 : decode cX11_spelled 95 = .ok (.if_icmp .le 15, 3) := by decide +kernel
theorem dX11_spelled_98 : decode cX11_spelled 98 = .ok (.aload_n 0, 1) := by decide +kernel
theorem dX11_spelled_99 : decode cX11_spelled 99 = .ok (.getfield 55, 3) := by decide +kernel
theorem dX11_spelled_102 : decode cX11_spelled 102 = .ok (.iload 5, 2) := by decide +kernel
theorem dX11_spelled_104 : decode cX11_spelled 104 = .ok (.iaload, 1) := by decide +kernel
theorem dX11_spelled_105 : decode cX11_spelled 105 = .ok (.istore 5, 2) := by decide +kernel
theorem dX11_spelled_107 : decode cX11_spelled 107 = .ok (.goto (-22), 3) := by decide +kernel
theorem dX11_spelled_110 : decode cX11_spelled 110 = .ok (.aload_n 0, 1) := by decide +kernel
theorem dX11_spelled_111 : decode cX11_spelled 111 = .ok (.getfield 58, 3) := by decide +kernel
theorem dX11_spelled_114 : decode cX11_spelled 114 = .ok (.iload 5, 2) := by decide +kernel
theorem dX11_spelled_116 : decode cX11_spelled 116 = .ok (.iaload, 1) := by decide +kernel
theorem dX11_spelled_117 : decode cX11_spelled 117 = .ok (.ireturn, 1) := by decide +kernel
theorem dX11_tired_0 : decode cX11_tired 0 = .ok (.aload_n 0, 1) := by decide +kernel
theorem dX11_tired_1 : decode cX11_tired 1 = .ok (.iload_n 1, 1) := by decide +kernel
theorem dX11_tired_2 : decode cX11_tired 2 = .ok (.invokevirtual 230, 3) := by decide +kernel
theorem dX11_tired_5 : decode cX11_tired 5 = .ok (.ifCond .eq 11, 3) := by decide +kernel
theorem dX11_tired_8 : decode cX11_tired 8 = .ok (.aload_n 0, 1) := by decide +kernel
theorem dX11_tired_9 : decode cX11_tired 9 = .ok (.iload_n 2, 1) := by decide +kernel
theorem dX11_tired_10 : decode cX11_tired 10 = .ok (.invokevirtual 223, 3) := by decide +kernel
theorem dX11_tired_13 : decode cX11_tired 13 = .ok (.ifCond .ne 6, 3) := by decide +kernel
theorem dX11_tired_16 : decode cX11_tired 16 = .ok (.bipush (-2), 2) := by decide +kernel
theorem dX11_tired_18 : decode cX11_tired 18 = .ok (.ireturn, 1) := by decide +kernel
theorem dX11_tired_19 : decode cX11_tired 19 = .ok (.iconst 0, 1) := by decide +kernel
theorem dX11_tired_20 : decode cX11_tired 20 = .ok (.istore_n 3, 1) := by decide +kernel
theorem dX11_tired_21 : decode cX11_tired 21 = .ok (.iload_n 3, 1) := by decide +kernel
theorem dX11_tired_22 : decode cX11_tired 22 = .ok (.sipush 1024, 3) := by decide +kernel
theorem dX11_tired_25 : decode cX11_tired 25 = .ok (.if_icmp .ge 17, 3) := by decide +kernel
theorem dX11_tired_28 : decode cX11_tired 28 = .ok (.aload_n 0, 1) := by decide +kernel
theorem dX11_tired_29 : decode cX11_tired 29 = .ok (.getfield 61, 3) := by decide +kernel
theorem dX11_tired_32 : decode cX11_tired 32 = .ok (.iload_n 3, 1) := by decide +kernel
theorem dX11_tired_33 : decode cX11_tired 33 = .ok (.ldc 236, 2) := by decide +kernel
theorem dX11_tired_35 : decode cX11_tired 35 = .ok (.iastore, 1) := by decide +kernel
theorem dX11_tired_36 : decode cX11_tired 36 = .ok (.iinc 3 1, 3) := by decide +kernel
theorem dX11_tired_39 : decode cX11_tired 39 = .ok (.goto (-18), 3) := by decide +kernel
theorem dX11_tired_42 : decode cX11_tired 42 = .ok (.aload_n 0, 1) := by decide +kernel
theorem dX11_tired_43 : decode cX11_tired 43 = .ok (.getfield 61, 3) := by decide +kernel
theorem dX11_tired_46 : decode cX11_tired 46 = .ok (.aload_n 0, 1) := by decide +kernel
theorem dX11_tired_47 : decode cX11_tired 47 = .ok (.invokevirtual 211, 3) := by decide +kernel
theorem dX11_tired_50 : decode cX11_tired 50 = .ok (.iconst 0, 1) := by decide +kernel
theorem dX11_tired_51 : decode cX11_tired 51 = .ok (.iastore, 1) := by decide +kernel
theorem dX11_tired_52 : decode cX11_tired 52 = .ok (.iconst 1, 1) := by decide +kernel
theorem dX11_tired_53 : decode cX11_tired 53 = .ok (.istore_n 3, 1) := by decide +kernel
theorem dX11_tired_54 : decode cX11_tired 54 = .ok (.iload_n 3, 1) := by decide +kernel
theorem dX11_tired_55 : decode cX11_tired 55 = .ok (.ifCond .eq 132, 3) := by decide +kernel
theorem dX11_tired_58 : decode cX11_tired 58 = .ok (.iconst 0, 1) := by decide +kernel
theorem dX11_tired_59 : decode cX11_tired 59 = .ok (.istore_n 3, 1) := by decide +kernel
theorem dX11_tired_60 : decode cX11_tired 60 = .ok (.iconst 0, 1) := by decide +kernel
theorem dX11_tired_61 : decode cX11_tired 61 = .ok (.istore 4, 2) := by decide +kernel
theorem dX11_tired_63 : decode cX11_tired 63 = .ok (.iload 4, 2) := by decide +kernel
theorem dX11_tired_65 : decode cX11_tired 65 = .ok (.aload_n 0, 1) := by decide +kernel
theorem dX11_tired_66 : decode cX11_tired 66 = .ok (.invokevirtual 220, 3) := by decide +kernel
theorem dX11_tired_69 : decode cX11_tired 69 = .ok (.if_icmp .ge 115, 3) := by decide +kernel
theorem dX11_tired_72 : decode cX11_tired 72 = .ok (.iconst 0, 1) := by decide +kernel
theorem dX11_tired_73 : decode cX11_tired 73 = .ok (.istore 5, 2) := by decide +kernel
theorem dX11_tired_75 : decode cX11_tired 75 = .ok (.iload 5, 2) := by decide +kernel
theorem dX11_tired_77 : decode cX11_tired 77 = .ok (.bipush 6, 2) := by decide +kernel
theorem dX11_tired_79 : decode cX11_tired 79 = .ok (.if_icmp .ge 99, 3) := by decide +kernel
theorem dX11_tired_82 : decode cX11_tired 82 = .ok (.aload_n 0, 1) := by decide +kernel
theorem dX11_tired_83 : decode cX11_tired 83 = .ok (.getfield 61, 3) := by decide +kernel
theorem dX11_tired_86 : decode cX11_tired 86 = .ok (.iload 4, 2) := by decide +kernel
theorem dX11_tired_88 : decode cX11_tired 88 = .ok (.iaload, 1) := by decide +kernel
theorem dX11_tired_89 : decode cX11_tired 89 = .ok (.ldc 236, 2) := by decide +kernel
theorem dX11_tired_91 : decode cX11_tired 91 = .ok (.if_icmp .ge 87, 3) := by decide +kernel
theorem dX11_tired_94 : decode cX11_tired 94 = .ok (.aload_n 0, 1) := by decide +kernel
theorem dX11_tired_95 : decode cX11_tired 95 = .ok (.iload 5, 2) := by decide +kernel
theorem dX11_tired_97 : decode cX11_tired 97 = .ok (.invokevirtual 155, 3) := by decide +kernel
theorem dX11_tired_100 : decode cX11_tired 100 = .ok (.ifCond .eq 14, 3) := by decide +kernel
theorem dX11_tired_103 : decode cX11_tired 103 = .ok (.aload_n 0, 1) := by decide +kernel
theorem dX11_tired_104 : decode cX11_tired 104 = .ok (.iload 4, 2) := by decide +kernel
theorem dX11_tired_106 : decode cX11_tired 106 = .ok (.iload 5, 2) := by decide +kernel
theorem dX11_tired_108 : decode cX11_tired 108 = .ok (.invokevirtual 214, 3) := by decide +kernel
theorem dX11_tired_111 : decode cX11_tired 111 = .ok (.goto 5, 3) := by decide +kernel
theorem dX11_tired_114 : decode cX11_tired 114 = .ok (.iload 4, 2) := by decide +kernel
theorem dX11_tired_116 : decode cX11_tired 116 = .ok (.istore 6, 2) := by decide +kernel
theorem dX11_tired_118 : decode cX11_tired 118 = .ok (.aload_n 0, 1) := by decide +kernel
theorem dX11_tired_119 : decode cX11_tired 119 = .ok (.getfield 61, 3) := by decide +kernel
theorem dX11_tired_122 : decode cX11_tired 122 = .ok (.iload 4, 2) := by decide +kernel
theorem dX11_tired_124 : decode cX11_tired 124 = .ok (.iaload, 1) := by decide +kernel
theorem dX11_tired_125 : decode cX11_tired 125 = .ok (.aload_n 0, 1) := by decide +kernel
theorem dX11_tired_126 : decode cX11_tired 126 = .ok (.iload 5, 2) := by decide +kernel
theorem dX11_tired_128 : decode cX11_tired 128 = .ok (.invokevirtual 155, 3) := by decide +kernel
theorem dX11_tired_131 : decode cX11_tired 131 = .ok (.ifCond .eq 14, 3) := by decide +kernel
theorem dX11_tired_134 : decode cX11_tired 134 = .ok (.aload_n 0, 1) := by decide +kernel
theorem dX11_tired_135 : decode cX11_tired 135 = .ok (.iload 4, 2) := by decide +kernel
theorem dX11_tired_137 : decode cX11_tired 137 = .ok (.iload 5, 2) := by decide +kernel
theorem dX11_tired_139 : decode cX11_tired 139 = .ok (.invokevirtual 237, 3) := by decide +kernel
theorem dX11_tired_142 : decode cX11_tired 142 = .ok (.goto 4, 3) := by decide +kernel
theorem dX11_tired_145 : decode cX11_tired 145 = .ok (.iconst 0, 1) := by decide +kernel
theorem dX11_tired_146 : decode cX11_tired 146 = .ok (.iadd, 1) := by decide +kernel
theorem dX11_tired_147 : decode cX11_tired 147 = .ok (.istore 7, 2) := by decide +kernel
theorem dX11_tired_149 : decode cX11_tired 149 = .ok (.iload 7, 2) := by decide +kernel
theorem dX11_tired_151 : decode cX11_tired 151 = .ok (.aload_n 0, 1) := by decide +kernel
theorem dX11_tired_152 : decode cX11_tired 152 = .ok (.getfield 61, 3) := by decide +kernel
theorem dX11_tired_155 : decode cX11_tired 155 = .ok (.iload 6, 2) := by decide +kernel
theorem dX11_tired_157 : decode cX11_tired 157 = .ok (.iaload, 1) := by decide +kernel
theorem dX11_tired_158 : decode cX11_tired 158 = .ok (.if_icmp .ge 14, 3) := by decide +kernel
theorem dX11_tired_161 : decode cX11_tired 161 = .ok (.aload_n 0, 1) := by decide +kernel
theorem dX11_tired_162 : decode cX11_tired 162 = .ok (.getfield 61, 3) := by decide +kernel
theorem dX11_tired_165 : decode cX11_tired 165 = .ok (.iload 6, 2) := by decide +kernel
theorem dX11_tired_167 : decode cX11_tired 167 = .ok (.iload 7, 2) := by decide +kernel
theorem dX11_tired_169 : decode cX11_tired 169 = .ok (.iastore, 1) := by decide +kernel
theorem dX11_tired_170 : decode cX11_tired 170 = .ok (.iconst 1, 1) := by decide +kernel
theorem dX11_tired_171 : decode cX11_tired 171 = .ok (.istore_n 3, 1) := by decide +kernel
theorem dX11_tired_172 : decode cX11_tired 172 = .ok (.iinc 5 1, 3) := by decide +kernel
theorem dX11_tired_175 : decode cX11_tired 175 = .ok (.goto (-100), 3) := by decide +kernel
theorem dX11_tired_178 : decode cX11_tired 178 = .ok (.iinc 4 1, 3) := by decide +kernel
theorem dX11_tired_181 : decode cX11_tired 181 = .ok (.goto (-118), 3) := by decide +kernel
theorem dX11_tired_184 : decode cX11_tired 184 = .ok (.goto (-130), 3) := by decide +kernel
theorem dX11_tired_187 : decode cX11_tired 187 = .ok (.ldc 236, 2) := by decide +kernel
theorem dX11_tired_189 : decode cX11_tired 189 = .ok (.istore 4, 2) := by decide +kernel
theorem dX11_tired_191 : decode cX11_tired 191 = .ok (.iconst 0, 1) := by decide +kernel
theorem dX11_tired_192 : decode cX11_tired 192 = .ok (.istore 5, 2) := by decide +kernel
theorem dX11_tired_194 : decode cX11_tired 194 = .ok (.iload 5, 2) := by decide +kernel
theorem dX11_tired_196 : decode cX11_tired 196 = .ok (.aload_n 0, 1) := by decide +kernel
theorem dX11_tired_197 : decode cX11_tired 197 = .ok (.invokevirtual 220, 3) := by decide +kernel
theorem dX11_tired_200 : decode cX11_tired 200 = .ok (.if_icmp .ge 46, 3) := by decide +kernel
theorem dX11_tired_203 : decode cX11_tired 203 = .ok (.aload_n 0, 1) := by decide +kernel
theorem dX11_tired_204 : decode cX11_tired 204 = .ok (.iload 5, 2) := by decide +kernel
theorem dX11_tired_206 : decode cX11_tired 206 = .ok (.iload_n 1, 1) := by decide +kernel
theorem dX11_tired_207 : decode cX11_tired 207 = .ok (.iload_n 2, 1) := by decide +kernel
theorem dX11_tired_208 : decode cX11_tired 208 = .ok (.invokevirtual 226, 3) := by decide +kernel
theorem dX11_tired_211 : decode cX11_tired 211 = .ok (.ifCond .eq 25, 3) := by decide +kernel
theorem dX11_tired_214 : decode cX11_tired 214 = .ok (.aload_n 0, 1) := by decide +kernel
theorem dX11_tired_215 : decode cX11_tired 215 = .ok (.getfield 61, 3) := by decide +kernel
theorem dX11_tired_218 : decode cX11_tired 218 = .ok (.iload 5, 2) := by decide +kernel
theorem dX11_tired_220 : decode cX11_tired 220 = .ok (.iaload, 1) := by decide +kernel
theorem dX11_tired_221 : decode cX11_tired 221 = .ok (.iload 4, 2) := by decide +kernel
theorem dX11_tired_223 : decode cX11_tired 223 = .ok (.if_icmp .ge 13, 3) := by decide +kernel
theorem dX11_tired_226 : decode cX11_tired 226 = .ok (.aload_n 0, 1) := by decide +kernel
theorem dX11_tired_227 : decode cX11_tired 227 = .ok (.getfield 61, 3) := by decide +kernel
theorem dX11_tired_230 : decode cX11_tired 230 = .ok (.iload 5, 2) := by decide +kernel
theorem dX11_tired_232 : decode cX11_tired 232 = .ok (.iaload, 1) := by decide +kernel
theorem dX11_tired_233 : decode cX11_tired 233 = .ok (.goto 5, 3) := by decide +kernel
theorem dX11_tired_236 : decode cX11_tired 236 = .ok (.iload 4, 2) := by decide +kernel
theorem dX11_tired_238 : decode cX11_tired 238 = .ok (.istore 4, 2) := by decide +kernel
theorem dX11_tired_240 : decode cX11_tired 240 = .ok (.iinc 5 1, 3) := by decide +kernel
theorem dX11_tired_243 : decode cX11_tired 243 = .ok (.goto (-49), 3) := by decide +kernel
theorem dX11_tired_246 : decode cX11_tired 246 = .ok (.iload 4, 2) := by decide +kernel
theorem dX11_tired_248 : decode cX11_tired 248 = .ok (.ldc 236, 2) := by decide +kernel
theorem dX11_tired_250 : decode cX11_tired 250 = .ok (.if_icmp .ne 8, 3) := by decide +kernel
theorem dX11_tired_253 : decode cX11_tired 253 = .ok (.bipush (-6), 2) := by decide +kernel
theorem dX11_tired_255 : decode cX11_tired 255 = .ok (.goto 5, 3) := by decide +kernel
theorem dX11_tired_258 : decode cX11_tired 258 = .ok (.iload 4, 2) := by decide +kernel
theorem dX11_tired_260 : decode cX11_tired 260 = .ok (.ireturn, 1) := by decide +kernel
theorem dX11_isAbleBy_0 : decode cX11_isAbleBy 0 = .ok (.aload_n 0, 1) := by decide +kernel
theorem dX11_isAbleBy_1 : decode cX11_isAbleBy 1 = .ok (.invokevirtual 195, 3) := by decide +kernel
theorem dX11_isAbleBy_4 : decode cX11_isAbleBy 4 = .ok (.iload_n 1, 1) := by decide +kernel
theorem dX11_isAbleBy_5 : decode cX11_isAbleBy 5 = .ok (.istore 5, 2) := by decide +kernel
theorem dX11_isAbleBy_7 : decode cX11_isAbleBy 7 = .ok (.iconst 1, 1) := by decide +kernel
theorem dX11_isAbleBy_8 : decode cX11_isAbleBy 8 = .ok (.istore 6, 2) := by decide +kernel
theorem dX11_isAbleBy_10 : decode cX11_isAbleBy 10 = .ok (.iconst 0, 1) := by decide +kernel
theorem dX11_isAbleBy_11 : decode cX11_isAbleBy 11 = .ok (.istore 7, 2) := by decide +kernel
theorem dX11_isAbleBy_13 : decode cX11_isAbleBy 13 = .ok (.iload 7, 2) := by decide +kernel
theorem dX11_isAbleBy_15 : decode cX11_isAbleBy 15 = .ok (.iload_n 2, 1) := by decide +kernel
theorem dX11_isAbleBy_16 : decode cX11_isAbleBy 16 = .ok (.if_icmp .ge 54, 3) := by decide +kernel
theorem dX11_isAbleBy_19 : decode cX11_isAbleBy 19 = .ok (.iload 6, 2) := by decide +kernel
theorem dX11_isAbleBy_21 : decode cX11_isAbleBy 21 = .ok (.ifCond .eq 19, 3) := by decide +kernel
theorem dX11_isAbleBy_24 : decode cX11_isAbleBy 24 = .ok (.aload_n 0, 1) := by decide +kernel
theorem dX11_isAbleBy_25 : decode cX11_isAbleBy 25 = .ok (.iload 5, 2) := by decide +kernel
theorem dX11_isAbleBy_27 : decode cX11_isAbleBy 27 = .ok (.bipush 6, 2) := by decide +kernel
theorem dX11_isAbleBy_29 : decode cX11_isAbleBy 29 = .ok (.irem, 1) := by decide +kernel
theorem dX11_isAbleBy_30 : decode cX11_isAbleBy 30 = .ok (.invokevirtual 155, 3) := by decide +kernel
theorem dX11_isAbleBy_33 : decode cX11_isAbleBy 33 = .ok (.ifCond .eq 7, 3) := by decide +kernel
theorem dX11_isAbleBy_36 : decode cX11_isAbleBy 36 = .ok (.iconst 1, 1) := by decide +kernel
theorem dX11_isAbleBy_37 : decode cX11_isAbleBy 37 = .ok (.goto 4, 3) := by decide +kernel
theorem dX11_isAbleBy_40 : decode cX11_isAbleBy 40 = .ok (.iconst 0, 1) := by decide +kernel
theorem dX11_isAbleBy_41 : decode cX11_isAbleBy 41 = .ok (.istore 6, 2) := by decide +kernel
theorem dX11_isAbleBy_43 : decode cX11_isAbleBy 43 = .ok (.iload 6, 2) := by decide +kernel
theorem dX11_isAbleBy_45 : decode cX11_isAbleBy 45 = .ok (.ifCond .eq 12, 3) := by decide +kernel
theorem dX11_isAbleBy_48 : decode cX11_isAbleBy 48 = .ok (.aload_n 0, 1) := by decide +kernel
theorem dX11_isAbleBy_49 : decode cX11_isAbleBy 49 = .ok (.iload 5, 2) := by decide +kernel
theorem dX11_isAbleBy_51 : decode cX11_isAbleBy 51 = .ok (.bipush 6, 2) := by decide +kernel
theorem dX11_isAbleBy_53 : decode cX11_isAbleBy 53 = .ok (.irem, 1) := by decide +kernel
theorem dX11_isAbleBy_54 : decode cX11_isAbleBy 54 = .ok (.invokevirtual 171, 3) := by decide +kernel
theorem dX11_isAbleBy_57 : decode cX11_isAbleBy 57 = .ok (.iload 5, 2) := by decide +kernel
theorem dX11_isAbleBy_59 : decode cX11_isAbleBy 59 = .ok (.bipush 6, 2) := by decide +kernel
theorem dX11_isAbleBy_61 : decode cX11_isAbleBy 61 = .ok (.idiv, 1) := by decide +kernel
theorem dX11_isAbleBy_62 : decode cX11_isAbleBy 62 = .ok (.istore 5, 2) := by decide +kernel
theorem dX11_isAbleBy_64 : decode cX11_isAbleBy 64 = .ok (.iinc 7 1, 3) := by decide +kernel
theorem dX11_isAbleBy_67 : decode cX11_isAbleBy 67 = .ok (.goto (-54), 3) := by decide +kernel
theorem dX11_isAbleBy_70 : decode cX11_isAbleBy 70 = .ok (.iload 6, 2) := by decide +kernel
theorem dX11_isAbleBy_72 : decode cX11_isAbleBy 72 = .ok (.ifCond .eq 21, 3) := by decide +kernel
theorem dX11_isAbleBy_75 : decode cX11_isAbleBy 75 = .ok (.aload_n 0, 1) := by decide +kernel
theorem dX11_isAbleBy_76 : decode cX11_isAbleBy 76 = .ok (.aload_n 0, 1) := by decide +kernel
theorem dX11_isAbleBy_77 : decode cX11_isAbleBy 77 = .ok (.invokevirtual 211, 3) := by decide +kernel
theorem dX11_isAbleBy_80 : decode cX11_isAbleBy 80 = .ok (.iload_n 3, 1) := by decide +kernel
theorem dX11_isAbleBy_81 : decode cX11_isAbleBy 81 = .ok (.iload 4, 2) := by decide +kernel
theorem dX11_isAbleBy_83 : decode cX11_isAbleBy 83 = .ok (.invokevirtual 226, 3) := by decide +kernel
theorem dX11_isAbleBy_86 : decode cX11_isAbleBy 86 = .ok (.ifCond .eq 7, 3) := by decide +kernel
theorem dX11_isAbleBy_89 : decode cX11_isAbleBy 89 = .ok (.iconst 1, 1) := by decide +kernel
theorem dX11_isAbleBy_90 : decode cX11_isAbleBy 90 = .ok (.goto 4, 3) := by decide +kernel
theorem dX11_isAbleBy_93 : decode cX11_isAbleBy 93 = .ok (.iconst 0, 1) := by decide +kernel
theorem dX11_isAbleBy_94 : decode cX11_isAbleBy 94 = .ok (.istore 7, 2) := by decide +kernel
theorem dX11_isAbleBy_96 : decode cX11_isAbleBy 96 = .ok (.aload_n 0, 1) := by decide +kernel
theorem dX11_isAbleBy_97 : decode cX11_isAbleBy 97 = .ok (.invokevirtual 201, 3) := by decide +kernel
theorem dX11_isAbleBy_100 : decode cX11_isAbleBy 100 = .ok (.iload 7, 2) := by decide +kernel
theorem dX11_isAbleBy_102 : decode cX11_isAbleBy 102 = .ok (.ireturn, 1) := by decide +kernel
theorem dX11_able_0 : decode cX11_able 0 = .ok (.aload_n 0, 1) := by decide +kernel
theorem dX11_able_1 : decode cX11_able 1 = .ok (.iload_n 1, 1) := by decide +kernel
theorem dX11_able_2 : decode cX11_able 2 = .ok (.invokevirtual 230, 3) := by decide +kernel
theorem dX11_able_5 : decode cX11_able 5 = .ok (.ifCond .eq 11, 3) := by decide +kernel
theorem dX11_able_8 : decode cX11_able 8 = .ok (.aload_n 0, 1) := by decide +kernel
theorem dX11_able_9 : decode cX11_able 9 = .ok (.iload_n 2, 1) := by decide +kernel
theorem dX11_able_10 : decode cX11_able 10 = .ok (.invokevirtual 223, 3) := by decide +kernel
theorem dX11_able_13 : decode cX11_able 13 = .ok (.ifCond .ne 6, 3) := by decide +kernel
theorem dX11_able_16 : decode cX11_able 16 = .ok (.bipush (-2), 2) := by decide +kernel
theorem dX11_able_18 : decode cX11_able 18 = .ok (.ireturn, 1) := by decide +kernel
theorem dX11_able_19 : decode cX11_able 19 = .ok (.iconst 1, 1) := by decide +kernel
theorem dX11_able_20 : decode cX11_able 20 = .ok (.istore_n 3, 1) := by decide +kernel
theorem dX11_able_21 : decode cX11_able 21 = .ok (.iconst 0, 1) := by decide +kernel
theorem dX11_able_22 : decode cX11_able 22 = .ok (.istore 4, 2) := by decide +kernel
theorem dX11_able_24 : decode cX11_able 24 = .ok (.iload 4, 2) := by decide +kernel
theorem dX11_able_26 : decode cX11_able 26 = .ok (.iconst 5, 1) := by decide +kernel
theorem dX11_able_27 : decode cX11_able 27 = .ok (.if_icmp .gt 45, 3) := by decide +kernel
theorem dX11_able_30 : decode cX11_able 30 = .ok (.iconst 0, 1) := by decide +kernel
theorem dX11_able_31 : decode cX11_able 31 = .ok (.istore 5, 2) := by decide +kernel
theorem dX11_able_33 : decode cX11_able 33 = .ok (.iload 5, 2) := by decide +kernel
theorem dX11_able_35 : decode cX11_able 35 = .ok (.iload_n 3, 1) := by decide +kernel
theorem dX11_able_36 : decode cX11_able 36 = .ok (.if_icmp .ge 25, 3) := by decide +kernel
theorem dX11_able_39 : decode cX11_able 39 = .ok (.aload_n 0, 1) := by decide +kernel
theorem dX11_able_40 : decode cX11_able 40 = .ok (.iload 5, 2) := by decide +kernel
theorem dX11_able_42 : decode cX11_able 42 = .ok (.iload 4, 2) := by decide +kernel
theorem dX11_able_44 : decode cX11_able 44 = .ok (.iload_n 1, 1) := by decide +kernel
theorem dX11_able_45 : decode cX11_able 45 = .ok (.iload_n 2, 1) := by decide +kernel
theorem dX11_able_46 : decode cX11_able 46 = .ok (.invokevirtual 240, 3) := by decide +kernel
theorem dX11_able_49 : decode cX11_able 49 = .ok (.ifCond .eq 6, 3) := by decide +kernel
theorem dX11_able_52 : decode cX11_able 52 = .ok (.iload 4, 2) := by decide +kernel
theorem dX11_able_54 : decode cX11_able 54 = .ok (.ireturn, 1) := by decide +kernel
theorem dX11_able_55 : decode cX11_able 55 = .ok (.iinc 5 1, 3) := by decide +kernel
theorem dX11_able_58 : decode cX11_able 58 = .ok (.goto (-25), 3) := by decide +kernel
theorem dX11_able_61 : decode cX11_able 61 = .ok (.iload_n 3, 1) := by decide +kernel
theorem dX11_able_62 : decode cX11_able 62 = .ok (.bipush 6, 2) := by decide +kernel
theorem dX11_able_64 : decode cX11_able 64 = .ok (.imul, 1) := by decide +kernel
theorem dX11_able_65 : decode cX11_able 65 = .ok (.istore_n 3, 1) := by decide +kernel
theorem dX11_able_66 : decode cX11_able 66 = .ok (.iinc 4 1, 3) := by decide +kernel
theorem dX11_able_69 : decode cX11_able 69 = .ok (.goto (-45), 3) := by decide +kernel
theorem dX11_able_72 : decode cX11_able 72 = .ok (.bipush (-6), 2) := by decide +kernel
theorem dX11_able_74 : decode cX11_able 74 = .ok (.ireturn, 1) := by decide +kernel
theorem dX11_without_0 : decode cX11_without 0 = .ok (.aload_n 0, 1) := by decide +kernel
theorem dX11_without_1 : decode cX11_without 1 = .ok (.iload_n 1, 1) := by decide +kernel
theorem dX11_without_2 : decode cX11_without 2 = .ok (.invokevirtual 155, 3) := by decide +kernel
theorem dX11_without_5 : decode cX11_without 5 = .ok (.ifCond .ne 5, 3) := by decide +kernel
theorem dX11_without_8 : decode cX11_without 8 = .ok (.iconst (-1), 1) := by decide +kernel
theorem dX11_without_9 : decode cX11_without 9 = .ok (.ireturn, 1) := by decide +kernel
theorem dX11_without_10 : decode cX11_without 10 = .ok (.aload_n 0, 1) := by decide +kernel
theorem dX11_without_11 : decode cX11_without 11 = .ok (.iload_n 2, 1) := by decide +kernel
theorem dX11_without_12 : decode cX11_without 12 = .ok (.invokevirtual 230, 3) := by decide +kernel
theorem dX11_without_15 : decode cX11_without 15 = .ok (.ifCond .eq 11, 3) := by decide +kernel
theorem dX11_without_18 : decode cX11_without 18 = .ok (.aload_n 0, 1) := by decide +kernel
theorem dX11_without_19 : decode cX11_without 19 = .ok (.iload_n 3, 1) := by decide +kernel
theorem dX11_without_20 : decode cX11_without 20 = .ok (.invokevirtual 223, 3) := by decide +kernel
theorem dX11_without_23 : decode cX11_without 23 = .ok (.ifCond .ne 6, 3) := by decide +kernel
theorem dX11_without_26 : decode cX11_without 26 = .ok (.bipush (-2), 2) := by decide +kernel
theorem dX11_without_28 : decode cX11_without 28 = .ok (.ireturn, 1) := by decide +kernel
theorem dX11_without_29 : decode cX11_without 29 = .ok (.aload_n 0, 1) := by decide +kernel
theorem dX11_without_30 : decode cX11_without 30 = .ok (.aload_n 0, 1) := by decide +kernel
theorem dX11_without_31 : decode cX11_without 31 = .ok (.getfield 98, 3) := by decide +kernel
theorem dX11_without_34 : decode cX11_without 34 = .ok (.iload_n 2, 1) := by decide +kernel
theorem dX11_without_35 : decode cX11_without 35 = .ok (.iload_n 3, 1) := by decide +kernel
theorem dX11_without_36 : decode cX11_without 36 = .ok (.invokevirtual 233, 3) := by decide +kernel
theorem dX11_without_39 : decode cX11_without 39 = .ok (.istore 4, 2) := by decide +kernel
theorem dX11_without_41 : decode cX11_without 41 = .ok (.iload 4, 2) := by decide +kernel
theorem dX11_without_43 : decode cX11_without 43 = .ok (.ifCond .ge 8, 3) := by decide +kernel
theorem dX11_without_46 : decode cX11_without 46 = .ok (.bipush (-6), 2) := by decide +kernel
theorem dX11_without_48 : decode cX11_without 48 = .ok (.goto 10, 3) := by decide +kernel
theorem dX11_without_51 : decode cX11_without 51 = .ok (.aload_n 0, 1) := by decide +kernel
theorem dX11_without_52 : decode cX11_without 52 = .ok (.getfield 52, 3) := by decide +kernel
theorem dX11_without_55 : decode cX11_without 55 = .ok (.iload 4, 2) := by decide +kernel
theorem dX11_without_57 : decode cX11_without 57 = .ok (.iaload, 1) := by decide +kernel
theorem dX11_without_58 : decode cX11_without 58 = .ok (.istore 5, 2) := by decide +kernel
theorem dX11_without_60 : decode cX11_without 60 = .ok (.aload_n 0, 1) := by decide +kernel
theorem dX11_without_61 : decode cX11_without 61 = .ok (.aload_n 0, 1) := by decide +kernel
theorem dX11_without_62 : decode cX11_without 62 = .ok (.getfield 98, 3) := by decide +kernel
theorem dX11_without_65 : decode cX11_without 65 = .ok (.iconst 1, 1) := by decide +kernel
theorem dX11_without_66 : decode cX11_without 66 = .ok (.iload_n 1, 1) := by decide +kernel
theorem dX11_without_67 : decode cX11_without 67 = .ok (.ishl, 1) := by decide +kernel
theorem dX11_without_68 : decode cX11_without 68 = .ok (.iconst (-1), 1) := by decide +kernel
theorem dX11_without_69 : decode cX11_without 69 = .ok (.ixor, 1) := by decide +kernel
theorem dX11_without_70 : decode cX11_without 70 = .ok (.iand, 1) := by decide +kernel
theorem dX11_without_71 : decode cX11_without 71 = .ok (.iload_n 2, 1) := by decide +kernel
theorem dX11_without_72 : decode cX11_without 72 = .ok (.iload_n 3, 1) := by decide +kernel
theorem dX11_without_73 : decode cX11_without 73 = .ok (.invokevirtual 233, 3) := by decide +kernel
theorem dX11_without_76 : decode cX11_without 76 = .ok (.istore 4, 2) := by decide +kernel
theorem dX11_without_78 : decode cX11_without 78 = .ok (.iload 5, 2) := by decide +kernel
theorem dX11_without_80 : decode cX11_without 80 = .ok (.ifCond .lt 8, 3) := by decide +kernel
theorem dX11_without_83 : decode cX11_without 83 = .ok (.iload 4, 2) := by decide +kernel
theorem dX11_without_85 : decode cX11_without 85 = .ok (.ifCond .ge 8, 3) := by decide +kernel
theorem dX11_without_88 : decode cX11_without 88 = .ok (.bipush (-6), 2) := by decide +kernel
theorem dX11_without_90 : decode cX11_without 90 = .ok (.goto 13, 3) := by decide +kernel
theorem dX11_without_93 : decode cX11_without 93 = .ok (.aload_n 0, 1) := by decide +kernel
theorem dX11_without_94 : decode cX11_without 94 = .ok (.getfield 52, 3) := by decide +kernel
theorem dX11_without_97 : decode cX11_without 97 = .ok (.iload 4, 2) := by decide +kernel
theorem dX11_without_99 : decode cX11_without 99 = .ok (.iaload, 1) := by decide +kernel
theorem dX11_without_100 : decode cX11_without 100 = .ok (.iload 5, 2) := by decide +kernel
theorem dX11_without_102 : decode cX11_without 102 = .ok (.isub, 1) := by decide +kernel
theorem dX11_without_103 : decode cX11_without 103 = .ok (.ireturn, 1) := by decide +kernel
theorem dX11_layWanted_0 : decode cX11_layWanted 0 = .ok (.iload_n 2, 1) := by decide +kernel
theorem dX11_layWanted_1 : decode cX11_layWanted 1 = .ok (.istore_n 3, 1) := by decide +kernel
theorem dX11_layWanted_2 : decode cX11_layWanted 2 = .ok (.iload_n 2, 1) := by decide +kernel
theorem dX11_layWanted_3 : decode cX11_layWanted 3 = .ok (.ifCond .lt 7, 3) := by decide +kernel
theorem dX11_layWanted_6 : decode cX11_layWanted 6 = .ok (.iconst 1, 1) := by decide +kernel
theorem dX11_layWanted_7 : decode cX11_layWanted 7 = .ok (.goto 4, 3) := by decide +kernel
theorem dX11_layWanted_10 : decode cX11_layWanted 10 = .ok (.iconst 0, 1) := by decide +kernel
theorem dX11_layWanted_11 : decode cX11_layWanted 11 = .ok (.istore 4, 2) := by decide +kernel
theorem dX11_layWanted_13 : decode cX11_layWanted 13 = .ok (.iconst 4, 1) := by decide +kernel
theorem dX11_layWanted_14 : decode cX11_layWanted 14 = .ok (.istore 5, 2) := by decide +kernel
theorem dX11_layWanted_16 : decode cX11_layWanted 16 = .ok (.iload 5, 2) := by decide +kernel
theorem dX11_layWanted_18 : decode cX11_layWanted 18 = .ok (.ifCond .lt 60, 3) := by decide +kernel
theorem dX11_layWanted_21 : decode cX11_layWanted 21 = .ok (.iload_n 1, 1) := by decide +kernel
theorem dX11_layWanted_22 : decode cX11_layWanted 22 = .ok (.iload 5, 2) := by decide +kernel
theorem dX11_layWanted_24 : decode cX11_layWanted 24 = .ok (.ishr, 1) := by decide +kernel
theorem dX11_layWanted_25 : decode cX11_layWanted 25 = .ok (.iconst 1, 1) := by decide +kernel
theorem dX11_layWanted_26 : decode cX11_layWanted 26 = .ok (.iand, 1) := by decide +kernel
theorem dX11_layWanted_27 : decode cX11_layWanted 27 = .ok (.iconst 1, 1) := by decide +kernel
theorem dX11_layWanted_28 : decode cX11_layWanted 28 = .ok (.if_icmp .ne 44, 3) := by decide +kernel
theorem dX11_layWanted_31 : decode cX11_layWanted 31 = .ok (.aload_n 0, 1) := by decide +kernel
theorem dX11_layWanted_32 : decode cX11_layWanted 32 = .ok (.getfield 71, 3) := by decide +kernel
theorem dX11_layWanted_35 : decode cX11_layWanted 35 = .ok (.iload 5, 2) := by decide +kernel
theorem dX11_layWanted_37 : decode cX11_layWanted 37 = .ok (.iload_n 3, 1) := by decide +kernel
theorem dX11_layWanted_38 : decode cX11_layWanted 38 = .ok (.bipush 10, 2) := by decide +kernel
theorem dX11_layWanted_40 : decode cX11_layWanted 40 = .ok (.irem, 1) := by decide +kernel
theorem dX11_layWanted_41 : decode cX11_layWanted 41 = .ok (.iastore, 1) := by decide +kernel
theorem dX11_layWanted_42 : decode cX11_layWanted 42 = .ok (.iload 4, 2) := by decide +kernel
theorem dX11_layWanted_44 : decode cX11_layWanted 44 = .ok (.ifCond .eq 20, 3) := by decide +kernel
theorem dX11_layWanted_47 : decode cX11_layWanted 47 = .ok (.aload_n 0, 1) := by decide +kernel
theorem dX11_layWanted_48 : decode cX11_layWanted 48 = .ok (.getfield 71, 3) := by decide +kernel
theorem dX11_layWanted_51 : decode cX11_layWanted 51 = .ok (.iload 5, 2) := by decide +kernel
theorem dX11_layWanted_53 : decode cX11_layWanted 53 = .ok (.iaload, 1) := by decide +kernel
theorem dX11_layWanted_54 : decode cX11_layWanted 54 = .ok (.invokestatic 244, 3) := by decide +kernel
theorem dX11_layWanted_57 : decode cX11_layWanted 57 = .ok (.ifCond .eq 7, 3) := by decide +kernel
theorem dX11_layWanted_60 : decode cX11_layWanted 60 = .ok (.iconst 1, 1) := by decide +kernel
theorem dX11_layWanted_61 : decode cX11_layWanted 61 = .ok (.goto 4, 3) := by decide +kernel
theorem dX11_layWanted_64 : decode cX11_layWanted 64 = .ok (.iconst 0, 1) := by decide +kernel
theorem dX11_layWanted_65 : decode cX11_layWanted 65 = .ok (.istore 4, 2) := by decide +kernel
theorem dX11_layWanted_67 : decode cX11_layWanted 67 = .ok (.iload_n 3, 1) := by decide +kernel
theorem dX11_layWanted_68 : decode cX11_layWanted 68 = .ok (.bipush 10, 2) := by decide +kernel
theorem dX11_layWanted_70 : decode cX11_layWanted 70 = .ok (.idiv, 1) := by decide +kernel
theorem dX11_layWanted_71 : decode cX11_layWanted 71 = .ok (.istore_n 3, 1) := by decide +kernel
theorem dX11_layWanted_72 : decode cX11_layWanted 72 = .ok (.iinc 5 (-1), 3) := by decide +kernel
theorem dX11_layWanted_75 : decode cX11_layWanted 75 = .ok (.goto (-59), 3) := by decide +kernel
theorem dX11_layWanted_78 : decode cX11_layWanted 78 = .ok (.iload 4, 2) := by decide +kernel
theorem dX11_layWanted_80 : decode cX11_layWanted 80 = .ok (.ifCond .eq 11, 3) := by decide +kernel
theorem dX11_layWanted_83 : decode cX11_layWanted 83 = .ok (.iload_n 3, 1) := by decide +kernel
theorem dX11_layWanted_84 : decode cX11_layWanted 84 = .ok (.ifCond .ne 7, 3) := by decide +kernel
theorem dX11_layWanted_87 : decode cX11_layWanted 87 = .ok (.iconst 1, 1) := by decide +kernel
theorem dX11_layWanted_88 : decode cX11_layWanted 88 = .ok (.goto 4, 3) := by decide +kernel
theorem dX11_layWanted_91 : decode cX11_layWanted 91 = .ok (.iconst 0, 1) := by decide +kernel
theorem dX11_layWanted_92 : decode cX11_layWanted 92 = .ok (.ireturn, 1) := by decide +kernel
theorem dX11_broughtBy_0 : decode cX11_broughtBy 0 = .ok (.iload_n 2, 1) := by decide +kernel
theorem dX11_broughtBy_1 : decode cX11_broughtBy 1 = .ok (.istore 4, 2) := by decide +kernel
theorem dX11_broughtBy_3 : decode cX11_broughtBy 3 = .ok (.iconst 0, 1) := by decide +kernel
theorem dX11_broughtBy_4 : decode cX11_broughtBy 4 = .ok (.istore 5, 2) := by decide +kernel
theorem dX11_broughtBy_6 : decode cX11_broughtBy 6 = .ok (.iload 5, 2) := by decide +kernel
theorem dX11_broughtBy_8 : decode cX11_broughtBy 8 = .ok (.aload_n 0, 1) := by decide +kernel
theorem dX11_broughtBy_9 : decode cX11_broughtBy 9 = .ok (.getfield 94, 3) := by decide +kernel
theorem dX11_broughtBy_12 : decode cX11_broughtBy 12 = .ok (.if_icmp .ge 48, 3) := by decide +kernel
theorem dX11_broughtBy_15 : decode cX11_broughtBy 15 = .ok (.iload 4, 2) := by decide +kernel
theorem dX11_broughtBy_17 : decode cX11_broughtBy 17 = .ok (.iload_n 3, 1) := by decide +kernel
theorem dX11_broughtBy_18 : decode cX11_broughtBy 18 = .ok (.iload 5, 2) := by decide +kernel
theorem dX11_broughtBy_20 : decode cX11_broughtBy 20 = .ok (.ishr, 1) := by decide +kernel
theorem dX11_broughtBy_21 : decode cX11_broughtBy 21 = .ok (.iconst 1, 1) := by decide +kernel
theorem dX11_broughtBy_22 : decode cX11_broughtBy 22 = .ok (.iand, 1) := by decide +kernel
theorem dX11_broughtBy_23 : decode cX11_broughtBy 23 = .ok (.iconst 1, 1) := by decide +kernel
theorem dX11_broughtBy_24 : decode cX11_broughtBy 24 = .ok (.if_icmp .ne 26, 3) := by decide +kernel
theorem dX11_broughtBy_27 : decode cX11_broughtBy 27 = .ok (.iload_n 1, 1) := by decide +kernel
theorem dX11_broughtBy_28 : decode cX11_broughtBy 28 = .ok (.iload 5, 2) := by decide +kernel
theorem dX11_broughtBy_30 : decode cX11_broughtBy 30 = .ok (.invokestatic 204, 3) := by decide +kernel
theorem dX11_broughtBy_33 : decode cX11_broughtBy 33 = .ok (.aload_n 0, 1) := by decide +kernel
theorem dX11_broughtBy_34 : decode cX11_broughtBy 34 = .ok (.getfield 71, 3) := by decide +kernel
theorem dX11_broughtBy_37 : decode cX11_broughtBy 37 = .ok (.iload 5, 2) := by decide +kernel
theorem dX11_broughtBy_39 : decode cX11_broughtBy 39 = .ok (.iaload, 1) := by decide +kernel
theorem dX11_broughtBy_40 : decode cX11_broughtBy 40 = .ok (.if_icmp .ne 10, 3) := by decide +kernel
theorem dX11_broughtBy_43 : decode cX11_broughtBy 43 = .ok (.iconst 1, 1) := by decide +kernel
theorem dX11_broughtBy_44 : decode cX11_broughtBy 44 = .ok (.iload 5, 2) := by decide +kernel
theorem dX11_broughtBy_46 : decode cX11_broughtBy 46 = .ok (.ishl, 1) := by decide +kernel
theorem dX11_broughtBy_47 : decode cX11_broughtBy 47 = .ok (.goto 4, 3) := by decide +kernel
theorem dX11_broughtBy_50 : decode cX11_broughtBy 50 = .ok (.iconst 0, 1) := by decide +kernel
theorem dX11_broughtBy_51 : decode cX11_broughtBy 51 = .ok (.ior, 1) := by decide +kernel
theorem dX11_broughtBy_52 : decode cX11_broughtBy 52 = .ok (.istore 4, 2) := by decide +kernel
theorem dX11_broughtBy_54 : decode cX11_broughtBy 54 = .ok (.iinc 5 1, 3) := by decide +kernel
theorem dX11_broughtBy_57 : decode cX11_broughtBy 57 = .ok (.goto (-51), 3) := by decide +kernel
theorem dX11_broughtBy_60 : decode cX11_broughtBy 60 = .ok (.iload 4, 2) := by decide +kernel
theorem dX11_broughtBy_62 : decode cX11_broughtBy 62 = .ok (.ireturn, 1) := by decide +kernel
theorem dX11_round_0 : decode cX11_round 0 = .ok (.aload_n 0, 1) := by decide +kernel
theorem dX11_round_1 : decode cX11_round 1 = .ok (.iload_n 1, 1) := by decide +kernel
theorem dX11_round_2 : decode cX11_round 2 = .ok (.invokevirtual 230, 3) := by decide +kernel
theorem dX11_round_5 : decode cX11_round 5 = .ok (.ifCond .eq 12, 3) := by decide +kernel
theorem dX11_round_8 : decode cX11_round 8 = .ok (.aload_n 0, 1) := by decide +kernel
theorem dX11_round_9 : decode cX11_round 9 = .ok (.iload_n 1, 1) := by decide +kernel
theorem dX11_round_10 : decode cX11_round 10 = .ok (.iload_n 2, 1) := by decide +kernel
theorem dX11_round_11 : decode cX11_round 11 = .ok (.invokevirtual 247, 3) := by decide +kernel
theorem dX11_round_14 : decode cX11_round 14 = .ok (.ifCond .ne 6, 3) := by decide +kernel
theorem dX11_round_17 : decode cX11_round 17 = .ok (.bipush (-2), 2) := by decide +kernel
theorem dX11_round_19 : decode cX11_round 19 = .ok (.ireturn, 1) := by decide +kernel
theorem dX11_round_20 : decode cX11_round 20 = .ok (.iconst 0, 1) := by decide +kernel
theorem dX11_round_21 : decode cX11_round 21 = .ok (.istore_n 3, 1) := by decide +kernel
theorem dX11_round_22 : decode cX11_round 22 = .ok (.iload_n 3, 1) := by decide +kernel
theorem dX11_round_23 : decode cX11_round 23 = .ok (.ldc 64, 2) := by decide +kernel
theorem dX11_round_25 : decode cX11_round 25 = .ok (.if_icmp .ge 17, 3) := by decide +kernel
theorem dX11_round_28 : decode cX11_round 28 = .ok (.aload_n 0, 1) := by decide +kernel
theorem dX11_round_29 : decode cX11_round 29 = .ok (.getfield 65, 3) := by decide +kernel
theorem dX11_round_32 : decode cX11_round 32 = .ok (.iload_n 3, 1) := by decide +kernel
theorem dX11_round_33 : decode cX11_round 33 = .ok (.bipush (-6), 2) := by decide +kernel
theorem dX11_round_35 : decode cX11_round 35 = .ok (.iastore, 1) := by decide +kernel
theorem dX11_round_36 : decode cX11_round 36 = .ok (.iinc 3 1, 3) := by decide +kernel
theorem dX11_round_39 : decode cX11_round 39 = .ok (.goto (-17), 3) := by decide +kernel
theorem dX11_round_42 : decode cX11_round 42 = .ok (.iconst 1, 1) := by decide +kernel
theorem dX11_round_43 : decode cX11_round 43 = .ok (.istore_n 3, 1) := by decide +kernel
theorem dX11_round_44 : decode cX11_round 44 = .ok (.aload_n 0, 1) := by decide +kernel
theorem dX11_round_45 : decode cX11_round 45 = .ok (.getfield 68, 3) := by decide +kernel
theorem dX11_round_48 : decode cX11_round 48 = .ok (.iconst 0, 1) := by decide +kernel
theorem dX11_round_49 : decode cX11_round 49 = .ok (.bipush 32, 2) := by decide +kernel
theorem dX11_round_51 : decode cX11_round 51 = .ok (.aload_n 0, 1) := by decide +kernel
theorem dX11_round_52 : decode cX11_round 52 = .ok (.invokevirtual 211, 3) := by decide +kernel
theorem dX11_round_55 : decode cX11_round 55 = .ok (.imul, 1) := by decide +kernel
theorem dX11_round_56 : decode cX11_round 56 = .ok (.aload_n 0, 1) := by decide +kernel
theorem dX11_round_57 : decode cX11_round 57 = .ok (.aload_n 0, 1) := by decide +kernel
theorem dX11_round_58 : decode cX11_round 58 = .ok (.invokevirtual 211, 3) := by decide +kernel
theorem dX11_round_61 : decode cX11_round 61 = .ok (.iconst 0, 1) := by decide +kernel
theorem dX11_round_62 : decode cX11_round 62 = .ok (.iload_n 1, 1) := by decide +kernel
theorem dX11_round_63 : decode cX11_round 63 = .ok (.invokevirtual 250, 3) := by decide +kernel
theorem dX11_round_66 : decode cX11_round 66 = .ok (.iadd, 1) := by decide +kernel
theorem dX11_round_67 : decode cX11_round 67 = .ok (.iastore, 1) := by decide +kernel
theorem dX11_round_68 : decode cX11_round 68 = .ok (.aload_n 0, 1) := by decide +kernel
theorem dX11_round_69 : decode cX11_round 69 = .ok (.getfield 65, 3) := by decide +kernel
theorem dX11_round_72 : decode cX11_round 72 = .ok (.aload_n 0, 1) := by decide +kernel
theorem dX11_round_73 : decode cX11_round 73 = .ok (.getfield 68, 3) := by decide +kernel
theorem dX11_round_76 : decode cX11_round 76 = .ok (.iconst 0, 1) := by decide +kernel
theorem dX11_round_77 : decode cX11_round 77 = .ok (.iaload, 1) := by decide +kernel
theorem dX11_round_78 : decode cX11_round 78 = .ok (.iconst 0, 1) := by decide +kernel
theorem dX11_round_79 : decode cX11_round 79 = .ok (.iastore, 1) := by decide +kernel
theorem dX11_round_80 : decode cX11_round 80 = .ok (.iconst 0, 1) := by decide +kernel
theorem dX11_round_81 : decode cX11_round 81 = .ok (.istore 4, 2) := by decide +kernel
theorem dX11_round_83 : decode cX11_round 83 = .ok (.iload 4, 2) := by decide +kernel
theorem dX11_round_85 : decode cX11_round 85 = .ok (.iload_n 3, 1) := by decide +kernel
theorem dX11_round_86 : decode cX11_round 86 = .ok (.if_icmp .ge 135, 3) := by decide +kernel
theorem dX11_round_89 : decode cX11_round 89 = .ok (.aload_n 0, 1) := by decide +kernel
theorem dX11_round_90 : decode cX11_round 90 = .ok (.getfield 68, 3) := by decide +kernel
theorem dX11_round_93 : decode cX11_round 93 = .ok (.iload 4, 2) := by decide +kernel
theorem dX11_round_95 : decode cX11_round 95 = .ok (.iaload, 1) := by decide +kernel
theorem dX11_round_96 : decode cX11_round 96 = .ok (.istore 5, 2) := by decide +kernel
theorem dX11_round_98 : decode cX11_round 98 = .ok (.iload 5, 2) := by decide +kernel
theorem dX11_round_100 : decode cX11_round 100 = .ok (.bipush 32, 2) := by decide +kernel
theorem dX11_round_102 : decode cX11_round 102 = .ok (.irem, 1) := by decide +kernel
theorem dX11_round_103 : decode cX11_round 103 = .ok (.iload_n 1, 1) := by decide +kernel
theorem dX11_round_104 : decode cX11_round 104 = .ok (.if_icmp .ne 16, 3) := by decide +kernel
theorem dX11_round_107 : decode cX11_round 107 = .ok (.aload_n 0, 1) := by decide +kernel
theorem dX11_round_108 : decode cX11_round 108 = .ok (.getfield 65, 3) := by decide +kernel
theorem dX11_round_111 : decode cX11_round 111 = .ok (.iload 5, 2) := by decide +kernel
theorem dX11_round_113 : decode cX11_round 113 = .ok (.iaload, 1) := by decide +kernel
theorem dX11_round_114 : decode cX11_round 114 = .ok (.iload_n 1, 1) := by decide +kernel
theorem dX11_round_115 : decode cX11_round 115 = .ok (.invokestatic 152, 3) := by decide +kernel
theorem dX11_round_118 : decode cX11_round 118 = .ok (.iadd, 1) := by decide +kernel
theorem dX11_round_119 : decode cX11_round 119 = .ok (.ireturn, 1) := by decide +kernel
theorem dX11_round_120 : decode cX11_round 120 = .ok (.iconst 0, 1) := by decide +kernel
theorem dX11_round_121 : decode cX11_round 121 = .ok (.istore 6, 2) := by decide +kernel
theorem dX11_round_123 : decode cX11_round 123 = .ok (.iload 6, 2) := by decide +kernel
theorem dX11_round_125 : decode cX11_round 125 = .ok (.bipush 6, 2) := by decide +kernel
theorem dX11_round_127 : decode cX11_round 127 = .ok (.if_icmp .ge 88, 3) := by decide +kernel
theorem dX11_round_130 : decode cX11_round 130 = .ok (.aload_n 0, 1) := by decide +kernel
theorem dX11_round_131 : decode cX11_round 131 = .ok (.iload 6, 2) := by decide +kernel
theorem dX11_round_133 : decode cX11_round 133 = .ok (.invokevirtual 155, 3) := by decide +kernel
theorem dX11_round_136 : decode cX11_round 136 = .ok (.ifCond .eq 73, 3) := by decide +kernel
theorem dX11_round_139 : decode cX11_round 139 = .ok (.aload_n 0, 1) := by decide +kernel
theorem dX11_round_140 : decode cX11_round 140 = .ok (.iload 5, 2) := by decide +kernel
theorem dX11_round_142 : decode cX11_round 142 = .ok (.bipush 32, 2) := by decide +kernel
theorem dX11_round_144 : decode cX11_round 144 = .ok (.idiv, 1) := by decide +kernel
theorem dX11_round_145 : decode cX11_round 145 = .ok (.iload 6, 2) := by decide +kernel
theorem dX11_round_147 : decode cX11_round 147 = .ok (.invokevirtual 214, 3) := by decide +kernel
theorem dX11_round_150 : decode cX11_round 150 = .ok (.istore 7, 2) := by decide +kernel
theorem dX11_round_152 : decode cX11_round 152 = .ok (.bipush 32, 2) := by decide +kernel
theorem dX11_round_154 : decode cX11_round 154 = .ok (.iload 7, 2) := by decide +kernel
theorem dX11_round_156 : decode cX11_round 156 = .ok (.imul, 1) := by decide +kernel
theorem dX11_round_157 : decode cX11_round 157 = .ok (.aload_n 0, 1) := by decide +kernel
theorem dX11_round_158 : decode cX11_round 158 = .ok (.iload 7, 2) := by decide +kernel
theorem dX11_round_160 : decode cX11_round 160 = .ok (.iload 5, 2) := by decide +kernel
theorem dX11_round_162 : decode cX11_round 162 = .ok (.bipush 32, 2) := by decide +kernel
theorem dX11_round_164 : decode cX11_round 164 = .ok (.irem, 1) := by decide +kernel
theorem dX11_round_165 : decode cX11_round 165 = .ok (.iload_n 1, 1) := by decide +kernel
theorem dX11_round_166 : decode cX11_round 166 = .ok (.invokevirtual 250, 3) := by decide +kernel
theorem dX11_round_169 : decode cX11_round 169 = .ok (.iadd, 1) := by decide +kernel
theorem dX11_round_170 : decode cX11_round 170 = .ok (.istore 8, 2) := by decide +kernel
theorem dX11_round_172 : decode cX11_round 172 = .ok (.aload_n 0, 1) := by decide +kernel
theorem dX11_round_173 : decode cX11_round 173 = .ok (.getfield 65, 3) := by decide +kernel
theorem dX11_round_176 : decode cX11_round 176 = .ok (.iload 8, 2) := by decide +kernel
theorem dX11_round_178 : decode cX11_round 178 = .ok (.iaload, 1) := by decide +kernel
theorem dX11_round_179 : decode cX11_round 179 = .ok (.ifCond .ge 30, 3) := by decide +kernel
theorem dX11_round_182 : decode cX11_round 182 = .ok (.aload_n 0, 1) := by decide +kernel
theorem dX11_round_183 : decode cX11_round 183 = .ok (.getfield 65, 3) := by decide +kernel
theorem dX11_round_186 : decode cX11_round 186 = .ok (.iload 8, 2) := by decide +kernel
theorem dX11_round_188 : decode cX11_round 188 = .ok (.aload_n 0, 1) := by decide +kernel
theorem dX11_round_189 : decode cX11_round 189 = .ok (.getfield 65, 3) := by decide +kernel
theorem dX11_round_192 : decode cX11_round 192 = .ok (.iload 5, 2) := by decide +kernel
theorem dX11_round_194 : decode cX11_round 194 = .ok (.iaload, 1) := by decide +kernel
theorem dX11_round_195 : decode cX11_round 195 = .ok (.iconst 1, 1) := by decide +kernel
theorem dX11_round_196 : decode cX11_round 196 = .ok (.iadd, 1) := by decide +kernel
theorem dX11_round_197 : decode cX11_round 197 = .ok (.iastore, 1) := by decide +kernel
theorem dX11_round_198 : decode cX11_round 198 = .ok (.aload_n 0, 1) := by decide +kernel
theorem dX11_round_199 : decode cX11_round 199 = .ok (.getfield 68, 3) := by decide +kernel
theorem dX11_round_202 : decode cX11_round 202 = .ok (.iload_n 3, 1) := by decide +kernel
theorem dX11_round_203 : decode cX11_round 203 = .ok (.iload 8, 2) := by decide +kernel
theorem dX11_round_205 : decode cX11_round 205 = .ok (.iastore, 1) := by decide +kernel
theorem dX11_round_206 : decode cX11_round 206 = .ok (.iinc 3 1, 3) := by decide +kernel
theorem dX11_round_209 : decode cX11_round 209 = .ok (.iinc 6 1, 3) := by decide +kernel
theorem dX11_round_212 : decode cX11_round 212 = .ok (.goto (-89), 3) := by decide +kernel
theorem dX11_round_215 : decode cX11_round 215 = .ok (.iinc 4 1, 3) := by decide +kernel
theorem dX11_round_218 : decode cX11_round 218 = .ok (.goto (-135), 3) := by decide +kernel
theorem dX11_round_221 : decode cX11_round 221 = .ok (.bipush (-6), 2) := by decide +kernel
theorem dX11_round_223 : decode cX11_round 223 = .ok (.ireturn, 1) := by decide +kernel
theorem dX11_after_0 : decode cX11_after 0 = .ok (.aload_n 0, 1) := by decide +kernel
theorem dX11_after_1 : decode cX11_after 1 = .ok (.iload_n 1, 1) := by decide +kernel
theorem dX11_after_2 : decode cX11_after 2 = .ok (.iload_n 2, 1) := by decide +kernel
theorem dX11_after_3 : decode cX11_after 3 = .ok (.aload_n 0, 1) := by decide +kernel
theorem dX11_after_4 : decode cX11_after 4 = .ok (.iload_n 3, 1) := by decide +kernel
theorem dX11_after_5 : decode cX11_after 5 = .ok (.iload_n 1, 1) := by decide +kernel
theorem dX11_after_6 : decode cX11_after 6 = .ok (.iload_n 2, 1) := by decide +kernel
theorem dX11_after_7 : decode cX11_after 7 = .ok (.invokevirtual 158, 3) := by decide +kernel
theorem dX11_after_10 : decode cX11_after 10 = .ok (.invokevirtual 168, 3) := by decide +kernel
theorem dX11_after_13 : decode cX11_after 13 = .ok (.ireturn, 1) := by decide +kernel
theorem dX11_beginTwo_0 : decode cX11_beginTwo 0 = .ok (.iconst 0, 1) := by decide +kernel
theorem dX11_beginTwo_1 : decode cX11_beginTwo 1 = .ok (.istore_n 3, 1) := by decide +kernel
theorem dX11_beginTwo_2 : decode cX11_beginTwo 2 = .ok (.iload_n 3, 1) := by decide +kernel
theorem dX11_beginTwo_3 : decode cX11_beginTwo 3 = .ok (.bipush 8, 2) := by decide +kernel
theorem dX11_beginTwo_5 : decode cX11_beginTwo 5 = .ok (.if_icmp .ge 48, 3) := by decide +kernel
theorem dX11_beginTwo_8 : decode cX11_beginTwo 8 = .ok (.iload_n 3, 1) := by decide +kernel
theorem dX11_beginTwo_9 : decode cX11_beginTwo 9 = .ok (.iconst 2, 1) := by decide +kernel
theorem dX11_beginTwo_10 : decode cX11_beginTwo 10 = .ok (.idiv, 1) := by decide +kernel
theorem dX11_beginTwo_11 : decode cX11_beginTwo 11 = .ok (.istore 4, 2) := by decide +kernel
theorem dX11_beginTwo_13 : decode cX11_beginTwo 13 = .ok (.aload_n 0, 1) := by decide +kernel
theorem dX11_beginTwo_14 : decode cX11_beginTwo 14 = .ok (.getfield 74, 3) := by decide +kernel
theorem dX11_beginTwo_17 : decode cX11_beginTwo 17 = .ok (.iload_n 3, 1) := by decide +kernel
theorem dX11_beginTwo_18 : decode cX11_beginTwo 18 = .ok (.iload 4, 2) := by decide +kernel
theorem dX11_beginTwo_20 : decode cX11_beginTwo 20 = .ok (.iload_n 1, 1) := by decide +kernel
theorem dX11_beginTwo_21 : decode cX11_beginTwo 21 = .ok (.if_icmp .ne 7, 3) := by decide +kernel
theorem dX11_beginTwo_24 : decode cX11_beginTwo 24 = .ok (.iconst 0, 1) := by decide +kernel
theorem dX11_beginTwo_25 : decode cX11_beginTwo 25 = .ok (.goto 14, 3) := by decide +kernel
theorem dX11_beginTwo_28 : decode cX11_beginTwo 28 = .ok (.iload 4, 2) := by decide +kernel
theorem dX11_beginTwo_30 : decode cX11_beginTwo 30 = .ok (.iload_n 2, 1) := by decide +kernel
theorem dX11_beginTwo_31 : decode cX11_beginTwo 31 = .ok (.if_icmp .ne 7, 3) := by decide +kernel
theorem dX11_beginTwo_34 : decode cX11_beginTwo 34 = .ok (.iconst 1, 1) := by decide +kernel
theorem dX11_beginTwo_35 : decode cX11_beginTwo 35 = .ok (.goto 4, 3) := by decide +kernel
theorem dX11_beginTwo_38 : decode cX11_beginTwo 38 = .ok (.iconst 2, 1) := by decide +kernel
theorem dX11_beginTwo_39 : decode cX11_beginTwo 39 = .ok (.iastore, 1) := by decide +kernel
theorem dX11_beginTwo_40 : decode cX11_beginTwo 40 = .ok (.aload_n 0, 1) := by decide +kernel
theorem dX11_beginTwo_41 : decode cX11_beginTwo 41 = .ok (.getfield 77, 3) := by decide +kernel
theorem dX11_beginTwo_44 : decode cX11_beginTwo 44 = .ok (.iload_n 3, 1) := by decide +kernel
theorem dX11_beginTwo_45 : decode cX11_beginTwo 45 = .ok (.iconst 0, 1) := by decide +kernel
theorem dX11_beginTwo_46 : decode cX11_beginTwo 46 = .ok (.iastore, 1) := by decide +kernel
theorem dX11_beginTwo_47 : decode cX11_beginTwo 47 = .ok (.iinc 3 1, 3) := by decide +kernel
theorem dX11_beginTwo_50 : decode cX11_beginTwo 50 = .ok (.goto (-48), 3) := by decide +kernel
theorem dX11_beginTwo_53 : decode cX11_beginTwo 53 = .ok (.return_, 1) := by decide +kernel
theorem dX11_settle_0 : decode cX11_settle 0 = .ok (.iload_n 2, 1) := by decide +kernel
theorem dX11_settle_1 : decode cX11_settle 1 = .ok (.iconst 2, 1) := by decide +kernel
theorem dX11_settle_2 : decode cX11_settle 2 = .ok (.irem, 1) := by decide +kernel
theorem dX11_settle_3 : decode cX11_settle 3 = .ok (.istore 5, 2) := by decide +kernel
theorem dX11_settle_5 : decode cX11_settle 5 = .ok (.iconst 0, 1) := by decide +kernel
theorem dX11_settle_6 : decode cX11_settle 6 = .ok (.istore 6, 2) := by decide +kernel
theorem dX11_settle_8 : decode cX11_settle 8 = .ok (.iconst 1, 1) := by decide +kernel
theorem dX11_settle_9 : decode cX11_settle 9 = .ok (.istore 7, 2) := by decide +kernel
theorem dX11_settle_11 : decode cX11_settle 11 = .ok (.iconst 0, 1) := by decide +kernel
theorem dX11_settle_12 : decode cX11_settle 12 = .ok (.istore 8, 2) := by decide +kernel
theorem dX11_settle_14 : decode cX11_settle 14 = .ok (.iload 8, 2) := by decide +kernel
theorem dX11_settle_16 : decode cX11_settle 16 = .ok (.bipush 6, 2) := by decide +kernel
theorem dX11_settle_18 : decode cX11_settle 18 = .ok (.if_icmp .ge 128, 3) := by decide +kernel
theorem dX11_settle_21 : decode cX11_settle 21 = .ok (.iload 4, 2) := by decide +kernel
theorem dX11_settle_23 : decode cX11_settle 23 = .ok (.iload 8, 2) := by decide +kernel
theorem dX11_settle_25 : decode cX11_settle 25 = .ok (.ishr, 1) := by decide +kernel
theorem dX11_settle_26 : decode cX11_settle 26 = .ok (.iconst 1, 1) := by decide +kernel
theorem dX11_settle_27 : decode cX11_settle 27 = .ok (.iand, 1) := by decide +kernel
theorem dX11_settle_28 : decode cX11_settle 28 = .ok (.iconst 1, 1) := by decide +kernel
theorem dX11_settle_29 : decode cX11_settle 29 = .ok (.if_icmp .ne 111, 3) := by decide +kernel
theorem dX11_settle_32 : decode cX11_settle 32 = .ok (.iconst 2, 1) := by decide +kernel
theorem dX11_settle_33 : decode cX11_settle 33 = .ok (.aload_n 0, 1) := by decide +kernel
theorem dX11_settle_34 : decode cX11_settle 34 = .ok (.iload_n 1, 1) := by decide +kernel
theorem dX11_settle_35 : decode cX11_settle 35 = .ok (.iload_n 2, 1) := by decide +kernel
theorem dX11_settle_36 : decode cX11_settle 36 = .ok (.iconst 2, 1) := by decide +kernel
theorem dX11_settle_37 : decode cX11_settle 37 = .ok (.idiv, 1) := by decide +kernel
theorem dX11_settle_38 : decode cX11_settle 38 = .ok (.iload 8, 2) := by decide +kernel
theorem dX11_settle_40 : decode cX11_settle 40 = .ok (.invokevirtual 253, 3) := by decide +kernel
theorem dX11_settle_43 : decode cX11_settle 43 = .ok (.imul, 1) := by decide +kernel
theorem dX11_settle_44 : decode cX11_settle 44 = .ok (.iconst 1, 1) := by decide +kernel
theorem dX11_settle_45 : decode cX11_settle 45 = .ok (.iadd, 1) := by decide +kernel
theorem dX11_settle_46 : decode cX11_settle 46 = .ok (.iload 5, 2) := by decide +kernel
theorem dX11_settle_48 : decode cX11_settle 48 = .ok (.isub, 1) := by decide +kernel
theorem dX11_settle_49 : decode cX11_settle 49 = .ok (.istore 9, 2) := by decide +kernel
theorem dX11_settle_51 : decode cX11_settle 51 = .ok (.aload_n 0, 1) := by decide +kernel
theorem dX11_settle_52 : decode cX11_settle 52 = .ok (.getfield 74, 3) := by decide +kernel
theorem dX11_settle_55 : decode cX11_settle 55 = .ok (.iload 9, 2) := by decide +kernel
theorem dX11_settle_57 : decode cX11_settle 57 = .ok (.iaload, 1) := by decide +kernel
theorem dX11_settle_58 : decode cX11_settle 58 = .ok (.iconst 2, 1) := by decide +kernel
theorem dX11_settle_59 : decode cX11_settle 59 = .ok (.if_icmp .ge 18, 3) := by decide +kernel
theorem dX11_settle_62 : decode cX11_settle 62 = .ok (.aload_n 0, 1) := by decide +kernel
theorem dX11_settle_63 : decode cX11_settle 63 = .ok (.getfield 77, 3) := by decide +kernel
theorem dX11_settle_66 : decode cX11_settle 66 = .ok (.iload 9, 2) := by decide +kernel
theorem dX11_settle_68 : decode cX11_settle 68 = .ok (.iaload, 1) := by decide +kernel
theorem dX11_settle_69 : decode cX11_settle 69 = .ok (.iload_n 3, 1) := by decide +kernel
theorem dX11_settle_70 : decode cX11_settle 70 = .ok (.if_icmp .ge 7, 3) := by decide +kernel
theorem dX11_settle_73 : decode cX11_settle 73 = .ok (.iconst 1, 1) := by decide +kernel
theorem dX11_settle_74 : decode cX11_settle 74 = .ok (.goto 4, 3) := by decide +kernel
theorem dX11_settle_77 : decode cX11_settle 77 = .ok (.iconst 0, 1) := by decide +kernel
theorem dX11_settle_78 : decode cX11_settle 78 = .ok (.istore 10, 2) := by decide +kernel
theorem dX11_settle_80 : decode cX11_settle 80 = .ok (.iload 6, 2) := by decide +kernel
theorem dX11_settle_82 : decode cX11_settle 82 = .ok (.ifCond .ne 20, 3) := by decide +kernel
theorem dX11_settle_85 : decode cX11_settle 85 = .ok (.iload 10, 2) := by decide +kernel
theorem dX11_settle_87 : decode cX11_settle 87 = .ok (.ifCond .eq 19, 3) := by decide +kernel
theorem dX11_settle_90 : decode cX11_settle 90 = .ok (.aload_n 0, 1) := by decide +kernel
theorem dX11_settle_91 : decode cX11_settle 91 = .ok (.getfield 74, 3) := by decide +kernel
theorem dX11_settle_94 : decode cX11_settle 94 = .ok (.iload 9, 2) := by decide +kernel
theorem dX11_settle_96 : decode cX11_settle 96 = .ok (.iaload, 1) := by decide +kernel
theorem dX11_settle_97 : decode cX11_settle 97 = .ok (.iload 5, 2) := by decide +kernel
theorem dX11_settle_99 : decode cX11_settle 99 = .ok (.if_icmp .ne 7, 3) := by decide +kernel
theorem dX11_settle_102 : decode cX11_settle 102 = .ok (.iconst 1, 1) := by decide +kernel
theorem dX11_settle_103 : decode cX11_settle 103 = .ok (.goto 4, 3) := by decide +kernel
theorem dX11_settle_106 : decode cX11_settle 106 = .ok (.iconst 0, 1) := by decide +kernel
theorem dX11_settle_107 : decode cX11_settle 107 = .ok (.istore 6, 2) := by decide +kernel
theorem dX11_settle_109 : decode cX11_settle 109 = .ok (.iload 7, 2) := by decide +kernel
theorem dX11_settle_111 : decode cX11_settle 111 = .ok (.ifCond .eq 26, 3) := by decide +kernel
theorem dX11_settle_114 : decode cX11_settle 114 = .ok (.iload 10, 2) := by decide +kernel
theorem dX11_settle_116 : decode cX11_settle 116 = .ok (.ifCond .eq 21, 3) := by decide +kernel
theorem dX11_settle_119 : decode cX11_settle 119 = .ok (.aload_n 0, 1) := by decide +kernel
theorem dX11_settle_120 : decode cX11_settle 120 = .ok (.getfield 74, 3) := by decide +kernel
theorem dX11_settle_123 : decode cX11_settle 123 = .ok (.iload 9, 2) := by decide +kernel
theorem dX11_settle_125 : decode cX11_settle 125 = .ok (.iaload, 1) := by decide +kernel
theorem dX11_settle_126 : decode cX11_settle 126 = .ok (.iconst 1, 1) := by decide +kernel
theorem dX11_settle_127 : decode cX11_settle 127 = .ok (.iload 5, 2) := by decide +kernel
theorem dX11_settle_129 : decode cX11_settle 129 = .ok (.isub, 1) := by decide +kernel
theorem dX11_settle_130 : decode cX11_settle 130 = .ok (.if_icmp .ne 7, 3) := by decide +kernel
theorem dX11_settle_133 : decode cX11_settle 133 = .ok (.iconst 1, 1) := by decide +kernel
theorem dX11_settle_134 : decode cX11_settle 134 = .ok (.goto 4, 3) := by decide +kernel
theorem dX11_settle_137 : decode cX11_settle 137 = .ok (.iconst 0, 1) := by decide +kernel
theorem dX11_settle_138 : decode cX11_settle 138 = .ok (.istore 7, 2) := by decide +kernel
theorem dX11_settle_140 : decode cX11_settle 140 = .ok (.iinc 8 1, 3) := by decide +kernel
theorem dX11_settle_143 : decode cX11_settle 143 = .ok (.goto (-129), 3) := by decide +kernel
theorem dX11_settle_146 : decode cX11_settle 146 = .ok (.iload 6, 2) := by decide +kernel
theorem dX11_settle_148 : decode cX11_settle 148 = .ok (.ifCond .ne 8, 3) := by decide +kernel
theorem dX11_settle_151 : decode cX11_settle 151 = .ok (.iload 7, 2) := by decide +kernel
theorem dX11_settle_153 : decode cX11_settle 153 = .ok (.ifCond .eq 30, 3) := by decide +kernel
theorem dX11_settle_156 : decode cX11_settle 156 = .ok (.aload_n 0, 1) := by decide +kernel
theorem dX11_settle_157 : decode cX11_settle 157 = .ok (.getfield 74, 3) := by decide +kernel
theorem dX11_settle_160 : decode cX11_settle 160 = .ok (.iload_n 2, 1) := by decide +kernel
theorem dX11_settle_161 : decode cX11_settle 161 = .ok (.iload 6, 2) := by decide +kernel
theorem dX11_settle_163 : decode cX11_settle 163 = .ok (.ifCond .eq 8, 3) := by decide +kernel
theorem dX11_settle_166 : decode cX11_settle 166 = .ok (.iload 5, 2) := by decide +kernel
theorem dX11_settle_168 : decode cX11_settle 168 = .ok (.goto 7, 3) := by decide +kernel
theorem dX11_settle_171 : decode cX11_settle 171 = .ok (.iconst 1, 1) := by decide +kernel
theorem dX11_settle_172 : decode cX11_settle 172 = .ok (.iload 5, 2) := by decide +kernel
theorem dX11_settle_174 : decode cX11_settle 174 = .ok (.isub, 1) := by decide +kernel
theorem dX11_settle_175 : decode cX11_settle 175 = .ok (.iastore, 1) := by decide +kernel
theorem dX11_settle_176 : decode cX11_settle 176 = .ok (.aload_n 0, 1) := by decide +kernel
theorem dX11_settle_177 : decode cX11_settle 177 = .ok (.getfield 77, 3) := by decide +kernel
theorem dX11_settle_180 : decode cX11_settle 180 = .ok (.iload_n 2, 1) := by decide +kernel
theorem dX11_settle_181 : decode cX11_settle 181 = .ok (.iload_n 3, 1) := by decide +kernel
theorem dX11_settle_182 : decode cX11_settle 182 = .ok (.iastore, 1) := by decide +kernel
theorem dX11_settle_183 : decode cX11_settle 183 = .ok (.return_, 1) := by decide +kernel
theorem dX11_two_0 : decode cX11_two 0 = .ok (.aload_n 0, 1) := by decide +kernel
theorem dX11_two_1 : decode cX11_two 1 = .ok (.iload_n 1, 1) := by decide +kernel
theorem dX11_two_2 : decode cX11_two 2 = .ok (.invokevirtual 112, 3) := by decide +kernel
theorem dX11_two_5 : decode cX11_two 5 = .ok (.ifCond .ne 5, 3) := by decide +kernel
theorem dX11_two_8 : decode cX11_two 8 = .ok (.iconst (-1), 1) := by decide +kernel
theorem dX11_two_9 : decode cX11_two 9 = .ok (.ireturn, 1) := by decide +kernel
theorem dX11_two_10 : decode cX11_two 10 = .ok (.iload_n 2, 1) := by decide +kernel
theorem dX11_two_11 : decode cX11_two 11 = .ok (.invokestatic 244, 3) := by decide +kernel
theorem dX11_two_14 : decode cX11_two 14 = .ok (.ifCond .eq 19, 3) := by decide +kernel
theorem dX11_two_17 : decode cX11_two 17 = .ok (.iload_n 3, 1) := by decide +kernel
theorem dX11_two_18 : decode cX11_two 18 = .ok (.invokestatic 244, 3) := by decide +kernel
theorem dX11_two_21 : decode cX11_two 21 = .ok (.ifCond .eq 12, 3) := by decide +kernel
theorem dX11_two_24 : decode cX11_two 24 = .ok (.iload_n 2, 1) := by decide +kernel
theorem dX11_two_25 : decode cX11_two 25 = .ok (.iload_n 3, 1) := by decide +kernel
theorem dX11_two_26 : decode cX11_two 26 = .ok (.if_icmp .eq 7, 3) := by decide +kernel
theorem dX11_two_29 : decode cX11_two 29 = .ok (.iconst 1, 1) := by decide +kernel
theorem dX11_two_30 : decode cX11_two 30 = .ok (.goto 4, 3) := by decide +kernel
theorem dX11_two_33 : decode cX11_two 33 = .ok (.iconst 0, 1) := by decide +kernel
theorem dX11_two_34 : decode cX11_two 34 = .ok (.istore 7, 2) := by decide +kernel
theorem dX11_two_36 : decode cX11_two 36 = .ok (.iload 4, 2) := by decide +kernel
theorem dX11_two_38 : decode cX11_two 38 = .ok (.i2l, 1) := by decide +kernel
theorem dX11_two_39 : decode cX11_two 39 = .ok (.lconst 1, 1) := by decide +kernel
theorem dX11_two_40 : decode cX11_two 40 = .ok (.ldc2_w 256, 3) := by decide +kernel
theorem dX11_two_43 : decode cX11_two 43 = .ok (.invokestatic 104, 3) := by decide +kernel
theorem dX11_two_46 : decode cX11_two 46 = .ok (.ifCond .eq 35, 3) := by decide +kernel
theorem dX11_two_49 : decode cX11_two 49 = .ok (.iload 5, 2) := by decide +kernel
theorem dX11_two_51 : decode cX11_two 51 = .ok (.i2l, 1) := by decide +kernel
theorem dX11_two_52 : decode cX11_two 52 = .ok (.lconst 1, 1) := by decide +kernel
theorem dX11_two_53 : decode cX11_two 53 = .ok (.ldc2_w 256, 3) := by decide +kernel
theorem dX11_two_56 : decode cX11_two 56 = .ok (.invokestatic 104, 3) := by decide +kernel
theorem dX11_two_59 : decode cX11_two 59 = .ok (.ifCond .eq 22, 3) := by decide +kernel
theorem dX11_two_62 : decode cX11_two 62 = .ok (.iload 4, 2) := by decide +kernel
theorem dX11_two_64 : decode cX11_two 64 = .ok (.iload 5, 2) := by decide +kernel
theorem dX11_two_66 : decode cX11_two 66 = .ok (.ior, 1) := by decide +kernel
theorem dX11_two_67 : decode cX11_two 67 = .ok (.aload_n 0, 1) := by decide +kernel
theorem dX11_two_68 : decode cX11_two 68 = .ok (.getfield 98, 3) := by decide +kernel
theorem dX11_two_71 : decode cX11_two 71 = .ok (.iconst (-1), 1) := by decide +kernel
theorem dX11_two_72 : decode cX11_two 72 = .ok (.ixor, 1) := by decide +kernel
theorem dX11_two_73 : decode cX11_two 73 = .ok (.iand, 1) := by decide +kernel
theorem dX11_two_74 : decode cX11_two 74 = .ok (.ifCond .ne 7, 3) := by decide +kernel
theorem dX11_two_77 : decode cX11_two 77 = .ok (.iconst 1, 1) := by decide +kernel
theorem dX11_two_78 : decode cX11_two 78 = .ok (.goto 4, 3) := by decide +kernel
theorem dX11_two_81 : decode cX11_two 81 = .ok (.iconst 0, 1) := by decide +kernel
theorem dX11_two_82 : decode cX11_two 82 = .ok (.istore 8, 2) := by decide +kernel
theorem dX11_two_84 : decode cX11_two 84 = .ok (.iload 7, 2) := by decide +kernel
theorem dX11_two_86 : decode cX11_two 86 = .ok (.ifCond .eq 19, 3) := by decide +kernel
theorem dX11_two_89 : decode cX11_two 89 = .ok (.iload 8, 2) := by decide +kernel
theorem dX11_two_91 : decode cX11_two 91 = .ok (.ifCond .eq 14, 3) := by decide +kernel
theorem dX11_two_94 : decode cX11_two 94 = .ok (.iload 6, 2) := by decide +kernel
theorem dX11_two_96 : decode cX11_two 96 = .ok (.i2l, 1) := by decide +kernel
theorem dX11_two_97 : decode cX11_two 97 = .ok (.lconst 0, 1) := by decide +kernel
theorem dX11_two_98 : decode cX11_two 98 = .ok (.lconst 1, 1) := by decide +kernel
theorem dX11_two_99 : decode cX11_two 99 = .ok (.invokestatic 104, 3) := by decide +kernel
theorem dX11_two_102 : decode cX11_two 102 = .ok (.ifCond .ne 6, 3) := by decide +kernel
theorem dX11_two_105 : decode cX11_two 105 = .ok (.bipush (-2), 2) := by decide +kernel
theorem dX11_two_107 : decode cX11_two 107 = .ok (.ireturn, 1) := by decide +kernel
theorem dX11_two_108 : decode cX11_two 108 = .ok (.aload_n 0, 1) := by decide +kernel
theorem dX11_two_109 : decode cX11_two 109 = .ok (.iload_n 2, 1) := by decide +kernel
theorem dX11_two_110 : decode cX11_two 110 = .ok (.iload_n 3, 1) := by decide +kernel
theorem dX11_two_111 : decode cX11_two 111 = .ok (.invokevirtual 258, 3) := by decide +kernel
theorem dX11_two_114 : decode cX11_two 114 = .ok (.iconst 1, 1) := by decide +kernel
theorem dX11_two_115 : decode cX11_two 115 = .ok (.istore 9, 2) := by decide +kernel
theorem dX11_two_117 : decode cX11_two 117 = .ok (.iload 9, 2) := by decide +kernel
theorem dX11_two_119 : decode cX11_two 119 = .ok (.bipush 8, 2) := by decide +kernel
theorem dX11_two_121 : decode cX11_two 121 = .ok (.if_icmp .gt 59, 3) := by decide +kernel
theorem dX11_two_124 : decode cX11_two 124 = .ok (.iconst 0, 1) := by decide +kernel
theorem dX11_two_125 : decode cX11_two 125 = .ok (.istore 10, 2) := by decide +kernel
theorem dX11_two_127 : decode cX11_two 127 = .ok (.iload 10, 2) := by decide +kernel
theorem dX11_two_129 : decode cX11_two 129 = .ok (.bipush 8, 2) := by decide +kernel
theorem dX11_two_131 : decode cX11_two 131 = .ok (.if_icmp .ge 43, 3) := by decide +kernel
theorem dX11_two_134 : decode cX11_two 134 = .ok (.aload_n 0, 1) := by decide +kernel
theorem dX11_two_135 : decode cX11_two 135 = .ok (.getfield 74, 3) := by decide +kernel
theorem dX11_two_138 : decode cX11_two 138 = .ok (.iload 10, 2) := by decide +kernel
theorem dX11_two_140 : decode cX11_two 140 = .ok (.iaload, 1) := by decide +kernel
theorem dX11_two_141 : decode cX11_two 141 = .ok (.iconst 2, 1) := by decide +kernel
theorem dX11_two_142 : decode cX11_two 142 = .ok (.if_icmp .ne 26, 3) := by decide +kernel
theorem dX11_two_145 : decode cX11_two 145 = .ok (.aload_n 0, 1) := by decide +kernel
theorem dX11_two_146 : decode cX11_two 146 = .ok (.iload_n 1, 1) := by decide +kernel
theorem dX11_two_147 : decode cX11_two 147 = .ok (.iload 10, 2) := by decide +kernel
theorem dX11_two_149 : decode cX11_two 149 = .ok (.iload 9, 2) := by decide +kernel
theorem dX11_two_151 : decode cX11_two 151 = .ok (.iload 10, 2) := by decide +kernel
theorem dX11_two_153 : decode cX11_two 153 = .ok (.iconst 2, 1) := by decide +kernel
theorem dX11_two_154 : decode cX11_two 154 = .ok (.irem, 1) := by decide +kernel
theorem dX11_two_155 : decode cX11_two 155 = .ok (.ifCond .ne 8, 3) := by decide +kernel
theorem dX11_two_158 : decode cX11_two 158 = .ok (.iload 4, 2) := by decide +kernel
theorem dX11_two_160 : decode cX11_two 160 = .ok (.goto 5, 3) := by decide +kernel
theorem dX11_two_163 : decode cX11_two 163 = .ok (.iload 5, 2) := by decide +kernel
theorem dX11_two_165 : decode cX11_two 165 = .ok (.invokevirtual 262, 3) := by decide +kernel
theorem dX11_two_168 : decode cX11_two 168 = .ok (.iinc 10 1, 3) := by decide +kernel
theorem dX11_two_171 : decode cX11_two 171 = .ok (.goto (-44), 3) := by decide +kernel
theorem dX11_two_174 : decode cX11_two 174 = .ok (.iinc 9 1, 3) := by decide +kernel
theorem dX11_two_177 : decode cX11_two 177 = .ok (.goto (-60), 3) := by decide +kernel
theorem dX11_two_180 : decode cX11_two 180 = .ok (.iconst 2, 1) := by decide +kernel
theorem dX11_two_181 : decode cX11_two 181 = .ok (.aload_n 0, 1) := by decide +kernel
theorem dX11_two_182 : decode cX11_two 182 = .ok (.getfield 7, 3) := by decide +kernel
theorem dX11_two_185 : decode cX11_two 185 = .ok (.iload_n 1, 1) := by decide +kernel
theorem dX11_two_186 : decode cX11_two 186 = .ok (.iaload, 1) := by decide +kernel
theorem dX11_two_187 : decode cX11_two 187 = .ok (.imul, 1) := by decide +kernel
theorem dX11_two_188 : decode cX11_two 188 = .ok (.istore 9, 2) := by decide +kernel
theorem dX11_two_190 : decode cX11_two 190 = .ok (.iload 6, 2) := by decide +kernel
theorem dX11_two_192 : decode cX11_two 192 = .ok (.ifCond .ne 13, 3) := by decide +kernel
theorem dX11_two_195 : decode cX11_two 195 = .ok (.aload_n 0, 1) := by decide +kernel
theorem dX11_two_196 : decode cX11_two 196 = .ok (.getfield 74, 3) := by decide +kernel
theorem dX11_two_199 : decode cX11_two 199 = .ok (.iload 9, 2) := by decide +kernel
theorem dX11_two_201 : decode cX11_two 201 = .ok (.iaload, 1) := by decide +kernel
theorem dX11_two_202 : decode cX11_two 202 = .ok (.goto 25, 3) := by decide +kernel
theorem dX11_two_205 : decode cX11_two 205 = .ok (.aload_n 0, 1) := by decide +kernel
theorem dX11_two_206 : decode cX11_two 206 = .ok (.getfield 74, 3) := by decide +kernel
theorem dX11_two_209 : decode cX11_two 209 = .ok (.iload 9, 2) := by decide +kernel
theorem dX11_two_211 : decode cX11_two 211 = .ok (.iaload, 1) := by decide +kernel
theorem dX11_two_212 : decode cX11_two 212 = .ok (.iconst 2, 1) := by decide +kernel
theorem dX11_two_213 : decode cX11_two 213 = .ok (.if_icmp .ne 7, 3) := by decide +kernel
theorem dX11_two_216 : decode cX11_two 216 = .ok (.iconst 0, 1) := by decide +kernel
theorem dX11_two_217 : decode cX11_two 217 = .ok (.goto 10, 3) := by decide +kernel
theorem dX11_two_220 : decode cX11_two 220 = .ok (.aload_n 0, 1) := by decide +kernel
theorem dX11_two_221 : decode cX11_two 221 = .ok (.getfield 77, 3) := by decide +kernel
theorem dX11_two_224 : decode cX11_two 224 = .ok (.iload 9, 2) := by decide +kernel
theorem dX11_two_226 : decode cX11_two 226 = .ok (.iaload, 1) := by decide +kernel
theorem dX11_two_227 : decode cX11_two 227 = .ok (.ireturn, 1) := by decide +kernel
theorem dX11_wayTo_0 : decode cX11_wayTo 0 = .ok (.iload_n 1, 1) := by decide +kernel
theorem dX11_wayTo_1 : decode cX11_wayTo 1 = .ok (.iconst 5, 1) := by decide +kernel
theorem dX11_wayTo_2 : decode cX11_wayTo 2 = .ok (.idiv, 1) := by decide +kernel
theorem dX11_wayTo_3 : decode cX11_wayTo 3 = .ok (.iload_n 0, 1) := by decide +kernel
theorem dX11_wayTo_4 : decode cX11_wayTo 4 = .ok (.iconst 5, 1) := by decide +kernel
theorem dX11_wayTo_5 : decode cX11_wayTo 5 = .ok (.idiv, 1) := by decide +kernel
theorem dX11_wayTo_6 : decode cX11_wayTo 6 = .ok (.isub, 1) := by decide +kernel
theorem dX11_wayTo_7 : decode cX11_wayTo 7 = .ok (.istore_n 2, 1) := by decide +kernel
theorem dX11_wayTo_8 : decode cX11_wayTo 8 = .ok (.iload_n 1, 1) := by decide +kernel
theorem dX11_wayTo_9 : decode cX11_wayTo 9 = .ok (.iconst 5, 1) := by decide +kernel
theorem dX11_wayTo_10 : decode cX11_wayTo 10 = .ok (.irem, 1) := by decide +kernel
theorem dX11_wayTo_11 : decode cX11_wayTo 11 = .ok (.iload_n 0, 1) := by decide +kernel
theorem dX11_wayTo_12 : decode cX11_wayTo 12 = .ok (.iconst 5, 1) := by decide +kernel
theorem dX11_wayTo_13 : decode cX11_wayTo 13 = .ok (.irem, 1) := by decide +kernel
theorem dX11_wayTo_14 : decode cX11_wayTo 14 = .ok (.isub, 1) := by decide +kernel
theorem dX11_wayTo_15 : decode cX11_wayTo 15 = .ok (.istore_n 3, 1) := by decide +kernel
theorem dX11_wayTo_16 : decode cX11_wayTo 16 = .ok (.iload_n 2, 1) := by decide +kernel
theorem dX11_wayTo_17 : decode cX11_wayTo 17 = .ok (.ifCond .eq 7, 3) := by decide +kernel
theorem dX11_wayTo_20 : decode cX11_wayTo 20 = .ok (.iload_n 3, 1) := by decide +kernel
theorem dX11_wayTo_21 : decode cX11_wayTo 21 = .ok (.ifCond .ne 11, 3) := by decide +kernel
theorem dX11_wayTo_24 : decode cX11_wayTo 24 = .ok (.iload_n 2, 1) := by decide +kernel
theorem dX11_wayTo_25 : decode cX11_wayTo 25 = .ok (.ifCond .ne 12, 3) := by decide +kernel
theorem dX11_wayTo_28 : decode cX11_wayTo 28 = .ok (.iload_n 3, 1) := by decide +kernel
theorem dX11_wayTo_29 : decode cX11_wayTo 29 = .ok (.ifCond .ne 8, 3) := by decide +kernel
theorem dX11_wayTo_32 : decode cX11_wayTo 32 = .ok (.bipush (-6), 2) := by decide +kernel
theorem dX11_wayTo_34 : decode cX11_wayTo 34 = .ok (.goto 28, 3) := by decide +kernel
theorem dX11_wayTo_37 : decode cX11_wayTo 37 = .ok (.iload_n 2, 1) := by decide +kernel
theorem dX11_wayTo_38 : decode cX11_wayTo 38 = .ok (.ifCond .ge 7, 3) := by decide +kernel
theorem dX11_wayTo_41 : decode cX11_wayTo 41 = .ok (.iconst 0, 1) := by decide +kernel
theorem dX11_wayTo_42 : decode cX11_wayTo 42 = .ok (.goto 20, 3) := by decide +kernel
theorem dX11_wayTo_45 : decode cX11_wayTo 45 = .ok (.iload_n 3, 1) := by decide +kernel
theorem dX11_wayTo_46 : decode cX11_wayTo 46 = .ok (.ifCond .le 7, 3) := by decide +kernel
theorem dX11_wayTo_49 : decode cX11_wayTo 49 = .ok (.iconst 1, 1) := by decide +kernel
theorem dX11_wayTo_50 : decode cX11_wayTo 50 = .ok (.goto 12, 3) := by decide +kernel
theorem dX11_wayTo_53 : decode cX11_wayTo 53 = .ok (.iload_n 2, 1) := by decide +kernel
theorem dX11_wayTo_54 : decode cX11_wayTo 54 = .ok (.ifCond .le 7, 3) := by decide +kernel
theorem dX11_wayTo_57 : decode cX11_wayTo 57 = .ok (.iconst 2, 1) := by decide +kernel
theorem dX11_wayTo_58 : decode cX11_wayTo 58 = .ok (.goto 4, 3) := by decide +kernel
theorem dX11_wayTo_61 : decode cX11_wayTo 61 = .ok (.iconst 3, 1) := by decide +kernel
theorem dX11_wayTo_62 : decode cX11_wayTo 62 = .ok (.ireturn, 1) := by decide +kernel
theorem dX11_distance_0 : decode cX11_distance 0 = .ok (.iload_n 1, 1) := by decide +kernel
theorem dX11_distance_1 : decode cX11_distance 1 = .ok (.iconst 5, 1) := by decide +kernel
theorem dX11_distance_2 : decode cX11_distance 2 = .ok (.idiv, 1) := by decide +kernel
theorem dX11_distance_3 : decode cX11_distance 3 = .ok (.iload_n 0, 1) := by decide +kernel
theorem dX11_distance_4 : decode cX11_distance 4 = .ok (.iconst 5, 1) := by decide +kernel
theorem dX11_distance_5 : decode cX11_distance 5 = .ok (.idiv, 1) := by decide +kernel
theorem dX11_distance_6 : decode cX11_distance 6 = .ok (.isub, 1) := by decide +kernel
theorem dX11_distance_7 : decode cX11_distance 7 = .ok (.istore_n 2, 1) := by decide +kernel
theorem dX11_distance_8 : decode cX11_distance 8 = .ok (.iload_n 1, 1) := by decide +kernel
theorem dX11_distance_9 : decode cX11_distance 9 = .ok (.iconst 5, 1) := by decide +kernel
theorem dX11_distance_10 : decode cX11_distance 10 = .ok (.irem, 1) := by decide +kernel
theorem dX11_distance_11 : decode cX11_distance 11 = .ok (.iload_n 0, 1) := by decide +kernel
theorem dX11_distance_12 : decode cX11_distance 12 = .ok (.iconst 5, 1) := by decide +kernel
theorem dX11_distance_13 : decode cX11_distance 13 = .ok (.irem, 1) := by decide +kernel
theorem dX11_distance_14 : decode cX11_distance 14 = .ok (.isub, 1) := by decide +kernel
theorem dX11_distance_15 : decode cX11_distance 15 = .ok (.istore_n 3, 1) := by decide +kernel
theorem dX11_distance_16 : decode cX11_distance 16 = .ok (.iload_n 2, 1) := by decide +kernel
theorem dX11_distance_17 : decode cX11_distance 17 = .ok (.ifCond .ge 8, 3) := by decide +kernel
theorem dX11_distance_20 : decode cX11_distance 20 = .ok (.iload_n 2, 1) := by decide +kernel
theorem dX11_distance_21 : decode cX11_distance 21 = .ok (.ineg, 1) := by decide +kernel
theorem dX11_distance_22 : decode cX11_distance 22 = .ok (.goto 4, 3) := by decide +kernel
theorem dX11_distance_25 : decode cX11_distance 25 = .ok (.iload_n 2, 1) := by decide +kernel
theorem dX11_distance_26 : decode cX11_distance 26 = .ok (.iload_n 3, 1) := by decide +kernel
theorem dX11_distance_27 : decode cX11_distance 27 = .ok (.ifCond .ge 8, 3) := by decide +kernel
theorem dX11_distance_30 : decode cX11_distance 30 = .ok (.iload_n 3, 1) := by decide +kernel
theorem dX11_distance_31 : decode cX11_distance 31 = .ok (.ineg, 1) := by decide +kernel
theorem dX11_distance_32 : decode cX11_distance 32 = .ok (.goto 4, 3) := by decide +kernel
theorem dX11_distance_35 : decode cX11_distance 35 = .ok (.iload_n 3, 1) := by decide +kernel
theorem dX11_distance_36 : decode cX11_distance 36 = .ok (.iadd, 1) := by decide +kernel
theorem dX11_distance_37 : decode cX11_distance 37 = .ok (.istore 4, 2) := by decide +kernel
theorem dX11_distance_39 : decode cX11_distance 39 = .ok (.iload 4, 2) := by decide +kernel
theorem dX11_distance_41 : decode cX11_distance 41 = .ok (.ireturn, 1) := by decide +kernel
theorem dX11_isClear_0 : decode cX11_isClear 0 = .ok (.iconst 1, 1) := by decide +kernel
theorem dX11_isClear_1 : decode cX11_isClear 1 = .ok (.istore_n 3, 1) := by decide +kernel
theorem dX11_isClear_2 : decode cX11_isClear 2 = .ok (.iconst 0, 1) := by decide +kernel
theorem dX11_isClear_3 : decode cX11_isClear 3 = .ok (.istore 4, 2) := by decide +kernel
theorem dX11_isClear_5 : decode cX11_isClear 5 = .ok (.iload 4, 2) := by decide +kernel
theorem dX11_isClear_7 : decode cX11_isClear 7 = .ok (.aload_n 0, 1) := by decide +kernel
theorem dX11_isClear_8 : decode cX11_isClear 8 = .ok (.getfield 94, 3) := by decide +kernel
theorem dX11_isClear_11 : decode cX11_isClear 11 = .ok (.if_icmp .ge 111, 3) := by decide +kernel
theorem dX11_isClear_14 : decode cX11_isClear 14 = .ok (.aload_n 0, 1) := by decide +kernel
theorem dX11_isClear_15 : decode cX11_isClear 15 = .ok (.getfield 22, 3) := by decide +kernel
theorem dX11_isClear_18 : decode cX11_isClear 18 = .ok (.iload_n 1, 1) := by decide +kernel
theorem dX11_isClear_19 : decode cX11_isClear 19 = .ok (.iaload, 1) := by decide +kernel
theorem dX11_isClear_20 : decode cX11_isClear 20 = .ok (.aload_n 0, 1) := by decide +kernel
theorem dX11_isClear_21 : decode cX11_isClear 21 = .ok (.getfield 22, 3) := by decide +kernel
theorem dX11_isClear_24 : decode cX11_isClear 24 = .ok (.iload 4, 2) := by decide +kernel
theorem dX11_isClear_26 : decode cX11_isClear 26 = .ok (.iaload, 1) := by decide +kernel
theorem dX11_isClear_27 : decode cX11_isClear 27 = .ok (.invokestatic 266, 3) := by decide +kernel
theorem dX11_isClear_30 : decode cX11_isClear 30 = .ok (.aload_n 0, 1) := by decide +kernel
theorem dX11_isClear_31 : decode cX11_isClear 31 = .ok (.getfield 22, 3) := by decide +kernel
theorem dX11_isClear_34 : decode cX11_isClear 34 = .ok (.iload_n 1, 1) := by decide +kernel
theorem dX11_isClear_35 : decode cX11_isClear 35 = .ok (.iaload, 1) := by decide +kernel
theorem dX11_isClear_36 : decode cX11_isClear 36 = .ok (.aload_n 0, 1) := by decide +kernel
theorem dX11_isClear_37 : decode cX11_isClear 37 = .ok (.getfield 22, 3) := by decide +kernel
theorem dX11_isClear_40 : decode cX11_isClear 40 = .ok (.iload_n 2, 1) := by decide +kernel
theorem dX11_isClear_41 : decode cX11_isClear 41 = .ok (.iaload, 1) := by decide +kernel
theorem dX11_isClear_42 : decode cX11_isClear 42 = .ok (.invokestatic 266, 3) := by decide +kernel
theorem dX11_isClear_45 : decode cX11_isClear 45 = .ok (.if_icmp .ne 41, 3) := by decide +kernel
theorem dX11_isClear_48 : decode cX11_isClear 48 = .ok (.aload_n 0, 1) := by decide +kernel
theorem dX11_isClear_49 : decode cX11_isClear 49 = .ok (.getfield 22, 3) := by decide +kernel
theorem dX11_isClear_52 : decode cX11_isClear 52 = .ok (.iload_n 1, 1) := by decide +kernel
theorem dX11_isClear_53 : decode cX11_isClear 53 = .ok (.iaload, 1) := by decide +kernel
theorem dX11_isClear_54 : decode cX11_isClear 54 = .ok (.aload_n 0, 1) := by decide +kernel
theorem dX11_isClear_55 : decode cX11_isClear 55 = .ok (.getfield 22, 3) := by decide +kernel
theorem dX11_isClear_58 : decode cX11_isClear 58 = .ok (.iload 4, 2) := by decide +kernel
theorem dX11_isClear_60 : decode cX11_isClear 60 = .ok (.iaload, 1) := by decide +kernel
theorem dX11_isClear_61 : decode cX11_isClear 61 = .ok (.invokestatic 269, 3) := by decide +kernel
theorem dX11_isClear_64 : decode cX11_isClear 64 = .ok (.aload_n 0, 1) := by decide +kernel
theorem dX11_isClear_65 : decode cX11_isClear 65 = .ok (.getfield 22, 3) := by decide +kernel
theorem dX11_isClear_68 : decode cX11_isClear 68 = .ok (.iload_n 1, 1) := by decide +kernel
theorem dX11_isClear_69 : decode cX11_isClear 69 = .ok (.iaload, 1) := by decide +kernel
theorem dX11_isClear_70 : decode cX11_isClear 70 = .ok (.aload_n 0, 1) := by decide +kernel
theorem dX11_isClear_71 : decode cX11_isClear 71 = .ok (.getfield 22, 3) := by decide +kernel
theorem dX11_isClear_74 : decode cX11_isClear 74 = .ok (.iload_n 2, 1) := by decide +kernel
theorem dX11_isClear_75 : decode cX11_isClear 75 = .ok (.iaload, 1) := by decide +kernel
theorem dX11_isClear_76 : decode cX11_isClear 76 = .ok (.invokestatic 269, 3) := by decide +kernel
theorem dX11_isClear_79 : decode cX11_isClear 79 = .ok (.if_icmp .ge 7, 3) := by decide +kernel
theorem dX11_isClear_82 : decode cX11_isClear 82 = .ok (.iconst 1, 1) := by decide +kernel
theorem dX11_isClear_83 : decode cX11_isClear 83 = .ok (.goto 4, 3) := by decide +kernel
theorem dX11_isClear_86 : decode cX11_isClear 86 = .ok (.iconst 0, 1) := by decide +kernel
theorem dX11_isClear_87 : decode cX11_isClear 87 = .ok (.istore 5, 2) := by decide +kernel
theorem dX11_isClear_89 : decode cX11_isClear 89 = .ok (.iload_n 3, 1) := by decide +kernel
theorem dX11_isClear_90 : decode cX11_isClear 90 = .ok (.ifCond .eq 24, 3) := by decide +kernel
theorem dX11_isClear_93 : decode cX11_isClear 93 = .ok (.iload 4, 2) := by decide +kernel
theorem dX11_isClear_95 : decode cX11_isClear 95 = .ok (.iload_n 1, 1) := by decide +kernel
theorem dX11_isClear_96 : decode cX11_isClear 96 = .ok (.if_icmp .eq 14, 3) := by decide +kernel
theorem dX11_isClear_99 : decode cX11_isClear 99 = .ok (.iload 4, 2) := by decide +kernel
theorem dX11_isClear_101 : decode cX11_isClear 101 = .ok (.iload_n 2, 1) := by decide +kernel
theorem dX11_isClear_102 : decode cX11_isClear 102 = .ok (.if_icmp .eq 8, 3) := by decide +kernel
theorem dX11_isClear_105 : decode cX11_isClear 105 = .ok (.iload 5, 2) := by decide +kernel
theorem dX11_isClear_107 : decode cX11_isClear 107 = .ok (.ifCond .ne 7, 3) := by decide +kernel
theorem dX11_isClear_110 : decode cX11_isClear 110 = .ok (.iconst 1, 1) := by decide +kernel
theorem dX11_isClear_111 : decode cX11_isClear 111 = .ok (.goto 4, 3) := by decide +kernel
theorem dX11_isClear_114 : decode cX11_isClear 114 = .ok (.iconst 0, 1) := by decide +kernel
theorem dX11_isClear_115 : decode cX11_isClear 115 = .ok (.istore_n 3, 1) := by decide +kernel
theorem dX11_isClear_116 : decode cX11_isClear 116 = .ok (.iinc 4 1, 3) := by decide +kernel
theorem dX11_isClear_119 : decode cX11_isClear 119 = .ok (.goto (-114), 3) := by decide +kernel
