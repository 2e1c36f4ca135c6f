theorem dX11_isClear_122 : decode cX11_isClear 122 = .ok (.iload_n 3, 1) := by decide +kernel
theorem dX11_isClear_123 : decode cX11_isClear 123 = .ok (.ireturn, 1) := by decide +kernel
theorem dX11_pairsIn_0 : decode cX11_pairsIn 0 = .ok (.iconst 0, 1) := by decide +kernel
theorem dX11_pairsIn_1 : decode cX11_pairsIn 1 = .ok (.istore_n 2, 1) := by decide +kernel
theorem dX11_pairsIn_2 : decode cX11_pairsIn 2 = .ok (.iconst 0, 1) := by decide +kernel
theorem dX11_pairsIn_3 : decode cX11_pairsIn 3 = .ok (.istore_n 3, 1) := by decide +kernel
theorem dX11_pairsIn_4 : decode cX11_pairsIn 4 = .ok (.iload_n 3, 1) := by decide +kernel
theorem dX11_pairsIn_5 : decode cX11_pairsIn 5 = .ok (.aload_n 0, 1) := by decide +kernel
theorem dX11_pairsIn_6 : decode cX11_pairsIn 6 = .ok (.getfield 94, 3) := by decide +kernel
theorem dX11_pairsIn_9 : decode cX11_pairsIn 9 = .ok (.if_icmp .ge 102, 3) := by decide +kernel
theorem dX11_pairsIn_12 : decode cX11_pairsIn 12 = .ok (.iconst 0, 1) := by decide +kernel
theorem dX11_pairsIn_13 : decode cX11_pairsIn 13 = .ok (.istore 4, 2) := by decide +kernel
theorem dX11_pairsIn_15 : decode cX11_pairsIn 15 = .ok (.iload 4, 2) := by decide +kernel
theorem dX11_pairsIn_17 : decode cX11_pairsIn 17 = .ok (.iload_n 3, 1) := by decide +kernel
theorem dX11_pairsIn_18 : decode cX11_pairsIn 18 = .ok (.if_icmp .ge 87, 3) := by decide +kernel
theorem dX11_pairsIn_21 : decode cX11_pairsIn 21 = .ok (.aload_n 0, 1) := by decide +kernel
theorem dX11_pairsIn_22 : decode cX11_pairsIn 22 = .ok (.getfield 22, 3) := by decide +kernel
theorem dX11_pairsIn_25 : decode cX11_pairsIn 25 = .ok (.iload_n 3, 1) := by decide +kernel
theorem dX11_pairsIn_26 : decode cX11_pairsIn 26 = .ok (.iaload, 1) := by decide +kernel
theorem dX11_pairsIn_27 : decode cX11_pairsIn 27 = .ok (.aload_n 0, 1) := by decide +kernel
theorem dX11_pairsIn_28 : decode cX11_pairsIn 28 = .ok (.getfield 22, 3) := by decide +kernel
theorem dX11_pairsIn_31 : decode cX11_pairsIn 31 = .ok (.iload 4, 2) := by decide +kernel
theorem dX11_pairsIn_33 : decode cX11_pairsIn 33 = .ok (.iaload, 1) := by decide +kernel
theorem dX11_pairsIn_34 : decode cX11_pairsIn 34 = .ok (.invokestatic 266, 3) := by decide +kernel
theorem dX11_pairsIn_37 : decode cX11_pairsIn 37 = .ok (.istore 5, 2) := by decide +kernel
theorem dX11_pairsIn_39 : decode cX11_pairsIn 39 = .ok (.iload 5, 2) := by decide +kernel
theorem dX11_pairsIn_41 : decode cX11_pairsIn 41 = .ok (.ifCond .lt 32, 3) := by decide +kernel
theorem dX11_pairsIn_44 : decode cX11_pairsIn 44 = .ok (.iload_n 1, 1) := by decide +kernel
theorem dX11_pairsIn_45 : decode cX11_pairsIn 45 = .ok (.iload_n 3, 1) := by decide +kernel
theorem dX11_pairsIn_46 : decode cX11_pairsIn 46 = .ok (.invokestatic 204, 3) := by decide +kernel
theorem dX11_pairsIn_49 : decode cX11_pairsIn 49 = .ok (.iload 5, 2) := by decide +kernel
theorem dX11_pairsIn_51 : decode cX11_pairsIn 51 = .ok (.if_icmp .ne 22, 3) := by decide +kernel
theorem dX11_pairsIn_54 : decode cX11_pairsIn 54 = .ok (.iload_n 1, 1) := by decide +kernel
theorem dX11_pairsIn_55 : decode cX11_pairsIn 55 = .ok (.iload 4, 2) := by decide +kernel
theorem dX11_pairsIn_57 : decode cX11_pairsIn 57 = .ok (.invokestatic 204, 3) := by decide +kernel
theorem dX11_pairsIn_60 : decode cX11_pairsIn 60 = .ok (.iload 5, 2) := by decide +kernel
theorem dX11_pairsIn_62 : decode cX11_pairsIn 62 = .ok (.iconst 2, 1) := by decide +kernel
theorem dX11_pairsIn_63 : decode cX11_pairsIn 63 = .ok (.iadd, 1) := by decide +kernel
theorem dX11_pairsIn_64 : decode cX11_pairsIn 64 = .ok (.iconst 4, 1) := by decide +kernel
theorem dX11_pairsIn_65 : decode cX11_pairsIn 65 = .ok (.irem, 1) := by decide +kernel
theorem dX11_pairsIn_66 : decode cX11_pairsIn 66 = .ok (.if_icmp .ne 7, 3) := by decide +kernel
theorem dX11_pairsIn_69 : decode cX11_pairsIn 69 = .ok (.iconst 1, 1) := by decide +kernel
theorem dX11_pairsIn_70 : decode cX11_pairsIn 70 = .ok (.goto 4, 3) := by decide +kernel
theorem dX11_pairsIn_73 : decode cX11_pairsIn 73 = .ok (.iconst 0, 1) := by decide +kernel
theorem dX11_pairsIn_74 : decode cX11_pairsIn 74 = .ok (.istore 6, 2) := by decide +kernel
theorem dX11_pairsIn_76 : decode cX11_pairsIn 76 = .ok (.iload_n 2, 1) := by decide +kernel
theorem dX11_pairsIn_77 : decode cX11_pairsIn 77 = .ok (.iload 6, 2) := by decide +kernel
theorem dX11_pairsIn_79 : decode cX11_pairsIn 79 = .ok (.ifCond .eq 17, 3) := by decide +kernel
theorem dX11_pairsIn_82 : decode cX11_pairsIn 82 = .ok (.aload_n 0, 1) := by decide +kernel
theorem dX11_pairsIn_83 : decode cX11_pairsIn 83 = .ok (.iload_n 3, 1) := by decide +kernel
theorem dX11_pairsIn_84 : decode cX11_pairsIn 84 = .ok (.iload 4, 2) := by decide +kernel
theorem dX11_pairsIn_86 : decode cX11_pairsIn 86 = .ok (.invokevirtual 272, 3) := by decide +kernel
theorem dX11_pairsIn_89 : decode cX11_pairsIn 89 = .ok (.ifCond .eq 7, 3) := by decide +kernel
theorem dX11_pairsIn_92 : decode cX11_pairsIn 92 = .ok (.iconst 1, 1) := by decide +kernel
theorem dX11_pairsIn_93 : decode cX11_pairsIn 93 = .ok (.goto 4, 3) := by decide +kernel
theorem dX11_pairsIn_96 : decode cX11_pairsIn 96 = .ok (.iconst 0, 1) := by decide +kernel
theorem dX11_pairsIn_97 : decode cX11_pairsIn 97 = .ok (.iadd, 1) := by decide +kernel
theorem dX11_pairsIn_98 : decode cX11_pairsIn 98 = .ok (.istore_n 2, 1) := by decide +kernel
theorem dX11_pairsIn_99 : decode cX11_pairsIn 99 = .ok (.iinc 4 1, 3) := by decide +kernel
theorem dX11_pairsIn_102 : decode cX11_pairsIn 102 = .ok (.goto (-87), 3) := by decide +kernel
theorem dX11_pairsIn_105 : decode cX11_pairsIn 105 = .ok (.iinc 3 1, 3) := by decide +kernel
theorem dX11_pairsIn_108 : decode cX11_pairsIn 108 = .ok (.goto (-104), 3) := by decide +kernel
theorem dX11_pairsIn_111 : decode cX11_pairsIn 111 = .ok (.iload_n 2, 1) := by decide +kernel
theorem dX11_pairsIn_112 : decode cX11_pairsIn 112 = .ok (.ireturn, 1) := by decide +kernel
theorem dX11_pairs_0 : decode cX11_pairs 0 = .ok (.aload_n 0, 1) := by decide +kernel
theorem dX11_pairs_1 : decode cX11_pairs 1 = .ok (.aload_n 0, 1) := by decide +kernel
theorem dX11_pairs_2 : decode cX11_pairs 2 = .ok (.invokevirtual 211, 3) := by decide +kernel
theorem dX11_pairs_5 : decode cX11_pairs 5 = .ok (.invokevirtual 275, 3) := by decide +kernel
theorem dX11_pairs_8 : decode cX11_pairs 8 = .ok (.ireturn, 1) := by decide +kernel
theorem dX11_danced_0 : decode cX11_danced 0 = .ok (.iload_n 1, 1) := by decide +kernel
theorem dX11_danced_1 : decode cX11_danced 1 = .ok (.i2l, 1) := by decide +kernel
theorem dX11_danced_2 : decode cX11_danced 2 = .ok (.lconst 1, 1) := by decide +kernel
theorem dX11_danced_3 : decode cX11_danced 3 = .ok (.ldc2_w 278, 3) := by decide +kernel
theorem dX11_danced_6 : decode cX11_danced 6 = .ok (.invokestatic 104, 3) := by decide +kernel
theorem dX11_danced_9 : decode cX11_danced 9 = .ok (.ifCond .ne 6, 3) := by decide +kernel
theorem dX11_danced_12 : decode cX11_danced 12 = .ok (.bipush (-2), 2) := by decide +kernel
theorem dX11_danced_14 : decode cX11_danced 14 = .ok (.ireturn, 1) := by decide +kernel
theorem dX11_danced_15 : decode cX11_danced 15 = .ok (.aload_n 0, 1) := by decide +kernel
theorem dX11_danced_16 : decode cX11_danced 16 = .ok (.aload_n 0, 1) := by decide +kernel
theorem dX11_danced_17 : decode cX11_danced 17 = .ok (.getfield 98, 3) := by decide +kernel
theorem dX11_danced_20 : decode cX11_danced 20 = .ok (.invokevirtual 217, 3) := by decide +kernel
theorem dX11_danced_23 : decode cX11_danced 23 = .ok (.iconst 0, 1) := by decide +kernel
theorem dX11_danced_24 : decode cX11_danced 24 = .ok (.istore_n 2, 1) := by decide +kernel
theorem dX11_danced_25 : decode cX11_danced 25 = .ok (.iload_n 2, 1) := by decide +kernel
theorem dX11_danced_26 : decode cX11_danced 26 = .ok (.aload_n 0, 1) := by decide +kernel
theorem dX11_danced_27 : decode cX11_danced 27 = .ok (.getfield 208, 3) := by decide +kernel
theorem dX11_danced_30 : decode cX11_danced 30 = .ok (.if_icmp .ge 35, 3) := by decide +kernel
theorem dX11_danced_33 : decode cX11_danced 33 = .ok (.aload_n 0, 1) := by decide +kernel
theorem dX11_danced_34 : decode cX11_danced 34 = .ok (.aload_n 0, 1) := by decide +kernel
theorem dX11_danced_35 : decode cX11_danced 35 = .ok (.getfield 49, 3) := by decide +kernel
theorem dX11_danced_38 : decode cX11_danced 38 = .ok (.iload_n 2, 1) := by decide +kernel
theorem dX11_danced_39 : decode cX11_danced 39 = .ok (.iaload, 1) := by decide +kernel
theorem dX11_danced_40 : decode cX11_danced 40 = .ok (.invokevirtual 275, 3) := by decide +kernel
theorem dX11_danced_43 : decode cX11_danced 43 = .ok (.iload_n 1, 1) := by decide +kernel
theorem dX11_danced_44 : decode cX11_danced 44 = .ok (.if_icmp .lt 15, 3) := by decide +kernel
theorem dX11_danced_47 : decode cX11_danced 47 = .ok (.aload_n 0, 1) := by decide +kernel
theorem dX11_danced_48 : decode cX11_danced 48 = .ok (.getfield 52, 3) := by decide +kernel
theorem dX11_danced_51 : decode cX11_danced 51 = .ok (.aload_n 0, 1) := by decide +kernel
theorem dX11_danced_52 : decode cX11_danced 52 = .ok (.getfield 49, 3) := by decide +kernel
theorem dX11_danced_55 : decode cX11_danced 55 = .ok (.iload_n 2, 1) := by decide +kernel
theorem dX11_danced_56 : decode cX11_danced 56 = .ok (.iaload, 1) := by decide +kernel
theorem dX11_danced_57 : decode cX11_danced 57 = .ok (.iaload, 1) := by decide +kernel
theorem dX11_danced_58 : decode cX11_danced 58 = .ok (.ireturn, 1) := by decide +kernel
theorem dX11_danced_59 : decode cX11_danced 59 = .ok (.iinc 2 1, 3) := by decide +kernel
theorem dX11_danced_62 : decode cX11_danced 62 = .ok (.goto (-37), 3) := by decide +kernel
theorem dX11_danced_65 : decode cX11_danced 65 = .ok (.bipush (-6), 2) := by decide +kernel
theorem dX11_danced_67 : decode cX11_danced 67 = .ok (.ireturn, 1) := by decide +kernel
theorem dX11_lookingIn_0 : decode cX11_lookingIn 0 = .ok (.iconst 0, 1) := by decide +kernel
theorem dX11_lookingIn_1 : decode cX11_lookingIn 1 = .ok (.istore_n 3, 1) := by decide +kernel
theorem dX11_lookingIn_2 : decode cX11_lookingIn 2 = .ok (.iconst 0, 1) := by decide +kernel
theorem dX11_lookingIn_3 : decode cX11_lookingIn 3 = .ok (.istore 4, 2) := by decide +kernel
theorem dX11_lookingIn_5 : decode cX11_lookingIn 5 = .ok (.iload 4, 2) := by decide +kernel
theorem dX11_lookingIn_7 : decode cX11_lookingIn 7 = .ok (.aload_n 0, 1) := by decide +kernel
theorem dX11_lookingIn_8 : decode cX11_lookingIn 8 = .ok (.getfield 94, 3) := by decide +kernel
theorem dX11_lookingIn_11 : decode cX11_lookingIn 11 = .ok (.if_icmp .ge 27, 3) := by decide +kernel
theorem dX11_lookingIn_14 : decode cX11_lookingIn 14 = .ok (.iload_n 3, 1) := by decide +kernel
theorem dX11_lookingIn_15 : decode cX11_lookingIn 15 = .ok (.iload_n 1, 1) := by decide +kernel
theorem dX11_lookingIn_16 : decode cX11_lookingIn 16 = .ok (.iload 4, 2) := by decide +kernel
theorem dX11_lookingIn_18 : decode cX11_lookingIn 18 = .ok (.invokestatic 204, 3) := by decide +kernel
theorem dX11_lookingIn_21 : decode cX11_lookingIn 21 = .ok (.iload_n 2, 1) := by decide +kernel
theorem dX11_lookingIn_22 : decode cX11_lookingIn 22 = .ok (.if_icmp .ne 7, 3) := by decide +kernel
theorem dX11_lookingIn_25 : decode cX11_lookingIn 25 = .ok (.iconst 1, 1) := by decide +kernel
theorem dX11_lookingIn_26 : decode cX11_lookingIn 26 = .ok (.goto 4, 3) := by decide +kernel
theorem dX11_lookingIn_29 : decode cX11_lookingIn 29 = .ok (.iconst 0, 1) := by decide +kernel
theorem dX11_lookingIn_30 : decode cX11_lookingIn 30 = .ok (.iadd, 1) := by decide +kernel
theorem dX11_lookingIn_31 : decode cX11_lookingIn 31 = .ok (.istore_n 3, 1) := by decide +kernel
theorem dX11_lookingIn_32 : decode cX11_lookingIn 32 = .ok (.iinc 4 1, 3) := by decide +kernel
theorem dX11_lookingIn_35 : decode cX11_lookingIn 35 = .ok (.goto (-30), 3) := by decide +kernel
theorem dX11_lookingIn_38 : decode cX11_lookingIn 38 = .ok (.iload_n 3, 1) := by decide +kernel
theorem dX11_lookingIn_39 : decode cX11_lookingIn 39 = .ok (.ireturn, 1) := by decide +kernel
theorem dX11_elected_0 : decode cX11_elected 0 = .ok (.iconst 0, 1) := by decide +kernel
theorem dX11_elected_1 : decode cX11_elected 1 = .ok (.istore_n 1, 1) := by decide +kernel
theorem dX11_elected_2 : decode cX11_elected 2 = .ok (.iconst 1, 1) := by decide +kernel
theorem dX11_elected_3 : decode cX11_elected 3 = .ok (.istore_n 2, 1) := by decide +kernel
theorem dX11_elected_4 : decode cX11_elected 4 = .ok (.iload_n 2, 1) := by decide +kernel
theorem dX11_elected_5 : decode cX11_elected 5 = .ok (.iconst 4, 1) := by decide +kernel
theorem dX11_elected_6 : decode cX11_elected 6 = .ok (.if_icmp .ge 36, 3) := by decide +kernel
theorem dX11_elected_9 : decode cX11_elected 9 = .ok (.aload_n 0, 1) := by decide +kernel
theorem dX11_elected_10 : decode cX11_elected 10 = .ok (.aload_n 0, 1) := by decide +kernel
theorem dX11_elected_11 : decode cX11_elected 11 = .ok (.invokevirtual 211, 3) := by decide +kernel
theorem dX11_elected_14 : decode cX11_elected 14 = .ok (.iload_n 2, 1) := by decide +kernel
theorem dX11_elected_15 : decode cX11_elected 15 = .ok (.invokevirtual 280, 3) := by decide +kernel
theorem dX11_elected_18 : decode cX11_elected 18 = .ok (.aload_n 0, 1) := by decide +kernel
theorem dX11_elected_19 : decode cX11_elected 19 = .ok (.aload_n 0, 1) := by decide +kernel
theorem dX11_elected_20 : decode cX11_elected 20 = .ok (.invokevirtual 211, 3) := by decide +kernel
theorem dX11_elected_23 : decode cX11_elected 23 = .ok (.iload_n 1, 1) := by decide +kernel
theorem dX11_elected_24 : decode cX11_elected 24 = .ok (.invokevirtual 280, 3) := by decide +kernel
theorem dX11_elected_27 : decode cX11_elected 27 = .ok (.if_icmp .le 7, 3) := by decide +kernel
theorem dX11_elected_30 : decode cX11_elected 30 = .ok (.iload_n 2, 1) := by decide +kernel
theorem dX11_elected_31 : decode cX11_elected 31 = .ok (.goto 4, 3) := by decide +kernel
theorem dX11_elected_34 : decode cX11_elected 34 = .ok (.iload_n 1, 1) := by decide +kernel
theorem dX11_elected_35 : decode cX11_elected 35 = .ok (.istore_n 1, 1) := by decide +kernel
theorem dX11_elected_36 : decode cX11_elected 36 = .ok (.iinc 2 1, 3) := by decide +kernel
theorem dX11_elected_39 : decode cX11_elected 39 = .ok (.goto (-35), 3) := by decide +kernel
theorem dX11_elected_42 : decode cX11_elected 42 = .ok (.iload_n 1, 1) := by decide +kernel
theorem dX11_elected_43 : decode cX11_elected 43 = .ok (.ireturn, 1) := by decide +kernel
theorem dX11_majority_0 : decode cX11_majority 0 = .ok (.iload_n 1, 1) := by decide +kernel
theorem dX11_majority_1 : decode cX11_majority 1 = .ok (.invokestatic 244, 3) := by decide +kernel
theorem dX11_majority_4 : decode cX11_majority 4 = .ok (.ifCond .ne 6, 3) := by decide +kernel
theorem dX11_majority_7 : decode cX11_majority 7 = .ok (.bipush (-2), 2) := by decide +kernel
theorem dX11_majority_9 : decode cX11_majority 9 = .ok (.ireturn, 1) := by decide +kernel
theorem dX11_majority_10 : decode cX11_majority 10 = .ok (.aload_n 0, 1) := by decide +kernel
theorem dX11_majority_11 : decode cX11_majority 11 = .ok (.aload_n 0, 1) := by decide +kernel
theorem dX11_majority_12 : decode cX11_majority 12 = .ok (.getfield 98, 3) := by decide +kernel
theorem dX11_majority_15 : decode cX11_majority 15 = .ok (.invokevirtual 217, 3) := by decide +kernel
theorem dX11_majority_18 : decode cX11_majority 18 = .ok (.iconst 0, 1) := by decide +kernel
theorem dX11_majority_19 : decode cX11_majority 19 = .ok (.istore_n 2, 1) := by decide +kernel
theorem dX11_majority_20 : decode cX11_majority 20 = .ok (.iload_n 2, 1) := by decide +kernel
theorem dX11_majority_21 : decode cX11_majority 21 = .ok (.aload_n 0, 1) := by decide +kernel
theorem dX11_majority_22 : decode cX11_majority 22 = .ok (.getfield 208, 3) := by decide +kernel
theorem dX11_majority_25 : decode cX11_majority 25 = .ok (.if_icmp .ge 41, 3) := by decide +kernel
theorem dX11_majority_28 : decode cX11_majority 28 = .ok (.iconst 2, 1) := by decide +kernel
theorem dX11_majority_29 : decode cX11_majority 29 = .ok (.aload_n 0, 1) := by decide +kernel
theorem dX11_majority_30 : decode cX11_majority 30 = .ok (.aload_n 0, 1) := by decide +kernel
theorem dX11_majority_31 : decode cX11_majority 31 = .ok (.getfield 49, 3) := by decide +kernel
theorem dX11_majority_34 : decode cX11_majority 34 = .ok (.iload_n 2, 1) := by decide +kernel
theorem dX11_majority_35 : decode cX11_majority 35 = .ok (.iaload, 1) := by decide +kernel
theorem dX11_majority_36 : decode cX11_majority 36 = .ok (.iload_n 1, 1) := by decide +kernel
theorem dX11_majority_37 : decode cX11_majority 37 = .ok (.invokevirtual 280, 3) := by decide +kernel
theorem dX11_majority_40 : decode cX11_majority 40 = .ok (.imul, 1) := by decide +kernel
theorem dX11_majority_41 : decode cX11_majority 41 = .ok (.aload_n 0, 1) := by decide +kernel
theorem dX11_majority_42 : decode cX11_majority 42 = .ok (.getfield 94, 3) := by decide +kernel
theorem dX11_majority_45 : decode cX11_majority 45 = .ok (.if_icmp .le 15, 3) := by decide +kernel
theorem dX11_majority_48 : decode cX11_majority 48 = .ok (.aload_n 0, 1) := by decide +kernel
theorem dX11_majority_49 : decode cX11_majority 49 = .ok (.getfield 52, 3) := by decide +kernel
theorem dX11_majority_52 : decode cX11_majority 52 = .ok (.aload_n 0, 1) := by decide +kernel
theorem dX11_majority_53 : decode cX11_majority 53 = .ok (.getfield 49, 3) := by decide +kernel
theorem dX11_majority_56 : decode cX11_majority 56 = .ok (.iload_n 2, 1) := by decide +kernel
theorem dX11_majority_57 : decode cX11_majority 57 = .ok (.iaload, 1) := by decide +kernel
theorem dX11_majority_58 : decode cX11_majority 58 = .ok (.iaload, 1) := by decide +kernel
theorem dX11_majority_59 : decode cX11_majority 59 = .ok (.ireturn, 1) := by decide +kernel
theorem dX11_majority_60 : decode cX11_majority 60 = .ok (.iinc 2 1, 3) := by decide +kernel
theorem dX11_majority_63 : decode cX11_majority 63 = .ok (.goto (-43), 3) := by decide +kernel
theorem dX11_majority_66 : decode cX11_majority 66 = .ok (.bipush (-6), 2) := by decide +kernel
theorem dX11_majority_68 : decode cX11_majority 68 = .ok (.ireturn, 1) := by decide +kernel
theorem dX11_seen_0 : decode cX11_seen 0 = .ok (.aload_n 0, 1) := by decide +kernel
theorem dX11_seen_1 : decode cX11_seen 1 = .ok (.iload_n 1, 1) := by decide +kernel
theorem dX11_seen_2 : decode cX11_seen 2 = .ok (.invokevirtual 112, 3) := by decide +kernel
theorem dX11_seen_5 : decode cX11_seen 5 = .ok (.ifCond .ne 5, 3) := by decide +kernel
theorem dX11_seen_8 : decode cX11_seen 8 = .ok (.iconst (-1), 1) := by decide +kernel
theorem dX11_seen_9 : decode cX11_seen 9 = .ok (.ireturn, 1) := by decide +kernel
theorem dX11_seen_10 : decode cX11_seen 10 = .ok (.iload_n 2, 1) := by decide +kernel
theorem dX11_seen_11 : decode cX11_seen 11 = .ok (.i2l, 1) := by decide +kernel
theorem dX11_seen_12 : decode cX11_seen 12 = .ok (.lconst 0, 1) := by decide +kernel
theorem dX11_seen_13 : decode cX11_seen 13 = .ok (.ldc2_w 283, 3) := by decide +kernel
theorem dX11_seen_16 : decode cX11_seen 16 = .ok (.invokestatic 104, 3) := by decide +kernel
theorem dX11_seen_19 : decode cX11_seen 19 = .ok (.ifCond .eq 10, 3) := by decide +kernel
theorem dX11_seen_22 : decode cX11_seen 22 = .ok (.iload_n 3, 1) := by decide +kernel
theorem dX11_seen_23 : decode cX11_seen 23 = .ok (.invokestatic 244, 3) := by decide +kernel
theorem dX11_seen_26 : decode cX11_seen 26 = .ok (.ifCond .ne 6, 3) := by decide +kernel
theorem dX11_seen_29 : decode cX11_seen 29 = .ok (.bipush (-2), 2) := by decide +kernel
theorem dX11_seen_31 : decode cX11_seen 31 = .ok (.ireturn, 1) := by decide +kernel
theorem dX11_seen_32 : decode cX11_seen 32 = .ok (.aload_n 0, 1) := by decide +kernel
theorem dX11_seen_33 : decode cX11_seen 33 = .ok (.getfield 101, 3) := by decide +kernel
theorem dX11_seen_36 : decode cX11_seen 36 = .ok (.bipush 6, 2) := by decide +kernel
theorem dX11_seen_38 : decode cX11_seen 38 = .ok (.if_icmp .ne 6, 3) := by decide +kernel
theorem dX11_seen_41 : decode cX11_seen 41 = .ok (.bipush (-4), 2) := by decide +kernel
theorem dX11_seen_43 : decode cX11_seen 43 = .ok (.ireturn, 1) := by decide +kernel
theorem dX11_seen_44 : decode cX11_seen 44 = .ok (.aload_n 0, 1) := by decide +kernel
theorem dX11_seen_45 : decode cX11_seen 45 = .ok (.getfield 28, 3) := by decide +kernel
theorem dX11_seen_48 : decode cX11_seen 48 = .ok (.aload_n 0, 1) := by decide +kernel
theorem dX11_seen_49 : decode cX11_seen 49 = .ok (.getfield 101, 3) := by decide +kernel
theorem dX11_seen_52 : decode cX11_seen 52 = .ok (.iload_n 1, 1) := by decide +kernel
theorem dX11_seen_53 : decode cX11_seen 53 = .ok (.iastore, 1) := by decide +kernel
theorem dX11_seen_54 : decode cX11_seen 54 = .ok (.aload_n 0, 1) := by decide +kernel
theorem dX11_seen_55 : decode cX11_seen 55 = .ok (.getfield 31, 3) := by decide +kernel
theorem dX11_seen_58 : decode cX11_seen 58 = .ok (.aload_n 0, 1) := by decide +kernel
theorem dX11_seen_59 : decode cX11_seen 59 = .ok (.getfield 101, 3) := by decide +kernel
theorem dX11_seen_62 : decode cX11_seen 62 = .ok (.iload_n 2, 1) := by decide +kernel
theorem dX11_seen_63 : decode cX11_seen 63 = .ok (.iastore, 1) := by decide +kernel
theorem dX11_seen_64 : decode cX11_seen 64 = .ok (.aload_n 0, 1) := by decide +kernel
theorem dX11_seen_65 : decode cX11_seen 65 = .ok (.getfield 34, 3) := by decide +kernel
theorem dX11_seen_68 : decode cX11_seen 68 = .ok (.aload_n 0, 1) := by decide +kernel
theorem dX11_seen_69 : decode cX11_seen 69 = .ok (.getfield 101, 3) := by decide +kernel
theorem dX11_seen_72 : decode cX11_seen 72 = .ok (.iload_n 3, 1) := by decide +kernel
theorem dX11_seen_73 : decode cX11_seen 73 = .ok (.iastore, 1) := by decide +kernel
theorem dX11_seen_74 : decode cX11_seen 74 = .ok (.aload_n 0, 1) := by decide +kernel
theorem dX11_seen_75 : decode cX11_seen 75 = .ok (.dup, 1) := by decide +kernel
theorem dX11_seen_76 : decode cX11_seen 76 = .ok (.getfield 101, 3) := by decide +kernel
theorem dX11_seen_79 : decode cX11_seen 79 = .ok (.iconst 1, 1) := by decide +kernel
theorem dX11_seen_80 : decode cX11_seen 80 = .ok (.iadd, 1) := by decide +kernel
theorem dX11_seen_81 : decode cX11_seen 81 = .ok (.putfield 101, 3) := by decide +kernel
theorem dX11_seen_84 : decode cX11_seen 84 = .ok (.aload_n 0, 1) := by decide +kernel
theorem dX11_seen_85 : decode cX11_seen 85 = .ok (.getfield 101, 3) := by decide +kernel
theorem dX11_seen_88 : decode cX11_seen 88 = .ok (.ireturn, 1) := by decide +kernel
theorem dX11_forget_0 : decode cX11_forget 0 = .ok (.aload_n 0, 1) := by decide +kernel
theorem dX11_forget_1 : decode cX11_forget 1 = .ok (.getfield 101, 3) := by decide +kernel
theorem dX11_forget_4 : decode cX11_forget 4 = .ok (.istore_n 1, 1) := by decide +kernel
theorem dX11_forget_5 : decode cX11_forget 5 = .ok (.aload_n 0, 1) := by decide +kernel
theorem dX11_forget_6 : decode cX11_forget 6 = .ok (.iconst 0, 1) := by decide +kernel
theorem dX11_forget_7 : decode cX11_forget 7 = .ok (.putfield 101, 3) := by decide +kernel
theorem dX11_forget_10 : decode cX11_forget 10 = .ok (.iload_n 1, 1) := by decide +kernel
theorem dX11_forget_11 : decode cX11_forget 11 = .ok (.ireturn, 1) := by decide +kernel
theorem dX11_isSeenSo_0 : decode cX11_isSeenSo 0 = .ok (.iconst 1, 1) := by decide +kernel
theorem dX11_isSeenSo_1 : decode cX11_isSeenSo 1 = .ok (.istore_n 2, 1) := by decide +kernel
theorem dX11_isSeenSo_2 : decode cX11_isSeenSo 2 = .ok (.iconst 0, 1) := by decide +kernel
theorem dX11_isSeenSo_3 : decode cX11_isSeenSo 3 = .ok (.istore_n 3, 1) := by decide +kernel
theorem dX11_isSeenSo_4 : decode cX11_isSeenSo 4 = .ok (.iload_n 3, 1) := by decide +kernel
theorem dX11_isSeenSo_5 : decode cX11_isSeenSo 5 = .ok (.aload_n 0, 1) := by decide +kernel
theorem dX11_isSeenSo_6 : decode cX11_isSeenSo 6 = .ok (.getfield 101, 3) := by decide +kernel
theorem dX11_isSeenSo_9 : decode cX11_isSeenSo 9 = .ok (.if_icmp .ge 72, 3) := by decide +kernel
theorem dX11_isSeenSo_12 : decode cX11_isSeenSo 12 = .ok (.iload_n 2, 1) := by decide +kernel
theorem dX11_isSeenSo_13 : decode cX11_isSeenSo 13 = .ok (.ifCond .eq 37, 3) := by decide +kernel
theorem dX11_isSeenSo_16 : decode cX11_isSeenSo 16 = .ok (.aload_n 0, 1) := by decide +kernel
theorem dX11_isSeenSo_17 : decode cX11_isSeenSo 17 = .ok (.getfield 31, 3) := by decide +kernel
theorem dX11_isSeenSo_20 : decode cX11_isSeenSo 20 = .ok (.iload_n 3, 1) := by decide +kernel
theorem dX11_isSeenSo_21 : decode cX11_isSeenSo 21 = .ok (.iaload, 1) := by decide +kernel
theorem dX11_isSeenSo_22 : decode cX11_isSeenSo 22 = .ok (.iload_n 1, 1) := by decide +kernel
theorem dX11_isSeenSo_23 : decode cX11_isSeenSo 23 = .ok (.if_icmp .ne 23, 3) := by decide +kernel
theorem dX11_isSeenSo_26 : decode cX11_isSeenSo 26 = .ok (.aload_n 0, 1) := by decide +kernel
theorem dX11_isSeenSo_27 : decode cX11_isSeenSo 27 = .ok (.getfield 7, 3) := by decide +kernel
theorem dX11_isSeenSo_30 : decode cX11_isSeenSo 30 = .ok (.aload_n 0, 1) := by decide +kernel
theorem dX11_isSeenSo_31 : decode cX11_isSeenSo 31 = .ok (.getfield 28, 3) := by decide +kernel
theorem dX11_isSeenSo_34 : decode cX11_isSeenSo 34 = .ok (.iload_n 3, 1) := by decide +kernel
theorem dX11_isSeenSo_35 : decode cX11_isSeenSo 35 = .ok (.iaload, 1) := by decide +kernel
theorem dX11_isSeenSo_36 : decode cX11_isSeenSo 36 = .ok (.iaload, 1) := by decide +kernel
theorem dX11_isSeenSo_37 : decode cX11_isSeenSo 37 = .ok (.aload_n 0, 1) := by decide +kernel
theorem dX11_isSeenSo_38 : decode cX11_isSeenSo 38 = .ok (.getfield 34, 3) := by decide +kernel
theorem dX11_isSeenSo_41 : decode cX11_isSeenSo 41 = .ok (.iload_n 3, 1) := by decide +kernel
theorem dX11_isSeenSo_42 : decode cX11_isSeenSo 42 = .ok (.iaload, 1) := by decide +kernel
theorem dX11_isSeenSo_43 : decode cX11_isSeenSo 43 = .ok (.if_icmp .ne 7, 3) := by decide +kernel
theorem dX11_isSeenSo_46 : decode cX11_isSeenSo 46 = .ok (.iconst 1, 1) := by decide +kernel
theorem dX11_isSeenSo_47 : decode cX11_isSeenSo 47 = .ok (.goto 4, 3) := by decide +kernel
theorem dX11_isSeenSo_50 : decode cX11_isSeenSo 50 = .ok (.iconst 0, 1) := by decide +kernel
theorem dX11_isSeenSo_51 : decode cX11_isSeenSo 51 = .ok (.istore_n 2, 1) := by decide +kernel
theorem dX11_isSeenSo_52 : decode cX11_isSeenSo 52 = .ok (.iload_n 2, 1) := by decide +kernel
theorem dX11_isSeenSo_53 : decode cX11_isSeenSo 53 = .ok (.ifCond .eq 20, 3) := by decide +kernel
theorem dX11_isSeenSo_56 : decode cX11_isSeenSo 56 = .ok (.aload_n 0, 1) := by decide +kernel
theorem dX11_isSeenSo_57 : decode cX11_isSeenSo 57 = .ok (.getfield 31, 3) := by decide +kernel
theorem dX11_isSeenSo_60 : decode cX11_isSeenSo 60 = .ok (.iload_n 3, 1) := by decide +kernel
theorem dX11_isSeenSo_61 : decode cX11_isSeenSo 61 = .ok (.iaload, 1) := by decide +kernel
theorem dX11_isSeenSo_62 : decode cX11_isSeenSo 62 = .ok (.aload_n 0, 1) := by decide +kernel
theorem dX11_isSeenSo_63 : decode cX11_isSeenSo 63 = .ok (.getfield 135, 3) := by decide +kernel
theorem dX11_isSeenSo_66 : decode cX11_isSeenSo 66 = .ok (.if_icmp .gt 7, 3) := by decide +kernel
theorem dX11_isSeenSo_69 : decode cX11_isSeenSo 69 = .ok (.iconst 1, 1) := by decide +kernel
theorem dX11_isSeenSo_70 : decode cX11_isSeenSo 70 = .ok (.goto 4, 3) := by decide +kernel
theorem dX11_isSeenSo_73 : decode cX11_isSeenSo 73 = .ok (.iconst 0, 1) := by decide +kernel
theorem dX11_isSeenSo_74 : decode cX11_isSeenSo 74 = .ok (.istore_n 2, 1) := by decide +kernel
theorem dX11_isSeenSo_75 : decode cX11_isSeenSo 75 = .ok (.iinc 3 1, 3) := by decide +kernel
theorem dX11_isSeenSo_78 : decode cX11_isSeenSo 78 = .ok (.goto (-74), 3) := by decide +kernel
theorem dX11_isSeenSo_81 : decode cX11_isSeenSo 81 = .ok (.iload_n 2, 1) := by decide +kernel
theorem dX11_isSeenSo_82 : decode cX11_isSeenSo 82 = .ok (.ireturn, 1) := by decide +kernel
theorem dX11_isTrack_0 : decode cX11_isTrack 0 = .ok (.iconst 0, 1) := by decide +kernel
theorem dX11_isTrack_1 : decode cX11_isTrack 1 = .ok (.istore_n 2, 1) := by decide +kernel
theorem dX11_isTrack_2 : decode cX11_isTrack 2 = .ok (.iload_n 2, 1) := by decide +kernel
theorem dX11_isTrack_3 : decode cX11_isTrack 3 = .ok (.aload_n 0, 1) := by decide +kernel
theorem dX11_isTrack_4 : decode cX11_isTrack 4 = .ok (.getfield 94, 3) := by decide +kernel
theorem dX11_isTrack_7 : decode cX11_isTrack 7 = .ok (.if_icmp .ge 32, 3) := by decide +kernel
theorem dX11_isTrack_10 : decode cX11_isTrack 10 = .ok (.aload_n 0, 1) := by decide +kernel
theorem dX11_isTrack_11 : decode cX11_isTrack 11 = .ok (.getfield 7, 3) := by decide +kernel
theorem dX11_isTrack_14 : decode cX11_isTrack 14 = .ok (.iload_n 2, 1) := by decide +kernel
theorem dX11_isTrack_15 : decode cX11_isTrack 15 = .ok (.iload_n 1, 1) := by decide +kernel
theorem dX11_isTrack_16 : decode cX11_isTrack 16 = .ok (.iload_n 2, 1) := by decide +kernel
theorem dX11_isTrack_17 : decode cX11_isTrack 17 = .ok (.invokestatic 204, 3) := by decide +kernel
theorem dX11_isTrack_20 : decode cX11_isTrack 20 = .ok (.iastore, 1) := by decide +kernel
theorem dX11_isTrack_21 : decode cX11_isTrack 21 = .ok (.aload_n 0, 1) := by decide +kernel
theorem dX11_isTrack_22 : decode cX11_isTrack 22 = .ok (.getfield 13, 3) := by decide +kernel
theorem dX11_isTrack_25 : decode cX11_isTrack 25 = .ok (.iload_n 2, 1) := by decide +kernel
theorem dX11_isTrack_26 : decode cX11_isTrack 26 = .ok (.aload_n 0, 1) := by decide +kernel
theorem dX11_isTrack_27 : decode cX11_isTrack 27 = .ok (.getfield 46, 3) := by decide +kernel
theorem dX11_isTrack_30 : decode cX11_isTrack 30 = .ok (.iload_n 2, 1) := by decide +kernel
theorem dX11_isTrack_31 : decode cX11_isTrack 31 = .ok (.iaload, 1) := by decide +kernel
theorem dX11_isTrack_32 : decode cX11_isTrack 32 = .ok (.iastore, 1) := by decide +kernel
theorem dX11_isTrack_33 : decode cX11_isTrack 33 = .ok (.iinc 2 1, 3) := by decide +kernel
theorem dX11_isTrack_36 : decode cX11_isTrack 36 = .ok (.goto (-34), 3) := by decide +kernel
theorem dX11_isTrack_39 : decode cX11_isTrack 39 = .ok (.aload_n 0, 1) := by decide +kernel
theorem dX11_isTrack_40 : decode cX11_isTrack 40 = .ok (.iconst 0, 1) := by decide +kernel
theorem dX11_isTrack_41 : decode cX11_isTrack 41 = .ok (.invokevirtual 285, 3) := by decide +kernel
theorem dX11_isTrack_44 : decode cX11_isTrack 44 = .ok (.istore_n 2, 1) := by decide +kernel
theorem dX11_isTrack_45 : decode cX11_isTrack 45 = .ok (.iconst 0, 1) := by decide +kernel
theorem dX11_isTrack_46 : decode cX11_isTrack 46 = .ok (.istore_n 3, 1) := by decide +kernel
theorem dX11_isTrack_47 : decode cX11_isTrack 47 = .ok (.iload_n 3, 1) := by decide +kernel
theorem dX11_isTrack_48 : decode cX11_isTrack 48 = .ok (.aload_n 0, 1) := by decide +kernel
theorem dX11_isTrack_49 : decode cX11_isTrack 49 = .ok (.getfield 135, 3) := by decide +kernel
theorem dX11_isTrack_52 : decode cX11_isTrack 52 = .ok (.if_icmp .ge 31, 3) := by decide +kernel
theorem dX11_isTrack_55 : decode cX11_isTrack 55 = .ok (.iload_n 2, 1) := by decide +kernel
theorem dX11_isTrack_56 : decode cX11_isTrack 56 = .ok (.ifCond .eq 27, 3) := by decide +kernel
theorem dX11_isTrack_59 : decode cX11_isTrack 59 = .ok (.aload_n 0, 1) := by decide +kernel
theorem dX11_isTrack_60 : decode cX11_isTrack 60 = .ok (.aload_n 0, 1) := by decide +kernel
theorem dX11_isTrack_61 : decode cX11_isTrack 61 = .ok (.getfield 40, 3) := by decide +kernel
theorem dX11_isTrack_64 : decode cX11_isTrack 64 = .ok (.iload_n 3, 1) := by decide +kernel
theorem dX11_isTrack_65 : decode cX11_isTrack 65 = .ok (.iaload, 1) := by decide +kernel
theorem dX11_isTrack_66 : decode cX11_isTrack 66 = .ok (.invokevirtual 192, 3) := by decide +kernel
theorem dX11_isTrack_69 : decode cX11_isTrack 69 = .ok (.aload_n 0, 1) := by decide +kernel
theorem dX11_isTrack_70 : decode cX11_isTrack 70 = .ok (.iload_n 3, 1) := by decide +kernel
theorem dX11_isTrack_71 : decode cX11_isTrack 71 = .ok (.iconst 1, 1) := by decide +kernel
theorem dX11_isTrack_72 : decode cX11_isTrack 72 = .ok (.iadd, 1) := by decide +kernel
theorem dX11_isTrack_73 : decode cX11_isTrack 73 = .ok (.invokevirtual 285, 3) := by decide +kernel
theorem dX11_isTrack_76 : decode cX11_isTrack 76 = .ok (.istore_n 2, 1) := by decide +kernel
theorem dX11_isTrack_77 : decode cX11_isTrack 77 = .ok (.iinc 3 1, 3) := by decide +kernel
theorem dX11_isTrack_80 : decode cX11_isTrack 80 = .ok (.goto (-33), 3) := by decide +kernel
theorem dX11_isTrack_83 : decode cX11_isTrack 83 = .ok (.iload_n 2, 1) := by decide +kernel
theorem dX11_isTrack_84 : decode cX11_isTrack 84 = .ok (.ireturn, 1) := by decide +kernel
theorem dX11_isUnread_0 : decode cX11_isUnread 0 = .ok (.aload_n 0, 1) := by decide +kernel
theorem dX11_isUnread_1 : decode cX11_isUnread 1 = .ok (.invokevirtual 149, 3) := by decide +kernel
theorem dX11_isUnread_4 : decode cX11_isUnread 4 = .ok (.ifCond .lt 7, 3) := by decide +kernel
theorem dX11_isUnread_7 : decode cX11_isUnread 7 = .ok (.iconst 1, 1) := by decide +kernel
theorem dX11_isUnread_8 : decode cX11_isUnread 8 = .ok (.goto 4, 3) := by decide +kernel
theorem dX11_isUnread_11 : decode cX11_isUnread 11 = .ok (.iconst 0, 1) := by decide +kernel
theorem dX11_isUnread_12 : decode cX11_isUnread 12 = .ok (.istore_n 1, 1) := by decide +kernel
theorem dX11_isUnread_13 : decode cX11_isUnread 13 = .ok (.iconst 0, 1) := by decide +kernel
theorem dX11_isUnread_14 : decode cX11_isUnread 14 = .ok (.istore_n 2, 1) := by decide +kernel
theorem dX11_isUnread_15 : decode cX11_isUnread 15 = .ok (.iload_n 2, 1) := by decide +kernel
theorem dX11_isUnread_16 : decode cX11_isUnread 16 = .ok (.aload_n 0, 1) := by decide +kernel
theorem dX11_isUnread_17 : decode cX11_isUnread 17 = .ok (.getfield 135, 3) := by decide +kernel
theorem dX11_isUnread_20 : decode cX11_isUnread 20 = .ok (.if_icmp .ge 43, 3) := by decide +kernel
theorem dX11_isUnread_23 : decode cX11_isUnread 23 = .ok (.iload_n 1, 1) := by decide +kernel
theorem dX11_isUnread_24 : decode cX11_isUnread 24 = .ok (.ifCond .ne 39, 3) := by decide +kernel
theorem dX11_isUnread_27 : decode cX11_isUnread 27 = .ok (.aload_n 0, 1) := by decide +kernel
theorem dX11_isUnread_28 : decode cX11_isUnread 28 = .ok (.getfield 40, 3) := by decide +kernel
theorem dX11_isUnread_31 : decode cX11_isUnread 31 = .ok (.iload_n 2, 1) := by decide +kernel
theorem dX11_isUnread_32 : decode cX11_isUnread 32 = .ok (.iaload, 1) := by decide +kernel
theorem dX11_isUnread_33 : decode cX11_isUnread 33 = .ok (.bipush 6, 2) := by decide +kernel
theorem dX11_isUnread_35 : decode cX11_isUnread 35 = .ok (.if_icmp .ge 20, 3) := by decide +kernel
theorem dX11_isUnread_38 : decode cX11_isUnread 38 = .ok (.aload_n 0, 1) := by decide +kernel
theorem dX11_isUnread_39 : decode cX11_isUnread 39 = .ok (.aload_n 0, 1) := by decide +kernel
theorem dX11_isUnread_40 : decode cX11_isUnread 40 = .ok (.getfield 40, 3) := by decide +kernel
theorem dX11_isUnread_43 : decode cX11_isUnread 43 = .ok (.iload_n 2, 1) := by decide +kernel
theorem dX11_isUnread_44 : decode cX11_isUnread 44 = .ok (.iaload, 1) := by decide +kernel
theorem dX11_isUnread_45 : decode cX11_isUnread 45 = .ok (.invokevirtual 155, 3) := by decide +kernel
theorem dX11_isUnread_48 : decode cX11_isUnread 48 = .ok (.ifCond .ne 7, 3) := by decide +kernel
theorem dX11_isUnread_51 : decode cX11_isUnread 51 = .ok (.iconst 1, 1) := by decide +kernel
theorem dX11_isUnread_52 : decode cX11_isUnread 52 = .ok (.goto 4, 3) := by decide +kernel
theorem dX11_isUnread_55 : decode cX11_isUnread 55 = .ok (.iconst 0, 1) := by decide +kernel
theorem dX11_isUnread_56 : decode cX11_isUnread 56 = .ok (.istore_n 1, 1) := by decide +kernel
theorem dX11_isUnread_57 : decode cX11_isUnread 57 = .ok (.iinc 2 1, 3) := by decide +kernel
theorem dX11_isUnread_60 : decode cX11_isUnread 60 = .ok (.goto (-45), 3) := by decide +kernel
theorem dX11_isUnread_63 : decode cX11_isUnread 63 = .ok (.iload_n 1, 1) := by decide +kernel
theorem dX11_isUnread_64 : decode cX11_isUnread 64 = .ok (.ireturn, 1) := by decide +kernel
theorem dX11_findTracks_0 : decode cX11_findTracks 0 = .ok (.aload_n 0, 1) := by decide +kernel
theorem dX11_findTracks_1 : decode cX11_findTracks 1 = .ok (.iconst 0, 1) := by decide +kernel
theorem dX11_findTracks_2 : decode cX11_findTracks 2 = .ok (.putfield 288, 3) := by decide +kernel
theorem dX11_findTracks_5 : decode cX11_findTracks 5 = .ok (.aload_n 0, 1) := by decide +kernel
theorem dX11_findTracks_6 : decode cX11_findTracks 6 = .ok (.bipush (-6), 2) := by decide +kernel
theorem dX11_findTracks_8 : decode cX11_findTracks 8 = .ok (.putfield 291, 3) := by decide +kernel
theorem dX11_findTracks_11 : decode cX11_findTracks 11 = .ok (.iconst 0, 1) := by decide +kernel
theorem dX11_findTracks_12 : decode cX11_findTracks 12 = .ok (.istore_n 1, 1) := by decide +kernel
theorem dX11_findTracks_13 : decode cX11_findTracks 13 = .ok (.iload_n 1, 1) := by decide +kernel
theorem dX11_findTracks_14 : decode cX11_findTracks 14 = .ok (.iconst 5, 1) := by decide +kernel
theorem dX11_findTracks_15 : decode cX11_findTracks 15 = .ok (.if_icmp .ge 16, 3) := by decide +kernel
theorem dX11_findTracks_18 : decode cX11_findTracks 18 = .ok (.aload_n 0, 1) := by decide +kernel
theorem dX11_findTracks_19 : decode cX11_findTracks 19 = .ok (.getfield 80, 3) := by decide +kernel
theorem dX11_findTracks_22 : decode cX11_findTracks 22 = .ok (.iload_n 1, 1) := by decide +kernel
theorem dX11_findTracks_23 : decode cX11_findTracks 23 = .ok (.iconst 0, 1) := by decide +kernel
theorem dX11_findTracks_24 : decode cX11_findTracks 24 = .ok (.iastore, 1) := by decide +kernel
theorem dX11_findTracks_25 : decode cX11_findTracks 25 = .ok (.iinc 1 1, 3) := by decide +kernel
theorem dX11_findTracks_28 : decode cX11_findTracks 28 = .ok (.goto (-15), 3) := by decide +kernel
theorem dX11_findTracks_31 : decode cX11_findTracks 31 = .ok (.aload_n 0, 1) := by decide +kernel
theorem dX11_findTracks_32 : decode cX11_findTracks 32 = .ok (.invokevirtual 195, 3) := by decide +kernel
theorem dX11_findTracks_35 : decode cX11_findTracks 35 = .ok (.iconst 0, 1) := by decide +kernel
theorem dX11_findTracks_36 : decode cX11_findTracks 36 = .ok (.istore_n 1, 1) := by decide +kernel
theorem dX11_findTracks_37 : decode cX11_findTracks 37 = .ok (.iload_n 1, 1) := by decide +kernel
theorem dX11_findTracks_38 : decode cX11_findTracks 38 = .ok (.aload_n 0, 1) := by decide +kernel
theorem dX11_findTracks_39 : decode cX11_findTracks 39 = .ok (.invokevirtual 220, 3) := by decide +kernel
theorem dX11_findTracks_42 : decode cX11_findTracks 42 = .ok (.if_icmp .ge 78, 3) := by decide +kernel
theorem dX11_findTracks_45 : decode cX11_findTracks 45 = .ok (.aload_n 0, 1) := by decide +kernel
theorem dX11_findTracks_46 : decode cX11_findTracks 46 = .ok (.iload_n 1, 1) := by decide +kernel
theorem dX11_findTracks_47 : decode cX11_findTracks 47 = .ok (.invokevirtual 294, 3) := by decide +kernel
theorem dX11_findTracks_50 : decode cX11_findTracks 50 = .ok (.ifCond .eq 64, 3) := by decide +kernel
theorem dX11_findTracks_53 : decode cX11_findTracks 53 = .ok (.aload_n 0, 1) := by decide +kernel
theorem dX11_findTracks_54 : decode cX11_findTracks 54 = .ok (.aload_n 0, 1) := by decide +kernel
theorem dX11_findTracks_55 : decode cX11_findTracks 55 = .ok (.getfield 288, 3) := by decide +kernel
theorem dX11_findTracks_58 : decode cX11_findTracks 58 = .ok (.ifCond .ne 7, 3) := by decide +kernel
theorem dX11_findTracks_61 : decode cX11_findTracks 61 = .ok (.iload_n 1, 1) := by decide +kernel
theorem dX11_findTracks_62 : decode cX11_findTracks 62 = .ok (.goto 7, 3) := by decide +kernel
theorem dX11_findTracks_65 : decode cX11_findTracks 65 = .ok (.aload_n 0, 1) := by decide +kernel
theorem dX11_findTracks_66 : decode cX11_findTracks 66 = .ok (.getfield 291, 3) := by decide +kernel
theorem dX11_findTracks_69 : decode cX11_findTracks 69 = .ok (.putfield 291, 3) := by decide +kernel
theorem dX11_findTracks_72 : decode cX11_findTracks 72 = .ok (.aload_n 0, 1) := by decide +kernel
theorem dX11_findTracks_73 : decode cX11_findTracks 73 = .ok (.dup, 1) := by decide +kernel
theorem dX11_findTracks_74 : decode cX11_findTracks 74 = .ok (.getfield 288, 3) := by decide +kernel
theorem dX11_findTracks_77 : decode cX11_findTracks 77 = .ok (.iconst 1, 1) := by decide +kernel
theorem dX11_findTracks_78 : decode cX11_findTracks 78 = .ok (.iadd, 1) := by decide +kernel
theorem dX11_findTracks_79 : decode cX11_findTracks 79 = .ok (.putfield 288, 3) := by decide +kernel
theorem dX11_findTracks_82 : decode cX11_findTracks 82 = .ok (.iconst 0, 1) := by decide +kernel
theorem dX11_findTracks_83 : decode cX11_findTracks 83 = .ok (.istore_n 2, 1) := by decide +kernel
theorem dX11_findTracks_84 : decode cX11_findTracks 84 = .ok (.iload_n 2, 1) := by decide +kernel
theorem dX11_findTracks_85 : decode cX11_findTracks 85 = .ok (.aload_n 0, 1) := by decide +kernel
theorem dX11_findTracks_86 : decode cX11_findTracks 86 = .ok (.getfield 94, 3) := by decide +kernel
theorem dX11_findTracks_89 : decode cX11_findTracks 89 = .ok (.if_icmp .ge 25, 3) := by decide +kernel
theorem dX11_findTracks_92 : decode cX11_findTracks 92 = .ok (.aload_n 0, 1) := by decide +kernel
theorem dX11_findTracks_93 : decode cX11_findTracks 93 = .ok (.getfield 80, 3) := by decide +kernel
theorem dX11_findTracks_96 : decode cX11_findTracks 96 = .ok (.iload_n 2, 1) := by decide +kernel
theorem dX11_findTracks_97 : decode cX11_findTracks 97 = .ok (.dup2, 1) := by decide +kernel
theorem dX11_findTracks_98 : decode cX11_findTracks 98 = .ok (.iaload, 1) := by decide +kernel
theorem dX11_findTracks_99 : decode cX11_findTracks 99 = .ok (.iconst 1, 1) := by decide +kernel
theorem dX11_findTracks_100 : decode cX11_findTracks 100 = .ok (.iload_n 1, 1) := by decide +kernel
theorem dX11_findTracks_101 : decode cX11_findTracks 101 = .ok (.iload_n 2, 1) := by decide +kernel
theorem dX11_findTracks_102 : decode cX11_findTracks 102 = .ok (.invokestatic 204, 3) := by decide +kernel
theorem dX11_findTracks_105 : decode cX11_findTracks 105 = .ok (.ishl, 1) := by decide +kernel
theorem dX11_findTracks_106 : decode cX11_findTracks 106 = .ok (.ior, 1) := by decide +kernel
theorem dX11_findTracks_107 : decode cX11_findTracks 107 = .ok (.iastore, 1) := by decide +kernel
theorem dX11_findTracks_108 : decode cX11_findTracks 108 = .ok (.iinc 2 1, 3) := by decide +kernel
theorem dX11_findTracks_111 : decode cX11_findTracks 111 = .ok (.goto (-27), 3) := by decide +kernel
theorem dX11_findTracks_114 : decode cX11_findTracks 114 = .ok (.iinc 1 1, 3) := by decide +kernel
theorem dX11_findTracks_117 : decode cX11_findTracks 117 = .ok (.goto (-80), 3) := by decide +kernel
theorem dX11_findTracks_120 : decode cX11_findTracks 120 = .ok (.aload_n 0, 1) := by decide +kernel
theorem dX11_findTracks_121 : decode cX11_findTracks 121 = .ok (.invokevirtual 201, 3) := by decide +kernel
theorem dX11_findTracks_124 : decode cX11_findTracks 124 = .ok (.return_, 1) := by decide +kernel
theorem dX11_tracks_0 : decode cX11_tracks 0 = .ok (.iload_n 1, 1) := by decide +kernel
theorem dX11_tracks_1 : decode cX11_tracks 1 = .ok (.i2l, 1) := by decide +kernel
theorem dX11_tracks_2 : decode cX11_tracks 2 = .ok (.lconst 0, 1) := by decide +kernel
theorem dX11_tracks_3 : decode cX11_tracks 3 = .ok (.lconst 1, 1) := by decide +kernel
theorem dX11_tracks_4 : decode cX11_tracks 4 = .ok (.invokestatic 104, 3) := by decide +kernel
theorem dX11_tracks_7 : decode cX11_tracks 7 = .ok (.ifCond .ne 6, 3) := by decide +kernel
theorem dX11_tracks_10 : decode cX11_tracks 10 = .ok (.bipush (-2), 2) := by decide +kernel
theorem dX11_tracks_12 : decode cX11_tracks 12 = .ok (.ireturn, 1) := by decide +kernel
theorem dX11_tracks_13 : decode cX11_tracks 13 = .ok (.aload_n 0, 1) := by decide +kernel
theorem dX11_tracks_14 : decode cX11_tracks 14 = .ok (.invokevirtual 297, 3) := by decide +kernel
theorem dX11_tracks_17 : decode cX11_tracks 17 = .ok (.ifCond .eq 6, 3) := by decide +kernel
theorem dX11_tracks_20 : decode cX11_tracks 20 = .ok (.bipush (-5), 2) := by decide +kernel
theorem dX11_tracks_22 : decode cX11_tracks 22 = .ok (.ireturn, 1) := by decide +kernel
theorem dX11_tracks_23 : decode cX11_tracks 23 = .ok (.aload_n 0, 1) := by decide +kernel
theorem dX11_tracks_24 : decode cX11_tracks 24 = .ok (.invokevirtual 301, 3) := by decide +kernel
theorem dX11_tracks_27 : decode cX11_tracks 27 = .ok (.iload_n 1, 1) := by decide +kernel
theorem dX11_tracks_28 : decode cX11_tracks 28 = .ok (.ifCond .ne 10, 3) := by decide +kernel
theorem dX11_tracks_31 : decode cX11_tracks 31 = .ok (.aload_n 0, 1) := by decide +kernel
theorem dX11_tracks_32 : decode cX11_tracks 32 = .ok (.getfield 288, 3) := by decide +kernel
theorem dX11_tracks_35 : decode cX11_tracks 35 = .ok (.goto 7, 3) := by decide +kernel
theorem dX11_tracks_38 : decode cX11_tracks 38 = .ok (.aload_n 0, 1) := by decide +kernel
theorem dX11_tracks_39 : decode cX11_tracks 39 = .ok (.getfield 291, 3) := by decide +kernel
theorem dX11_tracks_42 : decode cX11_tracks 42 = .ok (.ireturn, 1) := by decide +kernel
theorem dX11_looked_0 : decode cX11_looked 0 = .ok (.aload_n 0, 1) := by decide +kernel
theorem dX11_looked_1 : decode cX11_looked 1 = .ok (.iload_n 1, 1) := by decide +kernel
theorem dX11_looked_2 : decode cX11_looked 2 = .ok (.invokevirtual 112, 3) := by decide +kernel
theorem dX11_looked_5 : decode cX11_looked 5 = .ok (.ifCond .ne 5, 3) := by decide +kernel
theorem dX11_looked_8 : decode cX11_looked 8 = .ok (.iconst (-1), 1) := by decide +kernel
theorem dX11_looked_9 : decode cX11_looked 9 = .ok (.ireturn, 1) := by decide +kernel
theorem dX11_looked_10 : decode cX11_looked 10 = .ok (.aload_n 0, 1) := by decide +kernel
theorem dX11_looked_11 : decode cX11_looked 11 = .ok (.invokevirtual 297, 3) := by decide +kernel
theorem dX11_looked_14 : decode cX11_looked 14 = .ok (.ifCond .eq 6, 3) := by decide +kernel
theorem dX11_looked_17 : decode cX11_looked 17 = .ok (.bipush (-5), 2) := by decide +kernel
theorem dX11_looked_19 : decode cX11_looked 19 = .ok (.ireturn, 1) := by decide +kernel
theorem dX11_looked_20 : decode cX11_looked 20 = .ok (.aload_n 0, 1) := by decide +kernel
theorem dX11_looked_21 : decode cX11_looked 21 = .ok (.invokevirtual 301, 3) := by decide +kernel
theorem dX11_looked_24 : decode cX11_looked 24 = .ok (.aload_n 0, 1) := by decide +kernel
theorem dX11_looked_25 : decode cX11_looked 25 = .ok (.getfield 80, 3) := by decide +kernel
theorem dX11_looked_28 : decode cX11_looked 28 = .ok (.iload_n 1, 1) := by decide +kernel
theorem dX11_looked_29 : decode cX11_looked 29 = .ok (.iaload, 1) := by decide +kernel
theorem dX11_looked_30 : decode cX11_looked 30 = .ok (.ireturn, 1) := by decide +kernel
theorem dX11_lowest_0 : decode cX11_lowest 0 = .ok (.lload_n 2, 1) := by decide +kernel
theorem dX11_lowest_1 : decode cX11_lowest 1 = .ok (.lstore 5, 2) := by decide +kernel
theorem dX11_lowest_3 : decode cX11_lowest 3 = .ok (.lload_n 0, 1) := by decide +kernel
theorem dX11_lowest_4 : decode cX11_lowest 4 = .ok (.lstore 7, 2) := by decide +kernel
theorem dX11_lowest_6 : decode cX11_lowest 6 = .ok (.lload 7, 2) := by decide +kernel
theorem dX11_lowest_8 : decode cX11_lowest 8 = .ok (.lconst 0, 1) := by decide +kernel
theorem dX11_lowest_9 : decode cX11_lowest 9 = .ok (.lcmp, 1) := by decide +kernel
theorem dX11_lowest_10 : decode cX11_lowest 10 = .ok (.ifCond .eq 21, 3) := by decide +kernel
theorem dX11_lowest_13 : decode cX11_lowest 13 = .ok (.lload 5, 2) := by decide +kernel
theorem dX11_lowest_15 : decode cX11_lowest 15 = .ok (.lload 7, 2) := by decide +kernel
theorem dX11_lowest_17 : decode cX11_lowest 17 = .ok (.lrem, 1) := by decide +kernel
theorem dX11_lowest_18 : decode cX11_lowest 18 = .ok (.lstore 9, 2) := by decide +kernel
theorem dX11_lowest_20 : decode cX11_lowest 20 = .ok (.lload 7, 2) := by decide +kernel
theorem dX11_lowest_22 : decode cX11_lowest 22 = .ok (.lstore 5, 2) := by decide +kernel
theorem dX11_lowest_24 : decode cX11_lowest 24 = .ok (.lload 9, 2) := by decide +kernel
theorem dX11_lowest_26 : decode cX11_lowest 26 = .ok (.lstore 7, 2) := by decide +kernel
theorem dX11_lowest_28 : decode cX11_lowest 28 = .ok (.goto (-22), 3) := by decide +kernel
theorem dX11_lowest_31 : decode cX11_lowest 31 = .ok (.iload 4, 2) := by decide +kernel
theorem dX11_lowest_33 : decode cX11_lowest 33 = .ok (.ifCond .ne 10, 3) := by decide +kernel
theorem dX11_lowest_36 : decode cX11_lowest 36 = .ok (.lload_n 0, 1) := by decide +kernel
theorem dX11_lowest_37 : decode cX11_lowest 37 = .ok (.lload 5, 2) := by decide +kernel
theorem dX11_lowest_39 : decode cX11_lowest 39 = .ok (.ldiv, 1) := by decide +kernel
theorem dX11_lowest_40 : decode cX11_lowest 40 = .ok (.goto 7, 3) := by decide +kernel
theorem dX11_lowest_43 : decode cX11_lowest 43 = .ok (.lload_n 2, 1) := by decide +kernel
theorem dX11_lowest_44 : decode cX11_lowest 44 = .ok (.lload 5, 2) := by decide +kernel
theorem dX11_lowest_46 : decode cX11_lowest 46 = .ok (.ldiv, 1) := by decide +kernel
theorem dX11_lowest_47 : decode cX11_lowest 47 = .ok (.lreturn, 1) := by decide +kernel
theorem dX11_storm_0 : decode cX11_storm 0 = .ok (.aload_n 0, 1) := by decide +kernel
theorem dX11_storm_1 : decode cX11_storm 1 = .ok (.iload_n 1, 1) := by decide +kernel
theorem dX11_storm_2 : decode cX11_storm 2 = .ok (.invokevirtual 112, 3) := by decide +kernel
theorem dX11_storm_5 : decode cX11_storm 5 = .ok (.ifCond .ne 7, 3) := by decide +kernel
theorem dX11_storm_8 : decode cX11_storm 8 = .ok (.ldc2_w 304, 3) := by decide +kernel
theorem dX11_storm_11 : decode cX11_storm 11 = .ok (.lreturn, 1) := by decide +kernel
theorem dX11_storm_12 : decode cX11_storm 12 = .ok (.iload_n 2, 1) := by decide +kernel
theorem dX11_storm_13 : decode cX11_storm 13 = .ok (.invokestatic 244, 3) := by decide +kernel
theorem dX11_storm_16 : decode cX11_storm 16 = .ok (.ifCond .eq 39, 3) := by decide +kernel
theorem dX11_storm_19 : decode cX11_storm 19 = .ok (.iload_n 3, 1) := by decide +kernel
theorem dX11_storm_20 : decode cX11_storm 20 = .ok (.i2l, 1) := by decide +kernel
theorem dX11_storm_21 : decode cX11_storm 21 = .ok (.lconst 0, 1) := by decide +kernel
theorem dX11_storm_22 : decode cX11_storm 22 = .ok (.ldc2_w 306, 3) := by decide +kernel
theorem dX11_storm_25 : decode cX11_storm 25 = .ok (.invokestatic 104, 3) := by decide +kernel
theorem dX11_storm_28 : decode cX11_storm 28 = .ok (.ifCond .eq 27, 3) := by decide +kernel
theorem dX11_storm_31 : decode cX11_storm 31 = .ok (.iload 4, 2) := by decide +kernel
theorem dX11_storm_33 : decode cX11_storm 33 = .ok (.i2l, 1) := by decide +kernel
theorem dX11_storm_34 : decode cX11_storm 34 = .ok (.lconst 0, 1) := by decide +kernel
theorem dX11_storm_35 : decode cX11_storm 35 = .ok (.ldc2_w 308, 3) := by decide +kernel
theorem dX11_storm_38 : decode cX11_storm 38 = .ok (.invokestatic 104, 3) := by decide +kernel
theorem dX11_storm_41 : decode cX11_storm 41 = .ok (.ifCond .eq 14, 3) := by decide +kernel
theorem dX11_storm_44 : decode cX11_storm 44 = .ok (.iload 5, 2) := by decide +kernel
theorem dX11_storm_46 : decode cX11_storm 46 = .ok (.i2l, 1) := by decide +kernel
theorem dX11_storm_47 : decode cX11_storm 47 = .ok (.lconst 0, 1) := by decide +kernel
theorem dX11_storm_48 : decode cX11_storm 48 = .ok (.lconst 1, 1) := by decide +kernel
theorem dX11_storm_49 : decode cX11_storm 49 = .ok (.invokestatic 104, 3) := by decide +kernel
theorem dX11_storm_52 : decode cX11_storm 52 = .ok (.ifCond .ne 7, 3) := by decide +kernel
theorem dX11_storm_55 : decode cX11_storm 55 = .ok (.ldc2_w 310, 3) := by decide +kernel
theorem dX11_storm_58 : decode cX11_storm 58 = .ok (.lreturn, 1) := by decide +kernel
theorem dX11_storm_59 : decode cX11_storm 59 = .ok (.lconst 1, 1) := by decide +kernel
theorem dX11_storm_60 : decode cX11_storm 60 = .ok (.lstore 6, 2) := by decide +kernel
theorem dX11_storm_62 : decode cX11_storm 62 = .ok (.lconst 0, 1) := by decide +kernel
theorem dX11_storm_63 : decode cX11_storm 63 = .ok (.lstore 8, 2) := by decide +kernel
theorem dX11_storm_65 : decode cX11_storm 65 = .ok (.lconst 1, 1) := by decide +kernel
theorem dX11_storm_66 : decode cX11_storm 66 = .ok (.lstore 10, 2) := by decide +kernel
theorem dX11_storm_68 : decode cX11_storm 68 = .ok (.iconst 0, 1) := by decide +kernel
theorem dX11_storm_69 : decode cX11_storm 69 = .ok (.istore 12, 2) := by decide +kernel
theorem dX11_storm_71 : decode cX11_storm 71 = .ok (.iload 12, 2) := by decide +kernel
theorem dX11_storm_73 : decode cX11_storm 73 = .ok (.iload 4, 2) := by decide +kernel
theorem dX11_storm_75 : decode cX11_storm 75 = .ok (.if_icmp .ge 53, 3) := by decide +kernel
theorem dX11_storm_78 : decode cX11_storm 78 = .ok (.lload 6, 2) := by decide +kernel
theorem dX11_storm_80 : decode cX11_storm 80 = .ok (.bipush 10, 2) := by decide +kernel
theorem dX11_storm_82 : decode cX11_storm 82 = .ok (.iload_n 3, 1) := by decide +kernel
theorem dX11_storm_83 : decode cX11_storm 83 = .ok (.isub, 1) := by decide +kernel
theorem dX11_storm_84 : decode cX11_storm 84 = .ok (.i2l, 1) := by decide +kernel
theorem dX11_storm_85 : decode cX11_storm 85 = .ok (.lmul, 1) := by decide +kernel
theorem dX11_storm_86 : decode cX11_storm 86 = .ok (.lload 8, 2) := by decide +kernel
theorem dX11_storm_88 : decode cX11_storm 88 = .ok (.iload_n 3, 1) := by decide +kernel
theorem dX11_storm_89 : decode cX11_storm 89 = .ok (.i2l, 1) := by decide +kernel
theorem dX11_storm_90 : decode cX11_storm 90 = .ok (.lmul, 1) := by decide +kernel
theorem dX11_storm_91 : decode cX11_storm 91 = .ok (.ladd, 1) := by decide +kernel
theorem dX11_storm_92 : decode cX11_storm 92 = .ok (.lstore 13, 2) := by decide +kernel
theorem dX11_storm_94 : decode cX11_storm 94 = .ok (.lload 8, 2) := by decide +kernel
theorem dX11_storm_96 : decode cX11_storm 96 = .ok (.bipush 10, 2) := by decide +kernel
theorem dX11_storm_98 : decode cX11_storm 98 = .ok (.iload_n 3, 1) := by decide +kernel
theorem dX11_storm_99 : decode cX11_storm 99 = .ok (.isub, 1) := by decide +kernel
theorem dX11_storm_100 : decode cX11_storm 100 = .ok (.i2l, 1) := by decide +kernel
theorem dX11_storm_101 : decode cX11_storm 101 = .ok (.lmul, 1) := by decide +kernel
theorem dX11_storm_102 : decode cX11_storm 102 = .ok (.lload 6, 2) := by decide +kernel
theorem dX11_storm_104 : decode cX11_storm 104 = .ok (.iload_n 3, 1) := by decide +kernel
theorem dX11_storm_105 : decode cX11_storm 105 = .ok (.i2l, 1) := by decide +kernel
theorem dX11_storm_106 : decode cX11_storm 106 = .ok (.lmul, 1) := by decide +kernel
theorem dX11_storm_107 : decode cX11_storm 107 = .ok (.ladd, 1) := by decide +kernel
theorem dX11_storm_108 : decode cX11_storm 108 = .ok (.lstore 8, 2) := by decide +kernel
theorem dX11_storm_110 : decode cX11_storm 110 = .ok (.lload 13, 2) := by decide +kernel
theorem dX11_storm_112 : decode cX11_storm 112 = .ok (.lstore 6, 2) := by decide +kernel
theorem dX11_storm_114 : decode cX11_storm 114 = .ok (.lload 10, 2) := by decide +kernel
theorem dX11_storm_116 : decode cX11_storm 116 = .ok (.ldc2_w 306, 3) := by decide +kernel
theorem dX11_storm_119 : decode cX11_storm 119 = .ok (.lmul, 1) := by decide +kernel
theorem dX11_storm_120 : decode cX11_storm 120 = .ok (.lstore 10, 2) := by decide +kernel
theorem dX11_storm_122 : decode cX11_storm 122 = .ok (.iinc 12 1, 3) := by decide +kernel
theorem dX11_storm_125 : decode cX11_storm 125 = .ok (.goto (-54), 3) := by decide +kernel
theorem dX11_storm_128 : decode cX11_storm 128 = .ok (.iload_n 2, 1) := by decide +kernel
theorem dX11_storm_129 : decode cX11_storm 129 = .ok (.aload_n 0, 1) := by decide +kernel
theorem dX11_storm_130 : decode cX11_storm 130 = .ok (.getfield 7, 3) := by decide +kernel
theorem dX11_storm_133 : decode cX11_storm 133 = .ok (.iload_n 1, 1) := by decide +kernel
theorem dX11_storm_134 : decode cX11_storm 134 = .ok (.iaload, 1) := by decide +kernel
theorem dX11_storm_135 : decode cX11_storm 135 = .ok (.isub, 1) := by decide +kernel
theorem dX11_storm_136 : decode cX11_storm 136 = .ok (.iconst 4, 1) := by decide +kernel
theorem dX11_storm_137 : decode cX11_storm 137 = .ok (.iadd, 1) := by decide +kernel
theorem dX11_storm_138 : decode cX11_storm 138 = .ok (.iconst 4, 1) := by decide +kernel
theorem dX11_storm_139 : decode cX11_storm 139 = .ok (.irem, 1) := by decide +kernel
theorem dX11_storm_140 : decode cX11_storm 140 = .ok (.istore 12, 2) := by decide +kernel
theorem dX11_storm_142 : decode cX11_storm 142 = .ok (.iload 12, 2) := by decide +kernel
theorem dX11_storm_144 : decode cX11_storm 144 = .ok (.ifCond .ne 8, 3) := by decide +kernel
theorem dX11_storm_147 : decode cX11_storm 147 = .ok (.lload 6, 2) := by decide +kernel
theorem dX11_storm_149 : decode cX11_storm 149 = .ok (.goto 15, 3) := by decide +kernel
theorem dX11_storm_152 : decode cX11_storm 152 = .ok (.iload 12, 2) := by decide +kernel
theorem dX11_storm_154 : decode cX11_storm 154 = .ok (.iconst 2, 1) := by decide +kernel
theorem dX11_storm_155 : decode cX11_storm 155 = .ok (.if_icmp .ne 8, 3) := by decide +kernel
theorem dX11_storm_158 : decode cX11_storm 158 = .ok (.lload 8, 2) := by decide +kernel
theorem dX11_storm_160 : decode cX11_storm 160 = .ok (.goto 4, 3) := by decide +kernel
theorem dX11_storm_163 : decode cX11_storm 163 = .ok (.lconst 0, 1) := by decide +kernel
theorem dX11_storm_164 : decode cX11_storm 164 = .ok (.lload 10, 2) := by decide +kernel
theorem dX11_storm_166 : decode cX11_storm 166 = .ok (.iload 5, 2) := by decide +kernel
theorem dX11_storm_168 : decode cX11_storm 168 = .ok (.invokestatic 312, 3) := by decide +kernel
theorem dX11_storm_171 : decode cX11_storm 171 = .ok (.lreturn, 1) := by decide +kernel
theorem dX11_ninety_0 : decode cX11_ninety 0 = .ok (.iload_n 1, 1) := by decide +kernel
theorem dX11_ninety_1 : decode cX11_ninety 1 = .ok (.i2l, 1) := by decide +kernel
theorem dX11_ninety_2 : decode cX11_ninety 2 = .ok (.lconst 0, 1) := by decide +kernel
theorem dX11_ninety_3 : decode cX11_ninety 3 = .ok (.ldc2_w 316, 3) := by decide +kernel
theorem dX11_ninety_6 : decode cX11_ninety 6 = .ok (.invokestatic 104, 3) := by decide +kernel
theorem dX11_ninety_9 : decode cX11_ninety 9 = .ok (.ifCond .eq 27, 3) := by decide +kernel
theorem dX11_ninety_12 : decode cX11_ninety 12 = .ok (.iload_n 2, 1) := by decide +kernel
theorem dX11_ninety_13 : decode cX11_ninety 13 = .ok (.i2l, 1) := by decide +kernel
theorem dX11_ninety_14 : decode cX11_ninety 14 = .ok (.lconst 1, 1) := by decide +kernel
theorem dX11_ninety_15 : decode cX11_ninety 15 = .ok (.ldc2_w 318, 3) := by decide +kernel
theorem dX11_ninety_18 : decode cX11_ninety 18 = .ok (.invokestatic 104, 3) := by decide +kernel
theorem dX11_ninety_21 : decode cX11_ninety 21 = .ok (.ifCond .eq 15, 3) := by decide +kernel
theorem dX11_ninety_24 : decode cX11_ninety 24 = .ok (.iload_n 3, 1) := by decide +kernel
theorem dX11_ninety_25 : decode cX11_ninety 25 = .ok (.i2l, 1) := by decide +kernel
theorem dX11_ninety_26 : decode cX11_ninety 26 = .ok (.lconst 0, 1) := by decide +kernel
theorem dX11_ninety_27 : decode cX11_ninety 27 = .ok (.ldc2_w 278, 3) := by decide +kernel
theorem dX11_ninety_30 : decode cX11_ninety 30 = .ok (.invokestatic 104, 3) := by decide +kernel
theorem dX11_ninety_33 : decode cX11_ninety 33 = .ok (.ifCond .ne 6, 3) := by decide +kernel
theorem dX11_ninety_36 : decode cX11_ninety 36 = .ok (.bipush (-2), 2) := by decide +kernel
theorem dX11_ninety_38 : decode cX11_ninety 38 = .ok (.ireturn, 1) := by decide +kernel
theorem dX11_ninety_39 : decode cX11_ninety 39 = .ok (.aload_n 0, 1) := by decide +kernel
theorem dX11_ninety_40 : decode cX11_ninety 40 = .ok (.invokevirtual 195, 3) := by decide +kernel
theorem dX11_ninety_43 : decode cX11_ninety 43 = .ok (.aload_n 0, 1) := by decide +kernel
theorem dX11_ninety_44 : decode cX11_ninety 44 = .ok (.iconst 0, 1) := by decide +kernel
theorem dX11_ninety_45 : decode cX11_ninety 45 = .ok (.putfield 165, 3) := by decide +kernel
theorem dX11_ninety_48 : decode cX11_ninety 48 = .ok (.aload_n 0, 1) := by decide +kernel
theorem dX11_ninety_49 : decode cX11_ninety 49 = .ok (.iconst 0, 1) := by decide +kernel
theorem dX11_ninety_50 : decode cX11_ninety 50 = .ok (.putfield 162, 3) := by decide +kernel
theorem dX11_ninety_53 : decode cX11_ninety 53 = .ok (.iload_n 1, 1) := by decide +kernel
theorem dX11_ninety_54 : decode cX11_ninety 54 = .ok (.istore 4, 2) := by decide +kernel
theorem dX11_ninety_56 : decode cX11_ninety 56 = .ok (.iconst 1, 1) := by decide +kernel
theorem dX11_ninety_57 : decode cX11_ninety 57 = .ok (.istore 5, 2) := by decide +kernel
theorem dX11_ninety_59 : decode cX11_ninety 59 = .ok (.iload 5, 2) := by decide +kernel
theorem dX11_ninety_61 : decode cX11_ninety 61 = .ok (.iload_n 2, 1) := by decide +kernel
theorem dX11_ninety_62 : decode cX11_ninety 62 = .ok (.if_icmp .gt 74, 3) := by decide +kernel
theorem dX11_ninety_65 : decode cX11_ninety 65 = .ok (.ldc2_w 320, 3) := by decide +kernel
theorem dX11_ninety_68 : decode cX11_ninety 68 = .ok (.iload 4, 2) := by decide +kernel
theorem dX11_ninety_70 : decode cX11_ninety 70 = .ok (.i2l, 1) := by decide +kernel
theorem dX11_ninety_71 : decode cX11_ninety 71 = .ok (.lmul, 1) := by decide +kernel
theorem dX11_ninety_72 : decode cX11_ninety 72 = .ok (.ldc2_w 322, 3) := by decide +kernel
theorem dX11_ninety_75 : decode cX11_ninety 75 = .ok (.ladd, 1) := by decide +kernel
theorem dX11_ninety_76 : decode cX11_ninety 76 = .ok (.ldc2_w 324, 3) := by decide +kernel
theorem dX11_ninety_79 : decode cX11_ninety 79 = .ok (.lrem, 1) := by decide +kernel
theorem dX11_ninety_80 : decode cX11_ninety 80 = .ok (.l2i, 1) := by decide +kernel
theorem dX11_ninety_81 : decode cX11_ninety 81 = .ok (.istore 4, 2) := by decide +kernel
theorem dX11_ninety_83 : decode cX11_ninety 83 = .ok (.aload_n 0, 1) := by decide +kernel
theorem dX11_ninety_84 : decode cX11_ninety 84 = .ok (.iload 4, 2) := by decide +kernel
theorem dX11_ninety_86 : decode cX11_ninety 86 = .ok (.bipush 6, 2) := by decide +kernel
theorem dX11_ninety_88 : decode cX11_ninety 88 = .ok (.irem, 1) := by decide +kernel
theorem dX11_ninety_89 : decode cX11_ninety 89 = .ok (.invokevirtual 155, 3) := by decide +kernel
theorem dX11_ninety_92 : decode cX11_ninety 92 = .ok (.ifCond .eq 12, 3) := by decide +kernel
theorem dX11_ninety_95 : decode cX11_ninety 95 = .ok (.aload_n 0, 1) := by decide +kernel
theorem dX11_ninety_96 : decode cX11_ninety 96 = .ok (.iload 4, 2) := by decide +kernel
theorem dX11_ninety_98 : decode cX11_ninety 98 = .ok (.bipush 6, 2) := by decide +kernel
theorem dX11_ninety_100 : decode cX11_ninety 100 = .ok (.irem, 1) := by decide +kernel
theorem dX11_ninety_101 : decode cX11_ninety 101 = .ok (.invokevirtual 171, 3) := by decide +kernel
theorem dX11_ninety_104 : decode cX11_ninety 104 = .ok (.iload 4, 2) := by decide +kernel
theorem dX11_ninety_106 : decode cX11_ninety 106 = .ok (.bipush 6, 2) := by decide +kernel
theorem dX11_ninety_108 : decode cX11_ninety 108 = .ok (.idiv, 1) := by decide +kernel
theorem dX11_ninety_109 : decode cX11_ninety 109 = .ok (.bipush 10, 2) := by decide +kernel
theorem dX11_ninety_111 : decode cX11_ninety 111 = .ok (.irem, 1) := by decide +kernel
theorem dX11_ninety_112 : decode cX11_ninety 112 = .ok (.ifCond .ne 7, 3) := by decide +kernel
theorem dX11_ninety_115 : decode cX11_ninety 115 = .ok (.aload_n 0, 1) := by decide +kernel
theorem dX11_ninety_116 : decode cX11_ninety 116 = .ok (.invokevirtual 174, 3) := by decide +kernel
theorem dX11_ninety_119 : decode cX11_ninety 119 = .ok (.iload 5, 2) := by decide +kernel
theorem dX11_ninety_121 : decode cX11_ninety 121 = .ok (.iconst 5, 1) := by decide +kernel
theorem dX11_ninety_122 : decode cX11_ninety 122 = .ok (.irem, 1) := by decide +kernel
theorem dX11_ninety_123 : decode cX11_ninety 123 = .ok (.ifCond .ne 7, 3) := by decide +kernel
theorem dX11_ninety_126 : decode cX11_ninety 126 = .ok (.aload_n 0, 1) := by decide +kernel
theorem dX11_ninety_127 : decode cX11_ninety 127 = .ok (.invokevirtual 177, 3) := by decide +kernel
theorem dX11_ninety_130 : decode cX11_ninety 130 = .ok (.iinc 5 1, 3) := by decide +kernel
theorem dX11_ninety_133 : decode cX11_ninety 133 = .ok (.goto (-74), 3) := by decide +kernel
theorem dX11_ninety_136 : decode cX11_ninety 136 = .ok (.aload_n 0, 1) := by decide +kernel
theorem dX11_ninety_137 : decode cX11_ninety 137 = .ok (.invokevirtual 211, 3) := by decide +kernel
theorem dX11_ninety_140 : decode cX11_ninety 140 = .ok (.istore 5, 2) := by decide +kernel
theorem dX11_ninety_142 : decode cX11_ninety 142 = .ok (.aload_n 0, 1) := by decide +kernel
theorem dX11_ninety_143 : decode cX11_ninety 143 = .ok (.invokevirtual 201, 3) := by decide +kernel
theorem dX11_ninety_146 : decode cX11_ninety 146 = .ok (.iload_n 3, 1) := by decide +kernel
theorem dX11_ninety_147 : decode cX11_ninety 147 = .ok (.ifCond .ne 10, 3) := by decide +kernel
theorem dX11_ninety_150 : decode cX11_ninety 150 = .ok (.aload_n 0, 1) := by decide +kernel
theorem dX11_ninety_151 : decode cX11_ninety 151 = .ok (.getfield 165, 3) := by decide +kernel
theorem dX11_ninety_154 : decode cX11_ninety 154 = .ok (.goto 17, 3) := by decide +kernel
theorem dX11_ninety_157 : decode cX11_ninety 157 = .ok (.iload_n 3, 1) := by decide +kernel
theorem dX11_ninety_158 : decode cX11_ninety 158 = .ok (.iconst 1, 1) := by decide +kernel
theorem dX11_ninety_159 : decode cX11_ninety 159 = .ok (.if_icmp .ne 8, 3) := by decide +kernel
theorem dX11_ninety_162 : decode cX11_ninety 162 = .ok (.iload 5, 2) := by decide +kernel
theorem dX11_ninety_164 : decode cX11_ninety 164 = .ok (.goto 7, 3) := by decide +kernel
theorem dX11_ninety_167 : decode cX11_ninety 167 = .ok (.aload_n 0, 1) := by decide +kernel
theorem dX11_ninety_168 : decode cX11_ninety 168 = .ok (.getfield 162, 3) := by decide +kernel
theorem dX11_ninety_171 : decode cX11_ninety 171 = .ok (.ireturn, 1) := by decide +kernel
theorem dX11_pass_0 : decode cX11_pass 0 = .ok (.aload_n 0, 1) := by decide +kernel
theorem dX11_pass_1 : decode cX11_pass 1 = .ok (.getfield 326, 3) := by decide +kernel
theorem dX11_pass_4 : decode cX11_pass 4 = .ok (.ifCond .eq 7, 3) := by decide +kernel
theorem dX11_pass_7 : decode cX11_pass 7 = .ok (.iload_n 1, 1) := by decide +kernel
theorem dX11_pass_8 : decode cX11_pass 8 = .ok (.goto 12, 3) := by decide +kernel
theorem dX11_pass_11 : decode cX11_pass 11 = .ok (.aload_n 0, 1) := by decide +kernel
theorem dX11_pass_12 : decode cX11_pass 12 = .ok (.getfield 83, 3) := by decide +kernel
theorem dX11_pass_15 : decode cX11_pass 15 = .ok (.aload_n 0, 1) := by decide +kernel
theorem dX11_pass_16 : decode cX11_pass 16 = .ok (.getfield 330, 3) := by decide +kernel
theorem dX11_pass_19 : decode cX11_pass 19 = .ok (.iaload, 1) := by decide +kernel
theorem dX11_pass_20 : decode cX11_pass 20 = .ok (.istore_n 2, 1) := by decide +kernel
theorem dX11_pass_21 : decode cX11_pass 21 = .ok (.aload_n 0, 1) := by decide +kernel
theorem dX11_pass_22 : decode cX11_pass 22 = .ok (.getfield 83, 3) := by decide +kernel
theorem dX11_pass_25 : decode cX11_pass 25 = .ok (.aload_n 0, 1) := by decide +kernel
theorem dX11_pass_26 : decode cX11_pass 26 = .ok (.getfield 330, 3) := by decide +kernel
theorem dX11_pass_29 : decode cX11_pass 29 = .ok (.iload_n 2, 1) := by decide +kernel
theorem dX11_pass_30 : decode cX11_pass 30 = .ok (.iastore, 1) := by decide +kernel
theorem dX11_pass_31 : decode cX11_pass 31 = .ok (.aload_n 0, 1) := by decide +kernel
theorem dX11_pass_32 : decode cX11_pass 32 = .ok (.dup, 1) := by decide +kernel
theorem dX11_pass_33 : decode cX11_pass 33 = .ok (.getfield 330, 3) := by decide +kernel
theorem dX11_pass_36 : decode cX11_pass 36 = .ok (.iconst 1, 1) := by decide +kernel
theorem dX11_pass_37 : decode cX11_pass 37 = .ok (.iadd, 1) := by decide +kernel
theorem dX11_pass_38 : decode cX11_pass 38 = .ok (.putfield 330, 3) := by decide +kernel
theorem dX11_pass_41 : decode cX11_pass 41 = .ok (.iload_n 2, 1) := by decide +kernel
theorem dX11_pass_42 : decode cX11_pass 42 = .ok (.ireturn, 1) := by decide +kernel
theorem dX11_passAll_0 : decode cX11_passAll 0 = .ok (.aload_n 0, 1) := by decide +kernel
theorem dX11_passAll_1 : decode cX11_passAll 1 = .ok (.aload_n 0, 1) := by decide +kernel
theorem dX11_passAll_2 : decode cX11_passAll 2 = .ok (.aload_n 0, 1) := by decide +kernel
theorem dX11_passAll_3 : decode cX11_passAll 3 = .ok (.getfield 94, 3) := by decide +kernel
theorem dX11_passAll_6 : decode cX11_passAll 6 = .ok (.invokevirtual 333, 3) := by decide +kernel
theorem dX11_passAll_9 : decode cX11_passAll 9 = .ok (.putfield 94, 3) := by decide +kernel
theorem dX11_passAll_12 : decode cX11_passAll 12 = .ok (.aload_n 0, 1) := by decide +kernel
theorem dX11_passAll_13 : decode cX11_passAll 13 = .ok (.aload_n 0, 1) := by decide +kernel
theorem dX11_passAll_14 : decode cX11_passAll 14 = .ok (.aload_n 0, 1) := by decide +kernel
theorem dX11_passAll_15 : decode cX11_passAll 15 = .ok (.getfield 98, 3) := by decide +kernel
theorem dX11_passAll_18 : decode cX11_passAll 18 = .ok (.invokevirtual 333, 3) := by decide +kernel
theorem dX11_passAll_21 : decode cX11_passAll 21 = .ok (.putfield 98, 3) := by decide +kernel
theorem dX11_passAll_24 : decode cX11_passAll 24 = .ok (.aload_n 0, 1) := by decide +kernel
theorem dX11_passAll_25 : decode cX11_passAll 25 = .ok (.aload_n 0, 1) := by decide +kernel
theorem dX11_passAll_26 : decode cX11_passAll 26 = .ok (.aload_n 0, 1) := by decide +kernel
theorem dX11_passAll_27 : decode cX11_passAll 27 = .ok (.getfield 101, 3) := by decide +kernel
theorem dX11_passAll_30 : decode cX11_passAll 30 = .ok (.invokevirtual 333, 3) := by decide +kernel
theorem dX11_passAll_33 : decode cX11_passAll 33 = .ok (.putfield 101, 3) := by decide +kernel
theorem dX11_passAll_36 : decode cX11_passAll 36 = .ok (.iconst 0, 1) := by decide +kernel
theorem dX11_passAll_37 : decode cX11_passAll 37 = .ok (.istore_n 1, 1) := by decide +kernel
theorem dX11_passAll_38 : decode cX11_passAll 38 = .ok (.iload_n 1, 1) := by decide +kernel
theorem dX11_passAll_39 : decode cX11_passAll 39 = .ok (.iconst 5, 1) := by decide +kernel
theorem dX11_passAll_40 : decode cX11_passAll 40 = .ok (.if_icmp .ge 89, 3) := by decide +kernel
theorem dX11_passAll_43 : decode cX11_passAll 43 = .ok (.aload_n 0, 1) := by decide +kernel
theorem dX11_passAll_44 : decode cX11_passAll 44 = .ok (.getfield 7, 3) := by decide +kernel
theorem dX11_passAll_47 : decode cX11_passAll 47 = .ok (.iload_n 1, 1) := by decide +kernel
theorem dX11_passAll_48 : decode cX11_passAll 48 = .ok (.aload_n 0, 1) := by decide +kernel
theorem dX11_passAll_49 : decode cX11_passAll 49 = .ok (.aload_n 0, 1) := by decide +kernel
theorem dX11_passAll_50 : decode cX11_passAll 50 = .ok (.getfield 7, 3) := by decide +kernel
theorem dX11_passAll_53 : decode cX11_passAll 53 = .ok (.iload_n 1, 1) := by decide +kernel
theorem dX11_passAll_54 : decode cX11_passAll 54 = .ok (.iaload, 1) := by decide +kernel
theorem dX11_passAll_55 : decode cX11_passAll 55 = .ok (.invokevirtual 333, 3) := by decide +kernel
theorem dX11_passAll_58 : decode cX11_passAll 58 = .ok (.iastore, 1) := by decide +kernel
theorem dX11_passAll_59 : decode cX11_passAll 59 = .ok (.aload_n 0, 1) := by decide +kernel
theorem dX11_passAll_60 : decode cX11_passAll 60 = .ok (.getfield 13, 3) := by decide +kernel
theorem dX11_passAll_63 : decode cX11_passAll 63 = .ok (.iload_n 1, 1) := by decide +kernel
theorem dX11_passAll_64 : decode cX11_passAll 64 = .ok (.aload_n 0, 1) := by decide +kernel
theorem dX11_passAll_65 : decode cX11_passAll 65 = .ok (.aload_n 0, 1) := by decide +kernel
theorem dX11_passAll_66 : decode cX11_passAll 66 = .ok (.getfield 13, 3) := by decide +kernel
theorem dX11_passAll_69 : decode cX11_passAll 69 = .ok (.iload_n 1, 1) := by decide +kernel
theorem dX11_passAll_70 : decode cX11_passAll 70 = .ok (.iaload, 1) := by decide +kernel
theorem dX11_passAll_71 : decode cX11_passAll 71 = .ok (.invokevirtual 333, 3) := by decide +kernel
theorem dX11_passAll_74 : decode cX11_passAll 74 = .ok (.iastore, 1) := by decide +kernel
theorem dX11_passAll_75 : decode cX11_passAll 75 = .ok (.aload_n 0, 1) := by decide +kernel
theorem dX11_passAll_76 : decode cX11_passAll 76 = .ok (.getfield 16, 3) := by decide +kernel
theorem dX11_passAll_79 : decode cX11_passAll 79 = .ok (.iload_n 1, 1) := by decide +kernel
theorem dX11_passAll_80 : decode cX11_passAll 80 = .ok (.aload_n 0, 1) := by decide +kernel
theorem dX11_passAll_81 : decode cX11_passAll 81 = .ok (.aload_n 0, 1) := by decide +kernel
theorem dX11_passAll_82 : decode cX11_passAll 82 = .ok (.getfield 16, 3) := by decide +kernel
theorem dX11_passAll_85 : decode cX11_passAll 85 = .ok (.iload_n 1, 1) := by decide +kernel
theorem dX11_passAll_86 : decode cX11_passAll 86 = .ok (.iaload, 1) := by decide +kernel
theorem dX11_passAll_87 : decode cX11_passAll 87 = .ok (.invokevirtual 333, 3) := by decide +kernel
theorem dX11_passAll_90 : decode cX11_passAll 90 = .ok (.iastore, 1) := by decide +kernel
theorem dX11_passAll_91 : decode cX11_passAll 91 = .ok (.aload_n 0, 1) := by decide +kernel
theorem dX11_passAll_92 : decode cX11_passAll 92 = .ok (.getfield 19, 3) := by decide +kernel
theorem dX11_passAll_95 : decode cX11_passAll 95 = .ok (.iload_n 1, 1) := by decide +kernel
theorem dX11_passAll_96 : decode cX11_passAll 96 = .ok (.aload_n 0, 1) := by decide +kernel
theorem dX11_passAll_97 : decode cX11_passAll 97 = .ok (.aload_n 0, 1) := by decide +kernel
theorem dX11_passAll_98 : decode cX11_passAll 98 = .ok (.getfield 19, 3) := by decide +kernel
theorem dX11_passAll_101 : decode cX11_passAll 101 = .ok (.iload_n 1, 1) := by decide +kernel
theorem dX11_passAll_102 : decode cX11_passAll 102 = .ok (.iaload, 1) := by decide +kernel
theorem dX11_passAll_103 : decode cX11_passAll 103 = .ok (.invokevirtual 333, 3) := by decide +kernel
theorem dX11_passAll_106 : decode cX11_passAll 106 = .ok (.iastore, 1) := by decide +kernel
theorem dX11_passAll_107 : decode cX11_passAll 107 = .ok (.aload_n 0, 1) := by decide +kernel
theorem dX11_passAll_108 : decode cX11_passAll 108 = .ok (.getfield 22, 3) := by decide +kernel
theorem dX11_passAll_111 : decode cX11_passAll 111 = .ok (.iload_n 1, 1) := by decide +kernel
theorem dX11_passAll_112 : decode cX11_passAll 112 = .ok (.aload_n 0, 1) := by decide +kernel
theorem dX11_passAll_113 : decode cX11_passAll 113 = .ok (.aload_n 0, 1) := by decide +kernel
theorem dX11_passAll_114 : decode cX11_passAll 114 = .ok (.getfield 22, 3) := by decide +kernel
theorem dX11_passAll_117 : decode cX11_passAll 117 = .ok (.iload_n 1, 1) := by decide +kernel
theorem dX11_passAll_118 : decode cX11_passAll 118 = .ok (.iaload, 1) := by decide +kernel
theorem dX11_passAll_119 : decode cX11_passAll 119 = .ok (.invokevirtual 333, 3) := by decide +kernel
theorem dX11_passAll_122 : decode cX11_passAll 122 = .ok (.iastore, 1) := by decide +kernel
theorem dX11_passAll_123 : decode cX11_passAll 123 = .ok (.iinc 1 1, 3) := by decide +kernel
theorem dX11_passAll_126 : decode cX11_passAll 126 = .ok (.goto (-88), 3) := by decide +kernel
theorem dX11_passAll_129 : decode cX11_passAll 129 = .ok (.iconst 0, 1) := by decide +kernel
theorem dX11_passAll_130 : decode cX11_passAll 130 = .ok (.istore_n 1, 1) := by decide +kernel
theorem dX11_passAll_131 : decode cX11_passAll 131 = .ok (.iload_n 1, 1) := by decide +kernel
theorem dX11_passAll_132 : decode cX11_passAll 132 = .ok (.bipush 30, 2) := by decide +kernel
theorem dX11_passAll_134 : decode cX11_passAll 134 = .ok (.if_icmp .ge 25, 3) := by decide +kernel
theorem dX11_passAll_137 : decode cX11_passAll 137 = .ok (.aload_n 0, 1) := by decide +kernel
theorem dX11_passAll_138 : decode cX11_passAll 138 = .ok (.getfield 25, 3) := by decide +kernel
theorem dX11_passAll_141 : decode cX11_passAll 141 = .ok (.iload_n 1, 1) := by decide +kernel
theorem dX11_passAll_142 : decode cX11_passAll 142 = .ok (.aload_n 0, 1) := by decide +kernel
theorem dX11_passAll_143 : decode cX11_passAll 143 = .ok (.aload_n 0, 1) := by decide +kernel
theorem dX11_passAll_144 : decode cX11_passAll 144 = .ok (.getfield 25, 3) := by decide +kernel
theorem dX11_passAll_147 : decode cX11_passAll 147 = .ok (.iload_n 1, 1) := by decide +kernel
theorem dX11_passAll_148 : decode cX11_passAll 148 = .ok (.iaload, 1) := by decide +kernel
theorem dX11_passAll_149 : decode cX11_passAll 149 = .ok (.invokevirtual 333, 3) := by decide +kernel
theorem dX11_passAll_152 : decode cX11_passAll 152 = .ok (.iastore, 1) := by decide +kernel
theorem dX11_passAll_153 : decode cX11_passAll 153 = .ok (.iinc 1 1, 3) := by decide +kernel
theorem dX11_passAll_156 : decode cX11_passAll 156 = .ok (.goto (-25), 3) := by decide +kernel
theorem dX11_passAll_159 : decode cX11_passAll 159 = .ok (.iconst 0, 1) := by decide +kernel
theorem dX11_passAll_160 : decode cX11_passAll 160 = .ok (.istore_n 1, 1) := by decide +kernel
theorem dX11_passAll_161 : decode cX11_passAll 161 = .ok (.iload_n 1, 1) := by decide +kernel
theorem dX11_passAll_162 : decode cX11_passAll 162 = .ok (.bipush 6, 2) := by decide +kernel
theorem dX11_passAll_164 : decode cX11_passAll 164 = .ok (.if_icmp .ge 57, 3) := by decide +kernel
theorem dX11_passAll_167 : decode cX11_passAll 167 = .ok (.aload_n 0, 1) := by decide +kernel
theorem dX11_passAll_168 : decode cX11_passAll 168 = .ok (.getfield 28, 3) := by decide +kernel
theorem dX11_passAll_171 : decode cX11_passAll 171 = .ok (.iload_n 1, 1) := by decide +kernel
theorem dX11_passAll_172 : decode cX11_passAll 172 = .ok (.aload_n 0, 1) := by decide +kernel
theorem dX11_passAll_173 : decode cX11_passAll 173 = .ok (.aload_n 0, 1) := by decide +kernel
theorem dX11_passAll_174 : decode cX11_passAll 174 = .ok (.getfield 28, 3) := by decide +kernel
theorem dX11_passAll_177 : decode cX11_passAll 177 = .ok (.iload_n 1, 1) := by decide +kernel
theorem dX11_passAll_178 : decode cX11_passAll 178 = .ok (.iaload, 1) := by decide +kernel
theorem dX11_passAll_179 : decode cX11_passAll 179 = .ok (.invokevirtual 333, 3) := by decide +kernel
theorem dX11_passAll_182 : decode cX11_passAll 182 = .ok (.iastore, 1) := by decide +kernel
theorem dX11_passAll_183 : decode cX11_passAll 183 = .ok (.aload_n 0, 1) := by decide +kernel
theorem dX11_passAll_184 : decode cX11_passAll 184 = .ok (.getfield 31, 3) := by decide +kernel
theorem dX11_passAll_187 : decode cX11_passAll 187 = .ok (.iload_n 1, 1) := by decide +kernel
theorem dX11_passAll_188 : decode cX11_passAll 188 = .ok (.aload_n 0, 1) := by decide +kernel
theorem dX11_passAll_189 : decode cX11_passAll 189 = .ok (.aload_n 0, 1) := by decide +kernel
theorem dX11_passAll_190 : decode cX11_passAll 190 = .ok (.getfield 31, 3) := by decide +kernel
theorem dX11_passAll_193 : decode cX11_passAll 193 = .ok (.iload_n 1, 1) := by decide +kernel
theorem dX11_passAll_194 : decode cX11_passAll 194 = .ok (.iaload, 1) := by decide +kernel
theorem dX11_passAll_195 : decode cX11_passAll 195 = .ok (.invokevirtual 333, 3) := by decide +kernel
theorem dX11_passAll_198 : decode cX11_passAll 198 = .ok (.iastore, 1) := by decide +kernel
theorem dX11_passAll_199 : decode cX11_passAll 199 = .ok (.aload_n 0, 1) := by decide +kernel
theorem dX11_passAll_200 : decode cX11_passAll 200 = .ok (.getfield 34, 3) := by decide +kernel
theorem dX11_passAll_203 : decode cX11_passAll 203 = .ok (.iload_n 1, 1) := by decide +kernel
theorem dX11_passAll_204 : decode cX11_passAll 204 = .ok (.aload_n 0, 1) := by decide +kernel
theorem dX11_passAll_205 : decode cX11_passAll 205 = .ok (.aload_n 0, 1) := by decide +kernel
theorem dX11_passAll_206 : decode cX11_passAll 206 = .ok (.getfield 34, 3) := by decide +kernel
theorem dX11_passAll_209 : decode cX11_passAll 209 = .ok (.iload_n 1, 1) := by decide +kernel
theorem dX11_passAll_210 : decode cX11_passAll 210 = .ok (.iaload, 1) := by decide +kernel
theorem dX11_passAll_211 : decode cX11_passAll 211 = .ok (.invokevirtual 333, 3) := by decide +kernel
theorem dX11_passAll_214 : decode cX11_passAll 214 = .ok (.iastore, 1) := by decide +kernel
theorem dX11_passAll_215 : decode cX11_passAll 215 = .ok (.iinc 1 1, 3) := by decide +kernel
theorem dX11_passAll_218 : decode cX11_passAll 218 = .ok (.goto (-57), 3) := by decide +kernel
theorem dX11_passAll_221 : decode cX11_passAll 221 = .ok (.return_, 1) := by decide +kernel
theorem dX11_image_0 : decode cX11_image 0 = .ok (.iload_n 1, 1) := by decide +kernel
theorem dX11_image_1 : decode cX11_image 1 = .ok (.i2l, 1) := by decide +kernel
theorem dX11_image_2 : decode cX11_image 2 = .ok (.lconst 0, 1) := by decide +kernel
theorem dX11_image_3 : decode cX11_image 3 = .ok (.lconst 1, 1) := by decide +kernel
theorem dX11_image_4 : decode cX11_image 4 = .ok (.invokestatic 104, 3) := by decide +kernel
theorem dX11_image_7 : decode cX11_image 7 = .ok (.ifCond .ne 6, 3) := by decide +kernel
theorem dX11_image_10 : decode cX11_image 10 = .ok (.bipush (-2), 2) := by decide +kernel
theorem dX11_image_12 : decode cX11_image 12 = .ok (.ireturn, 1) := by decide +kernel
theorem dX11_image_13 : decode cX11_image 13 = .ok (.aload_n 0, 1) := by decide +kernel
theorem dX11_image_14 : decode cX11_image 14 = .ok (.bipush 100, 2) := by decide +kernel
theorem dX11_image_16 : decode cX11_image 16 = .ok (.iload_n 1, 1) := by decide +kernel
theorem dX11_image_17 : decode cX11_image 17 = .ok (.imul, 1) := by decide +kernel
theorem dX11_image_18 : decode cX11_image 18 = .ok (.putfield 330, 3) := by decide +kernel
theorem dX11_image_21 : decode cX11_image 21 = .ok (.aload_n 0, 1) := by decide +kernel
theorem dX11_image_22 : decode cX11_image 22 = .ok (.iconst 1, 1) := by decide +kernel
theorem dX11_image_23 : decode cX11_image 23 = .ok (.putfield 326, 3) := by decide +kernel
theorem dX11_image_26 : decode cX11_image 26 = .ok (.aload_n 0, 1) := by decide +kernel
theorem dX11_image_27 : decode cX11_image 27 = .ok (.invokevirtual 336, 3) := by decide +kernel
theorem dX11_image_30 : decode cX11_image 30 = .ok (.aload_n 0, 1) := by decide +kernel
theorem dX11_image_31 : decode cX11_image 31 = .ok (.getfield 86, 3) := by decide +kernel
theorem dX11_image_34 : decode cX11_image 34 = .ok (.iload_n 1, 1) := by decide +kernel
theorem dX11_image_35 : decode cX11_image 35 = .ok (.iconst 1, 1) := by decide +kernel
theorem dX11_image_36 : decode cX11_image 36 = .ok (.bastore, 1) := by decide +kernel
theorem dX11_image_37 : decode cX11_image 37 = .ok (.iconst 1, 1) := by decide +kernel
theorem dX11_image_38 : decode cX11_image 38 = .ok (.ireturn, 1) := by decide +kernel
theorem dX11_restore_0 : decode cX11_restore 0 = .ok (.iload_n 1, 1) := by decide +kernel
theorem dX11_restore_1 : decode cX11_restore 1 = .ok (.i2l, 1) := by decide +kernel
theorem dX11_restore_2 : decode cX11_restore 2 = .ok (.lconst 0, 1) := by decide +kernel
theorem dX11_restore_3 : decode cX11_restore 3 = .ok (.lconst 1, 1) := by decide +kernel
theorem dX11_restore_4 : decode cX11_restore 4 = .ok (.invokestatic 104, 3) := by decide +kernel
theorem dX11_restore_7 : decode cX11_restore 7 = .ok (.ifCond .ne 6, 3) := by decide +kernel
theorem dX11_restore_10 : decode cX11_restore 10 = .ok (.bipush (-2), 2) := by decide +kernel
theorem dX11_restore_12 : decode cX11_restore 12 = .ok (.ireturn, 1) := by decide +kernel
theorem dX11_restore_13 : decode cX11_restore 13 = .ok (.aload_n 0, 1) := by decide +kernel
theorem dX11_restore_14 : decode cX11_restore 14 = .ok (.getfield 86, 3) := by decide +kernel
theorem dX11_restore_17 : decode cX11_restore 17 = .ok (.iload_n 1, 1) := by decide +kernel
theorem dX11_restore_18 : decode cX11_restore 18 = .ok (.baload, 1) := by decide +kernel
theorem dX11_restore_19 : decode cX11_restore 19 = .ok (.ifCond .ne 6, 3) := by decide +kernel
theorem dX11_restore_22 : decode cX11_restore 22 = .ok (.bipush (-3), 2) := by decide +kernel
theorem dX11_restore_24 : decode cX11_restore 24 = .ok (.ireturn, 1) := by decide +kernel
theorem dX11_restore_25 : decode cX11_restore 25 = .ok (.aload_n 0, 1) := by decide +kernel
theorem dX11_restore_26 : decode cX11_restore 26 = .ok (.bipush 100, 2) := by decide +kernel
theorem dX11_restore_28 : decode cX11_restore 28 = .ok (.iload_n 1, 1) := by decide +kernel
theorem dX11_restore_29 : decode cX11_restore 29 = .ok (.imul, 1) := by decide +kernel
theorem dX11_restore_30 : decode cX11_restore 30 = .ok (.putfield 330, 3) := by decide +kernel
theorem dX11_restore_33 : decode cX11_restore 33 = .ok (.aload_n 0, 1) := by decide +kernel
theorem dX11_restore_34 : decode cX11_restore 34 = .ok (.iconst 0, 1) := by decide +kernel
theorem dX11_restore_35 : decode cX11_restore 35 = .ok (.putfield 326, 3) := by decide +kernel
theorem dX11_restore_38 : decode cX11_restore 38 = .ok (.aload_n 0, 1) := by decide +kernel
theorem dX11_restore_39 : decode cX11_restore 39 = .ok (.invokevirtual 336, 3) := by decide +kernel
theorem dX11_restore_42 : decode cX11_restore 42 = .ok (.iconst 1, 1) := by decide +kernel
theorem dX11_restore_43 : decode cX11_restore 43 = .ok (.ireturn, 1) := by decide +kernel
theorem dX11_toldOfHut_0 : decode cX11_toldOfHut 0 = .ok (.aload_n 0, 1) := by decide +kernel
theorem dX11_toldOfHut_1 : decode cX11_toldOfHut 1 = .ok (.iload_n 1, 1) := by decide +kernel
theorem dX11_toldOfHut_2 : decode cX11_toldOfHut 2 = .ok (.invokevirtual 112, 3) := by decide +kernel
theorem dX11_toldOfHut_5 : decode cX11_toldOfHut 5 = .ok (.ifCond .ne 6, 3) := by decide +kernel
theorem dX11_toldOfHut_8 : decode cX11_toldOfHut 8 = .ok (.bipush (-2), 2) := by decide +kernel
theorem dX11_toldOfHut_10 : decode cX11_toldOfHut 10 = .ok (.ireturn, 1) := by decide +kernel
theorem dX11_toldOfHut_11 : decode cX11_toldOfHut 11 = .ok (.iload_n 2, 1) := by decide +kernel
theorem dX11_toldOfHut_12 : decode cX11_toldOfHut 12 = .ok (.tableswitch 71 0 4 #[36, 43, 50, 57, 64], 36) := by decide +kernel
theorem dX11_toldOfHut_48 : decode cX11_toldOfHut 48 = .ok (.aload_n 0, 1) := by decide +kernel
theorem dX11_toldOfHut_49 : decode cX11_toldOfHut 49 = .ok (.getfield 7, 3) := by decide +kernel
theorem dX11_toldOfHut_52 : decode cX11_toldOfHut 52 = .ok (.iload_n 1, 1) := by decide +kernel
theorem dX11_toldOfHut_53 : decode cX11_toldOfHut 53 = .ok (.iaload, 1) := by decide +kernel
theorem dX11_toldOfHut_54 : decode cX11_toldOfHut 54 = .ok (.ireturn, 1) := by decide +kernel
theorem dX11_toldOfHut_55 : decode cX11_toldOfHut 55 = .ok (.aload_n 0, 1) := by decide +kernel
theorem dX11_toldOfHut_56 : decode cX11_toldOfHut 56 = .ok (.getfield 13, 3) := by decide +kernel
theorem dX11_toldOfHut_59 : decode cX11_toldOfHut 59 = .ok (.iload_n 1, 1) := by decide +kernel
theorem dX11_toldOfHut_60 : decode cX11_toldOfHut 60 = .ok (.iaload, 1) := by decide +kernel
theorem dX11_toldOfHut_61 : decode cX11_toldOfHut 61 = .ok (.ireturn, 1) := by decide +kernel
theorem dX11_toldOfHut_62 : decode cX11_toldOfHut 62 = .ok (.aload_n 0, 1) := by decide +kernel
theorem dX11_toldOfHut_63 : decode cX11_toldOfHut 63 = .ok (.getfield 16, 3) := by decide +kernel
theorem dX11_toldOfHut_66 : decode cX11_toldOfHut 66 = .ok (.iload_n 1, 1) := by decide +kernel
theorem dX11_toldOfHut_67 : decode cX11_toldOfHut 67 = .ok (.iaload, 1) := by decide +kernel
theorem dX11_toldOfHut_68 : decode cX11_toldOfHut 68 = .ok (.ireturn, 1) := by decide +kernel
theorem dX11_toldOfHut_69 : decode cX11_toldOfHut 69 = .ok (.aload_n 0, 1) := by decide +kernel
theorem dX11_toldOfHut_70 : decode cX11_toldOfHut 70 = .ok (.getfield 19, 3) := by decide +kernel
theorem dX11_toldOfHut_73 : decode cX11_toldOfHut 73 = .ok (.iload_n 1, 1) := by decide +kernel
theorem dX11_toldOfHut_74 : decode cX11_toldOfHut 74 = .ok (.iaload, 1) := by decide +kernel
theorem dX11_toldOfHut_75 : decode cX11_toldOfHut 75 = .ok (.ireturn, 1) := by decide +kernel
theorem dX11_toldOfHut_76 : decode cX11_toldOfHut 76 = .ok (.aload_n 0, 1) := by decide +kernel
theorem dX11_toldOfHut_77 : decode cX11_toldOfHut 77 = .ok (.getfield 22, 3) := by decide +kernel
theorem dX11_toldOfHut_80 : decode cX11_toldOfHut 80 = .ok (.iload_n 1, 1) := by decide +kernel
theorem dX11_toldOfHut_81 : decode cX11_toldOfHut 81 = .ok (.iaload, 1) := by decide +kernel
theorem dX11_toldOfHut_82 : decode cX11_toldOfHut 82 = .ok (.ireturn, 1) := by decide +kernel
theorem dX11_toldOfHut_83 : decode cX11_toldOfHut 83 = .ok (.bipush (-2), 2) := by decide +kernel
theorem dX11_toldOfHut_85 : decode cX11_toldOfHut 85 = .ok (.ireturn, 1) := by decide +kernel
theorem dX11_told_0 : decode cX11_told 0 = .ok (.iload_n 1, 1) := by decide +kernel
theorem dX11_told_1 : decode cX11_told 1 = .ok (.i2l, 1) := by decide +kernel
theorem dX11_told_2 : decode cX11_told 2 = .ok (.ldc2_w 339, 3) := by decide +kernel
theorem dX11_told_5 : decode cX11_told 5 = .ok (.ldc2_w 341, 3) := by decide +kernel
theorem dX11_told_8 : decode cX11_told 8 = .ok (.invokestatic 104, 3) := by decide +kernel
theorem dX11_told_11 : decode cX11_told 11 = .ok (.ifCond .eq 47, 3) := by decide +kernel
theorem dX11_told_14 : decode cX11_told 14 = .ok (.iload_n 1, 1) := by decide +kernel
theorem dX11_told_15 : decode cX11_told 15 = .ok (.bipush 100, 2) := by decide +kernel
theorem dX11_told_17 : decode cX11_told 17 = .ok (.idiv, 1) := by decide +kernel
theorem dX11_told_18 : decode cX11_told 18 = .ok (.iconst 1, 1) := by decide +kernel
theorem dX11_told_19 : decode cX11_told 19 = .ok (.isub, 1) := by decide +kernel
theorem dX11_told_20 : decode cX11_told 20 = .ok (.istore_n 2, 1) := by decide +kernel
theorem dX11_told_21 : decode cX11_told 21 = .ok (.iload_n 1, 1) := by decide +kernel
theorem dX11_told_22 : decode cX11_told 22 = .ok (.bipush 100, 2) := by decide +kernel
theorem dX11_told_24 : decode cX11_told 24 = .ok (.irem, 1) := by decide +kernel
theorem dX11_told_25 : decode cX11_told 25 = .ok (.istore_n 3, 1) := by decide +kernel
theorem dX11_told_26 : decode cX11_told 26 = .ok (.aload_n 0, 1) := by decide +kernel
theorem dX11_told_27 : decode cX11_told 27 = .ok (.iload_n 2, 1) := by decide +kernel
theorem dX11_told_28 : decode cX11_told 28 = .ok (.invokevirtual 155, 3) := by decide +kernel
theorem dX11_told_31 : decode cX11_told 31 = .ok (.ifCond .eq 24, 3) := by decide +kernel
theorem dX11_told_34 : decode cX11_told 34 = .ok (.aload_n 0, 1) := by decide +kernel
theorem dX11_told_35 : decode cX11_told 35 = .ok (.iload_n 3, 1) := by decide +kernel
theorem dX11_told_36 : decode cX11_told 36 = .ok (.invokevirtual 112, 3) := by decide +kernel
theorem dX11_told_39 : decode cX11_told 39 = .ok (.ifCond .eq 16, 3) := by decide +kernel
theorem dX11_told_42 : decode cX11_told 42 = .ok (.aload_n 0, 1) := by decide +kernel
theorem dX11_told_43 : decode cX11_told 43 = .ok (.getfield 25, 3) := by decide +kernel
theorem dX11_told_46 : decode cX11_told 46 = .ok (.iconst 5, 1) := by decide +kernel
theorem dX11_told_47 : decode cX11_told 47 = .ok (.iload_n 2, 1) := by decide +kernel
theorem dX11_told_48 : decode cX11_told 48 = .ok (.imul, 1) := by decide +kernel
theorem dX11_told_49 : decode cX11_told 49 = .ok (.iload_n 3, 1) := by decide +kernel
theorem dX11_told_50 : decode cX11_told 50 = .ok (.iadd, 1) := by decide +kernel
theorem dX11_told_51 : decode cX11_told 51 = .ok (.iaload, 1) := by decide +kernel
theorem dX11_told_52 : decode cX11_told 52 = .ok (.goto 5, 3) := by decide +kernel
theorem dX11_told_55 : decode cX11_told 55 = .ok (.bipush (-2), 2) := by decide +kernel
theorem dX11_told_57 : decode cX11_told 57 = .ok (.ireturn, 1) := by decide +kernel
theorem dX11_told_58 : decode cX11_told 58 = .ok (.iload_n 1, 1) := by decide +kernel
theorem dX11_told_59 : decode cX11_told 59 = .ok (.i2l, 1) := by decide +kernel
theorem dX11_told_60 : decode cX11_told 60 = .ok (.ldc2_w 306, 3) := by decide +kernel
theorem dX11_told_63 : decode cX11_told 63 = .ok (.ldc2_w 343, 3) := by decide +kernel
theorem dX11_told_66 : decode cX11_told 66 = .ok (.invokestatic 104, 3) := by decide +kernel
theorem dX11_told_69 : decode cX11_told 69 = .ok (.ifCond .eq 18, 3) := by decide +kernel
theorem dX11_told_72 : decode cX11_told 72 = .ok (.aload_n 0, 1) := by decide +kernel
theorem dX11_told_73 : decode cX11_told 73 = .ok (.iload_n 1, 1) := by decide +kernel
theorem dX11_told_74 : decode cX11_told 74 = .ok (.bipush 10, 2) := by decide +kernel
theorem dX11_told_76 : decode cX11_told 76 = .ok (.idiv, 1) := by decide +kernel
theorem dX11_told_77 : decode cX11_told 77 = .ok (.iconst 1, 1) := by decide +kernel
theorem dX11_told_78 : decode cX11_told 78 = .ok (.isub, 1) := by decide +kernel
theorem dX11_told_79 : decode cX11_told 79 = .ok (.iload_n 1, 1) := by decide +kernel
theorem dX11_told_80 : decode cX11_told 80 = .ok (.bipush 10, 2) := by decide +kernel
theorem dX11_told_82 : decode cX11_told 82 = .ok (.irem, 1) := by decide +kernel
theorem dX11_told_83 : decode cX11_told 83 = .ok (.invokevirtual 345, 3) := by decide +kernel
theorem dX11_told_86 : decode cX11_told 86 = .ok (.ireturn, 1) := by decide +kernel
theorem dX11_told_87 : decode cX11_told 87 = .ok (.iload_n 1, 1) := by decide +kernel
theorem dX11_told_88 : decode cX11_told 88 = .ok (.ifCond .ne 10, 3) := by decide +kernel
theorem dX11_told_91 : decode cX11_told 91 = .ok (.aload_n 0, 1) := by decide +kernel
theorem dX11_told_92 : decode cX11_told 92 = .ok (.getfield 128, 3) := by decide +kernel
theorem dX11_told_95 : decode cX11_told 95 = .ok (.goto 53, 3) := by decide +kernel
theorem dX11_told_98 : decode cX11_told 98 = .ok (.iload_n 1, 1) := by decide +kernel
theorem dX11_told_99 : decode cX11_told 99 = .ok (.iconst 1, 1) := by decide +kernel
theorem dX11_told_100 : decode cX11_told 100 = .ok (.if_icmp .ne 10, 3) := by decide +kernel
theorem dX11_told_103 : decode cX11_told 103 = .ok (.aload_n 0, 1) := by decide +kernel
theorem dX11_told_104 : decode cX11_told 104 = .ok (.getfield 94, 3) := by decide +kernel
theorem dX11_told_107 : decode cX11_told 107 = .ok (.goto 41, 3) := by decide +kernel
theorem dX11_told_110 : decode cX11_told 110 = .ok (.iload_n 1, 1) := by decide +kernel
theorem dX11_told_111 : decode cX11_told 111 = .ok (.iconst 2, 1) := by decide +kernel
theorem dX11_told_112 : decode cX11_told 112 = .ok (.if_icmp .ne 10, 3) := by decide +kernel
theorem dX11_told_115 : decode cX11_told 115 = .ok (.aload_n 0, 1) := by decide +kernel
theorem dX11_told_116 : decode cX11_told 116 = .ok (.getfield 98, 3) := by decide +kernel
theorem dX11_told_119 : decode cX11_told 119 = .ok (.goto 29, 3) := by decide +kernel
theorem dX11_told_122 : decode cX11_told 122 = .ok (.iload_n 1, 1) := by decide +kernel
theorem dX11_told_123 : decode cX11_told 123 = .ok (.iconst 3, 1) := by decide +kernel
theorem dX11_told_124 : decode cX11_told 124 = .ok (.if_icmp .ne 10, 3) := by decide +kernel
theorem dX11_told_127 : decode cX11_told 127 = .ok (.aload_n 0, 1) := by decide +kernel
theorem dX11_told_128 : decode cX11_told 128 = .ok (.getfield 101, 3) := by decide +kernel
theorem dX11_told_131 : decode cX11_told 131 = .ok (.goto 17, 3) := by decide +kernel
theorem dX11_told_134 : decode cX11_told 134 = .ok (.iload_n 1, 1) := by decide +kernel
theorem dX11_told_135 : decode cX11_told 135 = .ok (.iconst 4, 1) := by decide +kernel
theorem dX11_told_136 : decode cX11_told 136 = .ok (.if_icmp .ne 10, 3) := by decide +kernel
theorem dX11_told_139 : decode cX11_told 139 = .ok (.aload_n 0, 1) := by decide +kernel
theorem dX11_told_140 : decode cX11_told 140 = .ok (.invokevirtual 211, 3) := by decide +kernel
theorem dX11_told_143 : decode cX11_told 143 = .ok (.goto 5, 3) := by decide +kernel
theorem dX11_told_146 : decode cX11_told 146 = .ok (.bipush (-2), 2) := by decide +kernel
theorem dX11_told_148 : decode cX11_told 148 = .ok (.ireturn, 1) := by decide +kernel
theorem dJ6_numberOfTrailingZeros_0f7a4_0 : decode cJ6_numberOfTrailingZeros_0f7a4 0 = .ok (.iload_n 0, 1) := by decide +kernel
theorem dJ6_numberOfTrailingZeros_0f7a4_1 : decode cJ6_numberOfTrailingZeros_0f7a4 1 = .ok (.iconst (-1), 1) := by decide +kernel
theorem dJ6_numberOfTrailingZeros_0f7a4_2 : decode cJ6_numberOfTrailingZeros_0f7a4 2 = .ok (.ixor, 1) := by decide +kernel
theorem dJ6_numberOfTrailingZeros_0f7a4_3 : decode cJ6_numberOfTrailingZeros_0f7a4 3 = .ok (.iload_n 0, 1) := by decide +kernel
theorem dJ6_numberOfTrailingZeros_0f7a4_4 : decode cJ6_numberOfTrailingZeros_0f7a4 4 = .ok (.iconst 1, 1) := by decide +kernel
theorem dJ6_numberOfTrailingZeros_0f7a4_5 : decode cJ6_numberOfTrailingZeros_0f7a4 5 = .ok (.isub, 1) := by decide +kernel
theorem dJ6_numberOfTrailingZeros_0f7a4_6 : decode cJ6_numberOfTrailingZeros_0f7a4 6 = .ok (.iand, 1) := by decide +kernel
theorem dJ6_numberOfTrailingZeros_0f7a4_7 : decode cJ6_numberOfTrailingZeros_0f7a4 7 = .ok (.istore_n 0, 1) := by decide +kernel
theorem dJ6_numberOfTrailingZeros_0f7a4_8 : decode cJ6_numberOfTrailingZeros_0f7a4 8 = .ok (.iload_n 0, 1) := by decide +kernel
theorem dJ6_numberOfTrailingZeros_0f7a4_9 : decode cJ6_numberOfTrailingZeros_0f7a4 9 = .ok (.ifCond .gt 8, 3) := by decide +kernel
theorem dJ6_numberOfTrailingZeros_0f7a4_12 : decode cJ6_numberOfTrailingZeros_0f7a4 12 = .ok (.iload_n 0, 1) := by decide +kernel
theorem dJ6_numberOfTrailingZeros_0f7a4_13 : decode cJ6_numberOfTrailingZeros_0f7a4 13 = .ok (.bipush 32, 2) := by decide +kernel
theorem dJ6_numberOfTrailingZeros_0f7a4_15 : decode cJ6_numberOfTrailingZeros_0f7a4 15 = .ok (.iand, 1) := by decide +kernel
theorem dJ6_numberOfTrailingZeros_0f7a4_16 : decode cJ6_numberOfTrailingZeros_0f7a4 16 = .ok (.ireturn, 1) := by decide +kernel
theorem dJ6_numberOfTrailingZeros_0f7a4_17 : decode cJ6_numberOfTrailingZeros_0f7a4 17 = .ok (.iconst 1, 1) := by decide +kernel
theorem dJ6_numberOfTrailingZeros_0f7a4_18 : decode cJ6_numberOfTrailingZeros_0f7a4 18 = .ok (.istore_n 1, 1) := by decide +kernel
theorem dJ6_numberOfTrailingZeros_0f7a4_19 : decode cJ6_numberOfTrailingZeros_0f7a4 19 = .ok (.iload_n 0, 1) := by decide +kernel
theorem dJ6_numberOfTrailingZeros_0f7a4_20 : decode cJ6_numberOfTrailingZeros_0f7a4 20 = .ok (.ldc_w 264, 3) := by decide +kernel
theorem dJ6_numberOfTrailingZeros_0f7a4_23 : decode cJ6_numberOfTrailingZeros_0f7a4 23 = .ok (.if_icmp .le 11, 3) := by decide +kernel
theorem dJ6_numberOfTrailingZeros_0f7a4_26 : decode cJ6_numberOfTrailingZeros_0f7a4 26 = .ok (.iinc 1 16, 3) := by decide +kernel
theorem dJ6_numberOfTrailingZeros_0f7a4_29 : decode cJ6_numberOfTrailingZeros_0f7a4 29 = .ok (.iload_n 0, 1) := by decide +kernel
theorem dJ6_numberOfTrailingZeros_0f7a4_30 : decode cJ6_numberOfTrailingZeros_0f7a4 30 = .ok (.bipush 16, 2) := by decide +kernel
theorem dJ6_numberOfTrailingZeros_0f7a4_32 : decode cJ6_numberOfTrailingZeros_0f7a4 32 = .ok (.iushr, 1) := by decide +kernel
theorem dJ6_numberOfTrailingZeros_0f7a4_33 : decode cJ6_numberOfTrailingZeros_0f7a4 33 = .ok (.istore_n 0, 1) := by decide +kernel
theorem dJ6_numberOfTrailingZeros_0f7a4_34 : decode cJ6_numberOfTrailingZeros_0f7a4 34 = .ok (.iload_n 0, 1) := by decide +kernel
theorem dJ6_numberOfTrailingZeros_0f7a4_35 : decode cJ6_numberOfTrailingZeros_0f7a4 35 = .ok (.sipush 256, 3) := by decide +kernel
theorem dJ6_numberOfTrailingZeros_0f7a4_38 : decode cJ6_numberOfTrailingZeros_0f7a4 38 = .ok (.if_icmp .le 11, 3) := by decide +kernel
theorem dJ6_numberOfTrailingZeros_0f7a4_41 : decode cJ6_numberOfTrailingZeros_0f7a4 41 = .ok (.iinc 1 8, 3) := by decide +kernel
theorem dJ6_numberOfTrailingZeros_0f7a4_44 : decode cJ6_numberOfTrailingZeros_0f7a4 44 = .ok (.iload_n 0, 1) := by decide +kernel
theorem dJ6_numberOfTrailingZeros_0f7a4_45 : decode cJ6_numberOfTrailingZeros_0f7a4 45 = .ok (.bipush 8, 2) := by decide +kernel
theorem dJ6_numberOfTrailingZeros_0f7a4_47 : decode cJ6_numberOfTrailingZeros_0f7a4 47 = .ok (.iushr, 1) := by decide +kernel
theorem dJ6_numberOfTrailingZeros_0f7a4_48 : decode cJ6_numberOfTrailingZeros_0f7a4 48 = .ok (.istore_n 0, 1) := by decide +kernel
theorem dJ6_numberOfTrailingZeros_0f7a4_49 : decode cJ6_numberOfTrailingZeros_0f7a4 49 = .ok (.iload_n 0, 1) := by decide +kernel
theorem dJ6_numberOfTrailingZeros_0f7a4_50 : decode cJ6_numberOfTrailingZeros_0f7a4 50 = .ok (.bipush 16, 2) := by decide +kernel
theorem dJ6_numberOfTrailingZeros_0f7a4_52 : decode cJ6_numberOfTrailingZeros_0f7a4 52 = .ok (.if_icmp .le 10, 3) := by decide +kernel
theorem dJ6_numberOfTrailingZeros_0f7a4_55 : decode cJ6_numberOfTrailingZeros_0f7a4 55 = .ok (.iinc 1 4, 3) := by decide +kernel
theorem dJ6_numberOfTrailingZeros_0f7a4_58 : decode cJ6_numberOfTrailingZeros_0f7a4 58 = .ok (.iload_n 0, 1) := by decide +kernel
theorem dJ6_numberOfTrailingZeros_0f7a4_59 : decode cJ6_numberOfTrailingZeros_0f7a4 59 = .ok (.iconst 4, 1) := by decide +kernel
theorem dJ6_numberOfTrailingZeros_0f7a4_60 : decode cJ6_numberOfTrailingZeros_0f7a4 60 = .ok (.iushr, 1) := by decide +kernel
theorem dJ6_numberOfTrailingZeros_0f7a4_61 : decode cJ6_numberOfTrailingZeros_0f7a4 61 = .ok (.istore_n 0, 1) := by decide +kernel
theorem dJ6_numberOfTrailingZeros_0f7a4_62 : decode cJ6_numberOfTrailingZeros_0f7a4 62 = .ok (.iload_n 0, 1) := by decide +kernel
theorem dJ6_numberOfTrailingZeros_0f7a4_63 : decode cJ6_numberOfTrailingZeros_0f7a4 63 = .ok (.iconst 4, 1) := by decide +kernel
theorem dJ6_numberOfTrailingZeros_0f7a4_64 : decode cJ6_numberOfTrailingZeros_0f7a4 64 = .ok (.if_icmp .le 10, 3) := by decide +kernel
theorem dJ6_numberOfTrailingZeros_0f7a4_67 : decode cJ6_numberOfTrailingZeros_0f7a4 67 = .ok (.iinc 1 2, 3) := by decide +kernel
theorem dJ6_numberOfTrailingZeros_0f7a4_70 : decode cJ6_numberOfTrailingZeros_0f7a4 70 = .ok (.iload_n 0, 1) := by decide +kernel
theorem dJ6_numberOfTrailingZeros_0f7a4_71 : decode cJ6_numberOfTrailingZeros_0f7a4 71 = .ok (.iconst 2, 1) := by decide +kernel
theorem dJ6_numberOfTrailingZeros_0f7a4_72 : decode cJ6_numberOfTrailingZeros_0f7a4 72 = .ok (.iushr, 1) := by decide +kernel
theorem dJ6_numberOfTrailingZeros_0f7a4_73 : decode cJ6_numberOfTrailingZeros_0f7a4 73 = .ok (.istore_n 0, 1) := by decide +kernel
theorem dJ6_numberOfTrailingZeros_0f7a4_74 : decode cJ6_numberOfTrailingZeros_0f7a4 74 = .ok (.iload_n 1, 1) := by decide +kernel
theorem dJ6_numberOfTrailingZeros_0f7a4_75 : decode cJ6_numberOfTrailingZeros_0f7a4 75 = .ok (.iload_n 0, 1) := by decide +kernel
theorem dJ6_numberOfTrailingZeros_0f7a4_76 : decode cJ6_numberOfTrailingZeros_0f7a4 76 = .ok (.iconst 1, 1) := by decide +kernel
theorem dJ6_numberOfTrailingZeros_0f7a4_77 : decode cJ6_numberOfTrailingZeros_0f7a4 77 = .ok (.iushr, 1) := by decide +kernel
theorem dJ6_numberOfTrailingZeros_0f7a4_78 : decode cJ6_numberOfTrailingZeros_0f7a4 78 = .ok (.iadd, 1) := by decide +kernel
theorem dJ6_numberOfTrailingZeros_0f7a4_79 : decode cJ6_numberOfTrailingZeros_0f7a4 79 = .ok (.ireturn, 1) := by decide +kernel
theorem dJ6_bitCount_0f7a4_0 : decode cJ6_bitCount_0f7a4 0 = .ok (.iload_n 0, 1) := by decide +kernel
theorem dJ6_bitCount_0f7a4_1 : decode cJ6_bitCount_0f7a4 1 = .ok (.iload_n 0, 1) := by decide +kernel
theorem dJ6_bitCount_0f7a4_2 : decode cJ6_bitCount_0f7a4 2 = .ok (.iconst 1, 1) := by decide +kernel
theorem dJ6_bitCount_0f7a4_3 : decode cJ6_bitCount_0f7a4 3 = .ok (.iushr, 1) := by decide +kernel
theorem dJ6_bitCount_0f7a4_4 : decode cJ6_bitCount_0f7a4 4 = .ok (.ldc_w 265, 3) := by decide +kernel
theorem dJ6_bitCount_0f7a4_7 : decode cJ6_bitCount_0f7a4 7 = .ok (.iand, 1) := by decide +kernel
theorem dJ6_bitCount_0f7a4_8 : decode cJ6_bitCount_0f7a4 8 = .ok (.isub, 1) := by decide +kernel
theorem dJ6_bitCount_0f7a4_9 : decode cJ6_bitCount_0f7a4 9 = .ok (.istore_n 0, 1) := by decide +kernel
theorem dJ6_bitCount_0f7a4_10 : decode cJ6_bitCount_0f7a4 10 = .ok (.iload_n 0, 1) := by decide +kernel
theorem dJ6_bitCount_0f7a4_11 : decode cJ6_bitCount_0f7a4 11 = .ok (.ldc_w 266, 3) := by decide +kernel
theorem dJ6_bitCount_0f7a4_14 : decode cJ6_bitCount_0f7a4 14 = .ok (.iand, 1) := by decide +kernel
theorem dJ6_bitCount_0f7a4_15 : decode cJ6_bitCount_0f7a4 15 = .ok (.iload_n 0, 1) := by decide +kernel
theorem dJ6_bitCount_0f7a4_16 : decode cJ6_bitCount_0f7a4 16 = .ok (.iconst 2, 1) := by decide +kernel
theorem dJ6_bitCount_0f7a4_17 : decode cJ6_bitCount_0f7a4 17 = .ok (.iushr, 1) := by decide +kernel
theorem dJ6_bitCount_0f7a4_18 : decode cJ6_bitCount_0f7a4 18 = .ok (.ldc_w 266, 3) := by decide +kernel
theorem dJ6_bitCount_0f7a4_21 : decode cJ6_bitCount_0f7a4 21 = .ok (.iand, 1) := by decide +kernel
theorem dJ6_bitCount_0f7a4_22 : decode cJ6_bitCount_0f7a4 22 = .ok (.iadd, 1) := by decide +kernel
theorem dJ6_bitCount_0f7a4_23 : decode cJ6_bitCount_0f7a4 23 = .ok (.istore_n 0, 1) := by decide +kernel
theorem dJ6_bitCount_0f7a4_24 : decode cJ6_bitCount_0f7a4 24 = .ok (.iload_n 0, 1) := by decide +kernel
theorem dJ6_bitCount_0f7a4_25 : decode cJ6_bitCount_0f7a4 25 = .ok (.iload_n 0, 1) := by decide +kernel
theorem dJ6_bitCount_0f7a4_26 : decode cJ6_bitCount_0f7a4 26 = .ok (.iconst 4, 1) := by decide +kernel
theorem dJ6_bitCount_0f7a4_27 : decode cJ6_bitCount_0f7a4 27 = .ok (.iushr, 1) := by decide +kernel
theorem dJ6_bitCount_0f7a4_28 : decode cJ6_bitCount_0f7a4 28 = .ok (.iadd, 1) := by decide +kernel
theorem dJ6_bitCount_0f7a4_29 : decode cJ6_bitCount_0f7a4 29 = .ok (.ldc_w 267, 3) := by decide +kernel
theorem dJ6_bitCount_0f7a4_32 : decode cJ6_bitCount_0f7a4 32 = .ok (.iand, 1) := by decide +kernel
theorem dJ6_bitCount_0f7a4_33 : decode cJ6_bitCount_0f7a4 33 = .ok (.istore_n 0, 1) := by decide +kernel
theorem dJ6_bitCount_0f7a4_34 : decode cJ6_bitCount_0f7a4 34 = .ok (.iload_n 0, 1) := by decide +kernel
theorem dJ6_bitCount_0f7a4_35 : decode cJ6_bitCount_0f7a4 35 = .ok (.iload_n 0, 1) := by decide +kernel
theorem dJ6_bitCount_0f7a4_36 : decode cJ6_bitCount_0f7a4 36 = .ok (.bipush 8, 2) := by decide +kernel
theorem dJ6_bitCount_0f7a4_38 : decode cJ6_bitCount_0f7a4 38 = .ok (.iushr, 1) := by decide +kernel
theorem dJ6_bitCount_0f7a4_39 : decode cJ6_bitCount_0f7a4 39 = .ok (.iadd, 1) := by decide +kernel
theorem dJ6_bitCount_0f7a4_40 : decode cJ6_bitCount_0f7a4 40 = .ok (.istore_n 0, 1) := by decide +kernel
theorem dJ6_bitCount_0f7a4_41 : decode cJ6_bitCount_0f7a4 41 = .ok (.iload_n 0, 1) := by decide +kernel
theorem dJ6_bitCount_0f7a4_42 : decode cJ6_bitCount_0f7a4 42 = .ok (.iload_n 0, 1) := by decide +kernel
theorem dJ6_bitCount_0f7a4_43 : decode cJ6_bitCount_0f7a4 43 = .ok (.bipush 16, 2) := by decide +kernel
theorem dJ6_bitCount_0f7a4_45 : decode cJ6_bitCount_0f7a4 45 = .ok (.iushr, 1) := by decide +kernel
theorem dJ6_bitCount_0f7a4_46 : decode cJ6_bitCount_0f7a4 46 = .ok (.iadd, 1) := by decide +kernel
theorem dJ6_bitCount_0f7a4_47 : decode cJ6_bitCount_0f7a4 47 = .ok (.istore_n 0, 1) := by decide +kernel
theorem dJ6_bitCount_0f7a4_48 : decode cJ6_bitCount_0f7a4 48 = .ok (.iload_n 0, 1) := by decide +kernel
theorem dJ6_bitCount_0f7a4_49 : decode cJ6_bitCount_0f7a4 49 = .ok (.bipush 63, 2) := by decide +kernel
theorem dJ6_bitCount_0f7a4_51 : decode cJ6_bitCount_0f7a4 51 = .ok (.iand, 1) := by decide +kernel
theorem dJ6_bitCount_0f7a4_52 : decode cJ6_bitCount_0f7a4 52 = .ok (.ireturn, 1) := by decide +kernel
theorem dJ9_max_7cf53_0 : decode cJ9_max_7cf53 0 = .ok (.iload_n 0, 1) := by decide +kernel
theorem dJ9_max_7cf53_1 : decode cJ9_max_7cf53 1 = .ok (.iload_n 1, 1) := by decide +kernel
theorem dJ9_max_7cf53_2 : decode cJ9_max_7cf53 2 = .ok (.if_icmp .lt 7, 3) := by decide +kernel
theorem dJ9_max_7cf53_5 : decode cJ9_max_7cf53 5 = .ok (.iload_n 0, 1) := by decide +kernel
theorem dJ9_max_7cf53_6 : decode cJ9_max_7cf53 6 = .ok (.goto 4, 3) := by decide +kernel
theorem dJ9_max_7cf53_9 : decode cJ9_max_7cf53 9 = .ok (.iload_n 1, 1) := by decide +kernel
theorem dJ9_max_7cf53_10 : decode cJ9_max_7cf53 10 = .ok (.ireturn, 1) := by decide +kernel
theorem dJ9_max_f86c9_0 : decode cJ9_max_f86c9 0 = .ok (.lload_n 0, 1) := by decide +kernel
theorem dJ9_max_f86c9_1 : decode cJ9_max_f86c9 1 = .ok (.lload_n 2, 1) := by decide +kernel
theorem dJ9_max_f86c9_2 : decode cJ9_max_f86c9 2 = .ok (.lcmp, 1) := by decide +kernel
theorem dJ9_max_f86c9_3 : decode cJ9_max_f86c9 3 = .ok (.ifCond .lt 7, 3) := by decide +kernel
theorem dJ9_max_f86c9_6 : decode cJ9_max_f86c9 6 = .ok (.lload_n 0, 1) := by decide +kernel
theorem dJ9_max_f86c9_7 : decode cJ9_max_f86c9 7 = .ok (.goto 4, 3) := by decide +kernel
theorem dJ9_max_f86c9_10 : decode cJ9_max_f86c9 10 = .ok (.lload_n 2, 1) := by decide +kernel
theorem dJ9_max_f86c9_11 : decode cJ9_max_f86c9 11 = .ok (.lreturn, 1) := by decide +kernel
theorem dJ9_min_7cf53_0 : decode cJ9_min_7cf53 0 = .ok (.iload_n 0, 1) := by decide +kernel
theorem dJ9_min_7cf53_1 : decode cJ9_min_7cf53 1 = .ok (.iload_n 1, 1) := by decide +kernel
theorem dJ9_min_7cf53_2 : decode cJ9_min_7cf53 2 = .ok (.if_icmp .gt 7, 3) := by decide +kernel
theorem dJ9_min_7cf53_5 : decode cJ9_min_7cf53 5 = .ok (.iload_n 0, 1) := by decide +kernel
theorem dJ9_min_7cf53_6 : decode cJ9_min_7cf53 6 = .ok (.goto 4, 3) := by decide +kernel
theorem dJ9_min_7cf53_9 : decode cJ9_min_7cf53 9 = .ok (.iload_n 1, 1) := by decide +kernel
theorem dJ9_min_7cf53_10 : decode cJ9_min_7cf53 10 = .ok (.ireturn, 1) := by decide +kernel
theorem dJ7_fill_53178_0 : decode cJ7_fill_53178 0 = .ok (.iconst 0, 1) := by decide +kernel
theorem dJ7_fill_53178_1 : decode cJ7_fill_53178 1 = .ok (.istore_n 2, 1) := by decide +kernel
theorem dJ7_fill_53178_2 : decode cJ7_fill_53178 2 = .ok (.aload_n 0, 1) := by decide +kernel
theorem dJ7_fill_53178_3 : decode cJ7_fill_53178 3 = .ok (.arraylength, 1) := by decide +kernel
theorem dJ7_fill_53178_4 : decode cJ7_fill_53178 4 = .ok (.istore_n 3, 1) := by decide +kernel
theorem dJ7_fill_53178_5 : decode cJ7_fill_53178 5 = .ok (.iload_n 2, 1) := by decide +kernel
theorem dJ7_fill_53178_6 : decode cJ7_fill_53178 6 = .ok (.iload_n 3, 1) := by decide +kernel
theorem dJ7_fill_53178_7 : decode cJ7_fill_53178 7 = .ok (.if_icmp .ge 13, 3) := by decide +kernel
theorem dJ7_fill_53178_10 : decode cJ7_fill_53178 10 = .ok (.aload_n 0, 1) := by decide +kernel
theorem dJ7_fill_53178_11 : decode cJ7_fill_53178 11 = .ok (.iload_n 2, 1) := by decide +kernel
theorem dJ7_fill_53178_12 : decode cJ7_fill_53178 12 = .ok (.iload_n 1, 1) := by decide +kernel
theorem dJ7_fill_53178_13 : decode cJ7_fill_53178 13 = .ok (.iastore, 1) := by decide +kernel
theorem dJ7_fill_53178_14 : decode cJ7_fill_53178 14 = .ok (.iinc 2 1, 3) := by decide +kernel
theorem dJ7_fill_53178_17 : decode cJ7_fill_53178 17 = .ok (.goto (-12), 3) := by decide +kernel
theorem dJ7_fill_53178_20 : decode cJ7_fill_53178 20 = .ok (.return_, 1) := by decide +kernel
theorem dL_law_0 : decode cL_law 0 = .ok (.new 7, 3) := by decide +kernel
theorem dL_law_3 : decode cL_law 3 = .ok (.dup, 1) := by decide +kernel
theorem dL_law_4 : decode cL_law 4 = .ok (.invokespecial 9, 3) := by decide +kernel
theorem dL_law_7 : decode cL_law 7 = .ok (.astore_n 1, 1) := by decide +kernel
theorem dL_law_8 : decode cL_law 8 = .ok (.new 10, 3) := by decide +kernel
theorem dL_law_11 : decode cL_law 11 = .ok (.dup, 1) := by decide +kernel
theorem dL_law_12 : decode cL_law 12 = .ok (.invokespecial 12, 3) := by decide +kernel
theorem dL_law_15 : decode cL_law 15 = .ok (.astore_n 2, 1) := by decide +kernel
theorem dL_law_16 : decode cL_law 16 = .ok (.iconst 0, 1) := by decide +kernel
theorem dL_law_17 : decode cL_law 17 = .ok (.istore_n 3, 1) := by decide +kernel
theorem dL_law_18 : decode cL_law 18 = .ok (.iload_n 3, 1) := by decide +kernel
theorem dL_law_19 : decode cL_law 19 = .ok (.aload_n 0, 1) := by decide +kernel
theorem dL_law_20 : decode cL_law 20 = .ok (.arraylength, 1) := by decide +kernel
theorem dL_law_21 : decode cL_law 21 = .ok (.bipush 7, 2) := by decide +kernel
theorem dL_law_23 : decode cL_law 23 = .ok (.isub, 1) := by decide +kernel
theorem dL_law_24 : decode cL_law 24 = .ok (.if_icmp .gt 1114, 3) := by decide +kernel
theorem dL_law_27 : decode cL_law 27 = .ok (.aload_n 0, 1) := by decide +kernel
theorem dL_law_28 : decode cL_law 28 = .ok (.iload_n 3, 1) := by decide +kernel
theorem dL_law_29 : decode cL_law 29 = .ok (.iaload, 1) := by decide +kernel
theorem dL_law_30 : decode cL_law 30 = .ok (.bipush 63, 2) := by decide +kernel
theorem dL_law_32 : decode cL_law 32 = .ok (.iand, 1) := by decide +kernel
theorem dL_law_33 : decode cL_law 33 = .ok (.tableswitch 1099 0 32 #[147, 170, 213, 236, 249, 272, 295, 318, 341, 374, 387, 420, 453, 466, 489, 532, 565, 598, 641, 674, 749, 762, 785, 798, 821, 864, 877, 900, 923, 987, 1030, 1053, 1076], 147) := by decide +kernel
theorem dL_law_180 : decode cL_law 180 = .ok (.aload_n 1, 1) := by decide +kernel
theorem dL_law_181 : decode cL_law 181 = .ok (.aload_n 0, 1) := by decide +kernel
theorem dL_law_182 : decode cL_law 182 = .ok (.iload_n 3, 1) := by decide +kernel
theorem dL_law_183 : decode cL_law 183 = .ok (.iconst 1, 1) := by decide +kernel
theorem dL_law_184 : decode cL_law 184 = .ok (.iadd, 1) := by decide +kernel
theorem dL_law_185 : decode cL_law 185 = .ok (.iaload, 1) := by decide +kernel
theorem dL_law_186 : decode cL_law 186 = .ok (.invokevirtual 13, 3) := by decide +kernel
theorem dL_law_189 : decode cL_law 189 = .ok (.aload_n 2, 1) := by decide +kernel
theorem dL_law_190 : decode cL_law 190 = .ok (.aload_n 0, 1) := by decide +kernel
theorem dL_law_191 : decode cL_law 191 = .ok (.iload_n 3, 1) := by decide +kernel
theorem dL_law_192 : decode cL_law 192 = .ok (.iconst 1, 1) := by decide +kernel
theorem dL_law_193 : decode cL_law 193 = .ok (.iadd, 1) := by decide +kernel
theorem dL_law_194 : decode cL_law 194 = .ok (.iaload, 1) := by decide +kernel
theorem dL_law_195 : decode cL_law 195 = .ok (.invokevirtual 17, 3) := by decide +kernel
theorem dL_law_198 : decode cL_law 198 = .ok (.if_icmp .eq 934, 3) := by decide +kernel
theorem dL_law_201 : decode cL_law 201 = .ok (.iconst 0, 1) := by decide +kernel
theorem dL_law_202 : decode cL_law 202 = .ok (.ireturn, 1) := by decide +kernel
theorem dL_law_203 : decode cL_law 203 = .ok (.aload_n 1, 1) := by decide +kernel
theorem dL_law_204 : decode cL_law 204 = .ok (.aload_n 0, 1) := by decide +kernel
theorem dL_law_205 : decode cL_law 205 = .ok (.iload_n 3, 1) := by decide +kernel
theorem dL_law_206 : decode cL_law 206 = .ok (.iconst 1, 1) := by decide +kernel
theorem dL_law_207 : decode cL_law 207 = .ok (.iadd, 1) := by decide +kernel
theorem dL_law_208 : decode cL_law 208 = .ok (.iaload, 1) := by decide +kernel
theorem dL_law_209 : decode cL_law 209 = .ok (.aload_n 0, 1) := by decide +kernel
theorem dL_law_210 : decode cL_law 210 = .ok (.iload_n 3, 1) := by decide +kernel
theorem dL_law_211 : decode cL_law 211 = .ok (.iconst 2, 1) := by decide +kernel
theorem dL_law_212 : decode cL_law 212 = .ok (.iadd, 1) := by decide +kernel
theorem dL_law_213 : decode cL_law 213 = .ok (.iaload, 1) := by decide +kernel
theorem dL_law_214 : decode cL_law 214 = .ok (.aload_n 0, 1) := by decide +kernel
theorem dL_law_215 : decode cL_law 215 = .ok (.iload_n 3, 1) := by decide +kernel
theorem dL_law_216 : decode cL_law 216 = .ok (.iconst 3, 1) := by decide +kernel
theorem dL_law_217 : decode cL_law 217 = .ok (.iadd, 1) := by decide +kernel
theorem dL_law_218 : decode cL_law 218 = .ok (.iaload, 1) := by decide +kernel
theorem dL_law_219 : decode cL_law 219 = .ok (.invokevirtual 18, 3) := by decide +kernel
theorem dL_law_222 : decode cL_law 222 = .ok (.aload_n 2, 1) := by decide +kernel
theorem dL_law_223 : decode cL_law 223 = .ok (.aload_n 0, 1) := by decide +kernel
theorem dL_law_224 : decode cL_law 224 = .ok (.iload_n 3, 1) := by decide +kernel
theorem dL_law_225 : decode cL_law 225 = .ok (.iconst 1, 1) := by decide +kernel
theorem dL_law_226 : decode cL_law 226 = .ok (.iadd, 1) := by decide +kernel
theorem dL_law_227 : decode cL_law 227 = .ok (.iaload, 1) := by decide +kernel
theorem dL_law_228 : decode cL_law 228 = .ok (.aload_n 0, 1) := by decide +kernel
theorem dL_law_229 : decode cL_law 229 = .ok (.iload_n 3, 1) := by decide +kernel
theorem dL_law_230 : decode cL_law 230 = .ok (.iconst 2, 1) := by decide +kernel
theorem dL_law_231 : decode cL_law 231 = .ok (.iadd, 1) := by decide +kernel
theorem dL_law_232 : decode cL_law 232 = .ok (.iaload, 1) := by decide +kernel
theorem dL_law_233 : decode cL_law 233 = .ok (.aload_n 0, 1) := by decide +kernel
theorem dL_law_234 : decode cL_law 234 = .ok (.iload_n 3, 1) := by decide +kernel
theorem dL_law_235 : decode cL_law 235 = .ok (.iconst 3, 1) := by decide +kernel
theorem dL_law_236 : decode cL_law 236 = .ok (.iadd, 1) := by decide +kernel
theorem dL_law_237 : decode cL_law 237 = .ok (.iaload, 1) := by decide +kernel
theorem dL_law_238 : decode cL_law 238 = .ok (.invokevirtual 22, 3) := by decide +kernel
theorem dL_law_241 : decode cL_law 241 = .ok (.if_icmp .eq 891, 3) := by decide +kernel
theorem dL_law_244 : decode cL_law 244 = .ok (.iconst 0, 1) := by decide +kernel
theorem dL_law_245 : decode cL_law 245 = .ok (.ireturn, 1) := by decide +kernel
theorem dL_law_246 : decode cL_law 246 = .ok (.aload_n 1, 1) := by decide +kernel
theorem dL_law_247 : decode cL_law 247 = .ok (.aload_n 0, 1) := by decide +kernel
theorem dL_law_248 : decode cL_law 248 = .ok (.iload_n 3, 1) := by decide +kernel
theorem dL_law_249 : decode cL_law 249 = .ok (.iconst 1, 1) := by decide +kernel
theorem dL_law_250 : decode cL_law 250 = .ok (.iadd, 1) := by decide +kernel
theorem dL_law_251 : decode cL_law 251 = .ok (.iaload, 1) := by decide +kernel
theorem dL_law_252 : decode cL_law 252 = .ok (.invokevirtual 23, 3) := by decide +kernel
theorem dL_law_255 : decode cL_law 255 = .ok (.aload_n 2, 1) := by decide +kernel
theorem dL_law_256 : decode cL_law 256 = .ok (.aload_n 0, 1) := by decide +kernel
theorem dL_law_257 : decode cL_law 257 = .ok (.iload_n 3, 1) := by decide +kernel
theorem dL_law_258 : decode cL_law 258 = .ok (.iconst 1, 1) := by decide +kernel
theorem dL_law_259 : decode cL_law 259 = .ok (.iadd, 1) := by decide +kernel
theorem dL_law_260 : decode cL_law 260 = .ok (.iaload, 1) := by decide +kernel
theorem dL_law_261 : decode cL_law 261 = .ok (.invokevirtual 26, 3) := by decide +kernel
theorem dL_law_264 : decode cL_law 264 = .ok (.if_icmp .eq 868, 3) := by decide +kernel
theorem dL_law_267 : decode cL_law 267 = .ok (.iconst 0, 1) := by decide +kernel
theorem dL_law_268 : decode cL_law 268 = .ok (.ireturn, 1) := by decide +kernel
theorem dL_law_269 : decode cL_law 269 = .ok (.aload_n 1, 1) := by decide +kernel
theorem dL_law_270 : decode cL_law 270 = .ok (.invokevirtual 27, 3) := by decide +kernel
theorem dL_law_273 : decode cL_law 273 = .ok (.aload_n 2, 1) := by decide +kernel
theorem dL_law_274 : decode cL_law 274 = .ok (.invokevirtual 31, 3) := by decide +kernel
theorem dL_law_277 : decode cL_law 277 = .ok (.if_icmp .eq 855, 3) := by decide +kernel
theorem dL_law_280 : decode cL_law 280 = .ok (.iconst 0, 1) := by decide +kernel
theorem dL_law_281 : decode cL_law 281 = .ok (.ireturn, 1) := by decide +kernel
theorem dL_law_282 : decode cL_law 282 = .ok (.aload_n 1, 1) := by decide +kernel
theorem dL_law_283 : decode cL_law 283 = .ok (.aload_n 0, 1) := by decide +kernel
theorem dL_law_284 : decode cL_law 284 = .ok (.iload_n 3, 1) := by decide +kernel
theorem dL_law_285 : decode cL_law 285 = .ok (.iconst 1, 1) := by decide +kernel
theorem dL_law_286 : decode cL_law 286 = .ok (.iadd, 1) := by decide +kernel
theorem dL_law_287 : decode cL_law 287 = .ok (.iaload, 1) := by decide +kernel
theorem dL_law_288 : decode cL_law 288 = .ok (.invokevirtual 32, 3) := by decide +kernel
theorem dL_law_291 : decode cL_law 291 = .ok (.aload_n 2, 1) := by decide +kernel
theorem dL_law_292 : decode cL_law 292 = .ok (.aload_n 0, 1) := by decide +kernel
theorem dL_law_293 : decode cL_law 293 = .ok (.iload_n 3, 1) := by decide +kernel
theorem dL_law_294 : decode cL_law 294 = .ok (.iconst 1, 1) := by decide +kernel
theorem dL_law_295 : decode cL_law 295 = .ok (.iadd, 1) := by decide +kernel
theorem dL_law_296 : decode cL_law 296 = .ok (.iaload, 1) := by decide +kernel
theorem dL_law_297 : decode cL_law 297 = .ok (.invokevirtual 35, 3) := by decide +kernel
theorem dL_law_300 : decode cL_law 300 = .ok (.if_icmp .eq 832, 3) := by decide +kernel
theorem dL_law_303 : decode cL_law 303 = .ok (.iconst 0, 1) := by decide +kernel
theorem dL_law_304 : decode cL_law 304 = .ok (.ireturn, 1) := by decide +kernel
theorem dL_law_305 : decode cL_law 305 = .ok (.aload_n 1, 1) := by decide +kernel
theorem dL_law_306 : decode cL_law 306 = .ok (.aload_n 0, 1) := by decide +kernel
theorem dL_law_307 : decode cL_law 307 = .ok (.iload_n 3, 1) := by decide +kernel
theorem dL_law_308 : decode cL_law 308 = .ok (.iconst 1, 1) := by decide +kernel
theorem dL_law_309 : decode cL_law 309 = .ok (.iadd, 1) := by decide +kernel
theorem dL_law_310 : decode cL_law 310 = .ok (.iaload, 1) := by decide +kernel
theorem dL_law_311 : decode cL_law 311 = .ok (.invokevirtual 36, 3) := by decide +kernel
theorem dL_law_314 : decode cL_law 314 = .ok (.aload_n 2, 1) := by decide +kernel
theorem dL_law_315 : decode cL_law 315 = .ok (.aload_n 0, 1) := by decide +kernel
theorem dL_law_316 : decode cL_law 316 = .ok (.iload_n 3, 1) := by decide +kernel
theorem dL_law_317 : decode cL_law 317 = .ok (.iconst 1, 1) := by decide +kernel
theorem dL_law_318 : decode cL_law 318 = .ok (.iadd, 1) := by decide +kernel
theorem dL_law_319 : decode cL_law 319 = .ok (.iaload, 1) := by decide +kernel
theorem dL_law_320 : decode cL_law 320 = .ok (.invokevirtual 39, 3) := by decide +kernel
theorem dL_law_323 : decode cL_law 323 = .ok (.if_icmp .eq 809, 3) := by decide +kernel
theorem dL_law_326 : decode cL_law 326 = .ok (.iconst 0, 1) := by decide +kernel
theorem dL_law_327 : decode cL_law 327 = .ok (.ireturn, 1) := by decide +kernel
theorem dL_law_328 : decode cL_law 328 = .ok (.aload_n 1, 1) := by decide +kernel
theorem dL_law_329 : decode cL_law 329 = .ok (.aload_n 0, 1) := by decide +kernel
theorem dL_law_330 : decode cL_law 330 = .ok (.iload_n 3, 1) := by decide +kernel
theorem dL_law_331 : decode cL_law 331 = .ok (.iconst 1, 1) := by decide +kernel
theorem dL_law_332 : decode cL_law 332 = .ok (.iadd, 1) := by decide +kernel
theorem dL_law_333 : decode cL_law 333 = .ok (.iaload, 1) := by decide +kernel
theorem dL_law_334 : decode cL_law 334 = .ok (.invokevirtual 40, 3) := by decide +kernel
theorem dL_law_337 : decode cL_law 337 = .ok (.aload_n 2, 1) := by decide +kernel
theorem dL_law_338 : decode cL_law 338 = .ok (.aload_n 0, 1) := by decide +kernel
theorem dL_law_339 : decode cL_law 339 = .ok (.iload_n 3, 1) := by decide +kernel
theorem dL_law_340 : decode cL_law 340 = .ok (.iconst 1, 1) := by decide +kernel
theorem dL_law_341 : decode cL_law 341 = .ok (.iadd, 1) := by decide +kernel
theorem dL_law_342 : decode cL_law 342 = .ok (.iaload, 1) := by decide +kernel
theorem dL_law_343 : decode cL_law 343 = .ok (.invokevirtual 43, 3) := by decide +kernel
theorem dL_law_346 : decode cL_law 346 = .ok (.if_icmp .eq 786, 3) := by decide +kernel
theorem dL_law_349 : decode cL_law 349 = .ok (.iconst 0, 1) := by decide +kernel
theorem dL_law_350 : decode cL_law 350 = .ok (.ireturn, 1) := by decide +kernel
theorem dL_law_351 : decode cL_law 351 = .ok (.aload_n 1, 1) := by decide +kernel
theorem dL_law_352 : decode cL_law 352 = .ok (.aload_n 0, 1) := by decide +kernel
theorem dL_law_353 : decode cL_law 353 = .ok (.iload_n 3, 1) := by decide +kernel
theorem dL_law_354 : decode cL_law 354 = .ok (.iconst 1, 1) := by decide +kernel
theorem dL_law_355 : decode cL_law 355 = .ok (.iadd, 1) := by decide +kernel
theorem dL_law_356 : decode cL_law 356 = .ok (.iaload, 1) := by decide +kernel
theorem dL_law_357 : decode cL_law 357 = .ok (.invokevirtual 44, 3) := by decide +kernel
theorem dL_law_360 : decode cL_law 360 = .ok (.aload_n 2, 1) := by decide +kernel
theorem dL_law_361 : decode cL_law 361 = .ok (.aload_n 0, 1) := by decide +kernel
theorem dL_law_362 : decode cL_law 362 = .ok (.iload_n 3, 1) := by decide +kernel
theorem dL_law_363 : decode cL_law 363 = .ok (.iconst 1, 1) := by decide +kernel
theorem dL_law_364 : decode cL_law 364 = .ok (.iadd, 1) := by decide +kernel
theorem dL_law_365 : decode cL_law 365 = .ok (.iaload, 1) := by decide +kernel
theorem dL_law_366 : decode cL_law 366 = .ok (.invokevirtual 47, 3) := by decide +kernel
theorem dL_law_369 : decode cL_law 369 = .ok (.if_icmp .eq 763, 3) := by decide +kernel
theorem dL_law_372 : decode cL_law 372 = .ok (.iconst 0, 1) := by decide +kernel
theorem dL_law_373 : decode cL_law 373 = .ok (.ireturn, 1) := by decide +kernel
theorem dL_law_374 : decode cL_law 374 = .ok (.aload_n 1, 1) := by decide +kernel
theorem dL_law_375 : decode cL_law 375 = .ok (.aload_n 0, 1) := by decide +kernel
theorem dL_law_376 : decode cL_law 376 = .ok (.iload_n 3, 1) := by decide +kernel
theorem dL_law_377 : decode cL_law 377 = .ok (.iconst 1, 1) := by decide +kernel
theorem dL_law_378 : decode cL_law 378 = .ok (.iadd, 1) := by decide +kernel
theorem dL_law_379 : decode cL_law 379 = .ok (.iaload, 1) := by decide +kernel
theorem dL_law_380 : decode cL_law 380 = .ok (.aload_n 0, 1) := by decide +kernel
theorem dL_law_381 : decode cL_law 381 = .ok (.iload_n 3, 1) := by decide +kernel
theorem dL_law_382 : decode cL_law 382 = .ok (.iconst 2, 1) := by decide +kernel
theorem dL_law_383 : decode cL_law 383 = .ok (.iadd, 1) := by decide +kernel
theorem dL_law_384 : decode cL_law 384 = .ok (.iaload, 1) := by decide +kernel
theorem dL_law_385 : decode cL_law 385 = .ok (.invokevirtual 48, 3) := by decide +kernel
theorem dL_law_388 : decode cL_law 388 = .ok (.aload_n 2, 1) := by decide +kernel
theorem dL_law_389 : decode cL_law 389 = .ok (.aload_n 0, 1) := by decide +kernel
theorem dL_law_390 : decode cL_law 390 = .ok (.iload_n 3, 1) := by decide +kernel
theorem dL_law_391 : decode cL_law 391 = .ok (.iconst 1, 1) := by decide +kernel
theorem dL_law_392 : decode cL_law 392 = .ok (.iadd, 1) := by decide +kernel
theorem dL_law_393 : decode cL_law 393 = .ok (.iaload, 1) := by decide +kernel
theorem dL_law_394 : decode cL_law 394 = .ok (.aload_n 0, 1) := by decide +kernel
theorem dL_law_395 : decode cL_law 395 = .ok (.iload_n 3, 1) := by decide +kernel
theorem dL_law_396 : decode cL_law 396 = .ok (.iconst 2, 1) := by decide +kernel
theorem dL_law_397 : decode cL_law 397 = .ok (.iadd, 1) := by decide +kernel
theorem dL_law_398 : decode cL_law 398 = .ok (.iaload, 1) := by decide +kernel
theorem dL_law_399 : decode cL_law 399 = .ok (.invokevirtual 52, 3) := by decide +kernel
theorem dL_law_402 : decode cL_law 402 = .ok (.if_icmp .eq 730, 3) := by decide +kernel
theorem dL_law_405 : decode cL_law 405 = .ok (.iconst 0, 1) := by decide +kernel
theorem dL_law_406 : decode cL_law 406 = .ok (.ireturn, 1) := by decide +kernel
theorem dL_law_407 : decode cL_law 407 = .ok (.aload_n 1, 1) := by decide +kernel
theorem dL_law_408 : decode cL_law 408 = .ok (.invokevirtual 53, 3) := by decide +kernel
theorem dL_law_411 : decode cL_law 411 = .ok (.aload_n 2, 1) := by decide +kernel
theorem dL_law_412 : decode cL_law 412 = .ok (.invokevirtual 56, 3) := by decide +kernel
theorem dL_law_415 : decode cL_law 415 = .ok (.if_icmp .eq 717, 3) := by decide +kernel
theorem dL_law_418 : decode cL_law 418 = .ok (.iconst 0, 1) := by decide +kernel
theorem dL_law_419 : decode cL_law 419 = .ok (.ireturn, 1) := by decide +kernel
theorem dL_law_420 : decode cL_law 420 = .ok (.aload_n 1, 1) := by decide +kernel
theorem dL_law_421 : decode cL_law 421 = .ok (.aload_n 0, 1) := by decide +kernel
theorem dL_law_422 : decode cL_law 422 = .ok (.iload_n 3, 1) := by decide +kernel
theorem dL_law_423 : decode cL_law 423 = .ok (.iconst 1, 1) := by decide +kernel
theorem dL_law_424 : decode cL_law 424 = .ok (.iadd, 1) := by decide +kernel
theorem dL_law_425 : decode cL_law 425 = .ok (.iaload, 1) := by decide +kernel
theorem dL_law_426 : decode cL_law 426 = .ok (.aload_n 0, 1) := by decide +kernel
theorem dL_law_427 : decode cL_law 427 = .ok (.iload_n 3, 1) := by decide +kernel
theorem dL_law_428 : decode cL_law 428 = .ok (.iconst 2, 1) := by decide +kernel
theorem dL_law_429 : decode cL_law 429 = .ok (.iadd, 1) := by decide +kernel
theorem dL_law_430 : decode cL_law 430 = .ok (.iaload, 1) := by decide +kernel
theorem dL_law_431 : decode cL_law 431 = .ok (.invokevirtual 57, 3) := by decide +kernel
theorem dL_law_434 : decode cL_law 434 = .ok (.aload_n 2, 1) := by decide +kernel
theorem dL_law_435 : decode cL_law 435 = .ok (.aload_n 0, 1) := by decide +kernel
theorem dL_law_436 : decode cL_law 436 = .ok (.iload_n 3, 1) := by decide +kernel
theorem dL_law_437 : decode cL_law 437 = .ok (.iconst 1, 1) := by decide +kernel
theorem dL_law_438 : decode cL_law 438 = .ok (.iadd, 1) := by decide +kernel
theorem dL_law_439 : decode cL_law 439 = .ok (.iaload, 1) := by decide +kernel
theorem dL_law_440 : decode cL_law 440 = .ok (.aload_n 0, 1) := by decide +kernel
theorem dL_law_441 : decode cL_law 441 = .ok (.iload_n 3, 1) := by decide +kernel
theorem dL_law_442 : decode cL_law 442 = .ok (.iconst 2, 1) := by decide +kernel
theorem dL_law_443 : decode cL_law 443 = .ok (.iadd, 1) := by decide +kernel
theorem dL_law_444 : decode cL_law 444 = .ok (.iaload, 1) := by decide +kernel
theorem dL_law_445 : decode cL_law 445 = .ok (.invokevirtual 60, 3) := by decide +kernel
theorem dL_law_448 : decode cL_law 448 = .ok (.if_icmp .eq 684, 3) := by decide +kernel
theorem dL_law_451 : decode cL_law 451 = .ok (.iconst 0, 1) := by decide +kernel
theorem dL_law_452 : decode cL_law 452 = .ok (.ireturn, 1) := by decide +kernel
theorem dL_law_453 : decode cL_law 453 = .ok (.aload_n 1, 1) := by decide +kernel
theorem dL_law_454 : decode cL_law 454 = .ok (.aload_n 0, 1) := by decide +kernel
theorem dL_law_455 : decode cL_law 455 = .ok (.iload_n 3, 1) := by decide +kernel
theorem dL_law_456 : decode cL_law 456 = .ok (.iconst 1, 1) := by decide +kernel
theorem dL_law_457 : decode cL_law 457 = .ok (.iadd, 1) := by decide +kernel
theorem dL_law_458 : decode cL_law 458 = .ok (.iaload, 1) := by decide +kernel
theorem dL_law_459 : decode cL_law 459 = .ok (.aload_n 0, 1) := by decide +kernel
theorem dL_law_460 : decode cL_law 460 = .ok (.iload_n 3, 1) := by decide +kernel
theorem dL_law_461 : decode cL_law 461 = .ok (.iconst 2, 1) := by decide +kernel
theorem dL_law_462 : decode cL_law 462 = .ok (.iadd, 1) := by decide +kernel
theorem dL_law_463 : decode cL_law 463 = .ok (.iaload, 1) := by decide +kernel
theorem dL_law_464 : decode cL_law 464 = .ok (.invokevirtual 61, 3) := by decide +kernel
theorem dL_law_467 : decode cL_law 467 = .ok (.aload_n 2, 1) := by decide +kernel
theorem dL_law_468 : decode cL_law 468 = .ok (.aload_n 0, 1) := by decide +kernel
theorem dL_law_469 : decode cL_law 469 = .ok (.iload_n 3, 1) := by decide +kernel
theorem dL_law_470 : decode cL_law 470 = .ok (.iconst 1, 1) := by decide +kernel
theorem dL_law_471 : decode cL_law 471 = .ok (.iadd, 1) := by decide +kernel
theorem dL_law_472 : decode cL_law 472 = .ok (.iaload, 1) := by decide +kernel
theorem dL_law_473 : decode cL_law 473 = .ok (.aload_n 0, 1) := by decide +kernel
theorem dL_law_474 : decode cL_law 474 = .ok (.iload_n 3, 1) := by decide +kernel
theorem dL_law_475 : decode cL_law 475 = .ok (.iconst 2, 1) := by decide +kernel
theorem dL_law_476 : decode cL_law 476 = .ok (.iadd, 1) := by decide +kernel
theorem dL_law_477 : decode cL_law 477 = .ok (.iaload, 1) := by decide +kernel
theorem dL_law_478 : decode cL_law 478 = .ok (.invokevirtual 64, 3) := by decide +kernel
theorem dL_law_481 : decode cL_law 481 = .ok (.if_icmp .eq 651, 3) := by decide +kernel
theorem dL_law_484 : decode cL_law 484 = .ok (.iconst 0, 1) := by decide +kernel
theorem dL_law_485 : decode cL_law 485 = .ok (.ireturn, 1) := by decide +kernel
theorem dL_law_486 : decode cL_law 486 = .ok (.aload_n 1, 1) := by decide +kernel
theorem dL_law_487 : decode cL_law 487 = .ok (.invokevirtual 65, 3) := by decide +kernel
theorem dL_law_490 : decode cL_law 490 = .ok (.aload_n 2, 1) := by decide +kernel
theorem dL_law_491 : decode cL_law 491 = .ok (.invokevirtual 68, 3) := by decide +kernel
theorem dL_law_494 : decode cL_law 494 = .ok (.if_icmp .eq 638, 3) := by decide +kernel
theorem dL_law_497 : decode cL_law 497 = .ok (.iconst 0, 1) := by decide +kernel
theorem dL_law_498 : decode cL_law 498 = .ok (.ireturn, 1) := by decide +kernel
theorem dL_law_499 : decode cL_law 499 = .ok (.aload_n 1, 1) := by decide +kernel
theorem dL_law_500 : decode cL_law 500 = .ok (.aload_n 0, 1) := by decide +kernel
theorem dL_law_501 : decode cL_law 501 = .ok (.iload_n 3, 1) := by decide +kernel
theorem dL_law_502 : decode cL_law 502 = .ok (.iconst 1, 1) := by decide +kernel
theorem dL_law_503 : decode cL_law 503 = .ok (.iadd, 1) := by decide +kernel
theorem dL_law_504 : decode cL_law 504 = .ok (.iaload, 1) := by decide +kernel
theorem dL_law_505 : decode cL_law 505 = .ok (.invokevirtual 69, 3) := by decide +kernel
theorem dL_law_508 : decode cL_law 508 = .ok (.aload_n 2, 1) := by decide +kernel
theorem dL_law_509 : decode cL_law 509 = .ok (.aload_n 0, 1) := by decide +kernel
theorem dL_law_510 : decode cL_law 510 = .ok (.iload_n 3, 1) := by decide +kernel
theorem dL_law_511 : decode cL_law 511 = .ok (.iconst 1, 1) := by decide +kernel
theorem dL_law_512 : decode cL_law 512 = .ok (.iadd, 1) := by decide +kernel
theorem dL_law_513 : decode cL_law 513 = .ok (.iaload, 1) := by decide +kernel
theorem dL_law_514 : decode cL_law 514 = .ok (.invokevirtual 72, 3) := by decide +kernel
theorem dL_law_517 : decode cL_law 517 = .ok (.if_icmp .eq 615, 3) := by decide +kernel
theorem dL_law_520 : decode cL_law 520 = .ok (.iconst 0, 1) := by decide +kernel
theorem dL_law_521 : decode cL_law 521 = .ok (.ireturn, 1) := by decide +kernel
theorem dL_law_522 : decode cL_law 522 = .ok (.aload_n 1, 1) := by decide +kernel
theorem dL_law_523 : decode cL_law 523 = .ok (.aload_n 0, 1) := by decide +kernel
theorem dL_law_524 : decode cL_law 524 = .ok (.iload_n 3, 1) := by decide +kernel
theorem dL_law_525 : decode cL_law 525 = .ok (.iconst 1, 1) := by decide +kernel
theorem dL_law_526 : decode cL_law 526 = .ok (.iadd, 1) := by decide +kernel
theorem dL_law_527 : decode cL_law 527 = .ok (.iaload, 1) := by decide +kernel
theorem dL_law_528 : decode cL_law 528 = .ok (.aload_n 0, 1) := by decide +kernel
theorem dL_law_529 : decode cL_law 529 = .ok (.iload_n 3, 1) := by decide +kernel
theorem dL_law_530 : decode cL_law 530 = .ok (.iconst 2, 1) := by decide +kernel
theorem dL_law_531 : decode cL_law 531 = .ok (.iadd, 1) := by decide +kernel
theorem dL_law_532 : decode cL_law 532 = .ok (.iaload, 1) := by decide +kernel
theorem dL_law_533 : decode cL_law 533 = .ok (.aload_n 0, 1) := by decide +kernel
theorem dL_law_534 : decode cL_law 534 = .ok (.iload_n 3, 1) := by decide +kernel
theorem dL_law_535 : decode cL_law 535 = .ok (.iconst 3, 1) := by decide +kernel
theorem dL_law_536 : decode cL_law 536 = .ok (.iadd, 1) := by decide +kernel
theorem dL_law_537 : decode cL_law 537 = .ok (.iaload, 1) := by decide +kernel
theorem dL_law_538 : decode cL_law 538 = .ok (.invokevirtual 73, 3) := by decide +kernel
theorem dL_law_541 : decode cL_law 541 = .ok (.aload_n 2, 1) := by decide +kernel
theorem dL_law_542 : decode cL_law 542 = .ok (.aload_n 0, 1) := by decide +kernel
theorem dL_law_543 : decode cL_law 543 = .ok (.iload_n 3, 1) := by decide +kernel
theorem dL_law_544 : decode cL_law 544 = .ok (.iconst 1, 1) := by decide +kernel
theorem dL_law_545 : decode cL_law 545 = .ok (.iadd, 1) := by decide +kernel
theorem dL_law_546 : decode cL_law 546 = .ok (.iaload, 1) := by decide +kernel
theorem dL_law_547 : decode cL_law 547 = .ok (.aload_n 0, 1) := by decide +kernel
theorem dL_law_548 : decode cL_law 548 = .ok (.iload_n 3, 1) := by decide +kernel
theorem dL_law_549 : decode cL_law 549 = .ok (.iconst 2, 1) := by decide +kernel
theorem dL_law_550 : decode cL_law 550 = .ok (.iadd, 1) := by decide +kernel
theorem dL_law_551 : decode cL_law 551 = .ok (.iaload, 1) := by decide +kernel
theorem dL_law_552 : decode cL_law 552 = .ok (.aload_n 0, 1) := by decide +kernel
theorem dL_law_553 : decode cL_law 553 = .ok (.iload_n 3, 1) := by decide +kernel
theorem dL_law_554 : decode cL_law 554 = .ok (.iconst 3, 1) := by decide +kernel
theorem dL_law_555 : decode cL_law 555 = .ok (.iadd, 1) := by decide +kernel
theorem dL_law_556 : decode cL_law 556 = .ok (.iaload, 1) := by decide +kernel
theorem dL_law_557 : decode cL_law 557 = .ok (.invokevirtual 76, 3) := by decide +kernel
theorem dL_law_560 : decode cL_law 560 = .ok (.if_icmp .eq 572, 3) := by decide +kernel
theorem dL_law_563 : decode cL_law 563 = .ok (.iconst 0, 1) := by decide +kernel
theorem dL_law_564 : decode cL_law 564 = .ok (.ireturn, 1) := by decide +kernel
theorem dL_law_565 : decode cL_law 565 = .ok (.aload_n 1, 1) := by decide +kernel
theorem dL_law_566 : decode cL_law 566 = .ok (.aload_n 0, 1) := by decide +kernel
theorem dL_law_567 : decode cL_law 567 = .ok (.iload_n 3, 1) := by decide +kernel
theorem dL_law_568 : decode cL_law 568 = .ok (.iconst 1, 1) := by decide +kernel
theorem dL_law_569 : decode cL_law 569 = .ok (.iadd, 1) := by decide +kernel
theorem dL_law_570 : decode cL_law 570 = .ok (.iaload, 1) := by decide +kernel
theorem dL_law_571 : decode cL_law 571 = .ok (.aload_n 0, 1) := by decide +kernel
theorem dL_law_572 : decode cL_law 572 = .ok (.iload_n 3, 1) := by decide +kernel
theorem dL_law_573 : decode cL_law 573 = .ok (.iconst 2, 1) := by decide +kernel
theorem dL_law_574 : decode cL_law 574 = .ok (.iadd, 1) := by decide +kernel
theorem dL_law_575 : decode cL_law 575 = .ok (.iaload, 1) := by decide +kernel
theorem dL_law_576 : decode cL_law 576 = .ok (.invokevirtual 77, 3) := by decide +kernel
theorem dL_law_579 : decode cL_law 579 = .ok (.aload_n 2, 1) := by decide +kernel
theorem dL_law_580 : decode cL_law 580 = .ok (.aload_n 0, 1) := by decide +kernel
theorem dL_law_581 : decode cL_law 581 = .ok (.iload_n 3, 1) := by decide +kernel
theorem dL_law_582 : decode cL_law 582 = .ok (.iconst 1, 1) := by decide +kernel
theorem dL_law_583 : decode cL_law 583 = .ok (.iadd, 1) := by decide +kernel
theorem dL_law_584 : decode cL_law 584 = .ok (.iaload, 1) := by decide +kernel
theorem dL_law_585 : decode cL_law 585 = .ok (.aload_n 0, 1) := by decide +kernel
theorem dL_law_586 : decode cL_law 586 = .ok (.iload_n 3, 1) := by decide +kernel
theorem dL_law_587 : decode cL_law 587 = .ok (.iconst 2, 1) := by decide +kernel
theorem dL_law_588 : decode cL_law 588 = .ok (.iadd, 1) := by decide +kernel
theorem dL_law_589 : decode cL_law 589 = .ok (.iaload, 1) := by decide +kernel
theorem dL_law_590 : decode cL_law 590 = .ok (.invokevirtual 80, 3) := by decide +kernel
theorem dL_law_593 : decode cL_law 593 = .ok (.if_icmp .eq 539, 3) := by decide +kernel
theorem dL_law_596 : decode cL_law 596 = .ok (.iconst 0, 1) := by decide +kernel
theorem dL_law_597 : decode cL_law 597 = .ok (.ireturn, 1) := by decide +kernel
theorem dL_law_598 : decode cL_law 598 = .ok (.aload_n 1, 1) := by decide +kernel
theorem dL_law_599 : decode cL_law 599 = .ok (.aload_n 0, 1) := by decide +kernel
theorem dL_law_600 : decode cL_law 600 = .ok (.iload_n 3, 1) := by decide +kernel
theorem dL_law_601 : decode cL_law 601 = .ok (.iconst 1, 1) := by decide +kernel
theorem dL_law_602 : decode cL_law 602 = .ok (.iadd, 1) := by decide +kernel
theorem dL_law_603 : decode cL_law 603 = .ok (.iaload, 1) := by decide +kernel
theorem dL_law_604 : decode cL_law 604 = .ok (.aload_n 0, 1) := by decide +kernel
theorem dL_law_605 : decode cL_law 605 = .ok (.iload_n 3, 1) := by decide +kernel
theorem dL_law_606 : decode cL_law 606 = .ok (.iconst 2, 1) := by decide +kernel
theorem dL_law_607 : decode cL_law 607 = .ok (.iadd, 1) := by decide +kernel
theorem dL_law_608 : decode cL_law 608 = .ok (.iaload, 1) := by decide +kernel
theorem dL_law_609 : decode cL_law 609 = .ok (.invokevirtual 81, 3) := by decide +kernel
theorem dL_law_612 : decode cL_law 612 = .ok (.aload_n 2, 1) := by decide +kernel
theorem dL_law_613 : decode cL_law 613 = .ok (.aload_n 0, 1) := by decide +kernel
theorem dL_law_614 : decode cL_law 614 = .ok (.iload_n 3, 1) := by decide +kernel
theorem dL_law_615 : decode cL_law 615 = .ok (.iconst 1, 1) := by decide +kernel
theorem dL_law_616 : decode cL_law 616 = .ok (.iadd, 1) := by decide +kernel
theorem dL_law_617 : decode cL_law 617 = .ok (.iaload, 1) := by decide +kernel
theorem dL_law_618 : decode cL_law 618 = .ok (.aload_n 0, 1) := by decide +kernel
theorem dL_law_619 : decode cL_law 619 = .ok (.iload_n 3, 1) := by decide +kernel
theorem dL_law_620 : decode cL_law 620 = .ok (.iconst 2, 1) := by decide +kernel
theorem dL_law_621 : decode cL_law 621 = .ok (.iadd, 1) := by decide +kernel
theorem dL_law_622 : decode cL_law 622 = .ok (.iaload, 1) := by decide +kernel
theorem dL_law_623 : decode cL_law 623 = .ok (.invokevirtual 84, 3) := by decide +kernel
theorem dL_law_626 : decode cL_law 626 = .ok (.if_icmp .eq 506, 3) := by decide +kernel
theorem dL_law_629 : decode cL_law 629 = .ok (.iconst 0, 1) := by decide +kernel
theorem dL_law_630 : decode cL_law 630 = .ok (.ireturn, 1) := by decide +kernel
theorem dL_law_631 : decode cL_law 631 = .ok (.aload_n 1, 1) := by decide +kernel
theorem dL_law_632 : decode cL_law 632 = .ok (.aload_n 0, 1) := by decide +kernel
theorem dL_law_633 : decode cL_law 633 = .ok (.iload_n 3, 1) := by decide +kernel
theorem dL_law_634 : decode cL_law 634 = .ok (.iconst 1, 1) := by decide +kernel
theorem dL_law_635 : decode cL_law 635 = .ok (.iadd, 1) := by decide +kernel
theorem dL_law_636 : decode cL_law 636 = .ok (.iaload, 1) := by decide +kernel
theorem dL_law_637 : decode cL_law 637 = .ok (.aload_n 0, 1) := by decide +kernel
theorem dL_law_638 : decode cL_law 638 = .ok (.iload_n 3, 1) := by decide +kernel
theorem dL_law_639 : decode cL_law 639 = .ok (.iconst 2, 1) := by decide +kernel
theorem dL_law_640 : decode cL_law 640 = .ok (.iadd, 1) := by decide +kernel
theorem dL_law_641 : decode cL_law 641 = .ok (.iaload, 1) := by decide +kernel
theorem dL_law_642 : decode cL_law 642 = .ok (.aload_n 0, 1) := by decide +kernel
theorem dL_law_643 : decode cL_law 643 = .ok (.iload_n 3, 1) := by decide +kernel
theorem dL_law_644 : decode cL_law 644 = .ok (.iconst 3, 1) := by decide +kernel
theorem dL_law_645 : decode cL_law 645 = .ok (.iadd, 1) := by decide +kernel
theorem dL_law_646 : decode cL_law 646 = .ok (.iaload, 1) := by decide +kernel
theorem dL_law_647 : decode cL_law 647 = .ok (.invokevirtual 85, 3) := by decide +kernel
theorem dL_law_650 : decode cL_law 650 = .ok (.aload_n 2, 1) := by decide +kernel
theorem dL_law_651 : decode cL_law 651 = .ok (.aload_n 0, 1) := by decide +kernel
theorem dL_law_652 : decode cL_law 652 = .ok (.iload_n 3, 1) := by decide +kernel
theorem dL_law_653 : decode cL_law 653 = .ok (.iconst 1, 1) := by decide +kernel
theorem dL_law_654 : decode cL_law 654 = .ok (.iadd, 1) := by decide +kernel
theorem dL_law_655 : decode cL_law 655 = .ok (.iaload, 1) := by decide +kernel
theorem dL_law_656 : decode cL_law 656 = .ok (.aload_n 0, 1) := by decide +kernel
theorem dL_law_657 : decode cL_law 657 = .ok (.iload_n 3, 1) := by decide +kernel
theorem dL_law_658 : decode cL_law 658 = .ok (.iconst 2, 1) := by decide +kernel
theorem dL_law_659 : decode cL_law 659 = .ok (.iadd, 1) := by decide +kernel
theorem dL_law_660 : decode cL_law 660 = .ok (.iaload, 1) := by decide +kernel
theorem dL_law_661 : decode cL_law 661 = .ok (.aload_n 0, 1) := by decide +kernel
theorem dL_law_662 : decode cL_law 662 = .ok (.iload_n 3, 1) := by decide +kernel
theorem dL_law_663 : decode cL_law 663 = .ok (.iconst 3, 1) := by decide +kernel
theorem dL_law_664 : decode cL_law 664 = .ok (.iadd, 1) := by decide +kernel
theorem dL_law_665 : decode cL_law 665 = .ok (.iaload, 1) := by decide +kernel
theorem dL_law_666 : decode cL_law 666 = .ok (.invokevirtual 88, 3) := by decide +kernel
theorem dL_law_669 : decode cL_law 669 = .ok (.if_icmp .eq 463, 3) := by decide +kernel
theorem dL_law_672 : decode cL_law 672 = .ok (.iconst 0, 1) := by decide +kernel
theorem dL_law_673 : decode cL_law 673 = .ok (.ireturn, 1) := by decide +kernel
theorem dL_law_674 : decode cL_law 674 = .ok (.aload_n 1, 1) := by decide +kernel
theorem dL_law_675 : decode cL_law 675 = .ok (.aload_n 0, 1) := by decide +kernel
theorem dL_law_676 : decode cL_law 676 = .ok (.iload_n 3, 1) := by decide +kernel
theorem dL_law_677 : decode cL_law 677 = .ok (.iconst 1, 1) := by decide +kernel
theorem dL_law_678 : decode cL_law 678 = .ok (.iadd, 1) := by decide +kernel
theorem dL_law_679 : decode cL_law 679 = .ok (.iaload, 1) := by decide +kernel
theorem dL_law_680 : decode cL_law 680 = .ok (.aload_n 0, 1) := by decide +kernel
theorem dL_law_681 : decode cL_law 681 = .ok (.iload_n 3, 1) := by decide +kernel
theorem dL_law_682 : decode cL_law 682 = .ok (.iconst 2, 1) := by decide +kernel
theorem dL_law_683 : decode cL_law 683 = .ok (.iadd, 1) := by decide +kernel
theorem dL_law_684 : decode cL_law 684 = .ok (.iaload, 1) := by decide +kernel
theorem dL_law_685 : decode cL_law 685 = .ok (.invokevirtual 89, 3) := by decide +kernel
theorem dL_law_688 : decode cL_law 688 = .ok (.aload_n 2, 1) := by decide +kernel
theorem dL_law_689 : decode cL_law 689 = .ok (.aload_n 0, 1) := by decide +kernel
theorem dL_law_690 : decode cL_law 690 = .ok (.iload_n 3, 1) := by decide +kernel
theorem dL_law_691 : decode cL_law 691 = .ok (.iconst 1, 1) := by decide +kernel
theorem dL_law_692 : decode cL_law 692 = .ok (.iadd, 1) := by decide +kernel
theorem dL_law_693 : decode cL_law 693 = .ok (.iaload, 1) := by decide +kernel
theorem dL_law_694 : decode cL_law 694 = .ok (.aload_n 0, 1) := by decide +kernel
theorem dL_law_695 : decode cL_law 695 = .ok (.iload_n 3, 1) := by decide +kernel
theorem dL_law_696 : decode cL_law 696 = .ok (.iconst 2, 1) := by decide +kernel
theorem dL_law_697 : decode cL_law 697 = .ok (.iadd, 1) := by decide +kernel
theorem dL_law_698 : decode cL_law 698 = .ok (.iaload, 1) := by decide +kernel
theorem dL_law_699 : decode cL_law 699 = .ok (.invokevirtual 92, 3) := by decide +kernel
theorem dL_law_702 : decode cL_law 702 = .ok (.if_icmp .eq 430, 3) := by decide +kernel
theorem dL_law_705 : decode cL_law 705 = .ok (.iconst 0, 1) := by decide +kernel
theorem dL_law_706 : decode cL_law 706 = .ok (.ireturn, 1) := by decide +kernel
theorem dL_law_707 : decode cL_law 707 = .ok (.aload_n 1, 1) := by decide +kernel
theorem dL_law_708 : decode cL_law 708 = .ok (.aload_n 0, 1) := by decide +kernel
theorem dL_law_709 : decode cL_law 709 = .ok (.iload_n 3, 1) := by decide +kernel
theorem dL_law_710 : decode cL_law 710 = .ok (.iconst 1, 1) := by decide +kernel
theorem dL_law_711 : decode cL_law 711 = .ok (.iadd, 1) := by decide +kernel
theorem dL_law_712 : decode cL_law 712 = .ok (.iaload, 1) := by decide +kernel
theorem dL_law_713 : decode cL_law 713 = .ok (.aload_n 0, 1) := by decide +kernel
theorem dL_law_714 : decode cL_law 714 = .ok (.iload_n 3, 1) := by decide +kernel
theorem dL_law_715 : decode cL_law 715 = .ok (.iconst 2, 1) := by decide +kernel
theorem dL_law_716 : decode cL_law 716 = .ok (.iadd, 1) := by decide +kernel
theorem dL_law_717 : decode cL_law 717 = .ok (.iaload, 1) := by decide +kernel
theorem dL_law_718 : decode cL_law 718 = .ok (.aload_n 0, 1) := by decide +kernel
theorem dL_law_719 : decode cL_law 719 = .ok (.iload_n 3, 1) := by decide +kernel
theorem dL_law_720 : decode cL_law 720 = .ok (.iconst 3, 1) := by decide +kernel
theorem dL_law_721 : decode cL_law 721 = .ok (.iadd, 1) := by decide +kernel
theorem dL_law_722 : decode cL_law 722 = .ok (.iaload, 1) := by decide +kernel
theorem dL_law_723 : decode cL_law 723 = .ok (.aload_n 0, 1) := by decide +kernel
theorem dL_law_724 : decode cL_law 724 = .ok (.iload_n 3, 1) := by decide +kernel
theorem dL_law_725 : decode cL_law 725 = .ok (.iconst 4, 1) := by decide +kernel
theorem dL_law_726 : decode cL_law 726 = .ok (.iadd, 1) := by decide +kernel
theorem dL_law_727 : decode cL_law 727 = .ok (.iaload, 1) := by decide +kernel
theorem dL_law_728 : decode cL_law 728 = .ok (.aload_n 0, 1) := by decide +kernel
theorem dL_law_729 : decode cL_law 729 = .ok (.iload_n 3, 1) := by decide +kernel
theorem dL_law_730 : decode cL_law 730 = .ok (.iconst 5, 1) := by decide +kernel
theorem dL_law_731 : decode cL_law 731 = .ok (.iadd, 1) := by decide +kernel
theorem dL_law_732 : decode cL_law 732 = .ok (.iaload, 1) := by decide +kernel
theorem dL_law_733 : decode cL_law 733 = .ok (.aload_n 0, 1) := by decide +kernel
theorem dL_law_734 : decode cL_law 734 = .ok (.iload_n 3, 1) := by decide +kernel
theorem dL_law_735 : decode cL_law 735 = .ok (.bipush 6, 2) := by decide +kernel
theorem dL_law_737 : decode cL_law 737 = .ok (.iadd, 1) := by decide +kernel
theorem dL_law_738 : decode cL_law 738 = .ok (.iaload, 1) := by decide +kernel
theorem dL_law_739 : decode cL_law 739 = .ok (.invokevirtual 93, 3) := by decide +kernel
theorem dL_law_742 : decode cL_law 742 = .ok (.aload_n 2, 1) := by decide +kernel
theorem dL_law_743 : decode cL_law 743 = .ok (.aload_n 0, 1) := by decide +kernel
theorem dL_law_744 : decode cL_law 744 = .ok (.iload_n 3, 1) := by decide +kernel
theorem dL_law_745 : decode cL_law 745 = .ok (.iconst 1, 1) := by decide +kernel
theorem dL_law_746 : decode cL_law 746 = .ok (.iadd, 1) := by decide +kernel
theorem dL_law_747 : decode cL_law 747 = .ok (.iaload, 1) := by decide +kernel
theorem dL_law_748 : decode cL_law 748 = .ok (.aload_n 0, 1) := by decide +kernel
theorem dL_law_749 : decode cL_law 749 = .ok (.iload_n 3, 1) := by decide +kernel
theorem dL_law_750 : decode cL_law 750 = .ok (.iconst 2, 1) := by decide +kernel
theorem dL_law_751 : decode cL_law 751 = .ok (.iadd, 1) := by decide +kernel
theorem dL_law_752 : decode cL_law 752 = .ok (.iaload, 1) := by decide +kernel
theorem dL_law_753 : decode cL_law 753 = .ok (.aload_n 0, 1) := by decide +kernel
theorem dL_law_754 : decode cL_law 754 = .ok (.iload_n 3, 1) := by decide +kernel
theorem dL_law_755 : decode cL_law 755 = .ok (.iconst 3, 1) := by decide +kernel
theorem dL_law_756 : decode cL_law 756 = .ok (.iadd, 1) := by decide +kernel
theorem dL_law_757 : decode cL_law 757 = .ok (.iaload, 1) := by decide +kernel
theorem dL_law_758 : decode cL_law 758 = .ok (.aload_n 0, 1) := by decide +kernel
theorem dL_law_759 : decode cL_law 759 = .ok (.iload_n 3, 1) := by decide +kernel
theorem dL_law_760 : decode cL_law 760 = .ok (.iconst 4, 1) := by decide +kernel
theorem dL_law_761 : decode cL_law 761 = .ok (.iadd, 1) := by decide +kernel
theorem dL_law_762 : decode cL_law 762 = .ok (.iaload, 1) := by decide +kernel
theorem dL_law_763 : decode cL_law 763 = .ok (.aload_n 0, 1) := by decide +kernel
theorem dL_law_764 : decode cL_law 764 = .ok (.iload_n 3, 1) := by decide +kernel
theorem dL_law_765 : decode cL_law 765 = .ok (.iconst 5, 1) := by decide +kernel
theorem dL_law_766 : decode cL_law 766 = .ok (.iadd, 1) := by decide +kernel
theorem dL_law_767 : decode cL_law 767 = .ok (.iaload, 1) := by decide +kernel
theorem dL_law_768 : decode cL_law 768 = .ok (.aload_n 0, 1) := by decide +kernel
theorem dL_law_769 : decode cL_law 769 = .ok (.iload_n 3, 1) := by decide +kernel
theorem dL_law_770 : decode cL_law 770 = .ok (.bipush 6, 2) := by decide +kernel
theorem dL_law_772 : decode cL_law 772 = .ok (.iadd, 1) := by decide +kernel
theorem dL_law_773 : decode cL_law 773 = .ok (.iaload, 1) := by decide +kernel
theorem dL_law_774 : decode cL_law 774 = .ok (.invokevirtual 97, 3) := by decide +kernel
theorem dL_law_777 : decode cL_law 777 = .ok (.if_icmp .eq 355, 3) := by decide +kernel
theorem dL_law_780 : decode cL_law 780 = .ok (.iconst 0, 1) := by decide +kernel
theorem dL_law_781 : decode cL_law 781 = .ok (.ireturn, 1) := by decide +kernel
theorem dL_law_782 : decode cL_law 782 = .ok (.aload_n 1, 1) := by decide +kernel
theorem dL_law_783 : decode cL_law 783 = .ok (.invokevirtual 98, 3) := by decide +kernel
theorem dL_law_786 : decode cL_law 786 = .ok (.aload_n 2, 1) := by decide +kernel
theorem dL_law_787 : decode cL_law 787 = .ok (.invokevirtual 101, 3) := by decide +kernel
theorem dL_law_790 : decode cL_law 790 = .ok (.if_icmp .eq 342, 3) := by decide +kernel
theorem dL_law_793 : decode cL_law 793 = .ok (.iconst 0, 1) := by decide +kernel
theorem dL_law_794 : decode cL_law 794 = .ok (.ireturn, 1) := by decide +kernel
theorem dL_law_795 : decode cL_law 795 = .ok (.aload_n 1, 1) := by decide +kernel
theorem dL_law_796 : decode cL_law 796 = .ok (.aload_n 0, 1) := by decide +kernel
theorem dL_law_797 : decode cL_law 797 = .ok (.iload_n 3, 1) := by decide +kernel
theorem dL_law_798 : decode cL_law 798 = .ok (.iconst 1, 1) := by decide +kernel
theorem dL_law_799 : decode cL_law 799 = .ok (.iadd, 1) := by decide +kernel
theorem dL_law_800 : decode cL_law 800 = .ok (.iaload, 1) := by decide +kernel
theorem dL_law_801 : decode cL_law 801 = .ok (.invokevirtual 102, 3) := by decide +kernel
theorem dL_law_804 : decode cL_law 804 = .ok (.aload_n 2, 1) := by decide +kernel
theorem dL_law_805 : decode cL_law 805 = .ok (.aload_n 0, 1) := by decide +kernel
theorem dL_law_806 : decode cL_law 806 = .ok (.iload_n 3, 1) := by decide +kernel
theorem dL_law_807 : decode cL_law 807 = .ok (.iconst 1, 1) := by decide +kernel
theorem dL_law_808 : decode cL_law 808 = .ok (.iadd, 1) := by decide +kernel
theorem dL_law_809 : decode cL_law 809 = .ok (.iaload, 1) := by decide +kernel
theorem dL_law_810 : decode cL_law 810 = .ok (.invokevirtual 105, 3) := by decide +kernel
theorem dL_law_813 : decode cL_law 813 = .ok (.if_icmp .eq 319, 3) := by decide +kernel
theorem dL_law_816 : decode cL_law 816 = .ok (.iconst 0, 1) := by decide +kernel
theorem dL_law_817 : decode cL_law 817 = .ok (.ireturn, 1) := by decide +kernel
theorem dL_law_818 : decode cL_law 818 = .ok (.aload_n 1, 1) := by decide +kernel
theorem dL_law_819 : decode cL_law 819 = .ok (.invokevirtual 106, 3) := by decide +kernel
theorem dL_law_822 : decode cL_law 822 = .ok (.aload_n 2, 1) := by decide +kernel
theorem dL_law_823 : decode cL_law 823 = .ok (.invokevirtual 109, 3) := by decide +kernel
theorem dL_law_826 : decode cL_law 826 = .ok (.if_icmp .eq 306, 3) := by decide +kernel
theorem dL_law_829 : decode cL_law 829 = .ok (.iconst 0, 1) := by decide +kernel
theorem dL_law_830 : decode cL_law 830 = .ok (.ireturn, 1) := by decide +kernel
theorem dL_law_831 : decode cL_law 831 = .ok (.aload_n 1, 1) := by decide +kernel
theorem dL_law_832 : decode cL_law 832 = .ok (.aload_n 0, 1) := by decide +kernel
theorem dL_law_833 : decode cL_law 833 = .ok (.iload_n 3, 1) := by decide +kernel
theorem dL_law_834 : decode cL_law 834 = .ok (.iconst 1, 1) := by decide +kernel
theorem dL_law_835 : decode cL_law 835 = .ok (.iadd, 1) := by decide +kernel
theorem dL_law_836 : decode cL_law 836 = .ok (.iaload, 1) := by decide +kernel
theorem dL_law_837 : decode cL_law 837 = .ok (.invokevirtual 110, 3) := by decide +kernel
theorem dL_law_840 : decode cL_law 840 = .ok (.aload_n 2, 1) := by decide +kernel
theorem dL_law_841 : decode cL_law 841 = .ok (.aload_n 0, 1) := by decide +kernel
theorem dL_law_842 : decode cL_law 842 = .ok (.iload_n 3, 1) := by decide +kernel
theorem dL_law_843 : decode cL_law 843 = .ok (.iconst 1, 1) := by decide +kernel
theorem dL_law_844 : decode cL_law 844 = .ok (.iadd, 1) := by decide +kernel
theorem dL_law_845 : decode cL_law 845 = .ok (.iaload, 1) := by decide +kernel
theorem dL_law_846 : decode cL_law 846 = .ok (.invokevirtual 113, 3) := by decide +kernel
theorem dL_law_849 : decode cL_law 849 = .ok (.if_icmp .eq 283, 3) := by decide +kernel
theorem dL_law_852 : decode cL_law 852 = .ok (.iconst 0, 1) := by decide +kernel
theorem dL_law_853 : decode cL_law 853 = .ok (.ireturn, 1) := by decide +kernel
theorem dL_law_854 : decode cL_law 854 = .ok (.aload_n 1, 1) := by decide +kernel
theorem dL_law_855 : decode cL_law 855 = .ok (.aload_n 0, 1) := by decide +kernel
theorem dL_law_856 : decode cL_law 856 = .ok (.iload_n 3, 1) := by decide +kernel
theorem dL_law_857 : decode cL_law 857 = .ok (.iconst 1, 1) := by decide +kernel
theorem dL_law_858 : decode cL_law 858 = .ok (.iadd, 1) := by decide +kernel
theorem dL_law_859 : decode cL_law 859 = .ok (.iaload, 1) := by decide +kernel
theorem dL_law_860 : decode cL_law 860 = .ok (.aload_n 0, 1) := by decide +kernel
theorem dL_law_861 : decode cL_law 861 = .ok (.iload_n 3, 1) := by decide +kernel
theorem dL_law_862 : decode cL_law 862 = .ok (.iconst 2, 1) := by decide +kernel
theorem dL_law_863 : decode cL_law 863 = .ok (.iadd, 1) := by decide +kernel
theorem dL_law_864 : decode cL_law 864 = .ok (.iaload, 1) := by decide +kernel
theorem dL_law_865 : decode cL_law 865 = .ok (.aload_n 0, 1) := by decide +kernel
theorem dL_law_866 : decode cL_law 866 = .ok (.iload_n 3, 1) := by decide +kernel
theorem dL_law_867 : decode cL_law 867 = .ok (.iconst 3, 1) := by decide +kernel
theorem dL_law_868 : decode cL_law 868 = .ok (.iadd, 1) := by decide +kernel
theorem dL_law_869 : decode cL_law 869 = .ok (.iaload, 1) := by decide +kernel
theorem dL_law_870 : decode cL_law 870 = .ok (.invokevirtual 114, 3) := by decide +kernel
theorem dL_law_873 : decode cL_law 873 = .ok (.aload_n 2, 1) := by decide +kernel
theorem dL_law_874 : decode cL_law 874 = .ok (.aload_n 0, 1) := by decide +kernel
theorem dL_law_875 : decode cL_law 875 = .ok (.iload_n 3, 1) := by decide +kernel
theorem dL_law_876 : decode cL_law 876 = .ok (.iconst 1, 1) := by decide +kernel
theorem dL_law_877 : decode cL_law 877 = .ok (.iadd, 1) := by decide +kernel
theorem dL_law_878 : decode cL_law 878 = .ok (.iaload, 1) := by decide +kernel
theorem dL_law_879 : decode cL_law 879 = .ok (.aload_n 0, 1) := by decide +kernel
theorem dL_law_880 : decode cL_law 880 = .ok (.iload_n 3, 1) := by decide +kernel
theorem dL_law_881 : decode cL_law 881 = .ok (.iconst 2, 1) := by decide +kernel
theorem dL_law_882 : decode cL_law 882 = .ok (.iadd, 1) := by decide +kernel
theorem dL_law_883 : decode cL_law 883 = .ok (.iaload, 1) := by decide +kernel
theorem dL_law_884 : decode cL_law 884 = .ok (.aload_n 0, 1) := by decide +kernel
theorem dL_law_885 : decode cL_law 885 = .ok (.iload_n 3, 1) := by decide +kernel
theorem dL_law_886 : decode cL_law 886 = .ok (.iconst 3, 1) := by decide +kernel
theorem dL_law_887 : decode cL_law 887 = .ok (.iadd, 1) := by decide +kernel
theorem dL_law_888 : decode cL_law 888 = .ok (.iaload, 1) := by decide +kernel
theorem dL_law_889 : decode cL_law 889 = .ok (.invokevirtual 117, 3) := by decide +kernel
theorem dL_law_892 : decode cL_law 892 = .ok (.if_icmp .eq 240, 3) := by decide +kernel
theorem dL_law_895 : decode cL_law 895 = .ok (.iconst 0, 1) := by decide +kernel
theorem dL_law_896 : decode cL_law 896 = .ok (.ireturn, 1) := by decide +kernel
theorem dL_law_897 : decode cL_law 897 = .ok (.aload_n 1, 1) := by decide +kernel
theorem dL_law_898 : decode cL_law 898 = .ok (.invokevirtual 118, 3) := by decide +kernel
theorem dL_law_901 : decode cL_law 901 = .ok (.aload_n 2, 1) := by decide +kernel
theorem dL_law_902 : decode cL_law 902 = .ok (.invokevirtual 121, 3) := by decide +kernel
theorem dL_law_905 : decode cL_law 905 = .ok (.if_icmp .eq 227, 3) := by decide +kernel
theorem dL_law_908 : decode cL_law 908 = .ok (.iconst 0, 1) := by decide +kernel
theorem dL_law_909 : decode cL_law 909 = .ok (.ireturn, 1) := by decide +kernel
theorem dL_law_910 : decode cL_law 910 = .ok (.aload_n 1, 1) := by decide +kernel
theorem dL_law_911 : decode cL_law 911 = .ok (.aload_n 0, 1) := by decide +kernel
theorem dL_law_912 : decode cL_law 912 = .ok (.iload_n 3, 1) := by decide +kernel
theorem dL_law_913 : decode cL_law 913 = .ok (.iconst 1, 1) := by decide +kernel
theorem dL_law_914 : decode cL_law 914 = .ok (.iadd, 1) := by decide +kernel
theorem dL_law_915 : decode cL_law 915 = .ok (.iaload, 1) := by decide +kernel
theorem dL_law_916 : decode cL_law 916 = .ok (.invokevirtual 122, 3) := by decide +kernel
theorem dL_law_919 : decode cL_law 919 = .ok (.aload_n 2, 1) := by decide +kernel
theorem dL_law_920 : decode cL_law 920 = .ok (.aload_n 0, 1) := by decide +kernel
theorem dL_law_921 : decode cL_law 921 = .ok (.iload_n 3, 1) := by decide +kernel
theorem dL_law_922 : decode cL_law 922 = .ok (.iconst 1, 1) := by decide +kernel
theorem dL_law_923 : decode cL_law 923 = .ok (.iadd, 1) := by decide +kernel
theorem dL_law_924 : decode cL_law 924 = .ok (.iaload, 1) := by decide +kernel
theorem dL_law_925 : decode cL_law 925 = .ok (.invokevirtual 125, 3) := by decide +kernel
theorem dL_law_928 : decode cL_law 928 = .ok (.if_icmp .eq 204, 3) := by decide +kernel
theorem dL_law_931 : decode cL_law 931 = .ok (.iconst 0, 1) := by decide +kernel
theorem dL_law_932 : decode cL_law 932 = .ok (.ireturn, 1) := by decide +kernel
theorem dL_law_933 : decode cL_law 933 = .ok (.aload_n 1, 1) := by decide +kernel
theorem dL_law_934 : decode cL_law 934 = .ok (.aload_n 0, 1) := by decide +kernel
theorem dL_law_935 : decode cL_law 935 = .ok (.iload_n 3, 1) := by decide +kernel
theorem dL_law_936 : decode cL_law 936 = .ok (.iconst 1, 1) := by decide +kernel
theorem dL_law_937 : decode cL_law 937 = .ok (.iadd, 1) := by decide +kernel
theorem dL_law_938 : decode cL_law 938 = .ok (.iaload, 1) := by decide +kernel
theorem dL_law_939 : decode cL_law 939 = .ok (.invokevirtual 126, 3) := by decide +kernel
theorem dL_law_942 : decode cL_law 942 = .ok (.aload_n 2, 1) := by decide +kernel
theorem dL_law_943 : decode cL_law 943 = .ok (.aload_n 0, 1) := by decide +kernel
theorem dL_law_944 : decode cL_law 944 = .ok (.iload_n 3, 1) := by decide +kernel
theorem dL_law_945 : decode cL_law 945 = .ok (.iconst 1, 1) := by decide +kernel
theorem dL_law_946 : decode cL_law 946 = .ok (.iadd, 1) := by decide +kernel
theorem dL_law_947 : decode cL_law 947 = .ok (.iaload, 1) := by decide +kernel
theorem dL_law_948 : decode cL_law 948 = .ok (.invokevirtual 129, 3) := by decide +kernel
theorem dL_law_951 : decode cL_law 951 = .ok (.if_icmp .eq 181, 3) := by decide +kernel
theorem dL_law_954 : decode cL_law 954 = .ok (.iconst 0, 1) := by decide +kernel
theorem dL_law_955 : decode cL_law 955 = .ok (.ireturn, 1) := by decide +kernel
theorem dL_law_956 : decode cL_law 956 = .ok (.aload_n 1, 1) := by decide +kernel
theorem dL_law_957 : decode cL_law 957 = .ok (.aload_n 0, 1) := by decide +kernel
theorem dL_law_958 : decode cL_law 958 = .ok (.iload_n 3, 1) := by decide +kernel
theorem dL_law_959 : decode cL_law 959 = .ok (.iconst 1, 1) := by decide +kernel
theorem dL_law_960 : decode cL_law 960 = .ok (.iadd, 1) := by decide +kernel
theorem dL_law_961 : decode cL_law 961 = .ok (.iaload, 1) := by decide +kernel
theorem dL_law_962 : decode cL_law 962 = .ok (.aload_n 0, 1) := by decide +kernel
theorem dL_law_963 : decode cL_law 963 = .ok (.iload_n 3, 1) := by decide +kernel
theorem dL_law_964 : decode cL_law 964 = .ok (.iconst 2, 1) := by decide +kernel
theorem dL_law_965 : decode cL_law 965 = .ok (.iadd, 1) := by decide +kernel
theorem dL_law_966 : decode cL_law 966 = .ok (.iaload, 1) := by decide +kernel
theorem dL_law_967 : decode cL_law 967 = .ok (.aload_n 0, 1) := by decide +kernel
theorem dL_law_968 : decode cL_law 968 = .ok (.iload_n 3, 1) := by decide +kernel
theorem dL_law_969 : decode cL_law 969 = .ok (.iconst 3, 1) := by decide +kernel
theorem dL_law_970 : decode cL_law 970 = .ok (.iadd, 1) := by decide +kernel
theorem dL_law_971 : decode cL_law 971 = .ok (.iaload, 1) := by decide +kernel
theorem dL_law_972 : decode cL_law 972 = .ok (.aload_n 0, 1) := by decide +kernel
theorem dL_law_973 : decode cL_law 973 = .ok (.iload_n 3, 1) := by decide +kernel
theorem dL_law_974 : decode cL_law 974 = .ok (.iconst 4, 1) := by decide +kernel
theorem dL_law_975 : decode cL_law 975 = .ok (.iadd, 1) := by decide +kernel
theorem dL_law_976 : decode cL_law 976 = .ok (.iaload, 1) := by decide +kernel
theorem dL_law_977 : decode cL_law 977 = .ok (.aload_n 0, 1) := by decide +kernel
theorem dL_law_978 : decode cL_law 978 = .ok (.iload_n 3, 1) := by decide +kernel
theorem dL_law_979 : decode cL_law 979 = .ok (.iconst 5, 1) := by decide +kernel
theorem dL_law_980 : decode cL_law 980 = .ok (.iadd, 1) := by decide +kernel
theorem dL_law_981 : decode cL_law 981 = .ok (.iaload, 1) := by decide +kernel
theorem dL_law_982 : decode cL_law 982 = .ok (.invokevirtual 130, 3) := by decide +kernel
theorem dL_law_985 : decode cL_law 985 = .ok (.aload_n 2, 1) := by decide +kernel
theorem dL_law_986 : decode cL_law 986 = .ok (.aload_n 0, 1) := by decide +kernel
theorem dL_law_987 : decode cL_law 987 = .ok (.iload_n 3, 1) := by decide +kernel
theorem dL_law_988 : decode cL_law 988 = .ok (.iconst 1, 1) := by decide +kernel
theorem dL_law_989 : decode cL_law 989 = .ok (.iadd, 1) := by decide +kernel
theorem dL_law_990 : decode cL_law 990 = .ok (.iaload, 1) := by decide +kernel
theorem dL_law_991 : decode cL_law 991 = .ok (.aload_n 0, 1) := by decide +kernel
theorem dL_law_992 : decode cL_law 992 = .ok (.iload_n 3, 1) := by decide +kernel
theorem dL_law_993 : decode cL_law 993 = .ok (.iconst 2, 1) := by decide +kernel
theorem dL_law_994 : decode cL_law 994 = .ok (.iadd, 1) := by decide +kernel
theorem dL_law_995 : decode cL_law 995 = .ok (.iaload, 1) := by decide +kernel
theorem dL_law_996 : decode cL_law 996 = .ok (.aload_n 0, 1) := by decide +kernel
theorem dL_law_997 : decode cL_law 997 = .ok (.iload_n 3, 1) := by decide +kernel
theorem dL_law_998 : decode cL_law 998 = .ok (.iconst 3, 1) := by decide +kernel
theorem dL_law_999 : decode cL_law 999 = .ok (.iadd, 1) := by decide +kernel
theorem dL_law_1000 : decode cL_law 1000 = .ok (.iaload, 1) := by decide +kernel
theorem dL_law_1001 : decode cL_law 1001 = .ok (.aload_n 0, 1) := by decide +kernel
theorem dL_law_1002 : decode cL_law 1002 = .ok (.iload_n 3, 1) := by decide +kernel
theorem dL_law_1003 : decode cL_law 1003 = .ok (.iconst 4, 1) := by decide +kernel
theorem dL_law_1004 : decode cL_law 1004 = .ok (.iadd, 1) := by decide +kernel
theorem dL_law_1005 : decode cL_law 1005 = .ok (.iaload, 1) := by decide +kernel
theorem dL_law_1006 : decode cL_law 1006 = .ok (.aload_n 0, 1) := by decide +kernel
theorem dL_law_1007 : decode cL_law 1007 = .ok (.iload_n 3, 1) := by decide +kernel
theorem dL_law_1008 : decode cL_law 1008 = .ok (.iconst 5, 1) := by decide +kernel
theorem dL_law_1009 : decode cL_law 1009 = .ok (.iadd, 1) := by decide +kernel
theorem dL_law_1010 : decode cL_law 1010 = .ok (.iaload, 1) := by decide +kernel
theorem dL_law_1011 : decode cL_law 1011 = .ok (.invokevirtual 134, 3) := by decide +kernel
theorem dL_law_1014 : decode cL_law 1014 = .ok (.lcmp, 1) := by decide +kernel
theorem dL_law_1015 : decode cL_law 1015 = .ok (.ifCond .eq 117, 3) := by decide +kernel
theorem dL_law_1018 : decode cL_law 1018 = .ok (.iconst 0, 1) := by decide +kernel
theorem dL_law_1019 : decode cL_law 1019 = .ok (.ireturn, 1) := by decide +kernel
theorem dL_law_1020 : decode cL_law 1020 = .ok (.aload_n 1, 1) := by decide +kernel
theorem dL_law_1021 : decode cL_law 1021 = .ok (.aload_n 0, 1) := by decide +kernel
theorem dL_law_1022 : decode cL_law 1022 = .ok (.iload_n 3, 1) := by decide +kernel
theorem dL_law_1023 : decode cL_law 1023 = .ok (.iconst 1, 1) := by decide +kernel
theorem dL_law_1024 : decode cL_law 1024 = .ok (.iadd, 1) := by decide +kernel
theorem dL_law_1025 : decode cL_law 1025 = .ok (.iaload, 1) := by decide +kernel
theorem dL_law_1026 : decode cL_law 1026 = .ok (.aload_n 0, 1) := by decide +kernel
theorem dL_law_1027 : decode cL_law 1027 = .ok (.iload_n 3, 1) := by decide +kernel
theorem dL_law_1028 : decode cL_law 1028 = .ok (.iconst 2, 1) := by decide +kernel
theorem dL_law_1029 : decode cL_law 1029 = .ok (.iadd, 1) := by decide +kernel
theorem dL_law_1030 : decode cL_law 1030 = .ok (.iaload, 1) := by decide +kernel
theorem dL_law_1031 : decode cL_law 1031 = .ok (.aload_n 0, 1) := by decide +kernel
theorem dL_law_1032 : decode cL_law 1032 = .ok (.iload_n 3, 1) := by decide +kernel
theorem dL_law_1033 : decode cL_law 1033 = .ok (.iconst 3, 1) := by decide +kernel
theorem dL_law_1034 : decode cL_law 1034 = .ok (.iadd, 1) := by decide +kernel
theorem dL_law_1035 : decode cL_law 1035 = .ok (.iaload, 1) := by decide +kernel
theorem dL_law_1036 : decode cL_law 1036 = .ok (.invokevirtual 135, 3) := by decide +kernel
theorem dL_law_1039 : decode cL_law 1039 = .ok (.aload_n 2, 1) := by decide +kernel
theorem dL_law_1040 : decode cL_law 1040 = .ok (.aload_n 0, 1) := by decide +kernel
theorem dL_law_1041 : decode cL_law 1041 = .ok (.iload_n 3, 1) := by decide +kernel
theorem dL_law_1042 : decode cL_law 1042 = .ok (.iconst 1, 1) := by decide +kernel
theorem dL_law_1043 : decode cL_law 1043 = .ok (.iadd, 1) := by decide +kernel
theorem dL_law_1044 : decode cL_law 1044 = .ok (.iaload, 1) := by decide +kernel
theorem dL_law_1045 : decode cL_law 1045 = .ok (.aload_n 0, 1) := by decide +kernel
theorem dL_law_1046 : decode cL_law 1046 = .ok (.iload_n 3, 1) := by decide +kernel
theorem dL_law_1047 : decode cL_law 1047 = .ok (.iconst 2, 1) := by decide +kernel
theorem dL_law_1048 : decode cL_law 1048 = .ok (.iadd, 1) := by decide +kernel
theorem dL_law_1049 : decode cL_law 1049 = .ok (.iaload, 1) := by decide +kernel
theorem dL_law_1050 : decode cL_law 1050 = .ok (.aload_n 0, 1) := by decide +kernel
theorem dL_law_1051 : decode cL_law 1051 = .ok (.iload_n 3, 1) := by decide +kernel
theorem dL_law_1052 : decode cL_law 1052 = .ok (.iconst 3, 1) := by decide +kernel
theorem dL_law_1053 : decode cL_law 1053 = .ok (.iadd, 1) := by decide +kernel
theorem dL_law_1054 : decode cL_law 1054 = .ok (.iaload, 1) := by decide +kernel
theorem dL_law_1055 : decode cL_law 1055 = .ok (.invokevirtual 138, 3) := by decide +kernel
theorem dL_law_1058 : decode cL_law 1058 = .ok (.if_icmp .eq 74, 3) := by decide +kernel
theorem dL_law_1061 : decode cL_law 1061 = .ok (.iconst 0, 1) := by decide +kernel
theorem dL_law_1062 : decode cL_law 1062 = .ok (.ireturn, 1) := by decide +kernel
theorem dL_law_1063 : decode cL_law 1063 = .ok (.aload_n 1, 1) := by decide +kernel
theorem dL_law_1064 : decode cL_law 1064 = .ok (.aload_n 0, 1) := by decide +kernel
theorem dL_law_1065 : decode cL_law 1065 = .ok (.iload_n 3, 1) := by decide +kernel
theorem dL_law_1066 : decode cL_law 1066 = .ok (.iconst 1, 1) := by decide +kernel
theorem dL_law_1067 : decode cL_law 1067 = .ok (.iadd, 1) := by decide +kernel
theorem dL_law_1068 : decode cL_law 1068 = .ok (.iaload, 1) := by decide +kernel
theorem dL_law_1069 : decode cL_law 1069 = .ok (.invokevirtual 139, 3) := by decide +kernel
theorem dL_law_1072 : decode cL_law 1072 = .ok (.aload_n 2, 1) := by decide +kernel
theorem dL_law_1073 : decode cL_law 1073 = .ok (.aload_n 0, 1) := by decide +kernel
theorem dL_law_1074 : decode cL_law 1074 = .ok (.iload_n 3, 1) := by decide +kernel
theorem dL_law_1075 : decode cL_law 1075 = .ok (.iconst 1, 1) := by decide +kernel
theorem dL_law_1076 : decode cL_law 1076 = .ok (.iadd, 1) := by decide +kernel
theorem dL_law_1077 : decode cL_law 1077 = .ok (.iaload, 1) := by decide +kernel
theorem dL_law_1078 : decode cL_law 1078 = .ok (.invokevirtual 142, 3) := by decide +kernel
theorem dL_law_1081 : decode cL_law 1081 = .ok (.if_icmp .eq 51, 3) := by decide +kernel
theorem dL_law_1084 : decode cL_law 1084 = .ok (.iconst 0, 1) := by decide +kernel
theorem dL_law_1085 : decode cL_law 1085 = .ok (.ireturn, 1) := by decide +kernel
theorem dL_law_1086 : decode cL_law 1086 = .ok (.aload_n 1, 1) := by decide +kernel
theorem dL_law_1087 : decode cL_law 1087 = .ok (.aload_n 0, 1) := by decide +kernel
theorem dL_law_1088 : decode cL_law 1088 = .ok (.iload_n 3, 1) := by decide +kernel
theorem dL_law_1089 : decode cL_law 1089 = .ok (.iconst 1, 1) := by decide +kernel
theorem dL_law_1090 : decode cL_law 1090 = .ok (.iadd, 1) := by decide +kernel
theorem dL_law_1091 : decode cL_law 1091 = .ok (.iaload, 1) := by decide +kernel
theorem dL_law_1092 : decode cL_law 1092 = .ok (.invokevirtual 143, 3) := by decide +kernel
theorem dL_law_1095 : decode cL_law 1095 = .ok (.aload_n 2, 1) := by decide +kernel
theorem dL_law_1096 : decode cL_law 1096 = .ok (.aload_n 0, 1) := by decide +kernel
theorem dL_law_1097 : decode cL_law 1097 = .ok (.iload_n 3, 1) := by decide +kernel
theorem dL_law_1098 : decode cL_law 1098 = .ok (.iconst 1, 1) := by decide +kernel
theorem dL_law_1099 : decode cL_law 1099 = .ok (.iadd, 1) := by decide +kernel
theorem dL_law_1100 : decode cL_law 1100 = .ok (.iaload, 1) := by decide +kernel
theorem dL_law_1101 : decode cL_law 1101 = .ok (.invokevirtual 146, 3) := by decide +kernel
theorem dL_law_1104 : decode cL_law 1104 = .ok (.if_icmp .eq 28, 3) := by decide +kernel
theorem dL_law_1107 : decode cL_law 1107 = .ok (.iconst 0, 1) := by decide +kernel
theorem dL_law_1108 : decode cL_law 1108 = .ok (.ireturn, 1) := by decide +kernel
theorem dL_law_1109 : decode cL_law 1109 = .ok (.aload_n 1, 1) := by decide +kernel
theorem dL_law_1110 : decode cL_law 1110 = .ok (.aload_n 0, 1) := by decide +kernel
theorem dL_law_1111 : decode cL_law 1111 = .ok (.iload_n 3, 1) := by decide +kernel
theorem dL_law_1112 : decode cL_law 1112 = .ok (.iconst 1, 1) := by decide +kernel
theorem dL_law_1113 : decode cL_law 1113 = .ok (.iadd, 1) := by decide +kernel
theorem dL_law_1114 : decode cL_law 1114 = .ok (.iaload, 1) := by decide +kernel
theorem dL_law_1115 : decode cL_law 1115 = .ok (.invokevirtual 147, 3) := by decide +kernel
theorem dL_law_1118 : decode cL_law 1118 = .ok (.aload_n 2, 1) := by decide +kernel
theorem dL_law_1119 : decode cL_law 1119 = .ok (.aload_n 0, 1) := by decide +kernel
theorem dL_law_1120 : decode cL_law 1120 = .ok (.iload_n 3, 1) := by decide +kernel
theorem dL_law_1121 : decode cL_law 1121 = .ok (.iconst 1, 1) := by decide +kernel
theorem dL_law_1122 : decode cL_law 1122 = .ok (.iadd, 1) := by decide +kernel
theorem dL_law_1123 : decode cL_law 1123 = .ok (.iaload, 1) := by decide +kernel
theorem dL_law_1124 : decode cL_law 1124 = .ok (.invokevirtual 150, 3) := by decide +kernel
theorem dL_law_1127 : decode cL_law 1127 = .ok (.if_icmp .eq 5, 3) := by decide +kernel
theorem dL_law_1130 : decode cL_law 1130 = .ok (.iconst 0, 1) := by decide +kernel
theorem dL_law_1131 : decode cL_law 1131 = .ok (.ireturn, 1) := by decide +kernel
theorem dL_law_1132 : decode cL_law 1132 = .ok (.iinc 3 7, 3) := by decide +kernel
theorem dL_law_1135 : decode cL_law 1135 = .ok (.goto (-1117), 3) := by decide +kernel
theorem dL_law_1138 : decode cL_law 1138 = .ok (.iconst 1, 1) := by decide +kernel
theorem dL_law_1139 : decode cL_law 1139 = .ok (.ireturn, 1) := by decide +kernel
