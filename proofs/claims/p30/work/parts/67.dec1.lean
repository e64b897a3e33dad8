theorem dX9_pours_13 : decode cX9_pours 13 = .ok (.ifCond .eq 8, 3) := by decide +kernel
theorem dX9_pours_16 : decode cX9_pours 16 = .ok (.iload_n 1, 1) := by decide +kernel
theorem dX9_pours_17 : decode cX9_pours 17 = .ok (.iload_n 2, 1) := by decide +kernel
theorem dX9_pours_18 : decode cX9_pours 18 = .ok (.if_icmp .ne 10, 3) := by decide +kernel
theorem dX9_pours_21 : decode cX9_pours 21 = .ok (.aload_n 0, 1) := by decide +kernel
theorem dX9_pours_22 : decode cX9_pours 22 = .ok (.bipush (-2), 2) := by decide +kernel
theorem dX9_pours_24 : decode cX9_pours 24 = .ok (.invokevirtual 62, 3) := by decide +kernel
theorem dX9_pours_27 : decode cX9_pours 27 = .ok (.ireturn, 1) := by decide +kernel
theorem dX9_pours_28 : decode cX9_pours 28 = .ok (.aload_n 0, 1) := by decide +kernel
theorem dX9_pours_29 : decode cX9_pours 29 = .ok (.getfield 7, 3) := by decide +kernel
theorem dX9_pours_32 : decode cX9_pours 32 = .ok (.bipush 8, 2) := by decide +kernel
theorem dX9_pours_34 : decode cX9_pours 34 = .ok (.iload_n 1, 1) := by decide +kernel
theorem dX9_pours_35 : decode cX9_pours 35 = .ok (.iadd, 1) := by decide +kernel
theorem dX9_pours_36 : decode cX9_pours 36 = .ok (.iaload, 1) := by decide +kernel
theorem dX9_pours_37 : decode cX9_pours 37 = .ok (.ifCond .ne 8, 3) := by decide +kernel
theorem dX9_pours_40 : decode cX9_pours 40 = .ok (.aload_n 0, 1) := by decide +kernel
theorem dX9_pours_41 : decode cX9_pours 41 = .ok (.invokevirtual 120, 3) := by decide +kernel
theorem dX9_pours_44 : decode cX9_pours 44 = .ok (.ireturn, 1) := by decide +kernel
theorem dX9_pours_45 : decode cX9_pours 45 = .ok (.aload_n 0, 1) := by decide +kernel
theorem dX9_pours_46 : decode cX9_pours 46 = .ok (.invokevirtual 123, 3) := by decide +kernel
theorem dX9_pours_49 : decode cX9_pours 49 = .ok (.aload_n 0, 1) := by decide +kernel
theorem dX9_pours_50 : decode cX9_pours 50 = .ok (.getfield 7, 3) := by decide +kernel
theorem dX9_pours_53 : decode cX9_pours 53 = .ok (.iload_n 1, 1) := by decide +kernel
theorem dX9_pours_54 : decode cX9_pours 54 = .ok (.iload_n 2, 1) := by decide +kernel
theorem dX9_pours_55 : decode cX9_pours 55 = .ok (.invokestatic 129, 3) := by decide +kernel
theorem dX9_pours_58 : decode cX9_pours 58 = .ok (.ireturn, 1) := by decide +kernel
theorem dX9_rests_0 : decode cX9_rests 0 = .ok (.iconst 1, 1) := by decide +kernel
theorem dX9_rests_1 : decode cX9_rests 1 = .ok (.istore_n 3, 1) := by decide +kernel
theorem dX9_rests_2 : decode cX9_rests 2 = .ok (.iconst 0, 1) := by decide +kernel
theorem dX9_rests_3 : decode cX9_rests 3 = .ok (.istore 4, 2) := by decide +kernel
theorem dX9_rests_5 : decode cX9_rests 5 = .ok (.iload 4, 2) := by decide +kernel
theorem dX9_rests_7 : decode cX9_rests 7 = .ok (.bipush 7, 2) := by decide +kernel
theorem dX9_rests_9 : decode cX9_rests 9 = .ok (.if_icmp .ge 60, 3) := by decide +kernel
theorem dX9_rests_12 : decode cX9_rests 12 = .ok (.iload_n 3, 1) := by decide +kernel
theorem dX9_rests_13 : decode cX9_rests 13 = .ok (.ifCond .eq 48, 3) := by decide +kernel
theorem dX9_rests_16 : decode cX9_rests 16 = .ok (.aload_n 0, 1) := by decide +kernel
theorem dX9_rests_17 : decode cX9_rests 17 = .ok (.iload 4, 2) := by decide +kernel
theorem dX9_rests_19 : decode cX9_rests 19 = .ok (.invokevirtual 197, 3) := by decide +kernel
theorem dX9_rests_22 : decode cX9_rests 22 = .ok (.ifCond .eq 35, 3) := by decide +kernel
theorem dX9_rests_25 : decode cX9_rests 25 = .ok (.aload_n 0, 1) := by decide +kernel
theorem dX9_rests_26 : decode cX9_rests 26 = .ok (.iload 4, 2) := by decide +kernel
theorem dX9_rests_28 : decode cX9_rests 28 = .ok (.iload_n 2, 1) := by decide +kernel
theorem dX9_rests_29 : decode cX9_rests 29 = .ok (.invokevirtual 200, 3) := by decide +kernel
theorem dX9_rests_32 : decode cX9_rests 32 = .ok (.aload_n 0, 1) := by decide +kernel
theorem dX9_rests_33 : decode cX9_rests 33 = .ok (.iload_n 1, 1) := by decide +kernel
theorem dX9_rests_34 : decode cX9_rests 34 = .ok (.iload_n 2, 1) := by decide +kernel
theorem dX9_rests_35 : decode cX9_rests 35 = .ok (.invokevirtual 200, 3) := by decide +kernel
theorem dX9_rests_38 : decode cX9_rests 38 = .ok (.if_icmp .gt 23, 3) := by decide +kernel
theorem dX9_rests_41 : decode cX9_rests 41 = .ok (.aload_n 0, 1) := by decide +kernel
theorem dX9_rests_42 : decode cX9_rests 42 = .ok (.iload 4, 2) := by decide +kernel
theorem dX9_rests_44 : decode cX9_rests 44 = .ok (.iload_n 1, 1) := by decide +kernel
theorem dX9_rests_45 : decode cX9_rests 45 = .ok (.invokevirtual 200, 3) := by decide +kernel
theorem dX9_rests_48 : decode cX9_rests 48 = .ok (.aload_n 0, 1) := by decide +kernel
theorem dX9_rests_49 : decode cX9_rests 49 = .ok (.iload_n 2, 1) := by decide +kernel
theorem dX9_rests_50 : decode cX9_rests 50 = .ok (.iload_n 1, 1) := by decide +kernel
theorem dX9_rests_51 : decode cX9_rests 51 = .ok (.invokevirtual 200, 3) := by decide +kernel
theorem dX9_rests_54 : decode cX9_rests 54 = .ok (.if_icmp .gt 7, 3) := by decide +kernel
theorem dX9_rests_57 : decode cX9_rests 57 = .ok (.iconst 1, 1) := by decide +kernel
theorem dX9_rests_58 : decode cX9_rests 58 = .ok (.goto 4, 3) := by decide +kernel
theorem dX9_rests_61 : decode cX9_rests 61 = .ok (.iconst 0, 1) := by decide +kernel
theorem dX9_rests_62 : decode cX9_rests 62 = .ok (.istore_n 3, 1) := by decide +kernel
theorem dX9_rests_63 : decode cX9_rests 63 = .ok (.iinc 4 1, 3) := by decide +kernel
theorem dX9_rests_66 : decode cX9_rests 66 = .ok (.goto (-61), 3) := by decide +kernel
theorem dX9_rests_69 : decode cX9_rests 69 = .ok (.iload_n 3, 1) := by decide +kernel
theorem dX9_rests_70 : decode cX9_rests 70 = .ok (.ireturn, 1) := by decide +kernel
theorem dX9_round_0 : decode cX9_round 0 = .ok (.aload_n 0, 1) := by decide +kernel
theorem dX9_round_1 : decode cX9_round 1 = .ok (.iload_n 1, 1) := by decide +kernel
theorem dX9_round_2 : decode cX9_round 2 = .ok (.invokevirtual 113, 3) := by decide +kernel
theorem dX9_round_5 : decode cX9_round 5 = .ok (.ifCond .eq 25, 3) := by decide +kernel
theorem dX9_round_8 : decode cX9_round 8 = .ok (.iload_n 2, 1) := by decide +kernel
theorem dX9_round_9 : decode cX9_round 9 = .ok (.i2l, 1) := by decide +kernel
theorem dX9_round_10 : decode cX9_round 10 = .ok (.lconst 1, 1) := by decide +kernel
theorem dX9_round_11 : decode cX9_round 11 = .ok (.ldc2_w 135, 3) := by decide +kernel
theorem dX9_round_14 : decode cX9_round 14 = .ok (.invokestatic 46, 3) := by decide +kernel
theorem dX9_round_17 : decode cX9_round 17 = .ok (.ifCond .eq 13, 3) := by decide +kernel
theorem dX9_round_20 : decode cX9_round 20 = .ok (.iload_n 3, 1) := by decide +kernel
theorem dX9_round_21 : decode cX9_round 21 = .ok (.ifCond .ge 16, 3) := by decide +kernel
theorem dX9_round_24 : decode cX9_round 24 = .ok (.iload_n 3, 1) := by decide +kernel
theorem dX9_round_25 : decode cX9_round 25 = .ok (.bipush (-2), 2) := by decide +kernel
theorem dX9_round_27 : decode cX9_round 27 = .ok (.if_icmp .eq 10, 3) := by decide +kernel
theorem dX9_round_30 : decode cX9_round 30 = .ok (.aload_n 0, 1) := by decide +kernel
theorem dX9_round_31 : decode cX9_round 31 = .ok (.bipush (-10), 2) := by decide +kernel
theorem dX9_round_33 : decode cX9_round 33 = .ok (.invokevirtual 62, 3) := by decide +kernel
theorem dX9_round_36 : decode cX9_round 36 = .ok (.ireturn, 1) := by decide +kernel
theorem dX9_round_37 : decode cX9_round 37 = .ok (.iload_n 3, 1) := by decide +kernel
theorem dX9_round_38 : decode cX9_round 38 = .ok (.iload_n 2, 1) := by decide +kernel
theorem dX9_round_39 : decode cX9_round 39 = .ok (.if_icmp .lt 6, 3) := by decide +kernel
theorem dX9_round_42 : decode cX9_round 42 = .ok (.bipush (-5), 2) := by decide +kernel
theorem dX9_round_44 : decode cX9_round 44 = .ok (.ireturn, 1) := by decide +kernel
theorem dX9_round_45 : decode cX9_round 45 = .ok (.aload_n 0, 1) := by decide +kernel
theorem dX9_round_46 : decode cX9_round 46 = .ok (.iload_n 1, 1) := by decide +kernel
theorem dX9_round_47 : decode cX9_round 47 = .ok (.iload_n 2, 1) := by decide +kernel
theorem dX9_round_48 : decode cX9_round 48 = .ok (.invokevirtual 157, 3) := by decide +kernel
theorem dX9_round_51 : decode cX9_round 51 = .ok (.istore 4, 2) := by decide +kernel
theorem dX9_round_53 : decode cX9_round 53 = .ok (.iload_n 3, 1) := by decide +kernel
theorem dX9_round_54 : decode cX9_round 54 = .ok (.ifCond .ge 7, 3) := by decide +kernel
theorem dX9_round_57 : decode cX9_round 57 = .ok (.iconst 0, 1) := by decide +kernel
theorem dX9_round_58 : decode cX9_round 58 = .ok (.goto 11, 3) := by decide +kernel
theorem dX9_round_61 : decode cX9_round 61 = .ok (.aload_n 0, 1) := by decide +kernel
theorem dX9_round_62 : decode cX9_round 62 = .ok (.iload 4, 2) := by decide +kernel
theorem dX9_round_64 : decode cX9_round 64 = .ok (.iload_n 2, 1) := by decide +kernel
theorem dX9_round_65 : decode cX9_round 65 = .ok (.iload_n 3, 1) := by decide +kernel
theorem dX9_round_66 : decode cX9_round 66 = .ok (.invokevirtual 154, 3) := by decide +kernel
theorem dX9_round_69 : decode cX9_round 69 = .ok (.istore 5, 2) := by decide +kernel
theorem dX9_round_71 : decode cX9_round 71 = .ok (.iload_n 3, 1) := by decide +kernel
theorem dX9_round_72 : decode cX9_round 72 = .ok (.ifCond .ge 10, 3) := by decide +kernel
theorem dX9_round_75 : decode cX9_round 75 = .ok (.aload_n 0, 1) := by decide +kernel
theorem dX9_round_76 : decode cX9_round 76 = .ok (.getfield 150, 3) := by decide +kernel
theorem dX9_round_79 : decode cX9_round 79 = .ok (.goto 20, 3) := by decide +kernel
theorem dX9_round_82 : decode cX9_round 82 = .ok (.iload 5, 2) := by decide +kernel
theorem dX9_round_84 : decode cX9_round 84 = .ok (.aload_n 0, 1) := by decide +kernel
theorem dX9_round_85 : decode cX9_round 85 = .ok (.getfield 7, 3) := by decide +kernel
theorem dX9_round_88 : decode cX9_round 88 = .ok (.iconst 0, 1) := by decide +kernel
theorem dX9_round_89 : decode cX9_round 89 = .ok (.iaload, 1) := by decide +kernel
theorem dX9_round_90 : decode cX9_round 90 = .ok (.if_icmp .ne 7, 3) := by decide +kernel
theorem dX9_round_93 : decode cX9_round 93 = .ok (.iconst (-1), 1) := by decide +kernel
theorem dX9_round_94 : decode cX9_round 94 = .ok (.goto 5, 3) := by decide +kernel
theorem dX9_round_97 : decode cX9_round 97 = .ok (.iload 5, 2) := by decide +kernel
theorem dX9_round_99 : decode cX9_round 99 = .ok (.ireturn, 1) := by decide +kernel
theorem dX9_sells_0 : decode cX9_sells 0 = .ok (.aload_n 0, 1) := by decide +kernel
theorem dX9_sells_1 : decode cX9_sells 1 = .ok (.iload_n 1, 1) := by decide +kernel
theorem dX9_sells_2 : decode cX9_sells 2 = .ok (.invokevirtual 113, 3) := by decide +kernel
theorem dX9_sells_5 : decode cX9_sells 5 = .ok (.ifCond .ne 10, 3) := by decide +kernel
theorem dX9_sells_8 : decode cX9_sells 8 = .ok (.aload_n 0, 1) := by decide +kernel
theorem dX9_sells_9 : decode cX9_sells 9 = .ok (.bipush (-2), 2) := by decide +kernel
theorem dX9_sells_11 : decode cX9_sells 11 = .ok (.invokevirtual 62, 3) := by decide +kernel
theorem dX9_sells_14 : decode cX9_sells 14 = .ok (.ireturn, 1) := by decide +kernel
theorem dX9_sells_15 : decode cX9_sells 15 = .ok (.aload_n 0, 1) := by decide +kernel
theorem dX9_sells_16 : decode cX9_sells 16 = .ok (.getfield 7, 3) := by decide +kernel
theorem dX9_sells_19 : decode cX9_sells 19 = .ok (.bipush 8, 2) := by decide +kernel
theorem dX9_sells_21 : decode cX9_sells 21 = .ok (.iload_n 1, 1) := by decide +kernel
theorem dX9_sells_22 : decode cX9_sells 22 = .ok (.iadd, 1) := by decide +kernel
theorem dX9_sells_23 : decode cX9_sells 23 = .ok (.iaload, 1) := by decide +kernel
theorem dX9_sells_24 : decode cX9_sells 24 = .ok (.ifCond .ne 8, 3) := by decide +kernel
theorem dX9_sells_27 : decode cX9_sells 27 = .ok (.aload_n 0, 1) := by decide +kernel
theorem dX9_sells_28 : decode cX9_sells 28 = .ok (.invokevirtual 120, 3) := by decide +kernel
theorem dX9_sells_31 : decode cX9_sells 31 = .ok (.ireturn, 1) := by decide +kernel
theorem dX9_sells_32 : decode cX9_sells 32 = .ok (.aload_n 0, 1) := by decide +kernel
theorem dX9_sells_33 : decode cX9_sells 33 = .ok (.invokevirtual 123, 3) := by decide +kernel
theorem dX9_sells_36 : decode cX9_sells 36 = .ok (.aload_n 0, 1) := by decide +kernel
theorem dX9_sells_37 : decode cX9_sells 37 = .ok (.getfield 7, 3) := by decide +kernel
theorem dX9_sells_40 : decode cX9_sells 40 = .ok (.bipush 6, 2) := by decide +kernel
theorem dX9_sells_42 : decode cX9_sells 42 = .ok (.iaload, 1) := by decide +kernel
theorem dX9_sells_43 : decode cX9_sells 43 = .ok (.istore_n 2, 1) := by decide +kernel
theorem dX9_sells_44 : decode cX9_sells 44 = .ok (.iload_n 2, 1) := by decide +kernel
theorem dX9_sells_45 : decode cX9_sells 45 = .ok (.aload_n 0, 1) := by decide +kernel
theorem dX9_sells_46 : decode cX9_sells 46 = .ok (.getfield 7, 3) := by decide +kernel
theorem dX9_sells_49 : decode cX9_sells 49 = .ok (.bipush 12, 2) := by decide +kernel
theorem dX9_sells_51 : decode cX9_sells 51 = .ok (.iload_n 1, 1) := by decide +kernel
theorem dX9_sells_52 : decode cX9_sells 52 = .ok (.iadd, 1) := by decide +kernel
theorem dX9_sells_53 : decode cX9_sells 53 = .ok (.iaload, 1) := by decide +kernel
theorem dX9_sells_54 : decode cX9_sells 54 = .ok (.iconst 4, 1) := by decide +kernel
theorem dX9_sells_55 : decode cX9_sells 55 = .ok (.if_icmp .ne 15, 3) := by decide +kernel
theorem dX9_sells_58 : decode cX9_sells 58 = .ok (.aload_n 0, 1) := by decide +kernel
theorem dX9_sells_59 : decode cX9_sells 59 = .ok (.getfield 7, 3) := by decide +kernel
theorem dX9_sells_62 : decode cX9_sells 62 = .ok (.bipush 8, 2) := by decide +kernel
theorem dX9_sells_64 : decode cX9_sells 64 = .ok (.iload_n 1, 1) := by decide +kernel
theorem dX9_sells_65 : decode cX9_sells 65 = .ok (.iadd, 1) := by decide +kernel
theorem dX9_sells_66 : decode cX9_sells 66 = .ok (.iaload, 1) := by decide +kernel
theorem dX9_sells_67 : decode cX9_sells 67 = .ok (.goto 14, 3) := by decide +kernel
theorem dX9_sells_70 : decode cX9_sells 70 = .ok (.iconst 2, 1) := by decide +kernel
theorem dX9_sells_71 : decode cX9_sells 71 = .ok (.aload_n 0, 1) := by decide +kernel
theorem dX9_sells_72 : decode cX9_sells 72 = .ok (.getfield 7, 3) := by decide +kernel
theorem dX9_sells_75 : decode cX9_sells 75 = .ok (.bipush 8, 2) := by decide +kernel
theorem dX9_sells_77 : decode cX9_sells 77 = .ok (.iload_n 1, 1) := by decide +kernel
theorem dX9_sells_78 : decode cX9_sells 78 = .ok (.iadd, 1) := by decide +kernel
theorem dX9_sells_79 : decode cX9_sells 79 = .ok (.iaload, 1) := by decide +kernel
theorem dX9_sells_80 : decode cX9_sells 80 = .ok (.imul, 1) := by decide +kernel
theorem dX9_sells_81 : decode cX9_sells 81 = .ok (.iadd, 1) := by decide +kernel
theorem dX9_sells_82 : decode cX9_sells 82 = .ok (.istore_n 3, 1) := by decide +kernel
theorem dX9_sells_83 : decode cX9_sells 83 = .ok (.aload_n 0, 1) := by decide +kernel
theorem dX9_sells_84 : decode cX9_sells 84 = .ok (.getfield 7, 3) := by decide +kernel
theorem dX9_sells_87 : decode cX9_sells 87 = .ok (.bipush 6, 2) := by decide +kernel
theorem dX9_sells_89 : decode cX9_sells 89 = .ok (.iload_n 3, 1) := by decide +kernel
theorem dX9_sells_90 : decode cX9_sells 90 = .ok (.sipush 9999, 3) := by decide +kernel
theorem dX9_sells_93 : decode cX9_sells 93 = .ok (.if_icmp .le 9, 3) := by decide +kernel
theorem dX9_sells_96 : decode cX9_sells 96 = .ok (.sipush 9999, 3) := by decide +kernel
theorem dX9_sells_99 : decode cX9_sells 99 = .ok (.goto 4, 3) := by decide +kernel
theorem dX9_sells_102 : decode cX9_sells 102 = .ok (.iload_n 3, 1) := by decide +kernel
theorem dX9_sells_103 : decode cX9_sells 103 = .ok (.iastore, 1) := by decide +kernel
theorem dX9_sells_104 : decode cX9_sells 104 = .ok (.aload_n 0, 1) := by decide +kernel
theorem dX9_sells_105 : decode cX9_sells 105 = .ok (.getfield 7, 3) := by decide +kernel
theorem dX9_sells_108 : decode cX9_sells 108 = .ok (.bipush 8, 2) := by decide +kernel
theorem dX9_sells_110 : decode cX9_sells 110 = .ok (.iload_n 1, 1) := by decide +kernel
theorem dX9_sells_111 : decode cX9_sells 111 = .ok (.iadd, 1) := by decide +kernel
theorem dX9_sells_112 : decode cX9_sells 112 = .ok (.iconst 0, 1) := by decide +kernel
theorem dX9_sells_113 : decode cX9_sells 113 = .ok (.iastore, 1) := by decide +kernel
theorem dX9_sells_114 : decode cX9_sells 114 = .ok (.aload_n 0, 1) := by decide +kernel
theorem dX9_sells_115 : decode cX9_sells 115 = .ok (.getfield 7, 3) := by decide +kernel
theorem dX9_sells_118 : decode cX9_sells 118 = .ok (.bipush 6, 2) := by decide +kernel
theorem dX9_sells_120 : decode cX9_sells 120 = .ok (.iaload, 1) := by decide +kernel
theorem dX9_sells_121 : decode cX9_sells 121 = .ok (.iload_n 2, 1) := by decide +kernel
theorem dX9_sells_122 : decode cX9_sells 122 = .ok (.isub, 1) := by decide +kernel
theorem dX9_sells_123 : decode cX9_sells 123 = .ok (.ireturn, 1) := by decide +kernel
theorem dX9_spilt_0 : decode cX9_spilt 0 = .ok (.aload_n 0, 1) := by decide +kernel
theorem dX9_spilt_1 : decode cX9_spilt 1 = .ok (.iload_n 1, 1) := by decide +kernel
theorem dX9_spilt_2 : decode cX9_spilt 2 = .ok (.invokevirtual 113, 3) := by decide +kernel
theorem dX9_spilt_5 : decode cX9_spilt 5 = .ok (.ifCond .eq 35, 3) := by decide +kernel
theorem dX9_spilt_8 : decode cX9_spilt 8 = .ok (.iload_n 2, 1) := by decide +kernel
theorem dX9_spilt_9 : decode cX9_spilt 9 = .ok (.i2l, 1) := by decide +kernel
theorem dX9_spilt_10 : decode cX9_spilt 10 = .ok (.lconst 0, 1) := by decide +kernel
theorem dX9_spilt_11 : decode cX9_spilt 11 = .ok (.ldc2_w 135, 3) := by decide +kernel
theorem dX9_spilt_14 : decode cX9_spilt 14 = .ok (.invokestatic 46, 3) := by decide +kernel
theorem dX9_spilt_17 : decode cX9_spilt 17 = .ok (.ifCond .eq 23, 3) := by decide +kernel
theorem dX9_spilt_20 : decode cX9_spilt 20 = .ok (.iload_n 3, 1) := by decide +kernel
theorem dX9_spilt_21 : decode cX9_spilt 21 = .ok (.invokestatic 180, 3) := by decide +kernel
theorem dX9_spilt_24 : decode cX9_spilt 24 = .ok (.ifCond .eq 16, 3) := by decide +kernel
theorem dX9_spilt_27 : decode cX9_spilt 27 = .ok (.iload 4, 2) := by decide +kernel
theorem dX9_spilt_29 : decode cX9_spilt 29 = .ok (.i2l, 1) := by decide +kernel
theorem dX9_spilt_30 : decode cX9_spilt 30 = .ok (.lconst 0, 1) := by decide +kernel
theorem dX9_spilt_31 : decode cX9_spilt 31 = .ok (.ldc2_w 209, 3) := by decide +kernel
theorem dX9_spilt_34 : decode cX9_spilt 34 = .ok (.invokestatic 46, 3) := by decide +kernel
theorem dX9_spilt_37 : decode cX9_spilt 37 = .ok (.ifCond .ne 10, 3) := by decide +kernel
theorem dX9_spilt_40 : decode cX9_spilt 40 = .ok (.aload_n 0, 1) := by decide +kernel
theorem dX9_spilt_41 : decode cX9_spilt 41 = .ok (.bipush (-2), 2) := by decide +kernel
theorem dX9_spilt_43 : decode cX9_spilt 43 = .ok (.invokevirtual 62, 3) := by decide +kernel
theorem dX9_spilt_46 : decode cX9_spilt 46 = .ok (.ireturn, 1) := by decide +kernel
theorem dX9_spilt_47 : decode cX9_spilt 47 = .ok (.aload_n 0, 1) := by decide +kernel
theorem dX9_spilt_48 : decode cX9_spilt 48 = .ok (.iload_n 1, 1) := by decide +kernel
theorem dX9_spilt_49 : decode cX9_spilt 49 = .ok (.iload_n 2, 1) := by decide +kernel
theorem dX9_spilt_50 : decode cX9_spilt 50 = .ok (.invokevirtual 157, 3) := by decide +kernel
theorem dX9_spilt_53 : decode cX9_spilt 53 = .ok (.istore 5, 2) := by decide +kernel
theorem dX9_spilt_55 : decode cX9_spilt 55 = .ok (.lconst 0, 1) := by decide +kernel
theorem dX9_spilt_56 : decode cX9_spilt 56 = .ok (.lstore 6, 2) := by decide +kernel
theorem dX9_spilt_58 : decode cX9_spilt 58 = .ok (.iconst 0, 1) := by decide +kernel
theorem dX9_spilt_59 : decode cX9_spilt 59 = .ok (.istore 8, 2) := by decide +kernel
theorem dX9_spilt_61 : decode cX9_spilt 61 = .ok (.iload 8, 2) := by decide +kernel
theorem dX9_spilt_63 : decode cX9_spilt 63 = .ok (.iconst 1, 1) := by decide +kernel
theorem dX9_spilt_64 : decode cX9_spilt 64 = .ok (.iload_n 2, 1) := by decide +kernel
theorem dX9_spilt_65 : decode cX9_spilt 65 = .ok (.ishl, 1) := by decide +kernel
theorem dX9_spilt_66 : decode cX9_spilt 66 = .ok (.if_icmp .ge 133, 3) := by decide +kernel
theorem dX9_spilt_69 : decode cX9_spilt 69 = .ok (.lconst 1, 1) := by decide +kernel
theorem dX9_spilt_70 : decode cX9_spilt 70 = .ok (.lstore 9, 2) := by decide +kernel
theorem dX9_spilt_72 : decode cX9_spilt 72 = .ok (.aload_n 0, 1) := by decide +kernel
theorem dX9_spilt_73 : decode cX9_spilt 73 = .ok (.invokevirtual 144, 3) := by decide +kernel
theorem dX9_spilt_76 : decode cX9_spilt 76 = .ok (.iconst 0, 1) := by decide +kernel
theorem dX9_spilt_77 : decode cX9_spilt 77 = .ok (.istore 11, 2) := by decide +kernel
theorem dX9_spilt_79 : decode cX9_spilt 79 = .ok (.iload 11, 2) := by decide +kernel
theorem dX9_spilt_81 : decode cX9_spilt 81 = .ok (.iload_n 2, 1) := by decide +kernel
theorem dX9_spilt_82 : decode cX9_spilt 82 = .ok (.if_icmp .ge 87, 3) := by decide +kernel
theorem dX9_spilt_85 : decode cX9_spilt 85 = .ok (.aload_n 0, 1) := by decide +kernel
theorem dX9_spilt_86 : decode cX9_spilt 86 = .ok (.iload 5, 2) := by decide +kernel
theorem dX9_spilt_88 : decode cX9_spilt 88 = .ok (.iload_n 2, 1) := by decide +kernel
theorem dX9_spilt_89 : decode cX9_spilt 89 = .ok (.iload 11, 2) := by decide +kernel
theorem dX9_spilt_91 : decode cX9_spilt 91 = .ok (.invokevirtual 154, 3) := by decide +kernel
theorem dX9_spilt_94 : decode cX9_spilt 94 = .ok (.istore 12, 2) := by decide +kernel
theorem dX9_spilt_96 : decode cX9_spilt 96 = .ok (.lload 9, 2) := by decide +kernel
theorem dX9_spilt_98 : decode cX9_spilt 98 = .ok (.iload 8, 2) := by decide +kernel
theorem dX9_spilt_100 : decode cX9_spilt 100 = .ok (.iload 11, 2) := by decide +kernel
theorem dX9_spilt_102 : decode cX9_spilt 102 = .ok (.invokestatic 116, 3) := by decide +kernel
theorem dX9_spilt_105 : decode cX9_spilt 105 = .ok (.ifCond .eq 9, 3) := by decide +kernel
theorem dX9_spilt_108 : decode cX9_spilt 108 = .ok (.iload 4, 2) := by decide +kernel
theorem dX9_spilt_110 : decode cX9_spilt 110 = .ok (.i2l, 1) := by decide +kernel
theorem dX9_spilt_111 : decode cX9_spilt 111 = .ok (.goto 9, 3) := by decide +kernel
theorem dX9_spilt_114 : decode cX9_spilt 114 = .ok (.bipush 10, 2) := by decide +kernel
theorem dX9_spilt_116 : decode cX9_spilt 116 = .ok (.iload 4, 2) := by decide +kernel
theorem dX9_spilt_118 : decode cX9_spilt 118 = .ok (.isub, 1) := by decide +kernel
theorem dX9_spilt_119 : decode cX9_spilt 119 = .ok (.i2l, 1) := by decide +kernel
theorem dX9_spilt_120 : decode cX9_spilt 120 = .ok (.lmul, 1) := by decide +kernel
theorem dX9_spilt_121 : decode cX9_spilt 121 = .ok (.lstore 9, 2) := by decide +kernel
theorem dX9_spilt_123 : decode cX9_spilt 123 = .ok (.iload 12, 2) := by decide +kernel
theorem dX9_spilt_125 : decode cX9_spilt 125 = .ok (.aload_n 0, 1) := by decide +kernel
theorem dX9_spilt_126 : decode cX9_spilt 126 = .ok (.getfield 7, 3) := by decide +kernel
theorem dX9_spilt_129 : decode cX9_spilt 129 = .ok (.iconst 0, 1) := by decide +kernel
theorem dX9_spilt_130 : decode cX9_spilt 130 = .ok (.iaload, 1) := by decide +kernel
theorem dX9_spilt_131 : decode cX9_spilt 131 = .ok (.if_icmp .ge 25, 3) := by decide +kernel
theorem dX9_spilt_134 : decode cX9_spilt 134 = .ok (.iload 8, 2) := by decide +kernel
theorem dX9_spilt_136 : decode cX9_spilt 136 = .ok (.iload 11, 2) := by decide +kernel
theorem dX9_spilt_138 : decode cX9_spilt 138 = .ok (.invokestatic 116, 3) := by decide +kernel
theorem dX9_spilt_141 : decode cX9_spilt 141 = .ok (.ifCond .ne 15, 3) := by decide +kernel
theorem dX9_spilt_144 : decode cX9_spilt 144 = .ok (.aload_n 0, 1) := by decide +kernel
theorem dX9_spilt_145 : decode cX9_spilt 145 = .ok (.getfield 27, 3) := by decide +kernel
theorem dX9_spilt_148 : decode cX9_spilt 148 = .ok (.iload 12, 2) := by decide +kernel
theorem dX9_spilt_150 : decode cX9_spilt 150 = .ok (.iload_n 1, 1) := by decide +kernel
theorem dX9_spilt_151 : decode cX9_spilt 151 = .ok (.invokestatic 126, 3) := by decide +kernel
theorem dX9_spilt_154 : decode cX9_spilt 154 = .ok (.istore 13, 2) := by decide +kernel
theorem dX9_spilt_156 : decode cX9_spilt 156 = .ok (.aload_n 0, 1) := by decide +kernel
theorem dX9_spilt_157 : decode cX9_spilt 157 = .ok (.getfield 27, 3) := by decide +kernel
theorem dX9_spilt_160 : decode cX9_spilt 160 = .ok (.invokestatic 106, 3) := by decide +kernel
theorem dX9_spilt_163 : decode cX9_spilt 163 = .ok (.iinc 11 1, 3) := by decide +kernel
theorem dX9_spilt_166 : decode cX9_spilt 166 = .ok (.goto (-87), 3) := by decide +kernel
theorem dX9_spilt_169 : decode cX9_spilt 169 = .ok (.lload 6, 2) := by decide +kernel
theorem dX9_spilt_171 : decode cX9_spilt 171 = .ok (.aload_n 0, 1) := by decide +kernel
theorem dX9_spilt_172 : decode cX9_spilt 172 = .ok (.getfield 27, 3) := by decide +kernel
theorem dX9_spilt_175 : decode cX9_spilt 175 = .ok (.bipush 8, 2) := by decide +kernel
theorem dX9_spilt_177 : decode cX9_spilt 177 = .ok (.iload_n 1, 1) := by decide +kernel
theorem dX9_spilt_178 : decode cX9_spilt 178 = .ok (.iadd, 1) := by decide +kernel
theorem dX9_spilt_179 : decode cX9_spilt 179 = .ok (.iaload, 1) := by decide +kernel
theorem dX9_spilt_180 : decode cX9_spilt 180 = .ok (.iload_n 3, 1) := by decide +kernel
theorem dX9_spilt_181 : decode cX9_spilt 181 = .ok (.if_icmp .lt 8, 3) := by decide +kernel
theorem dX9_spilt_184 : decode cX9_spilt 184 = .ok (.lload 9, 2) := by decide +kernel
theorem dX9_spilt_186 : decode cX9_spilt 186 = .ok (.goto 4, 3) := by decide +kernel
theorem dX9_spilt_189 : decode cX9_spilt 189 = .ok (.lconst 0, 1) := by decide +kernel
theorem dX9_spilt_190 : decode cX9_spilt 190 = .ok (.ladd, 1) := by decide +kernel
theorem dX9_spilt_191 : decode cX9_spilt 191 = .ok (.lstore 6, 2) := by decide +kernel
theorem dX9_spilt_193 : decode cX9_spilt 193 = .ok (.iinc 8 1, 3) := by decide +kernel
theorem dX9_spilt_196 : decode cX9_spilt 196 = .ok (.goto (-135), 3) := by decide +kernel
theorem dX9_spilt_199 : decode cX9_spilt 199 = .ok (.aload_n 0, 1) := by decide +kernel
theorem dX9_spilt_200 : decode cX9_spilt 200 = .ok (.lload 6, 2) := by decide +kernel
theorem dX9_spilt_202 : decode cX9_spilt 202 = .ok (.bipush 10, 2) := by decide +kernel
theorem dX9_spilt_204 : decode cX9_spilt 204 = .ok (.iload_n 2, 1) := by decide +kernel
theorem dX9_spilt_205 : decode cX9_spilt 205 = .ok (.invokestatic 147, 3) := by decide +kernel
theorem dX9_spilt_208 : decode cX9_spilt 208 = .ok (.i2l, 1) := by decide +kernel
theorem dX9_spilt_209 : decode cX9_spilt 209 = .ok (.invokevirtual 211, 3) := by decide +kernel
theorem dX9_spilt_212 : decode cX9_spilt 212 = .ok (.iconst 1, 1) := by decide +kernel
theorem dX9_spilt_213 : decode cX9_spilt 213 = .ok (.ireturn, 1) := by decide +kernel
theorem dX9_status_0 : decode cX9_status 0 = .ok (.iload_n 1, 1) := by decide +kernel
theorem dX9_status_1 : decode cX9_status 1 = .ok (.i2l, 1) := by decide +kernel
theorem dX9_status_2 : decode cX9_status 2 = .ok (.lconst 0, 1) := by decide +kernel
theorem dX9_status_3 : decode cX9_status 3 = .ok (.ldc2_w 231, 3) := by decide +kernel
theorem dX9_status_6 : decode cX9_status 6 = .ok (.invokestatic 46, 3) := by decide +kernel
theorem dX9_status_9 : decode cX9_status 9 = .ok (.ifCond .eq 12, 3) := by decide +kernel
theorem dX9_status_12 : decode cX9_status 12 = .ok (.aload_n 0, 1) := by decide +kernel
theorem dX9_status_13 : decode cX9_status 13 = .ok (.getfield 20, 3) := by decide +kernel
theorem dX9_status_16 : decode cX9_status 16 = .ok (.iload_n 1, 1) := by decide +kernel
theorem dX9_status_17 : decode cX9_status 17 = .ok (.iaload, 1) := by decide +kernel
theorem dX9_status_18 : decode cX9_status 18 = .ok (.goto 8, 3) := by decide +kernel
theorem dX9_status_21 : decode cX9_status 21 = .ok (.aload_n 0, 1) := by decide +kernel
theorem dX9_status_22 : decode cX9_status 22 = .ok (.iconst (-1), 1) := by decide +kernel
theorem dX9_status_23 : decode cX9_status 23 = .ok (.invokevirtual 62, 3) := by decide +kernel
theorem dX9_status_26 : decode cX9_status 26 = .ok (.ireturn, 1) := by decide +kernel
theorem dX9_sums_0 : decode cX9_sums 0 = .ok (.lload_n 1, 1) := by decide +kernel
theorem dX9_sums_1 : decode cX9_sums 1 = .ok (.lstore 5, 2) := by decide +kernel
theorem dX9_sums_3 : decode cX9_sums 3 = .ok (.iconst 0, 1) := by decide +kernel
theorem dX9_sums_4 : decode cX9_sums 4 = .ok (.istore 7, 2) := by decide +kernel
theorem dX9_sums_6 : decode cX9_sums 6 = .ok (.iload 7, 2) := by decide +kernel
theorem dX9_sums_8 : decode cX9_sums 8 = .ok (.iload 4, 2) := by decide +kernel
theorem dX9_sums_10 : decode cX9_sums 10 = .ok (.if_icmp .ge 28, 3) := by decide +kernel
theorem dX9_sums_13 : decode cX9_sums 13 = .ok (.ldc2_w 305, 3) := by decide +kernel
theorem dX9_sums_16 : decode cX9_sums 16 = .ok (.lload 5, 2) := by decide +kernel
theorem dX9_sums_18 : decode cX9_sums 18 = .ok (.lmul, 1) := by decide +kernel
theorem dX9_sums_19 : decode cX9_sums 19 = .ok (.aload_n 0, 1) := by decide +kernel
theorem dX9_sums_20 : decode cX9_sums 20 = .ok (.getfield 7, 3) := by decide +kernel
theorem dX9_sums_23 : decode cX9_sums 23 = .ok (.iload_n 3, 1) := by decide +kernel
theorem dX9_sums_24 : decode cX9_sums 24 = .ok (.iload 7, 2) := by decide +kernel
theorem dX9_sums_26 : decode cX9_sums 26 = .ok (.iadd, 1) := by decide +kernel
theorem dX9_sums_27 : decode cX9_sums 27 = .ok (.iaload, 1) := by decide +kernel
theorem dX9_sums_28 : decode cX9_sums 28 = .ok (.i2l, 1) := by decide +kernel
theorem dX9_sums_29 : decode cX9_sums 29 = .ok (.ladd, 1) := by decide +kernel
theorem dX9_sums_30 : decode cX9_sums 30 = .ok (.lstore 5, 2) := by decide +kernel
theorem dX9_sums_32 : decode cX9_sums 32 = .ok (.iinc 7 1, 3) := by decide +kernel
theorem dX9_sums_35 : decode cX9_sums 35 = .ok (.goto (-29), 3) := by decide +kernel
theorem dX9_sums_38 : decode cX9_sums 38 = .ok (.lload 5, 2) := by decide +kernel
theorem dX9_sums_40 : decode cX9_sums 40 = .ok (.lreturn, 1) := by decide +kernel
theorem dX9_two_0 : decode cX9_two 0 = .ok (.iload_n 1, 1) := by decide +kernel
theorem dX9_two_1 : decode cX9_two 1 = .ok (.iconst (-1), 1) := by decide +kernel
theorem dX9_two_2 : decode cX9_two 2 = .ok (.if_icmp .ge 10, 3) := by decide +kernel
theorem dX9_two_5 : decode cX9_two 5 = .ok (.aload_n 0, 1) := by decide +kernel
theorem dX9_two_6 : decode cX9_two 6 = .ok (.bipush (-10), 2) := by decide +kernel
theorem dX9_two_8 : decode cX9_two 8 = .ok (.invokevirtual 62, 3) := by decide +kernel
theorem dX9_two_11 : decode cX9_two 11 = .ok (.ireturn, 1) := by decide +kernel
theorem dX9_two_12 : decode cX9_two 12 = .ok (.iconst 0, 1) := by decide +kernel
theorem dX9_two_13 : decode cX9_two 13 = .ok (.istore_n 2, 1) := by decide +kernel
theorem dX9_two_14 : decode cX9_two 14 = .ok (.iconst 0, 1) := by decide +kernel
theorem dX9_two_15 : decode cX9_two 15 = .ok (.istore_n 3, 1) := by decide +kernel
theorem dX9_two_16 : decode cX9_two 16 = .ok (.iload_n 3, 1) := by decide +kernel
theorem dX9_two_17 : decode cX9_two 17 = .ok (.bipush 7, 2) := by decide +kernel
theorem dX9_two_19 : decode cX9_two 19 = .ok (.if_icmp .ge 68, 3) := by decide +kernel
theorem dX9_two_22 : decode cX9_two 22 = .ok (.iconst 0, 1) := by decide +kernel
theorem dX9_two_23 : decode cX9_two 23 = .ok (.istore 4, 2) := by decide +kernel
theorem dX9_two_25 : decode cX9_two 25 = .ok (.iload 4, 2) := by decide +kernel
theorem dX9_two_27 : decode cX9_two 27 = .ok (.bipush 7, 2) := by decide +kernel
theorem dX9_two_29 : decode cX9_two 29 = .ok (.if_icmp .ge 52, 3) := by decide +kernel
theorem dX9_two_32 : decode cX9_two 32 = .ok (.aload_n 0, 1) := by decide +kernel
theorem dX9_two_33 : decode cX9_two 33 = .ok (.iload_n 3, 1) := by decide +kernel
theorem dX9_two_34 : decode cX9_two 34 = .ok (.invokevirtual 197, 3) := by decide +kernel
theorem dX9_two_37 : decode cX9_two 37 = .ok (.ifCond .eq 38, 3) := by decide +kernel
theorem dX9_two_40 : decode cX9_two 40 = .ok (.aload_n 0, 1) := by decide +kernel
theorem dX9_two_41 : decode cX9_two 41 = .ok (.iload 4, 2) := by decide +kernel
theorem dX9_two_43 : decode cX9_two 43 = .ok (.invokevirtual 197, 3) := by decide +kernel
theorem dX9_two_46 : decode cX9_two 46 = .ok (.ifCond .eq 29, 3) := by decide +kernel
theorem dX9_two_49 : decode cX9_two 49 = .ok (.aload_n 0, 1) := by decide +kernel
theorem dX9_two_50 : decode cX9_two 50 = .ok (.iload_n 3, 1) := by decide +kernel
theorem dX9_two_51 : decode cX9_two 51 = .ok (.iload 4, 2) := by decide +kernel
theorem dX9_two_53 : decode cX9_two 53 = .ok (.invokevirtual 203, 3) := by decide +kernel
theorem dX9_two_56 : decode cX9_two 56 = .ok (.ifCond .eq 19, 3) := by decide +kernel
theorem dX9_two_59 : decode cX9_two 59 = .ok (.iload_n 2, 1) := by decide +kernel
theorem dX9_two_60 : decode cX9_two 60 = .ok (.iload_n 1, 1) := by decide +kernel
theorem dX9_two_61 : decode cX9_two 61 = .ok (.if_icmp .ne 11, 3) := by decide +kernel
theorem dX9_two_64 : decode cX9_two 64 = .ok (.bipush 10, 2) := by decide +kernel
theorem dX9_two_66 : decode cX9_two 66 = .ok (.iload_n 3, 1) := by decide +kernel
theorem dX9_two_67 : decode cX9_two 67 = .ok (.imul, 1) := by decide +kernel
theorem dX9_two_68 : decode cX9_two 68 = .ok (.iload 4, 2) := by decide +kernel
theorem dX9_two_70 : decode cX9_two 70 = .ok (.iadd, 1) := by decide +kernel
theorem dX9_two_71 : decode cX9_two 71 = .ok (.ireturn, 1) := by decide +kernel
theorem dX9_two_72 : decode cX9_two 72 = .ok (.iinc 2 1, 3) := by decide +kernel
theorem dX9_two_75 : decode cX9_two 75 = .ok (.iinc 4 1, 3) := by decide +kernel
theorem dX9_two_78 : decode cX9_two 78 = .ok (.goto (-53), 3) := by decide +kernel
theorem dX9_two_81 : decode cX9_two 81 = .ok (.iinc 3 1, 3) := by decide +kernel
theorem dX9_two_84 : decode cX9_two 84 = .ok (.goto (-68), 3) := by decide +kernel
theorem dX9_two_87 : decode cX9_two 87 = .ok (.iload_n 1, 1) := by decide +kernel
theorem dX9_two_88 : decode cX9_two 88 = .ok (.iconst (-1), 1) := by decide +kernel
theorem dX9_two_89 : decode cX9_two 89 = .ok (.if_icmp .ne 7, 3) := by decide +kernel
theorem dX9_two_92 : decode cX9_two 92 = .ok (.iload_n 2, 1) := by decide +kernel
theorem dX9_two_93 : decode cX9_two 93 = .ok (.goto 5, 3) := by decide +kernel
theorem dX9_two_96 : decode cX9_two 96 = .ok (.bipush (-5), 2) := by decide +kernel
theorem dX9_two_98 : decode cX9_two 98 = .ok (.ireturn, 1) := by decide +kernel
theorem dX9_undo_0 : decode cX9_undo 0 = .ok (.aload_n 0, 1) := by decide +kernel
theorem dX9_undo_1 : decode cX9_undo 1 = .ok (.getfield 7, 3) := by decide +kernel
theorem dX9_undo_4 : decode cX9_undo 4 = .ok (.iconst 4, 1) := by decide +kernel
theorem dX9_undo_5 : decode cX9_undo 5 = .ok (.iaload, 1) := by decide +kernel
theorem dX9_undo_6 : decode cX9_undo 6 = .ok (.ifCond .ne 8, 3) := by decide +kernel
theorem dX9_undo_9 : decode cX9_undo 9 = .ok (.aload_n 0, 1) := by decide +kernel
theorem dX9_undo_10 : decode cX9_undo 10 = .ok (.invokevirtual 120, 3) := by decide +kernel
theorem dX9_undo_13 : decode cX9_undo 13 = .ok (.ireturn, 1) := by decide +kernel
theorem dX9_undo_14 : decode cX9_undo 14 = .ok (.aload_n 0, 1) := by decide +kernel
theorem dX9_undo_15 : decode cX9_undo 15 = .ok (.getfield 7, 3) := by decide +kernel
theorem dX9_undo_18 : decode cX9_undo 18 = .ok (.iconst 4, 1) := by decide +kernel
theorem dX9_undo_19 : decode cX9_undo 19 = .ok (.dup2, 1) := by decide +kernel
theorem dX9_undo_20 : decode cX9_undo 20 = .ok (.iaload, 1) := by decide +kernel
theorem dX9_undo_21 : decode cX9_undo 21 = .ok (.iconst 1, 1) := by decide +kernel
theorem dX9_undo_22 : decode cX9_undo 22 = .ok (.isub, 1) := by decide +kernel
theorem dX9_undo_23 : decode cX9_undo 23 = .ok (.iastore, 1) := by decide +kernel
theorem dX9_undo_24 : decode cX9_undo 24 = .ok (.iconst 0, 1) := by decide +kernel
theorem dX9_undo_25 : decode cX9_undo 25 = .ok (.istore_n 1, 1) := by decide +kernel
theorem dX9_undo_26 : decode cX9_undo 26 = .ok (.iload_n 1, 1) := by decide +kernel
theorem dX9_undo_27 : decode cX9_undo 27 = .ok (.bipush 11, 2) := by decide +kernel
theorem dX9_undo_29 : decode cX9_undo 29 = .ok (.if_icmp .ge 36, 3) := by decide +kernel
theorem dX9_undo_32 : decode cX9_undo 32 = .ok (.aload_n 0, 1) := by decide +kernel
theorem dX9_undo_33 : decode cX9_undo 33 = .ok (.getfield 7, 3) := by decide +kernel
theorem dX9_undo_36 : decode cX9_undo 36 = .ok (.iconst 5, 1) := by decide +kernel
theorem dX9_undo_37 : decode cX9_undo 37 = .ok (.iload_n 1, 1) := by decide +kernel
theorem dX9_undo_38 : decode cX9_undo 38 = .ok (.iadd, 1) := by decide +kernel
theorem dX9_undo_39 : decode cX9_undo 39 = .ok (.aload_n 0, 1) := by decide +kernel
theorem dX9_undo_40 : decode cX9_undo 40 = .ok (.getfield 7, 3) := by decide +kernel
theorem dX9_undo_43 : decode cX9_undo 43 = .ok (.bipush 89, 2) := by decide +kernel
theorem dX9_undo_45 : decode cX9_undo 45 = .ok (.bipush 11, 2) := by decide +kernel
theorem dX9_undo_47 : decode cX9_undo 47 = .ok (.aload_n 0, 1) := by decide +kernel
theorem dX9_undo_48 : decode cX9_undo 48 = .ok (.getfield 7, 3) := by decide +kernel
theorem dX9_undo_51 : decode cX9_undo 51 = .ok (.iconst 4, 1) := by decide +kernel
theorem dX9_undo_52 : decode cX9_undo 52 = .ok (.iaload, 1) := by decide +kernel
theorem dX9_undo_53 : decode cX9_undo 53 = .ok (.imul, 1) := by decide +kernel
theorem dX9_undo_54 : decode cX9_undo 54 = .ok (.iadd, 1) := by decide +kernel
theorem dX9_undo_55 : decode cX9_undo 55 = .ok (.iload_n 1, 1) := by decide +kernel
theorem dX9_undo_56 : decode cX9_undo 56 = .ok (.iadd, 1) := by decide +kernel
theorem dX9_undo_57 : decode cX9_undo 57 = .ok (.iaload, 1) := by decide +kernel
theorem dX9_undo_58 : decode cX9_undo 58 = .ok (.iastore, 1) := by decide +kernel
theorem dX9_undo_59 : decode cX9_undo 59 = .ok (.iinc 1 1, 3) := by decide +kernel
theorem dX9_undo_62 : decode cX9_undo 62 = .ok (.goto (-36), 3) := by decide +kernel
theorem dX9_undo_65 : decode cX9_undo 65 = .ok (.aload_n 0, 1) := by decide +kernel
theorem dX9_undo_66 : decode cX9_undo 66 = .ok (.getfield 7, 3) := by decide +kernel
theorem dX9_undo_69 : decode cX9_undo 69 = .ok (.iconst 5, 1) := by decide +kernel
theorem dX9_undo_70 : decode cX9_undo 70 = .ok (.iaload, 1) := by decide +kernel
theorem dX9_undo_71 : decode cX9_undo 71 = .ok (.ireturn, 1) := by decide +kernel
theorem dX9_when_0 : decode cX9_when 0 = .ok (.aload_n 0, 1) := by decide +kernel
theorem dX9_when_1 : decode cX9_when 1 = .ok (.iload_n 1, 1) := by decide +kernel
theorem dX9_when_2 : decode cX9_when 2 = .ok (.invokevirtual 110, 3) := by decide +kernel
theorem dX9_when_5 : decode cX9_when 5 = .ok (.ifCond .ne 10, 3) := by decide +kernel
theorem dX9_when_8 : decode cX9_when 8 = .ok (.aload_n 0, 1) := by decide +kernel
theorem dX9_when_9 : decode cX9_when 9 = .ok (.bipush (-2), 2) := by decide +kernel
theorem dX9_when_11 : decode cX9_when 11 = .ok (.invokevirtual 62, 3) := by decide +kernel
theorem dX9_when_14 : decode cX9_when 14 = .ok (.ireturn, 1) := by decide +kernel
theorem dX9_when_15 : decode cX9_when 15 = .ok (.iconst 0, 1) := by decide +kernel
theorem dX9_when_16 : decode cX9_when 16 = .ok (.istore_n 2, 1) := by decide +kernel
theorem dX9_when_17 : decode cX9_when 17 = .ok (.iconst 1, 1) := by decide +kernel
theorem dX9_when_18 : decode cX9_when 18 = .ok (.istore_n 3, 1) := by decide +kernel
theorem dX9_when_19 : decode cX9_when 19 = .ok (.iload_n 3, 1) := by decide +kernel
theorem dX9_when_20 : decode cX9_when 20 = .ok (.bipush 24, 2) := by decide +kernel
theorem dX9_when_22 : decode cX9_when 22 = .ok (.if_icmp .ge 36, 3) := by decide +kernel
theorem dX9_when_25 : decode cX9_when 25 = .ok (.aload_n 0, 1) := by decide +kernel
theorem dX9_when_26 : decode cX9_when 26 = .ok (.getfield 7, 3) := by decide +kernel
theorem dX9_when_29 : decode cX9_when 29 = .ok (.iload_n 1, 1) := by decide +kernel
theorem dX9_when_30 : decode cX9_when 30 = .ok (.iload_n 3, 1) := by decide +kernel
theorem dX9_when_31 : decode cX9_when 31 = .ok (.invokestatic 94, 3) := by decide +kernel
theorem dX9_when_34 : decode cX9_when 34 = .ok (.aload_n 0, 1) := by decide +kernel
theorem dX9_when_35 : decode cX9_when 35 = .ok (.getfield 7, 3) := by decide +kernel
theorem dX9_when_38 : decode cX9_when 38 = .ok (.iload_n 1, 1) := by decide +kernel
theorem dX9_when_39 : decode cX9_when 39 = .ok (.iload_n 2, 1) := by decide +kernel
theorem dX9_when_40 : decode cX9_when 40 = .ok (.invokestatic 94, 3) := by decide +kernel
theorem dX9_when_43 : decode cX9_when 43 = .ok (.if_icmp .le 7, 3) := by decide +kernel
theorem dX9_when_46 : decode cX9_when 46 = .ok (.iload_n 3, 1) := by decide +kernel
theorem dX9_when_47 : decode cX9_when 47 = .ok (.goto 4, 3) := by decide +kernel
theorem dX9_when_50 : decode cX9_when 50 = .ok (.iload_n 2, 1) := by decide +kernel
theorem dX9_when_51 : decode cX9_when 51 = .ok (.istore_n 2, 1) := by decide +kernel
theorem dX9_when_52 : decode cX9_when 52 = .ok (.iinc 3 1, 3) := by decide +kernel
theorem dX9_when_55 : decode cX9_when 55 = .ok (.goto (-36), 3) := by decide +kernel
theorem dX9_when_58 : decode cX9_when 58 = .ok (.iload_n 2, 1) := by decide +kernel
theorem dX9_when_59 : decode cX9_when 59 = .ok (.ireturn, 1) := by decide +kernel
