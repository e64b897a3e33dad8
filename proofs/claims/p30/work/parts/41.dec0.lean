theorem dJ6_bitCount_0f7a4_0 : decode cJ6_bitCount_0f7a4 0 = .ok (.iload_n 0, 1) := by decide +kernel
theorem dJ6_bitCount_0f7a4_1 : decode cJ6_bitCount_0f7a4 1 = .ok (.iload_n 0, 1) := by decide +kernel
theorem dJ6_bitCount_0f7a4_2 : decode cJ6_bitCount_0f7a4 2 = .ok (.iconst 1, 1) := by decide +kernel
theorem dJ6_bitCount_0f7a4_3 : decode cJ6_bitCount_0f7a4 3 = .ok (.iushr, 1) := by decide +kernel
theorem dJ6_bitCount_0f7a4_4 : decode cJ6_bitCount_0f7a4 4 = .ok (.ldc_w 265, 3) := by decide +kernel
theorem dJ6_bitCount_0f7a4_7 : decode cJ6_bitCount_0f7a4 7 = .ok (.iand, 1) := by decide +kernel
theorem dJ6_bitCount_0f7a4_8 : decode cJ6_bitCount_0f7a4 8 = .ok (.isub, 1) := by decide +kernel
theorem dJ6_bitCount_0f7a4_9 : decode cJ6_bitCount_0f7a4 9 = .ok (.istore_n 0, 1) := by decide +kernel
theorem dJ6_bitCount_0f7a4_10 : decode cJ6_bitCount_0f7a4 10 = .ok (.iload_n 0, 1) := by decide +kernel
theorem dJ6_bitCount_0f7a4_11 : decode cJ6_bitCount_0f7a4 11 = .ok (.ldc_w 266, 3) := by decide +kernel
theorem dJ6_bitCount_0f7a4_14 : decode cJ6_bitCount_0f7a4 14 = .ok (.iand, 1) := by decide +kernel
theorem dJ6_bitCount_0f7a4_15 : decode cJ6_bitCount_0f7a4 15 = .ok (.iload_n 0, 1) := by decide +kernel
theorem dJ6_bitCount_0f7a4_16 : decode cJ6_bitCount_0f7a4 16 = .ok (.iconst 2, 1) := by decide +kernel
theorem dJ6_bitCount_0f7a4_17 : decode cJ6_bitCount_0f7a4 17 = .ok (.iushr, 1) := by decide +kernel
theorem dJ6_bitCount_0f7a4_18 : decode cJ6_bitCount_0f7a4 18 = .ok (.ldc_w 266, 3) := by decide +kernel
theorem dJ6_bitCount_0f7a4_21 : decode cJ6_bitCount_0f7a4 21 = .ok (.iand, 1) := by decide +kernel
theorem dJ6_bitCount_0f7a4_22 : decode cJ6_bitCount_0f7a4 22 = .ok (.iadd, 1) := by decide +kernel
theorem dJ6_bitCount_0f7a4_23 : decode cJ6_bitCount_0f7a4 23 = .ok (.istore_n 0, 1) := by decide +kernel
theorem dJ6_bitCount_0f7a4_24 : decode cJ6_bitCount_0f7a4 24 = .ok (.iload_n 0, 1) := by decide +kernel
theorem dJ6_bitCount_0f7a4_25 : decode cJ6_bitCount_0f7a4 25 = .ok (.iload_n 0, 1) := by decide +kernel
theorem dJ6_bitCount_0f7a4_26 : decode cJ6_bitCount_0f7a4 26 = .ok (.iconst 4, 1) := by decide +kernel
theorem dJ6_bitCount_0f7a4_27 : decode cJ6_bitCount_0f7a4 27 = .ok (.iushr, 1) := by decide +kernel
theorem dJ6_bitCount_0f7a4_28 : decode cJ6_bitCount_0f7a4 28 = .ok (.iadd, 1) := by decide +kernel
theorem dJ6_bitCount_0f7a4_29 : decode cJ6_bitCount_0f7a4 29 = .ok (.ldc_w 267, 3) := by decide +kernel
theorem dJ6_bitCount_0f7a4_32 : decode cJ6_bitCount_0f7a4 32 = .ok (.iand, 1) := by decide +kernel
theorem dJ6_bitCount_0f7a4_33 : decode cJ6_bitCount_0f7a4 33 = .ok (.istore_n 0, 1) := by decide +kernel
theorem dJ6_bitCount_0f7a4_34 : decode cJ6_bitCount_0f7a4 34 = .ok (.iload_n 0, 1) := by decide +kernel
theorem dJ6_bitCount_0f7a4_35 : decode cJ6_bitCount_0f7a4 35 = .ok (.iload_n 0, 1) := by decide +kernel
theorem dJ6_bitCount_0f7a4_36 : decode cJ6_bitCount_0f7a4 36 = .ok (.bipush 8, 2) := by decide +kernel
theorem dJ6_bitCount_0f7a4_38 : decode cJ6_bitCount_0f7a4 38 = .ok (.iushr, 1) := by decide +kernel
theorem dJ6_bitCount_0f7a4_39 : decode cJ6_bitCount_0f7a4 39 = .ok (.iadd, 1) := by decide +kernel
theorem dJ6_bitCount_0f7a4_40 : decode cJ6_bitCount_0f7a4 40 = .ok (.istore_n 0, 1) := by decide +kernel
theorem dJ6_bitCount_0f7a4_41 : decode cJ6_bitCount_0f7a4 41 = .ok (.iload_n 0, 1) := by decide +kernel
theorem dJ6_bitCount_0f7a4_42 : decode cJ6_bitCount_0f7a4 42 = .ok (.iload_n 0, 1) := by decide +kernel
theorem dJ6_bitCount_0f7a4_43 : decode cJ6_bitCount_0f7a4 43 = .ok (.bipush 16, 2) := by decide +kernel
theorem dJ6_bitCount_0f7a4_45 : decode cJ6_bitCount_0f7a4 45 = .ok (.iushr, 1) := by decide +kernel
theorem dJ6_bitCount_0f7a4_46 : decode cJ6_bitCount_0f7a4 46 = .ok (.iadd, 1) := by decide +kernel
theorem dJ6_bitCount_0f7a4_47 : decode cJ6_bitCount_0f7a4 47 = .ok (.istore_n 0, 1) := by decide +kernel
theorem dJ6_bitCount_0f7a4_48 : decode cJ6_bitCount_0f7a4 48 = .ok (.iload_n 0, 1) := by decide +kernel
theorem dJ6_bitCount_0f7a4_49 : decode cJ6_bitCount_0f7a4 49 = .ok (.bipush 63, 2) := by decide +kernel
theorem dJ6_bitCount_0f7a4_51 : decode cJ6_bitCount_0f7a4 51 = .ok (.iand, 1) := by decide +kernel
theorem dJ6_bitCount_0f7a4_52 : decode cJ6_bitCount_0f7a4 52 = .ok (.ireturn, 1) := by decide +kernel
theorem dX0_given_0 : decode cX0_given 0 = .ok (.iload_n 1, 1) := by decide +kernel
theorem dX0_given_1 : decode cX0_given 1 = .ok (.iconst 1, 1) := by decide +kernel
theorem dX0_given_2 : decode cX0_given 2 = .ok (.iadd, 1) := by decide +kernel
theorem dX0_given_3 : decode cX0_given 3 = .ok (.iconst 2, 1) := by decide +kernel
theorem dX0_given_4 : decode cX0_given 4 = .ok (.idiv, 1) := by decide +kernel
theorem dX0_given_5 : decode cX0_given 5 = .ok (.istore_n 3, 1) := by decide +kernel
theorem dX0_given_6 : decode cX0_given 6 = .ok (.iload_n 2, 1) := by decide +kernel
theorem dX0_given_7 : decode cX0_given 7 = .ok (.bipush 11, 2) := by decide +kernel
theorem dX0_given_9 : decode cX0_given 9 = .ok (.if_icmp .lt 15, 3) := by decide +kernel
theorem dX0_given_12 : decode cX0_given 12 = .ok (.iload_n 2, 1) := by decide +kernel
theorem dX0_given_13 : decode cX0_given 13 = .ok (.bipush 13, 2) := by decide +kernel
theorem dX0_given_15 : decode cX0_given 15 = .ok (.if_icmp .gt 9, 3) := by decide +kernel
theorem dX0_given_18 : decode cX0_given 18 = .ok (.iload_n 3, 1) := by decide +kernel
theorem dX0_given_19 : decode cX0_given 19 = .ok (.iload_n 1, 1) := by decide +kernel
theorem dX0_given_20 : decode cX0_given 20 = .ok (.iadd, 1) := by decide +kernel
theorem dX0_given_21 : decode cX0_given 21 = .ok (.goto 4, 3) := by decide +kernel
theorem dX0_given_24 : decode cX0_given 24 = .ok (.iload_n 3, 1) := by decide +kernel
theorem dX0_given_25 : decode cX0_given 25 = .ok (.istore 4, 2) := by decide +kernel
theorem dX0_given_27 : decode cX0_given 27 = .ok (.iload_n 0, 1) := by decide +kernel
theorem dX0_given_28 : decode cX0_given 28 = .ok (.tableswitch 78 1 5 #[36, 39, 44, 58, 73], 36) := by decide +kernel
theorem dX0_given_64 : decode cX0_given 64 = .ok (.iload 4, 2) := by decide +kernel
theorem dX0_given_66 : decode cX0_given 66 = .ok (.ireturn, 1) := by decide +kernel
theorem dX0_given_67 : decode cX0_given 67 = .ok (.iload 4, 2) := by decide +kernel
theorem dX0_given_69 : decode cX0_given 69 = .ok (.iconst 2, 1) := by decide +kernel
theorem dX0_given_70 : decode cX0_given 70 = .ok (.idiv, 1) := by decide +kernel
theorem dX0_given_71 : decode cX0_given 71 = .ok (.ireturn, 1) := by decide +kernel
theorem dX0_given_72 : decode cX0_given 72 = .ok (.iload_n 2, 1) := by decide +kernel
theorem dX0_given_73 : decode cX0_given 73 = .ok (.iconst 3, 1) := by decide +kernel
theorem dX0_given_74 : decode cX0_given 74 = .ok (.irem, 1) := by decide +kernel
theorem dX0_given_75 : decode cX0_given 75 = .ok (.ifCond .ne 7, 3) := by decide +kernel
theorem dX0_given_78 : decode cX0_given 78 = .ok (.iconst 0, 1) := by decide +kernel
theorem dX0_given_79 : decode cX0_given 79 = .ok (.goto 6, 3) := by decide +kernel
theorem dX0_given_82 : decode cX0_given 82 = .ok (.iconst 2, 1) := by decide +kernel
theorem dX0_given_83 : decode cX0_given 83 = .ok (.iload_n 3, 1) := by decide +kernel
theorem dX0_given_84 : decode cX0_given 84 = .ok (.imul, 1) := by decide +kernel
theorem dX0_given_85 : decode cX0_given 85 = .ok (.ireturn, 1) := by decide +kernel
theorem dX0_given_86 : decode cX0_given 86 = .ok (.iload_n 3, 1) := by decide +kernel
theorem dX0_given_87 : decode cX0_given 87 = .ok (.bipush 9, 2) := by decide +kernel
theorem dX0_given_89 : decode cX0_given 89 = .ok (.iload_n 2, 1) := by decide +kernel
theorem dX0_given_90 : decode cX0_given 90 = .ok (.bipush 12, 2) := by decide +kernel
theorem dX0_given_92 : decode cX0_given 92 = .ok (.isub, 1) := by decide +kernel
theorem dX0_given_93 : decode cX0_given 93 = .ok (.invokestatic 7, 3) := by decide +kernel
theorem dX0_given_96 : decode cX0_given 96 = .ok (.invokestatic 13, 3) := by decide +kernel
theorem dX0_given_99 : decode cX0_given 99 = .ok (.iadd, 1) := by decide +kernel
theorem dX0_given_100 : decode cX0_given 100 = .ok (.ireturn, 1) := by decide +kernel
theorem dX0_given_101 : decode cX0_given 101 = .ok (.iload 4, 2) := by decide +kernel
theorem dX0_given_103 : decode cX0_given 103 = .ok (.iconst 3, 1) := by decide +kernel
theorem dX0_given_104 : decode cX0_given 104 = .ok (.iadd, 1) := by decide +kernel
theorem dX0_given_105 : decode cX0_given 105 = .ok (.ireturn, 1) := by decide +kernel
theorem dX0_given_106 : decode cX0_given 106 = .ok (.iload_n 3, 1) := by decide +kernel
theorem dX0_given_107 : decode cX0_given 107 = .ok (.ireturn, 1) := by decide +kernel
theorem dX1_answeredSo_0 : decode cX1_answeredSo 0 = .ok (.iconst 0, 1) := by decide +kernel
theorem dX1_answeredSo_1 : decode cX1_answeredSo 1 = .ok (.istore_n 3, 1) := by decide +kernel
theorem dX1_answeredSo_2 : decode cX1_answeredSo 2 = .ok (.iconst 0, 1) := by decide +kernel
theorem dX1_answeredSo_3 : decode cX1_answeredSo 3 = .ok (.istore 4, 2) := by decide +kernel
theorem dX1_answeredSo_5 : decode cX1_answeredSo 5 = .ok (.iload 4, 2) := by decide +kernel
theorem dX1_answeredSo_7 : decode cX1_answeredSo 7 = .ok (.iload_n 2, 1) := by decide +kernel
theorem dX1_answeredSo_8 : decode cX1_answeredSo 8 = .ok (.if_icmp .ge 23, 3) := by decide +kernel
theorem dX1_answeredSo_11 : decode cX1_answeredSo 11 = .ok (.aload_n 0, 1) := by decide +kernel
theorem dX1_answeredSo_12 : decode cX1_answeredSo 12 = .ok (.getfield 9, 3) := by decide +kernel
theorem dX1_answeredSo_15 : decode cX1_answeredSo 15 = .ok (.iload 4, 2) := by decide +kernel
theorem dX1_answeredSo_17 : decode cX1_answeredSo 17 = .ok (.iaload, 1) := by decide +kernel
theorem dX1_answeredSo_18 : decode cX1_answeredSo 18 = .ok (.iload_n 1, 1) := by decide +kernel
theorem dX1_answeredSo_19 : decode cX1_answeredSo 19 = .ok (.if_icmp .ne 6, 3) := by decide +kernel
theorem dX1_answeredSo_22 : decode cX1_answeredSo 22 = .ok (.iinc 3 1, 3) := by decide +kernel
theorem dX1_answeredSo_25 : decode cX1_answeredSo 25 = .ok (.iinc 4 1, 3) := by decide +kernel
theorem dX1_answeredSo_28 : decode cX1_answeredSo 28 = .ok (.goto (-23), 3) := by decide +kernel
theorem dX1_answeredSo_31 : decode cX1_answeredSo 31 = .ok (.iload_n 3, 1) := by decide +kernel
theorem dX1_answeredSo_32 : decode cX1_answeredSo 32 = .ok (.ireturn, 1) := by decide +kernel
theorem dX1_fitting_0 : decode cX1_fitting 0 = .ok (.iconst 0, 1) := by decide +kernel
theorem dX1_fitting_1 : decode cX1_fitting 1 = .ok (.istore 4, 2) := by decide +kernel
theorem dX1_fitting_3 : decode cX1_fitting 3 = .ok (.iconst 0, 1) := by decide +kernel
theorem dX1_fitting_4 : decode cX1_fitting 4 = .ok (.istore 5, 2) := by decide +kernel
theorem dX1_fitting_6 : decode cX1_fitting 6 = .ok (.iload 5, 2) := by decide +kernel
theorem dX1_fitting_8 : decode cX1_fitting 8 = .ok (.bipush 6, 2) := by decide +kernel
theorem dX1_fitting_10 : decode cX1_fitting 10 = .ok (.if_icmp .ge 29, 3) := by decide +kernel
theorem dX1_fitting_13 : decode cX1_fitting 13 = .ok (.aload_n 2, 1) := by decide +kernel
theorem dX1_fitting_14 : decode cX1_fitting 14 = .ok (.iload_n 1, 1) := by decide +kernel
theorem dX1_fitting_15 : decode cX1_fitting 15 = .ok (.iload_n 3, 1) := by decide +kernel
theorem dX1_fitting_16 : decode cX1_fitting 16 = .ok (.iload 5, 2) := by decide +kernel
theorem dX1_fitting_18 : decode cX1_fitting 18 = .ok (.invokevirtual 26, 3) := by decide +kernel
theorem dX1_fitting_21 : decode cX1_fitting 21 = .ok (.ifCond .eq 12, 3) := by decide +kernel
theorem dX1_fitting_24 : decode cX1_fitting 24 = .ok (.iload 4, 2) := by decide +kernel
theorem dX1_fitting_26 : decode cX1_fitting 26 = .ok (.iconst 1, 1) := by decide +kernel
theorem dX1_fitting_27 : decode cX1_fitting 27 = .ok (.iload 5, 2) := by decide +kernel
theorem dX1_fitting_29 : decode cX1_fitting 29 = .ok (.ishl, 1) := by decide +kernel
theorem dX1_fitting_30 : decode cX1_fitting 30 = .ok (.ior, 1) := by decide +kernel
theorem dX1_fitting_31 : decode cX1_fitting 31 = .ok (.istore 4, 2) := by decide +kernel
theorem dX1_fitting_33 : decode cX1_fitting 33 = .ok (.iinc 5 1, 3) := by decide +kernel
theorem dX1_fitting_36 : decode cX1_fitting 36 = .ok (.goto (-30), 3) := by decide +kernel
theorem dX1_fitting_39 : decode cX1_fitting 39 = .ok (.iload 4, 2) := by decide +kernel
theorem dX1_fitting_41 : decode cX1_fitting 41 = .ok (.ireturn, 1) := by decide +kernel
theorem dX1_mostAlike_0 : decode cX1_mostAlike 0 = .ok (.iconst 0, 1) := by decide +kernel
theorem dX1_mostAlike_1 : decode cX1_mostAlike 1 = .ok (.istore 5, 2) := by decide +kernel
theorem dX1_mostAlike_3 : decode cX1_mostAlike 3 = .ok (.iconst 0, 1) := by decide +kernel
theorem dX1_mostAlike_4 : decode cX1_mostAlike 4 = .ok (.istore 6, 2) := by decide +kernel
theorem dX1_mostAlike_6 : decode cX1_mostAlike 6 = .ok (.iconst 0, 1) := by decide +kernel
theorem dX1_mostAlike_7 : decode cX1_mostAlike 7 = .ok (.istore 7, 2) := by decide +kernel
theorem dX1_mostAlike_9 : decode cX1_mostAlike 9 = .ok (.iload 7, 2) := by decide +kernel
theorem dX1_mostAlike_11 : decode cX1_mostAlike 11 = .ok (.bipush 6, 2) := by decide +kernel
theorem dX1_mostAlike_13 : decode cX1_mostAlike 13 = .ok (.if_icmp .ge 58, 3) := by decide +kernel
theorem dX1_mostAlike_16 : decode cX1_mostAlike 16 = .ok (.iload_n 2, 1) := by decide +kernel
theorem dX1_mostAlike_17 : decode cX1_mostAlike 17 = .ok (.iload 7, 2) := by decide +kernel
theorem dX1_mostAlike_19 : decode cX1_mostAlike 19 = .ok (.ishr, 1) := by decide +kernel
theorem dX1_mostAlike_20 : decode cX1_mostAlike 20 = .ok (.iconst 1, 1) := by decide +kernel
theorem dX1_mostAlike_21 : decode cX1_mostAlike 21 = .ok (.iand, 1) := by decide +kernel
theorem dX1_mostAlike_22 : decode cX1_mostAlike 22 = .ok (.ifCond .eq 43, 3) := by decide +kernel
theorem dX1_mostAlike_25 : decode cX1_mostAlike 25 = .ok (.iload_n 1, 1) := by decide +kernel
theorem dX1_mostAlike_26 : decode cX1_mostAlike 26 = .ok (.iload 7, 2) := by decide +kernel
theorem dX1_mostAlike_28 : decode cX1_mostAlike 28 = .ok (.iload_n 3, 1) := by decide +kernel
theorem dX1_mostAlike_29 : decode cX1_mostAlike 29 = .ok (.iload 4, 2) := by decide +kernel
theorem dX1_mostAlike_31 : decode cX1_mostAlike 31 = .ok (.invokestatic 36, 3) := by decide +kernel
theorem dX1_mostAlike_34 : decode cX1_mostAlike 34 = .ok (.istore 8, 2) := by decide +kernel
theorem dX1_mostAlike_36 : decode cX1_mostAlike 36 = .ok (.iload 5, 2) := by decide +kernel
theorem dX1_mostAlike_38 : decode cX1_mostAlike 38 = .ok (.iconst 1, 1) := by decide +kernel
theorem dX1_mostAlike_39 : decode cX1_mostAlike 39 = .ok (.aload_n 0, 1) := by decide +kernel
theorem dX1_mostAlike_40 : decode cX1_mostAlike 40 = .ok (.iload 8, 2) := by decide +kernel
theorem dX1_mostAlike_42 : decode cX1_mostAlike 42 = .ok (.iload 6, 2) := by decide +kernel
theorem dX1_mostAlike_44 : decode cX1_mostAlike 44 = .ok (.invokevirtual 39, 3) := by decide +kernel
theorem dX1_mostAlike_47 : decode cX1_mostAlike 47 = .ok (.iadd, 1) := by decide +kernel
theorem dX1_mostAlike_48 : decode cX1_mostAlike 48 = .ok (.invokestatic 43, 3) := by decide +kernel
theorem dX1_mostAlike_51 : decode cX1_mostAlike 51 = .ok (.istore 5, 2) := by decide +kernel
theorem dX1_mostAlike_53 : decode cX1_mostAlike 53 = .ok (.aload_n 0, 1) := by decide +kernel
theorem dX1_mostAlike_54 : decode cX1_mostAlike 54 = .ok (.getfield 9, 3) := by decide +kernel
theorem dX1_mostAlike_57 : decode cX1_mostAlike 57 = .ok (.iload 6, 2) := by decide +kernel
theorem dX1_mostAlike_59 : decode cX1_mostAlike 59 = .ok (.iload 8, 2) := by decide +kernel
theorem dX1_mostAlike_61 : decode cX1_mostAlike 61 = .ok (.iastore, 1) := by decide +kernel
theorem dX1_mostAlike_62 : decode cX1_mostAlike 62 = .ok (.iinc 6 1, 3) := by decide +kernel
theorem dX1_mostAlike_65 : decode cX1_mostAlike 65 = .ok (.iinc 7 1, 3) := by decide +kernel
theorem dX1_mostAlike_68 : decode cX1_mostAlike 68 = .ok (.goto (-59), 3) := by decide +kernel
theorem dX1_mostAlike_71 : decode cX1_mostAlike 71 = .ok (.iload 5, 2) := by decide +kernel
theorem dX1_mostAlike_73 : decode cX1_mostAlike 73 = .ok (.ireturn, 1) := by decide +kernel
theorem dX1_says_0 : decode cX1_says 0 = .ok (.iload_n 0, 1) := by decide +kernel
theorem dX1_says_1 : decode cX1_says 1 = .ok (.ifCond .ne 12, 3) := by decide +kernel
theorem dX1_says_4 : decode cX1_says 4 = .ok (.iload_n 1, 1) := by decide +kernel
theorem dX1_says_5 : decode cX1_says 5 = .ok (.iload_n 2, 1) := by decide +kernel
theorem dX1_says_6 : decode cX1_says 6 = .ok (.iload_n 3, 1) := by decide +kernel
theorem dX1_says_7 : decode cX1_says 7 = .ok (.invokestatic 15, 3) := by decide +kernel
theorem dX1_says_10 : decode cX1_says 10 = .ok (.goto 9, 3) := by decide +kernel
theorem dX1_says_13 : decode cX1_says 13 = .ok (.iload_n 1, 1) := by decide +kernel
theorem dX1_says_14 : decode cX1_says 14 = .ok (.iload_n 2, 1) := by decide +kernel
theorem dX1_says_15 : decode cX1_says 15 = .ok (.iload_n 3, 1) := by decide +kernel
theorem dX1_says_16 : decode cX1_says 16 = .ok (.invokestatic 21, 3) := by decide +kernel
theorem dX1_says_19 : decode cX1_says 19 = .ok (.ireturn, 1) := by decide +kernel
theorem dX1_tellingMost_0 : decode cX1_tellingMost 0 = .ok (.iload_n 2, 1) := by decide +kernel
theorem dX1_tellingMost_1 : decode cX1_tellingMost 1 = .ok (.ifCond .ne 5, 3) := by decide +kernel
theorem dX1_tellingMost_4 : decode cX1_tellingMost 4 = .ok (.iconst (-1), 1) := by decide +kernel
theorem dX1_tellingMost_5 : decode cX1_tellingMost 5 = .ok (.ireturn, 1) := by decide +kernel
theorem dX1_tellingMost_6 : decode cX1_tellingMost 6 = .ok (.iconst (-1), 1) := by decide +kernel
theorem dX1_tellingMost_7 : decode cX1_tellingMost 7 = .ok (.istore 5, 2) := by decide +kernel
theorem dX1_tellingMost_9 : decode cX1_tellingMost 9 = .ok (.bipush 7, 2) := by decide +kernel
theorem dX1_tellingMost_11 : decode cX1_tellingMost 11 = .ok (.istore 6, 2) := by decide +kernel
theorem dX1_tellingMost_13 : decode cX1_tellingMost 13 = .ok (.iload_n 3, 1) := by decide +kernel
theorem dX1_tellingMost_14 : decode cX1_tellingMost 14 = .ok (.istore 7, 2) := by decide +kernel
theorem dX1_tellingMost_16 : decode cX1_tellingMost 16 = .ok (.iload 7, 2) := by decide +kernel
theorem dX1_tellingMost_18 : decode cX1_tellingMost 18 = .ok (.iload 4, 2) := by decide +kernel
theorem dX1_tellingMost_20 : decode cX1_tellingMost 20 = .ok (.if_icmp .gt 67, 3) := by decide +kernel
theorem dX1_tellingMost_23 : decode cX1_tellingMost 23 = .ok (.iconst 0, 1) := by decide +kernel
theorem dX1_tellingMost_24 : decode cX1_tellingMost 24 = .ok (.istore 8, 2) := by decide +kernel
theorem dX1_tellingMost_26 : decode cX1_tellingMost 26 = .ok (.iload 8, 2) := by decide +kernel
theorem dX1_tellingMost_28 : decode cX1_tellingMost 28 = .ok (.bipush 24, 2) := by decide +kernel
theorem dX1_tellingMost_30 : decode cX1_tellingMost 30 = .ok (.if_icmp .ge 51, 3) := by decide +kernel
theorem dX1_tellingMost_33 : decode cX1_tellingMost 33 = .ok (.aload_n 0, 1) := by decide +kernel
theorem dX1_tellingMost_34 : decode cX1_tellingMost 34 = .ok (.iload_n 1, 1) := by decide +kernel
theorem dX1_tellingMost_35 : decode cX1_tellingMost 35 = .ok (.iload_n 2, 1) := by decide +kernel
theorem dX1_tellingMost_36 : decode cX1_tellingMost 36 = .ok (.iload 7, 2) := by decide +kernel
theorem dX1_tellingMost_38 : decode cX1_tellingMost 38 = .ok (.iload 8, 2) := by decide +kernel
theorem dX1_tellingMost_40 : decode cX1_tellingMost 40 = .ok (.invokevirtual 32, 3) := by decide +kernel
theorem dX1_tellingMost_43 : decode cX1_tellingMost 43 = .ok (.istore 9, 2) := by decide +kernel
theorem dX1_tellingMost_45 : decode cX1_tellingMost 45 = .ok (.iload 9, 2) := by decide +kernel
theorem dX1_tellingMost_47 : decode cX1_tellingMost 47 = .ok (.iload 6, 2) := by decide +kernel
theorem dX1_tellingMost_49 : decode cX1_tellingMost 49 = .ok (.if_icmp .ge 17, 3) := by decide +kernel
theorem dX1_tellingMost_52 : decode cX1_tellingMost 52 = .ok (.iload 9, 2) := by decide +kernel
theorem dX1_tellingMost_54 : decode cX1_tellingMost 54 = .ok (.istore 6, 2) := by decide +kernel
theorem dX1_tellingMost_56 : decode cX1_tellingMost 56 = .ok (.bipush 100, 2) := by decide +kernel
theorem dX1_tellingMost_58 : decode cX1_tellingMost 58 = .ok (.iload 7, 2) := by decide +kernel
theorem dX1_tellingMost_60 : decode cX1_tellingMost 60 = .ok (.imul, 1) := by decide +kernel
theorem dX1_tellingMost_61 : decode cX1_tellingMost 61 = .ok (.iload 8, 2) := by decide +kernel
theorem dX1_tellingMost_63 : decode cX1_tellingMost 63 = .ok (.iadd, 1) := by decide +kernel
theorem dX1_tellingMost_64 : decode cX1_tellingMost 64 = .ok (.istore 5, 2) := by decide +kernel
theorem dX1_tellingMost_66 : decode cX1_tellingMost 66 = .ok (.iload 6, 2) := by decide +kernel
theorem dX1_tellingMost_68 : decode cX1_tellingMost 68 = .ok (.iconst 1, 1) := by decide +kernel
theorem dX1_tellingMost_69 : decode cX1_tellingMost 69 = .ok (.if_icmp .ne 6, 3) := by decide +kernel
theorem dX1_tellingMost_72 : decode cX1_tellingMost 72 = .ok (.iload 5, 2) := by decide +kernel
theorem dX1_tellingMost_74 : decode cX1_tellingMost 74 = .ok (.ireturn, 1) := by decide +kernel
theorem dX1_tellingMost_75 : decode cX1_tellingMost 75 = .ok (.iinc 8 1, 3) := by decide +kernel
theorem dX1_tellingMost_78 : decode cX1_tellingMost 78 = .ok (.goto (-52), 3) := by decide +kernel
theorem dX1_tellingMost_81 : decode cX1_tellingMost 81 = .ok (.iinc 7 1, 3) := by decide +kernel
theorem dX1_tellingMost_84 : decode cX1_tellingMost 84 = .ok (.goto (-68), 3) := by decide +kernel
theorem dX1_tellingMost_87 : decode cX1_tellingMost 87 = .ok (.iload 5, 2) := by decide +kernel
theorem dX1_tellingMost_89 : decode cX1_tellingMost 89 = .ok (.ireturn, 1) := by decide +kernel
theorem dX2_addCaster_0 : decode cX2_addCaster 0 = .ok (.aload_n 0, 1) := by decide +kernel
theorem dX2_addCaster_1 : decode cX2_addCaster 1 = .ok (.getfield 57, 3) := by decide +kernel
theorem dX2_addCaster_4 : decode cX2_addCaster 4 = .ok (.bipush 7, 2) := by decide +kernel
theorem dX2_addCaster_6 : decode cX2_addCaster 6 = .ok (.if_icmp .lt 6, 3) := by decide +kernel
theorem dX2_addCaster_9 : decode cX2_addCaster 9 = .ok (.bipush (-4), 2) := by decide +kernel
theorem dX2_addCaster_11 : decode cX2_addCaster 11 = .ok (.ireturn, 1) := by decide +kernel
theorem dX2_addCaster_12 : decode cX2_addCaster 12 = .ok (.aload_n 0, 1) := by decide +kernel
theorem dX2_addCaster_13 : decode cX2_addCaster 13 = .ok (.getfield 9, 3) := by decide +kernel
theorem dX2_addCaster_16 : decode cX2_addCaster 16 = .ok (.aload_n 0, 1) := by decide +kernel
theorem dX2_addCaster_17 : decode cX2_addCaster 17 = .ok (.getfield 57, 3) := by decide +kernel
theorem dX2_addCaster_20 : decode cX2_addCaster 20 = .ok (.iload_n 1, 1) := by decide +kernel
theorem dX2_addCaster_21 : decode cX2_addCaster 21 = .ok (.iastore, 1) := by decide +kernel
theorem dX2_addCaster_22 : decode cX2_addCaster 22 = .ok (.aload_n 0, 1) := by decide +kernel
theorem dX2_addCaster_23 : decode cX2_addCaster 23 = .ok (.getfield 15, 3) := by decide +kernel
theorem dX2_addCaster_26 : decode cX2_addCaster 26 = .ok (.aload_n 0, 1) := by decide +kernel
theorem dX2_addCaster_27 : decode cX2_addCaster 27 = .ok (.getfield 57, 3) := by decide +kernel
theorem dX2_addCaster_30 : decode cX2_addCaster 30 = .ok (.iload_n 2, 1) := by decide +kernel
theorem dX2_addCaster_31 : decode cX2_addCaster 31 = .ok (.iastore, 1) := by decide +kernel
theorem dX2_addCaster_32 : decode cX2_addCaster 32 = .ok (.aload_n 0, 1) := by decide +kernel
theorem dX2_addCaster_33 : decode cX2_addCaster 33 = .ok (.getfield 18, 3) := by decide +kernel
theorem dX2_addCaster_36 : decode cX2_addCaster 36 = .ok (.aload_n 0, 1) := by decide +kernel
theorem dX2_addCaster_37 : decode cX2_addCaster 37 = .ok (.getfield 57, 3) := by decide +kernel
theorem dX2_addCaster_40 : decode cX2_addCaster 40 = .ok (.iload_n 3, 1) := by decide +kernel
theorem dX2_addCaster_41 : decode cX2_addCaster 41 = .ok (.iastore, 1) := by decide +kernel
theorem dX2_addCaster_42 : decode cX2_addCaster 42 = .ok (.aload_n 0, 1) := by decide +kernel
theorem dX2_addCaster_43 : decode cX2_addCaster 43 = .ok (.dup, 1) := by decide +kernel
theorem dX2_addCaster_44 : decode cX2_addCaster 44 = .ok (.getfield 57, 3) := by decide +kernel
theorem dX2_addCaster_47 : decode cX2_addCaster 47 = .ok (.iconst 1, 1) := by decide +kernel
theorem dX2_addCaster_48 : decode cX2_addCaster 48 = .ok (.iadd, 1) := by decide +kernel
theorem dX2_addCaster_49 : decode cX2_addCaster 49 = .ok (.putfield 57, 3) := by decide +kernel
theorem dX2_addCaster_52 : decode cX2_addCaster 52 = .ok (.aload_n 0, 1) := by decide +kernel
theorem dX2_addCaster_53 : decode cX2_addCaster 53 = .ok (.getfield 57, 3) := by decide +kernel
theorem dX2_addCaster_56 : decode cX2_addCaster 56 = .ok (.iconst 1, 1) := by decide +kernel
theorem dX2_addCaster_57 : decode cX2_addCaster 57 = .ok (.isub, 1) := by decide +kernel
theorem dX2_addCaster_58 : decode cX2_addCaster 58 = .ok (.ireturn, 1) := by decide +kernel
theorem dX2_addJar_0 : decode cX2_addJar 0 = .ok (.aload_n 0, 1) := by decide +kernel
theorem dX2_addJar_1 : decode cX2_addJar 1 = .ok (.getfield 60, 3) := by decide +kernel
theorem dX2_addJar_4 : decode cX2_addJar 4 = .ok (.iconst 4, 1) := by decide +kernel
theorem dX2_addJar_5 : decode cX2_addJar 5 = .ok (.if_icmp .lt 6, 3) := by decide +kernel
theorem dX2_addJar_8 : decode cX2_addJar 8 = .ok (.bipush (-4), 2) := by decide +kernel
theorem dX2_addJar_10 : decode cX2_addJar 10 = .ok (.ireturn, 1) := by decide +kernel
theorem dX2_addJar_11 : decode cX2_addJar 11 = .ok (.aload_n 0, 1) := by decide +kernel
theorem dX2_addJar_12 : decode cX2_addJar 12 = .ok (.getfield 21, 3) := by decide +kernel
theorem dX2_addJar_15 : decode cX2_addJar 15 = .ok (.aload_n 0, 1) := by decide +kernel
theorem dX2_addJar_16 : decode cX2_addJar 16 = .ok (.getfield 60, 3) := by decide +kernel
theorem dX2_addJar_19 : decode cX2_addJar 19 = .ok (.iload_n 1, 1) := by decide +kernel
theorem dX2_addJar_20 : decode cX2_addJar 20 = .ok (.iastore, 1) := by decide +kernel
theorem dX2_addJar_21 : decode cX2_addJar 21 = .ok (.aload_n 0, 1) := by decide +kernel
theorem dX2_addJar_22 : decode cX2_addJar 22 = .ok (.getfield 24, 3) := by decide +kernel
theorem dX2_addJar_25 : decode cX2_addJar 25 = .ok (.aload_n 0, 1) := by decide +kernel
theorem dX2_addJar_26 : decode cX2_addJar 26 = .ok (.getfield 60, 3) := by decide +kernel
theorem dX2_addJar_29 : decode cX2_addJar 29 = .ok (.iconst 0, 1) := by decide +kernel
theorem dX2_addJar_30 : decode cX2_addJar 30 = .ok (.iastore, 1) := by decide +kernel
theorem dX2_addJar_31 : decode cX2_addJar 31 = .ok (.aload_n 0, 1) := by decide +kernel
theorem dX2_addJar_32 : decode cX2_addJar 32 = .ok (.getfield 27, 3) := by decide +kernel
theorem dX2_addJar_35 : decode cX2_addJar 35 = .ok (.aload_n 0, 1) := by decide +kernel
theorem dX2_addJar_36 : decode cX2_addJar 36 = .ok (.getfield 60, 3) := by decide +kernel
theorem dX2_addJar_39 : decode cX2_addJar 39 = .ok (.iconst (-1), 1) := by decide +kernel
theorem dX2_addJar_40 : decode cX2_addJar 40 = .ok (.iastore, 1) := by decide +kernel
theorem dX2_addJar_41 : decode cX2_addJar 41 = .ok (.aload_n 0, 1) := by decide +kernel
theorem dX2_addJar_42 : decode cX2_addJar 42 = .ok (.dup, 1) := by decide +kernel
theorem dX2_addJar_43 : decode cX2_addJar 43 = .ok (.getfield 60, 3) := by decide +kernel
theorem dX2_addJar_46 : decode cX2_addJar 46 = .ok (.iconst 1, 1) := by decide +kernel
theorem dX2_addJar_47 : decode cX2_addJar 47 = .ok (.iadd, 1) := by decide +kernel
theorem dX2_addJar_48 : decode cX2_addJar 48 = .ok (.putfield 60, 3) := by decide +kernel
theorem dX2_addJar_51 : decode cX2_addJar 51 = .ok (.aload_n 0, 1) := by decide +kernel
theorem dX2_addJar_52 : decode cX2_addJar 52 = .ok (.getfield 60, 3) := by decide +kernel
theorem dX2_addJar_55 : decode cX2_addJar 55 = .ok (.iconst 1, 1) := by decide +kernel
theorem dX2_addJar_56 : decode cX2_addJar 56 = .ok (.isub, 1) := by decide +kernel
theorem dX2_addJar_57 : decode cX2_addJar 57 = .ok (.ireturn, 1) := by decide +kernel
theorem dX2_become_0 : decode cX2_become 0 = .ok (.aload_n 0, 1) := by decide +kernel
theorem dX2_become_1 : decode cX2_become 1 = .ok (.aload_n 1, 1) := by decide +kernel
theorem dX2_become_2 : decode cX2_become 2 = .ok (.getfield 47, 3) := by decide +kernel
theorem dX2_become_5 : decode cX2_become 5 = .ok (.putfield 47, 3) := by decide +kernel
theorem dX2_become_8 : decode cX2_become 8 = .ok (.aload_n 0, 1) := by decide +kernel
theorem dX2_become_9 : decode cX2_become 9 = .ok (.aload_n 1, 1) := by decide +kernel
theorem dX2_become_10 : decode cX2_become 10 = .ok (.getfield 51, 3) := by decide +kernel
theorem dX2_become_13 : decode cX2_become 13 = .ok (.putfield 51, 3) := by decide +kernel
theorem dX2_become_16 : decode cX2_become 16 = .ok (.aload_n 0, 1) := by decide +kernel
theorem dX2_become_17 : decode cX2_become 17 = .ok (.aload_n 1, 1) := by decide +kernel
theorem dX2_become_18 : decode cX2_become 18 = .ok (.getfield 54, 3) := by decide +kernel
theorem dX2_become_21 : decode cX2_become 21 = .ok (.putfield 54, 3) := by decide +kernel
theorem dX2_become_24 : decode cX2_become 24 = .ok (.aload_n 0, 1) := by decide +kernel
theorem dX2_become_25 : decode cX2_become 25 = .ok (.aload_n 1, 1) := by decide +kernel
theorem dX2_become_26 : decode cX2_become 26 = .ok (.getfield 57, 3) := by decide +kernel
theorem dX2_become_29 : decode cX2_become 29 = .ok (.putfield 57, 3) := by decide +kernel
theorem dX2_become_32 : decode cX2_become 32 = .ok (.aload_n 0, 1) := by decide +kernel
theorem dX2_become_33 : decode cX2_become 33 = .ok (.aload_n 1, 1) := by decide +kernel
theorem dX2_become_34 : decode cX2_become 34 = .ok (.getfield 60, 3) := by decide +kernel
theorem dX2_become_37 : decode cX2_become 37 = .ok (.putfield 60, 3) := by decide +kernel
theorem dX2_become_40 : decode cX2_become 40 = .ok (.aload_n 1, 1) := by decide +kernel
theorem dX2_become_41 : decode cX2_become 41 = .ok (.getfield 9, 3) := by decide +kernel
theorem dX2_become_44 : decode cX2_become 44 = .ok (.iconst 0, 1) := by decide +kernel
theorem dX2_become_45 : decode cX2_become 45 = .ok (.aload_n 0, 1) := by decide +kernel
theorem dX2_become_46 : decode cX2_become 46 = .ok (.getfield 9, 3) := by decide +kernel
theorem dX2_become_49 : decode cX2_become 49 = .ok (.iconst 0, 1) := by decide +kernel
theorem dX2_become_50 : decode cX2_become 50 = .ok (.bipush 7, 2) := by decide +kernel
theorem dX2_become_52 : decode cX2_become 52 = .ok (.invokestatic 69, 3) := by decide +kernel
theorem dX2_become_55 : decode cX2_become 55 = .ok (.aload_n 1, 1) := by decide +kernel
theorem dX2_become_56 : decode cX2_become 56 = .ok (.getfield 15, 3) := by decide +kernel
theorem dX2_become_59 : decode cX2_become 59 = .ok (.iconst 0, 1) := by decide +kernel
theorem dX2_become_60 : decode cX2_become 60 = .ok (.aload_n 0, 1) := by decide +kernel
theorem dX2_become_61 : decode cX2_become 61 = .ok (.getfield 15, 3) := by decide +kernel
theorem dX2_become_64 : decode cX2_become 64 = .ok (.iconst 0, 1) := by decide +kernel
theorem dX2_become_65 : decode cX2_become 65 = .ok (.bipush 7, 2) := by decide +kernel
theorem dX2_become_67 : decode cX2_become 67 = .ok (.invokestatic 69, 3) := by decide +kernel
theorem dX2_become_70 : decode cX2_become 70 = .ok (.aload_n 1, 1) := by decide +kernel
theorem dX2_become_71 : decode cX2_become 71 = .ok (.getfield 18, 3) := by decide +kernel
theorem dX2_become_74 : decode cX2_become 74 = .ok (.iconst 0, 1) := by decide +kernel
theorem dX2_become_75 : decode cX2_become 75 = .ok (.aload_n 0, 1) := by decide +kernel
theorem dX2_become_76 : decode cX2_become 76 = .ok (.getfield 18, 3) := by decide +kernel
theorem dX2_become_79 : decode cX2_become 79 = .ok (.iconst 0, 1) := by decide +kernel
theorem dX2_become_80 : decode cX2_become 80 = .ok (.bipush 7, 2) := by decide +kernel
theorem dX2_become_82 : decode cX2_become 82 = .ok (.invokestatic 69, 3) := by decide +kernel
theorem dX2_become_85 : decode cX2_become 85 = .ok (.aload_n 1, 1) := by decide +kernel
theorem dX2_become_86 : decode cX2_become 86 = .ok (.getfield 21, 3) := by decide +kernel
theorem dX2_become_89 : decode cX2_become 89 = .ok (.iconst 0, 1) := by decide +kernel
theorem dX2_become_90 : decode cX2_become 90 = .ok (.aload_n 0, 1) := by decide +kernel
theorem dX2_become_91 : decode cX2_become 91 = .ok (.getfield 21, 3) := by decide +kernel
theorem dX2_become_94 : decode cX2_become 94 = .ok (.iconst 0, 1) := by decide +kernel
theorem dX2_become_95 : decode cX2_become 95 = .ok (.iconst 4, 1) := by decide +kernel
theorem dX2_become_96 : decode cX2_become 96 = .ok (.invokestatic 69, 3) := by decide +kernel
theorem dX2_become_99 : decode cX2_become 99 = .ok (.aload_n 1, 1) := by decide +kernel
theorem dX2_become_100 : decode cX2_become 100 = .ok (.getfield 24, 3) := by decide +kernel
theorem dX2_become_103 : decode cX2_become 103 = .ok (.iconst 0, 1) := by decide +kernel
theorem dX2_become_104 : decode cX2_become 104 = .ok (.aload_n 0, 1) := by decide +kernel
theorem dX2_become_105 : decode cX2_become 105 = .ok (.getfield 24, 3) := by decide +kernel
theorem dX2_become_108 : decode cX2_become 108 = .ok (.iconst 0, 1) := by decide +kernel
theorem dX2_become_109 : decode cX2_become 109 = .ok (.iconst 4, 1) := by decide +kernel
theorem dX2_become_110 : decode cX2_become 110 = .ok (.invokestatic 69, 3) := by decide +kernel
theorem dX2_become_113 : decode cX2_become 113 = .ok (.aload_n 1, 1) := by decide +kernel
theorem dX2_become_114 : decode cX2_become 114 = .ok (.getfield 27, 3) := by decide +kernel
theorem dX2_become_117 : decode cX2_become 117 = .ok (.iconst 0, 1) := by decide +kernel
theorem dX2_become_118 : decode cX2_become 118 = .ok (.aload_n 0, 1) := by decide +kernel
theorem dX2_become_119 : decode cX2_become 119 = .ok (.getfield 27, 3) := by decide +kernel
theorem dX2_become_122 : decode cX2_become 122 = .ok (.iconst 0, 1) := by decide +kernel
theorem dX2_become_123 : decode cX2_become 123 = .ok (.iconst 4, 1) := by decide +kernel
theorem dX2_become_124 : decode cX2_become 124 = .ok (.invokestatic 69, 3) := by decide +kernel
theorem dX2_become_127 : decode cX2_become 127 = .ok (.aload_n 0, 1) := by decide +kernel
theorem dX2_become_128 : decode cX2_become 128 = .ok (.getfield 33, 3) := by decide +kernel
theorem dX2_become_131 : decode cX2_become 131 = .ok (.aload_n 1, 1) := by decide +kernel
theorem dX2_become_132 : decode cX2_become 132 = .ok (.getfield 33, 3) := by decide +kernel
theorem dX2_become_135 : decode cX2_become 135 = .ok (.invokevirtual 75, 3) := by decide +kernel
theorem dX2_become_138 : decode cX2_become 138 = .ok (.aload_n 0, 1) := by decide +kernel
theorem dX2_become_139 : decode cX2_become 139 = .ok (.getfield 37, 3) := by decide +kernel
theorem dX2_become_142 : decode cX2_become 142 = .ok (.aload_n 1, 1) := by decide +kernel
theorem dX2_become_143 : decode cX2_become 143 = .ok (.getfield 37, 3) := by decide +kernel
theorem dX2_become_146 : decode cX2_become 146 = .ok (.invokevirtual 75, 3) := by decide +kernel
theorem dX2_become_149 : decode cX2_become 149 = .ok (.aload_n 0, 1) := by decide +kernel
theorem dX2_become_150 : decode cX2_become 150 = .ok (.getfield 43, 3) := by decide +kernel
theorem dX2_become_153 : decode cX2_become 153 = .ok (.aload_n 1, 1) := by decide +kernel
theorem dX2_become_154 : decode cX2_become 154 = .ok (.getfield 43, 3) := by decide +kernel
theorem dX2_become_157 : decode cX2_become 157 = .ok (.invokevirtual 79, 3) := by decide +kernel
theorem dX2_become_160 : decode cX2_become 160 = .ok (.return_, 1) := by decide +kernel
theorem dX2_begin_0 : decode cX2_begin 0 = .ok (.aload_n 0, 1) := by decide +kernel
theorem dX2_begin_1 : decode cX2_begin 1 = .ok (.iload_n 1, 1) := by decide +kernel
theorem dX2_begin_2 : decode cX2_begin 2 = .ok (.putfield 47, 3) := by decide +kernel
theorem dX2_begin_5 : decode cX2_begin 5 = .ok (.aload_n 0, 1) := by decide +kernel
theorem dX2_begin_6 : decode cX2_begin 6 = .ok (.iconst 0, 1) := by decide +kernel
theorem dX2_begin_7 : decode cX2_begin 7 = .ok (.putfield 51, 3) := by decide +kernel
theorem dX2_begin_10 : decode cX2_begin 10 = .ok (.aload_n 0, 1) := by decide +kernel
theorem dX2_begin_11 : decode cX2_begin 11 = .ok (.iconst 0, 1) := by decide +kernel
theorem dX2_begin_12 : decode cX2_begin 12 = .ok (.putfield 54, 3) := by decide +kernel
theorem dX2_begin_15 : decode cX2_begin 15 = .ok (.aload_n 0, 1) := by decide +kernel
theorem dX2_begin_16 : decode cX2_begin 16 = .ok (.iconst 0, 1) := by decide +kernel
theorem dX2_begin_17 : decode cX2_begin 17 = .ok (.putfield 57, 3) := by decide +kernel
theorem dX2_begin_20 : decode cX2_begin 20 = .ok (.aload_n 0, 1) := by decide +kernel
theorem dX2_begin_21 : decode cX2_begin 21 = .ok (.iconst 0, 1) := by decide +kernel
theorem dX2_begin_22 : decode cX2_begin 22 = .ok (.putfield 60, 3) := by decide +kernel
theorem dX2_begin_25 : decode cX2_begin 25 = .ok (.aload_n 0, 1) := by decide +kernel
theorem dX2_begin_26 : decode cX2_begin 26 = .ok (.getfield 33, 3) := by decide +kernel
theorem dX2_begin_29 : decode cX2_begin 29 = .ok (.invokevirtual 63, 3) := by decide +kernel
theorem dX2_begin_32 : decode cX2_begin 32 = .ok (.pop, 1) := by decide +kernel
theorem dX2_begin_33 : decode cX2_begin 33 = .ok (.aload_n 0, 1) := by decide +kernel
theorem dX2_begin_34 : decode cX2_begin 34 = .ok (.getfield 37, 3) := by decide +kernel
theorem dX2_begin_37 : decode cX2_begin 37 = .ok (.invokevirtual 63, 3) := by decide +kernel
theorem dX2_begin_40 : decode cX2_begin 40 = .ok (.pop, 1) := by decide +kernel
theorem dX2_begin_41 : decode cX2_begin 41 = .ok (.aload_n 0, 1) := by decide +kernel
theorem dX2_begin_42 : decode cX2_begin 42 = .ok (.getfield 43, 3) := by decide +kernel
theorem dX2_begin_45 : decode cX2_begin 45 = .ok (.invokevirtual 67, 3) := by decide +kernel
theorem dX2_begin_48 : decode cX2_begin 48 = .ok (.return_, 1) := by decide +kernel
theorem dX2_coolBehind_0 : decode cX2_coolBehind 0 = .ok (.aload_n 0, 1) := by decide +kernel
theorem dX2_coolBehind_1 : decode cX2_coolBehind 1 = .ok (.getfield 21, 3) := by decide +kernel
theorem dX2_coolBehind_4 : decode cX2_coolBehind 4 = .ok (.iload_n 1, 1) := by decide +kernel
theorem dX2_coolBehind_5 : decode cX2_coolBehind 5 = .ok (.iaload, 1) := by decide +kernel
theorem dX2_coolBehind_6 : decode cX2_coolBehind 6 = .ok (.aload_n 0, 1) := by decide +kernel
theorem dX2_coolBehind_7 : decode cX2_coolBehind 7 = .ok (.getfield 24, 3) := by decide +kernel
theorem dX2_coolBehind_10 : decode cX2_coolBehind 10 = .ok (.iload_n 1, 1) := by decide +kernel
theorem dX2_coolBehind_11 : decode cX2_coolBehind 11 = .ok (.iaload, 1) := by decide +kernel
theorem dX2_coolBehind_12 : decode cX2_coolBehind 12 = .ok (.aload_n 0, 1) := by decide +kernel
theorem dX2_coolBehind_13 : decode cX2_coolBehind 13 = .ok (.getfield 47, 3) := by decide +kernel
theorem dX2_coolBehind_16 : decode cX2_coolBehind 16 = .ok (.iload_n 2, 1) := by decide +kernel
theorem dX2_coolBehind_17 : decode cX2_coolBehind 17 = .ok (.invokestatic 88, 3) := by decide +kernel
theorem dX2_coolBehind_20 : decode cX2_coolBehind 20 = .ok (.ireturn, 1) := by decide +kernel
theorem dX2_coolInAll_0 : decode cX2_coolInAll 0 = .ok (.iconst 0, 1) := by decide +kernel
theorem dX2_coolInAll_1 : decode cX2_coolInAll 1 = .ok (.istore_n 1, 1) := by decide +kernel
theorem dX2_coolInAll_2 : decode cX2_coolInAll 2 = .ok (.iconst 0, 1) := by decide +kernel
theorem dX2_coolInAll_3 : decode cX2_coolInAll 3 = .ok (.istore_n 2, 1) := by decide +kernel
theorem dX2_coolInAll_4 : decode cX2_coolInAll 4 = .ok (.iload_n 2, 1) := by decide +kernel
theorem dX2_coolInAll_5 : decode cX2_coolInAll 5 = .ok (.aload_n 0, 1) := by decide +kernel
theorem dX2_coolInAll_6 : decode cX2_coolInAll 6 = .ok (.getfield 60, 3) := by decide +kernel
theorem dX2_coolInAll_9 : decode cX2_coolInAll 9 = .ok (.if_icmp .ge 18, 3) := by decide +kernel
theorem dX2_coolInAll_12 : decode cX2_coolInAll 12 = .ok (.iload_n 1, 1) := by decide +kernel
theorem dX2_coolInAll_13 : decode cX2_coolInAll 13 = .ok (.aload_n 0, 1) := by decide +kernel
theorem dX2_coolInAll_14 : decode cX2_coolInAll 14 = .ok (.getfield 24, 3) := by decide +kernel
theorem dX2_coolInAll_17 : decode cX2_coolInAll 17 = .ok (.iload_n 2, 1) := by decide +kernel
theorem dX2_coolInAll_18 : decode cX2_coolInAll 18 = .ok (.iaload, 1) := by decide +kernel
theorem dX2_coolInAll_19 : decode cX2_coolInAll 19 = .ok (.iadd, 1) := by decide +kernel
theorem dX2_coolInAll_20 : decode cX2_coolInAll 20 = .ok (.istore_n 1, 1) := by decide +kernel
theorem dX2_coolInAll_21 : decode cX2_coolInAll 21 = .ok (.iinc 2 1, 3) := by decide +kernel
theorem dX2_coolInAll_24 : decode cX2_coolInAll 24 = .ok (.goto (-20), 3) := by decide +kernel
theorem dX2_coolInAll_27 : decode cX2_coolInAll 27 = .ok (.iload_n 1, 1) := by decide +kernel
theorem dX2_coolInAll_28 : decode cX2_coolInAll 28 = .ok (.ireturn, 1) := by decide +kernel
theorem dX2_drain_0 : decode cX2_drain 0 = .ok (.aload_n 0, 1) := by decide +kernel
theorem dX2_drain_1 : decode cX2_drain 1 = .ok (.getfield 24, 3) := by decide +kernel
theorem dX2_drain_4 : decode cX2_drain 4 = .ok (.iload_n 1, 1) := by decide +kernel
theorem dX2_drain_5 : decode cX2_drain 5 = .ok (.dup2, 1) := by decide +kernel
theorem dX2_drain_6 : decode cX2_drain 6 = .ok (.iaload, 1) := by decide +kernel
theorem dX2_drain_7 : decode cX2_drain 7 = .ok (.iload_n 2, 1) := by decide +kernel
theorem dX2_drain_8 : decode cX2_drain 8 = .ok (.isub, 1) := by decide +kernel
theorem dX2_drain_9 : decode cX2_drain 9 = .ok (.iastore, 1) := by decide +kernel
theorem dX2_drain_10 : decode cX2_drain 10 = .ok (.aload_n 0, 1) := by decide +kernel
theorem dX2_drain_11 : decode cX2_drain 11 = .ok (.getfield 24, 3) := by decide +kernel
theorem dX2_drain_14 : decode cX2_drain 14 = .ok (.iload_n 1, 1) := by decide +kernel
theorem dX2_drain_15 : decode cX2_drain 15 = .ok (.iaload, 1) := by decide +kernel
theorem dX2_drain_16 : decode cX2_drain 16 = .ok (.ifCond .ne 10, 3) := by decide +kernel
theorem dX2_drain_19 : decode cX2_drain 19 = .ok (.aload_n 0, 1) := by decide +kernel
theorem dX2_drain_20 : decode cX2_drain 20 = .ok (.getfield 27, 3) := by decide +kernel
theorem dX2_drain_23 : decode cX2_drain 23 = .ok (.iload_n 1, 1) := by decide +kernel
theorem dX2_drain_24 : decode cX2_drain 24 = .ok (.iconst (-1), 1) := by decide +kernel
theorem dX2_drain_25 : decode cX2_drain 25 = .ok (.iastore, 1) := by decide +kernel
theorem dX2_drain_26 : decode cX2_drain 26 = .ok (.return_, 1) := by decide +kernel
theorem dX2_draw_0 : decode cX2_draw 0 = .ok (.aload_n 0, 1) := by decide +kernel
theorem dX2_draw_1 : decode cX2_draw 1 = .ok (.dup, 1) := by decide +kernel
theorem dX2_draw_2 : decode cX2_draw 2 = .ok (.getfield 54, 3) := by decide +kernel
theorem dX2_draw_5 : decode cX2_draw 5 = .ok (.iconst 1, 1) := by decide +kernel
theorem dX2_draw_6 : decode cX2_draw 6 = .ok (.iload_n 1, 1) := by decide +kernel
theorem dX2_draw_7 : decode cX2_draw 7 = .ok (.ishl, 1) := by decide +kernel
theorem dX2_draw_8 : decode cX2_draw 8 = .ok (.ior, 1) := by decide +kernel
theorem dX2_draw_9 : decode cX2_draw 9 = .ok (.putfield 54, 3) := by decide +kernel
theorem dX2_draw_12 : decode cX2_draw 12 = .ok (.aload_n 0, 1) := by decide +kernel
theorem dX2_draw_13 : decode cX2_draw 13 = .ok (.iload_n 2, 1) := by decide +kernel
theorem dX2_draw_14 : decode cX2_draw 14 = .ok (.aload_n 0, 1) := by decide +kernel
theorem dX2_draw_15 : decode cX2_draw 15 = .ok (.iload_n 1, 1) := by decide +kernel
theorem dX2_draw_16 : decode cX2_draw 16 = .ok (.iconst 0, 1) := by decide +kernel
theorem dX2_draw_17 : decode cX2_draw 17 = .ok (.invokevirtual 98, 3) := by decide +kernel
theorem dX2_draw_20 : decode cX2_draw 20 = .ok (.aload_n 0, 1) := by decide +kernel
theorem dX2_draw_21 : decode cX2_draw 21 = .ok (.getfield 18, 3) := by decide +kernel
theorem dX2_draw_24 : decode cX2_draw 24 = .ok (.iload_n 1, 1) := by decide +kernel
theorem dX2_draw_25 : decode cX2_draw 25 = .ok (.iaload, 1) := by decide +kernel
theorem dX2_draw_26 : decode cX2_draw 26 = .ok (.invokevirtual 102, 3) := by decide +kernel
theorem dX2_draw_29 : decode cX2_draw 29 = .ok (.ireturn, 1) := by decide +kernel
theorem dX2_fill_0 : decode cX2_fill 0 = .ok (.iload_n 2, 1) := by decide +kernel
theorem dX2_fill_1 : decode cX2_fill 1 = .ok (.bipush 60, 2) := by decide +kernel
theorem dX2_fill_3 : decode cX2_fill 3 = .ok (.aload_n 0, 1) := by decide +kernel
theorem dX2_fill_4 : decode cX2_fill 4 = .ok (.getfield 24, 3) := by decide +kernel
theorem dX2_fill_7 : decode cX2_fill 7 = .ok (.iload_n 1, 1) := by decide +kernel
theorem dX2_fill_8 : decode cX2_fill 8 = .ok (.iaload, 1) := by decide +kernel
theorem dX2_fill_9 : decode cX2_fill 9 = .ok (.isub, 1) := by decide +kernel
theorem dX2_fill_10 : decode cX2_fill 10 = .ok (.invokestatic 109, 3) := by decide +kernel
theorem dX2_fill_13 : decode cX2_fill 13 = .ok (.istore 4, 2) := by decide +kernel
theorem dX2_fill_15 : decode cX2_fill 15 = .ok (.iload 4, 2) := by decide +kernel
theorem dX2_fill_17 : decode cX2_fill 17 = .ok (.ifCond .le 44, 3) := by decide +kernel
theorem dX2_fill_20 : decode cX2_fill 20 = .ok (.aload_n 0, 1) := by decide +kernel
theorem dX2_fill_21 : decode cX2_fill 21 = .ok (.getfield 27, 3) := by decide +kernel
theorem dX2_fill_24 : decode cX2_fill 24 = .ok (.iload_n 1, 1) := by decide +kernel
theorem dX2_fill_25 : decode cX2_fill 25 = .ok (.aload_n 0, 1) := by decide +kernel
theorem dX2_fill_26 : decode cX2_fill 26 = .ok (.getfield 24, 3) := by decide +kernel
theorem dX2_fill_29 : decode cX2_fill 29 = .ok (.iload_n 1, 1) := by decide +kernel
theorem dX2_fill_30 : decode cX2_fill 30 = .ok (.iaload, 1) := by decide +kernel
theorem dX2_fill_31 : decode cX2_fill 31 = .ok (.ifCond .eq 13, 3) := by decide +kernel
theorem dX2_fill_34 : decode cX2_fill 34 = .ok (.aload_n 0, 1) := by decide +kernel
theorem dX2_fill_35 : decode cX2_fill 35 = .ok (.getfield 27, 3) := by decide +kernel
theorem dX2_fill_38 : decode cX2_fill 38 = .ok (.iload_n 1, 1) := by decide +kernel
theorem dX2_fill_39 : decode cX2_fill 39 = .ok (.iaload, 1) := by decide +kernel
theorem dX2_fill_40 : decode cX2_fill 40 = .ok (.iload_n 3, 1) := by decide +kernel
theorem dX2_fill_41 : decode cX2_fill 41 = .ok (.if_icmp .ne 7, 3) := by decide +kernel
theorem dX2_fill_44 : decode cX2_fill 44 = .ok (.iload_n 3, 1) := by decide +kernel
theorem dX2_fill_45 : decode cX2_fill 45 = .ok (.goto 4, 3) := by decide +kernel
theorem dX2_fill_48 : decode cX2_fill 48 = .ok (.iconst 4, 1) := by decide +kernel
theorem dX2_fill_49 : decode cX2_fill 49 = .ok (.iastore, 1) := by decide +kernel
theorem dX2_fill_50 : decode cX2_fill 50 = .ok (.aload_n 0, 1) := by decide +kernel
theorem dX2_fill_51 : decode cX2_fill 51 = .ok (.getfield 24, 3) := by decide +kernel
theorem dX2_fill_54 : decode cX2_fill 54 = .ok (.iload_n 1, 1) := by decide +kernel
theorem dX2_fill_55 : decode cX2_fill 55 = .ok (.dup2, 1) := by decide +kernel
theorem dX2_fill_56 : decode cX2_fill 56 = .ok (.iaload, 1) := by decide +kernel
theorem dX2_fill_57 : decode cX2_fill 57 = .ok (.iload 4, 2) := by decide +kernel
theorem dX2_fill_59 : decode cX2_fill 59 = .ok (.iadd, 1) := by decide +kernel
theorem dX2_fill_60 : decode cX2_fill 60 = .ok (.iastore, 1) := by decide +kernel
theorem dX2_fill_61 : decode cX2_fill 61 = .ok (.iload 4, 2) := by decide +kernel
theorem dX2_fill_63 : decode cX2_fill 63 = .ok (.ireturn, 1) := by decide +kernel
theorem dX2_givenBehind_0 : decode cX2_givenBehind 0 = .ok (.aload_n 0, 1) := by decide +kernel
theorem dX2_givenBehind_1 : decode cX2_givenBehind 1 = .ok (.getfield 9, 3) := by decide +kernel
theorem dX2_givenBehind_4 : decode cX2_givenBehind 4 = .ok (.iload_n 1, 1) := by decide +kernel
theorem dX2_givenBehind_5 : decode cX2_givenBehind 5 = .ok (.iaload, 1) := by decide +kernel
theorem dX2_givenBehind_6 : decode cX2_givenBehind 6 = .ok (.aload_n 0, 1) := by decide +kernel
theorem dX2_givenBehind_7 : decode cX2_givenBehind 7 = .ok (.getfield 15, 3) := by decide +kernel
theorem dX2_givenBehind_10 : decode cX2_givenBehind 10 = .ok (.iload_n 1, 1) := by decide +kernel
theorem dX2_givenBehind_11 : decode cX2_givenBehind 11 = .ok (.iaload, 1) := by decide +kernel
theorem dX2_givenBehind_12 : decode cX2_givenBehind 12 = .ok (.aload_n 0, 1) := by decide +kernel
theorem dX2_givenBehind_13 : decode cX2_givenBehind 13 = .ok (.getfield 47, 3) := by decide +kernel
theorem dX2_givenBehind_16 : decode cX2_givenBehind 16 = .ok (.iload_n 2, 1) := by decide +kernel
theorem dX2_givenBehind_17 : decode cX2_givenBehind 17 = .ok (.iadd, 1) := by decide +kernel
theorem dX2_givenBehind_18 : decode cX2_givenBehind 18 = .ok (.bipush 24, 2) := by decide +kernel
theorem dX2_givenBehind_20 : decode cX2_givenBehind 20 = .ok (.irem, 1) := by decide +kernel
theorem dX2_givenBehind_21 : decode cX2_givenBehind 21 = .ok (.invokestatic 82, 3) := by decide +kernel
theorem dX2_givenBehind_24 : decode cX2_givenBehind 24 = .ok (.ireturn, 1) := by decide +kernel
theorem dX2_givenBy_0 : decode cX2_givenBy 0 = .ok (.iconst 0, 1) := by decide +kernel
theorem dX2_givenBy_1 : decode cX2_givenBy 1 = .ok (.istore_n 2, 1) := by decide +kernel
theorem dX2_givenBy_2 : decode cX2_givenBy 2 = .ok (.iconst 0, 1) := by decide +kernel
theorem dX2_givenBy_3 : decode cX2_givenBy 3 = .ok (.istore_n 3, 1) := by decide +kernel
theorem dX2_givenBy_4 : decode cX2_givenBy 4 = .ok (.iload_n 3, 1) := by decide +kernel
theorem dX2_givenBy_5 : decode cX2_givenBy 5 = .ok (.aload_n 0, 1) := by decide +kernel
theorem dX2_givenBy_6 : decode cX2_givenBy 6 = .ok (.getfield 57, 3) := by decide +kernel
theorem dX2_givenBy_9 : decode cX2_givenBy 9 = .ok (.if_icmp .ge 26, 3) := by decide +kernel
theorem dX2_givenBy_12 : decode cX2_givenBy 12 = .ok (.iload_n 1, 1) := by decide +kernel
theorem dX2_givenBy_13 : decode cX2_givenBy 13 = .ok (.iload_n 3, 1) := by decide +kernel
theorem dX2_givenBy_14 : decode cX2_givenBy 14 = .ok (.ishr, 1) := by decide +kernel
theorem dX2_givenBy_15 : decode cX2_givenBy 15 = .ok (.iconst 1, 1) := by decide +kernel
theorem dX2_givenBy_16 : decode cX2_givenBy 16 = .ok (.iand, 1) := by decide +kernel
theorem dX2_givenBy_17 : decode cX2_givenBy 17 = .ok (.ifCond .eq 12, 3) := by decide +kernel
theorem dX2_givenBy_20 : decode cX2_givenBy 20 = .ok (.iload_n 2, 1) := by decide +kernel
theorem dX2_givenBy_21 : decode cX2_givenBy 21 = .ok (.aload_n 0, 1) := by decide +kernel
theorem dX2_givenBy_22 : decode cX2_givenBy 22 = .ok (.iload_n 3, 1) := by decide +kernel
theorem dX2_givenBy_23 : decode cX2_givenBy 23 = .ok (.iconst 0, 1) := by decide +kernel
theorem dX2_givenBy_24 : decode cX2_givenBy 24 = .ok (.invokevirtual 98, 3) := by decide +kernel
theorem dX2_givenBy_27 : decode cX2_givenBy 27 = .ok (.iadd, 1) := by decide +kernel
theorem dX2_givenBy_28 : decode cX2_givenBy 28 = .ok (.istore_n 2, 1) := by decide +kernel
theorem dX2_givenBy_29 : decode cX2_givenBy 29 = .ok (.iinc 3 1, 3) := by decide +kernel
theorem dX2_givenBy_32 : decode cX2_givenBy 32 = .ok (.goto (-28), 3) := by decide +kernel
theorem dX2_givenBy_35 : decode cX2_givenBy 35 = .ok (.iload_n 2, 1) := by decide +kernel
theorem dX2_givenBy_36 : decode cX2_givenBy 36 = .ok (.ireturn, 1) := by decide +kernel
theorem dX2_hasCaster_0 : decode cX2_hasCaster 0 = .ok (.iload_n 1, 1) := by decide +kernel
theorem dX2_hasCaster_1 : decode cX2_hasCaster 1 = .ok (.ifCond .lt 15, 3) := by decide +kernel
theorem dX2_hasCaster_4 : decode cX2_hasCaster 4 = .ok (.iload_n 1, 1) := by decide +kernel
theorem dX2_hasCaster_5 : decode cX2_hasCaster 5 = .ok (.aload_n 0, 1) := by decide +kernel
theorem dX2_hasCaster_6 : decode cX2_hasCaster 6 = .ok (.getfield 57, 3) := by decide +kernel
theorem dX2_hasCaster_9 : decode cX2_hasCaster 9 = .ok (.if_icmp .ge 7, 3) := by decide +kernel
theorem dX2_hasCaster_12 : decode cX2_hasCaster 12 = .ok (.iconst 1, 1) := by decide +kernel
theorem dX2_hasCaster_13 : decode cX2_hasCaster 13 = .ok (.goto 4, 3) := by decide +kernel
theorem dX2_hasCaster_16 : decode cX2_hasCaster 16 = .ok (.iconst 0, 1) := by decide +kernel
theorem dX2_hasCaster_17 : decode cX2_hasCaster 17 = .ok (.ireturn, 1) := by decide +kernel
theorem dX2_hasJar_0 : decode cX2_hasJar 0 = .ok (.iload_n 1, 1) := by decide +kernel
theorem dX2_hasJar_1 : decode cX2_hasJar 1 = .ok (.ifCond .lt 15, 3) := by decide +kernel
theorem dX2_hasJar_4 : decode cX2_hasJar 4 = .ok (.iload_n 1, 1) := by decide +kernel
theorem dX2_hasJar_5 : decode cX2_hasJar 5 = .ok (.aload_n 0, 1) := by decide +kernel
theorem dX2_hasJar_6 : decode cX2_hasJar 6 = .ok (.getfield 60, 3) := by decide +kernel
theorem dX2_hasJar_9 : decode cX2_hasJar 9 = .ok (.if_icmp .ge 7, 3) := by decide +kernel
theorem dX2_hasJar_12 : decode cX2_hasJar 12 = .ok (.iconst 1, 1) := by decide +kernel
theorem dX2_hasJar_13 : decode cX2_hasJar 13 = .ok (.goto 4, 3) := by decide +kernel
theorem dX2_hasJar_16 : decode cX2_hasJar 16 = .ok (.iconst 0, 1) := by decide +kernel
theorem dX2_hasJar_17 : decode cX2_hasJar 17 = .ok (.ireturn, 1) := by decide +kernel
theorem dX2_isMilked_0 : decode cX2_isMilked 0 = .ok (.aload_n 0, 1) := by decide +kernel
theorem dX2_isMilked_1 : decode cX2_isMilked 1 = .ok (.getfield 54, 3) := by decide +kernel
theorem dX2_isMilked_4 : decode cX2_isMilked 4 = .ok (.iload_n 1, 1) := by decide +kernel
theorem dX2_isMilked_5 : decode cX2_isMilked 5 = .ok (.ishr, 1) := by decide +kernel
theorem dX2_isMilked_6 : decode cX2_isMilked 6 = .ok (.iconst 1, 1) := by decide +kernel
theorem dX2_isMilked_7 : decode cX2_isMilked 7 = .ok (.iand, 1) := by decide +kernel
theorem dX2_isMilked_8 : decode cX2_isMilked 8 = .ok (.ifCond .eq 7, 3) := by decide +kernel
theorem dX2_isMilked_11 : decode cX2_isMilked 11 = .ok (.iconst 1, 1) := by decide +kernel
theorem dX2_isMilked_12 : decode cX2_isMilked 12 = .ok (.goto 4, 3) := by decide +kernel
theorem dX2_isMilked_15 : decode cX2_isMilked 15 = .ok (.iconst 0, 1) := by decide +kernel
theorem dX2_isMilked_16 : decode cX2_isMilked 16 = .ok (.ireturn, 1) := by decide +kernel
theorem dX2_mayDraw_0 : decode cX2_mayDraw 0 = .ok (.iconst 0, 1) := by decide +kernel
theorem dX2_mayDraw_1 : decode cX2_mayDraw 1 = .ok (.istore_n 3, 1) := by decide +kernel
theorem dX2_mayDraw_2 : decode cX2_mayDraw 2 = .ok (.iload_n 3, 1) := by decide +kernel
theorem dX2_mayDraw_3 : decode cX2_mayDraw 3 = .ok (.aload_n 0, 1) := by decide +kernel
theorem dX2_mayDraw_4 : decode cX2_mayDraw 4 = .ok (.getfield 57, 3) := by decide +kernel
theorem dX2_mayDraw_7 : decode cX2_mayDraw 7 = .ok (.if_icmp .ge 37, 3) := by decide +kernel
theorem dX2_mayDraw_10 : decode cX2_mayDraw 10 = .ok (.iload_n 1, 1) := by decide +kernel
theorem dX2_mayDraw_11 : decode cX2_mayDraw 11 = .ok (.iload_n 3, 1) := by decide +kernel
theorem dX2_mayDraw_12 : decode cX2_mayDraw 12 = .ok (.ishr, 1) := by decide +kernel
theorem dX2_mayDraw_13 : decode cX2_mayDraw 13 = .ok (.iconst 1, 1) := by decide +kernel
theorem dX2_mayDraw_14 : decode cX2_mayDraw 14 = .ok (.iand, 1) := by decide +kernel
theorem dX2_mayDraw_15 : decode cX2_mayDraw 15 = .ok (.ifCond .eq 23, 3) := by decide +kernel
theorem dX2_mayDraw_18 : decode cX2_mayDraw 18 = .ok (.aload_n 0, 1) := by decide +kernel
theorem dX2_mayDraw_19 : decode cX2_mayDraw 19 = .ok (.iload_n 3, 1) := by decide +kernel
theorem dX2_mayDraw_20 : decode cX2_mayDraw 20 = .ok (.invokevirtual 94, 3) := by decide +kernel
theorem dX2_mayDraw_23 : decode cX2_mayDraw 23 = .ok (.ifCond .ne 13, 3) := by decide +kernel
theorem dX2_mayDraw_26 : decode cX2_mayDraw 26 = .ok (.aload_n 0, 1) := by decide +kernel
theorem dX2_mayDraw_27 : decode cX2_mayDraw 27 = .ok (.getfield 18, 3) := by decide +kernel
theorem dX2_mayDraw_30 : decode cX2_mayDraw 30 = .ok (.iload_n 3, 1) := by decide +kernel
theorem dX2_mayDraw_31 : decode cX2_mayDraw 31 = .ok (.iaload, 1) := by decide +kernel
theorem dX2_mayDraw_32 : decode cX2_mayDraw 32 = .ok (.iload_n 2, 1) := by decide +kernel
theorem dX2_mayDraw_33 : decode cX2_mayDraw 33 = .ok (.if_icmp .eq 5, 3) := by decide +kernel
theorem dX2_mayDraw_36 : decode cX2_mayDraw 36 = .ok (.iconst 0, 1) := by decide +kernel
theorem dX2_mayDraw_37 : decode cX2_mayDraw 37 = .ok (.ireturn, 1) := by decide +kernel
theorem dX2_mayDraw_38 : decode cX2_mayDraw 38 = .ok (.iinc 3 1, 3) := by decide +kernel
theorem dX2_mayDraw_41 : decode cX2_mayDraw 41 = .ok (.goto (-39), 3) := by decide +kernel
theorem dX2_mayDraw_44 : decode cX2_mayDraw 44 = .ok (.iconst 1, 1) := by decide +kernel
theorem dX2_mayDraw_45 : decode cX2_mayDraw 45 = .ok (.ireturn, 1) := by decide +kernel
theorem dX2_mixed_0 : decode cX2_mixed 0 = .ok (.lload_n 1, 1) := by decide +kernel
theorem dX2_mixed_1 : decode cX2_mixed 1 = .ok (.lstore_n 3, 1) := by decide +kernel
theorem dX2_mixed_2 : decode cX2_mixed 2 = .ok (.iconst 0, 1) := by decide +kernel
theorem dX2_mixed_3 : decode cX2_mixed 3 = .ok (.istore 5, 2) := by decide +kernel
theorem dX2_mixed_5 : decode cX2_mixed 5 = .ok (.iload 5, 2) := by decide +kernel
theorem dX2_mixed_7 : decode cX2_mixed 7 = .ok (.aload_n 0, 1) := by decide +kernel
theorem dX2_mixed_8 : decode cX2_mixed 8 = .ok (.getfield 57, 3) := by decide +kernel
theorem dX2_mixed_11 : decode cX2_mixed 11 = .ok (.if_icmp .ge 76, 3) := by decide +kernel
theorem dX2_mixed_14 : decode cX2_mixed 14 = .ok (.ldc2_w 120, 3) := by decide +kernel
theorem dX2_mixed_17 : decode cX2_mixed 17 = .ok (.lload_n 3, 1) := by decide +kernel
theorem dX2_mixed_18 : decode cX2_mixed 18 = .ok (.lmul, 1) := by decide +kernel
theorem dX2_mixed_19 : decode cX2_mixed 19 = .ok (.aload_n 0, 1) := by decide +kernel
theorem dX2_mixed_20 : decode cX2_mixed 20 = .ok (.getfield 9, 3) := by decide +kernel
theorem dX2_mixed_23 : decode cX2_mixed 23 = .ok (.iload 5, 2) := by decide +kernel
theorem dX2_mixed_25 : decode cX2_mixed 25 = .ok (.iaload, 1) := by decide +kernel
theorem dX2_mixed_26 : decode cX2_mixed 26 = .ok (.i2l, 1) := by decide +kernel
theorem dX2_mixed_27 : decode cX2_mixed 27 = .ok (.ladd, 1) := by decide +kernel
theorem dX2_mixed_28 : decode cX2_mixed 28 = .ok (.lstore_n 3, 1) := by decide +kernel
theorem dX2_mixed_29 : decode cX2_mixed 29 = .ok (.ldc2_w 120, 3) := by decide +kernel
theorem dX2_mixed_32 : decode cX2_mixed 32 = .ok (.lload_n 3, 1) := by decide +kernel
theorem dX2_mixed_33 : decode cX2_mixed 33 = .ok (.lmul, 1) := by decide +kernel
theorem dX2_mixed_34 : decode cX2_mixed 34 = .ok (.aload_n 0, 1) := by decide +kernel
theorem dX2_mixed_35 : decode cX2_mixed 35 = .ok (.getfield 15, 3) := by decide +kernel
theorem dX2_mixed_38 : decode cX2_mixed 38 = .ok (.iload 5, 2) := by decide +kernel
theorem dX2_mixed_40 : decode cX2_mixed 40 = .ok (.iaload, 1) := by decide +kernel
theorem dX2_mixed_41 : decode cX2_mixed 41 = .ok (.i2l, 1) := by decide +kernel
theorem dX2_mixed_42 : decode cX2_mixed 42 = .ok (.ladd, 1) := by decide +kernel
theorem dX2_mixed_43 : decode cX2_mixed 43 = .ok (.lstore_n 3, 1) := by decide +kernel
theorem dX2_mixed_44 : decode cX2_mixed 44 = .ok (.ldc2_w 120, 3) := by decide +kernel
theorem dX2_mixed_47 : decode cX2_mixed 47 = .ok (.lload_n 3, 1) := by decide +kernel
theorem dX2_mixed_48 : decode cX2_mixed 48 = .ok (.lmul, 1) := by decide +kernel
theorem dX2_mixed_49 : decode cX2_mixed 49 = .ok (.aload_n 0, 1) := by decide +kernel
theorem dX2_mixed_50 : decode cX2_mixed 50 = .ok (.getfield 18, 3) := by decide +kernel
theorem dX2_mixed_53 : decode cX2_mixed 53 = .ok (.iload 5, 2) := by decide +kernel
theorem dX2_mixed_55 : decode cX2_mixed 55 = .ok (.iaload, 1) := by decide +kernel
theorem dX2_mixed_56 : decode cX2_mixed 56 = .ok (.i2l, 1) := by decide +kernel
theorem dX2_mixed_57 : decode cX2_mixed 57 = .ok (.ladd, 1) := by decide +kernel
theorem dX2_mixed_58 : decode cX2_mixed 58 = .ok (.lstore_n 3, 1) := by decide +kernel
theorem dX2_mixed_59 : decode cX2_mixed 59 = .ok (.ldc2_w 120, 3) := by decide +kernel
theorem dX2_mixed_62 : decode cX2_mixed 62 = .ok (.lload_n 3, 1) := by decide +kernel
theorem dX2_mixed_63 : decode cX2_mixed 63 = .ok (.lmul, 1) := by decide +kernel
theorem dX2_mixed_64 : decode cX2_mixed 64 = .ok (.aload_n 0, 1) := by decide +kernel
theorem dX2_mixed_65 : decode cX2_mixed 65 = .ok (.iload 5, 2) := by decide +kernel
theorem dX2_mixed_67 : decode cX2_mixed 67 = .ok (.invokevirtual 94, 3) := by decide +kernel
theorem dX2_mixed_70 : decode cX2_mixed 70 = .ok (.ifCond .eq 7, 3) := by decide +kernel
theorem dX2_mixed_73 : decode cX2_mixed 73 = .ok (.iconst 1, 1) := by decide +kernel
theorem dX2_mixed_74 : decode cX2_mixed 74 = .ok (.goto 4, 3) := by decide +kernel
theorem dX2_mixed_77 : decode cX2_mixed 77 = .ok (.iconst 0, 1) := by decide +kernel
theorem dX2_mixed_78 : decode cX2_mixed 78 = .ok (.i2l, 1) := by decide +kernel
theorem dX2_mixed_79 : decode cX2_mixed 79 = .ok (.ladd, 1) := by decide +kernel
theorem dX2_mixed_80 : decode cX2_mixed 80 = .ok (.lstore_n 3, 1) := by decide +kernel
theorem dX2_mixed_81 : decode cX2_mixed 81 = .ok (.iinc 5 1, 3) := by decide +kernel
theorem dX2_mixed_84 : decode cX2_mixed 84 = .ok (.goto (-79), 3) := by decide +kernel
theorem dX2_mixed_87 : decode cX2_mixed 87 = .ok (.iconst 0, 1) := by decide +kernel
theorem dX2_mixed_88 : decode cX2_mixed 88 = .ok (.istore 5, 2) := by decide +kernel
theorem dX2_mixed_90 : decode cX2_mixed 90 = .ok (.iload 5, 2) := by decide +kernel
theorem dX2_mixed_92 : decode cX2_mixed 92 = .ok (.aload_n 0, 1) := by decide +kernel
theorem dX2_mixed_93 : decode cX2_mixed 93 = .ok (.getfield 60, 3) := by decide +kernel
theorem dX2_mixed_96 : decode cX2_mixed 96 = .ok (.if_icmp .ge 54, 3) := by decide +kernel
theorem dX2_mixed_99 : decode cX2_mixed 99 = .ok (.ldc2_w 120, 3) := by decide +kernel
theorem dX2_mixed_102 : decode cX2_mixed 102 = .ok (.lload_n 3, 1) := by decide +kernel
theorem dX2_mixed_103 : decode cX2_mixed 103 = .ok (.lmul, 1) := by decide +kernel
theorem dX2_mixed_104 : decode cX2_mixed 104 = .ok (.aload_n 0, 1) := by decide +kernel
theorem dX2_mixed_105 : decode cX2_mixed 105 = .ok (.getfield 21, 3) := by decide +kernel
theorem dX2_mixed_108 : decode cX2_mixed 108 = .ok (.iload 5, 2) := by decide +kernel
theorem dX2_mixed_110 : decode cX2_mixed 110 = .ok (.iaload, 1) := by decide +kernel
theorem dX2_mixed_111 : decode cX2_mixed 111 = .ok (.i2l, 1) := by decide +kernel
theorem dX2_mixed_112 : decode cX2_mixed 112 = .ok (.ladd, 1) := by decide +kernel
theorem dX2_mixed_113 : decode cX2_mixed 113 = .ok (.lstore_n 3, 1) := by decide +kernel
theorem dX2_mixed_114 : decode cX2_mixed 114 = .ok (.ldc2_w 120, 3) := by decide +kernel
theorem dX2_mixed_117 : decode cX2_mixed 117 = .ok (.lload_n 3, 1) := by decide +kernel
theorem dX2_mixed_118 : decode cX2_mixed 118 = .ok (.lmul, 1) := by decide +kernel
theorem dX2_mixed_119 : decode cX2_mixed 119 = .ok (.aload_n 0, 1) := by decide +kernel
theorem dX2_mixed_120 : decode cX2_mixed 120 = .ok (.getfield 24, 3) := by decide +kernel
theorem dX2_mixed_123 : decode cX2_mixed 123 = .ok (.iload 5, 2) := by decide +kernel
theorem dX2_mixed_125 : decode cX2_mixed 125 = .ok (.iaload, 1) := by decide +kernel
theorem dX2_mixed_126 : decode cX2_mixed 126 = .ok (.i2l, 1) := by decide +kernel
theorem dX2_mixed_127 : decode cX2_mixed 127 = .ok (.ladd, 1) := by decide +kernel
theorem dX2_mixed_128 : decode cX2_mixed 128 = .ok (.lstore_n 3, 1) := by decide +kernel
theorem dX2_mixed_129 : decode cX2_mixed 129 = .ok (.ldc2_w 120, 3) := by decide +kernel
theorem dX2_mixed_132 : decode cX2_mixed 132 = .ok (.lload_n 3, 1) := by decide +kernel
theorem dX2_mixed_133 : decode cX2_mixed 133 = .ok (.lmul, 1) := by decide +kernel
theorem dX2_mixed_134 : decode cX2_mixed 134 = .ok (.aload_n 0, 1) := by decide +kernel
theorem dX2_mixed_135 : decode cX2_mixed 135 = .ok (.getfield 27, 3) := by decide +kernel
theorem dX2_mixed_138 : decode cX2_mixed 138 = .ok (.iload 5, 2) := by decide +kernel
theorem dX2_mixed_140 : decode cX2_mixed 140 = .ok (.iaload, 1) := by decide +kernel
theorem dX2_mixed_141 : decode cX2_mixed 141 = .ok (.i2l, 1) := by decide +kernel
theorem dX2_mixed_142 : decode cX2_mixed 142 = .ok (.ladd, 1) := by decide +kernel
theorem dX2_mixed_143 : decode cX2_mixed 143 = .ok (.lstore_n 3, 1) := by decide +kernel
theorem dX2_mixed_144 : decode cX2_mixed 144 = .ok (.iinc 5 1, 3) := by decide +kernel
theorem dX2_mixed_147 : decode cX2_mixed 147 = .ok (.goto (-57), 3) := by decide +kernel
theorem dX2_mixed_150 : decode cX2_mixed 150 = .ok (.aload_n 0, 1) := by decide +kernel
theorem dX2_mixed_151 : decode cX2_mixed 151 = .ok (.getfield 37, 3) := by decide +kernel
theorem dX2_mixed_154 : decode cX2_mixed 154 = .ok (.aload_n 0, 1) := by decide +kernel
theorem dX2_mixed_155 : decode cX2_mixed 155 = .ok (.getfield 33, 3) := by decide +kernel
theorem dX2_mixed_158 : decode cX2_mixed 158 = .ok (.lload_n 3, 1) := by decide +kernel
theorem dX2_mixed_159 : decode cX2_mixed 159 = .ok (.invokevirtual 122, 3) := by decide +kernel
theorem dX2_mixed_162 : decode cX2_mixed 162 = .ok (.invokevirtual 122, 3) := by decide +kernel
theorem dX2_mixed_165 : decode cX2_mixed 165 = .ok (.lreturn, 1) := by decide +kernel
theorem dX2_passHour_0 : decode cX2_passHour 0 = .ok (.iconst 0, 1) := by decide +kernel
theorem dX2_passHour_1 : decode cX2_passHour 1 = .ok (.istore_n 1, 1) := by decide +kernel
theorem dX2_passHour_2 : decode cX2_passHour 2 = .ok (.iload_n 1, 1) := by decide +kernel
theorem dX2_passHour_3 : decode cX2_passHour 3 = .ok (.aload_n 0, 1) := by decide +kernel
theorem dX2_passHour_4 : decode cX2_passHour 4 = .ok (.getfield 60, 3) := by decide +kernel
theorem dX2_passHour_7 : decode cX2_passHour 7 = .ok (.if_icmp .ge 40, 3) := by decide +kernel
theorem dX2_passHour_10 : decode cX2_passHour 10 = .ok (.aload_n 0, 1) := by decide +kernel
theorem dX2_passHour_11 : decode cX2_passHour 11 = .ok (.iload_n 1, 1) := by decide +kernel
theorem dX2_passHour_12 : decode cX2_passHour 12 = .ok (.aload_n 0, 1) := by decide +kernel
theorem dX2_passHour_13 : decode cX2_passHour 13 = .ok (.getfield 24, 3) := by decide +kernel
theorem dX2_passHour_16 : decode cX2_passHour 16 = .ok (.iload_n 1, 1) := by decide +kernel
theorem dX2_passHour_17 : decode cX2_passHour 17 = .ok (.iaload, 1) := by decide +kernel
theorem dX2_passHour_18 : decode cX2_passHour 18 = .ok (.aload_n 0, 1) := by decide +kernel
theorem dX2_passHour_19 : decode cX2_passHour 19 = .ok (.getfield 21, 3) := by decide +kernel
theorem dX2_passHour_22 : decode cX2_passHour 22 = .ok (.iload_n 1, 1) := by decide +kernel
theorem dX2_passHour_23 : decode cX2_passHour 23 = .ok (.iaload, 1) := by decide +kernel
theorem dX2_passHour_24 : decode cX2_passHour 24 = .ok (.aload_n 0, 1) := by decide +kernel
theorem dX2_passHour_25 : decode cX2_passHour 25 = .ok (.getfield 24, 3) := by decide +kernel
theorem dX2_passHour_28 : decode cX2_passHour 28 = .ok (.iload_n 1, 1) := by decide +kernel
theorem dX2_passHour_29 : decode cX2_passHour 29 = .ok (.iaload, 1) := by decide +kernel
theorem dX2_passHour_30 : decode cX2_passHour 30 = .ok (.aload_n 0, 1) := by decide +kernel
theorem dX2_passHour_31 : decode cX2_passHour 31 = .ok (.getfield 47, 3) := by decide +kernel
theorem dX2_passHour_34 : decode cX2_passHour 34 = .ok (.invokestatic 117, 3) := by decide +kernel
theorem dX2_passHour_37 : decode cX2_passHour 37 = .ok (.isub, 1) := by decide +kernel
theorem dX2_passHour_38 : decode cX2_passHour 38 = .ok (.invokevirtual 105, 3) := by decide +kernel
theorem dX2_passHour_41 : decode cX2_passHour 41 = .ok (.iinc 1 1, 3) := by decide +kernel
theorem dX2_passHour_44 : decode cX2_passHour 44 = .ok (.goto (-42), 3) := by decide +kernel
theorem dX2_passHour_47 : decode cX2_passHour 47 = .ok (.aload_n 0, 1) := by decide +kernel
theorem dX2_passHour_48 : decode cX2_passHour 48 = .ok (.dup, 1) := by decide +kernel
theorem dX2_passHour_49 : decode cX2_passHour 49 = .ok (.getfield 47, 3) := by decide +kernel
theorem dX2_passHour_52 : decode cX2_passHour 52 = .ok (.iconst 1, 1) := by decide +kernel
theorem dX2_passHour_53 : decode cX2_passHour 53 = .ok (.iadd, 1) := by decide +kernel
theorem dX2_passHour_54 : decode cX2_passHour 54 = .ok (.putfield 47, 3) := by decide +kernel
theorem dX2_passHour_57 : decode cX2_passHour 57 = .ok (.aload_n 0, 1) := by decide +kernel
theorem dX2_passHour_58 : decode cX2_passHour 58 = .ok (.iconst 0, 1) := by decide +kernel
theorem dX2_passHour_59 : decode cX2_passHour 59 = .ok (.putfield 54, 3) := by decide +kernel
theorem dX2_passHour_62 : decode cX2_passHour 62 = .ok (.return_, 1) := by decide +kernel
theorem dX2_passHours_0 : decode cX2_passHours 0 = .ok (.iconst 0, 1) := by decide +kernel
theorem dX2_passHours_1 : decode cX2_passHours 1 = .ok (.istore_n 2, 1) := by decide +kernel
theorem dX2_passHours_2 : decode cX2_passHours 2 = .ok (.iload_n 2, 1) := by decide +kernel
theorem dX2_passHours_3 : decode cX2_passHours 3 = .ok (.iload_n 1, 1) := by decide +kernel
theorem dX2_passHours_4 : decode cX2_passHours 4 = .ok (.if_icmp .ge 23, 3) := by decide +kernel
theorem dX2_passHours_7 : decode cX2_passHours 7 = .ok (.aload_n 0, 1) := by decide +kernel
theorem dX2_passHours_8 : decode cX2_passHours 8 = .ok (.getfield 47, 3) := by decide +kernel
theorem dX2_passHours_11 : decode cX2_passHours 11 = .ok (.sipush 9999, 3) := by decide +kernel
theorem dX2_passHours_14 : decode cX2_passHours 14 = .ok (.if_icmp .ge 13, 3) := by decide +kernel
theorem dX2_passHours_17 : decode cX2_passHours 17 = .ok (.aload_n 0, 1) := by decide +kernel
theorem dX2_passHours_18 : decode cX2_passHours 18 = .ok (.invokevirtual 114, 3) := by decide +kernel
theorem dX2_passHours_21 : decode cX2_passHours 21 = .ok (.iinc 2 1, 3) := by decide +kernel
theorem dX2_passHours_24 : decode cX2_passHours 24 = .ok (.goto (-22), 3) := by decide +kernel
theorem dX2_passHours_27 : decode cX2_passHours 27 = .ok (.return_, 1) := by decide +kernel
theorem dX2_pour_0 : decode cX2_pour 0 = .ok (.aload_n 0, 1) := by decide +kernel
theorem dX2_pour_1 : decode cX2_pour 1 = .ok (.iload_n 2, 1) := by decide +kernel
theorem dX2_pour_2 : decode cX2_pour 2 = .ok (.aload_n 0, 1) := by decide +kernel
theorem dX2_pour_3 : decode cX2_pour 3 = .ok (.getfield 24, 3) := by decide +kernel
theorem dX2_pour_6 : decode cX2_pour 6 = .ok (.iload_n 1, 1) := by decide +kernel
theorem dX2_pour_7 : decode cX2_pour 7 = .ok (.iaload, 1) := by decide +kernel
theorem dX2_pour_8 : decode cX2_pour 8 = .ok (.aload_n 0, 1) := by decide +kernel
theorem dX2_pour_9 : decode cX2_pour 9 = .ok (.getfield 27, 3) := by decide +kernel
theorem dX2_pour_12 : decode cX2_pour 12 = .ok (.iload_n 1, 1) := by decide +kernel
theorem dX2_pour_13 : decode cX2_pour 13 = .ok (.iaload, 1) := by decide +kernel
theorem dX2_pour_14 : decode cX2_pour 14 = .ok (.invokevirtual 102, 3) := by decide +kernel
theorem dX2_pour_17 : decode cX2_pour 17 = .ok (.istore_n 3, 1) := by decide +kernel
theorem dX2_pour_18 : decode cX2_pour 18 = .ok (.aload_n 0, 1) := by decide +kernel
theorem dX2_pour_19 : decode cX2_pour 19 = .ok (.iload_n 1, 1) := by decide +kernel
theorem dX2_pour_20 : decode cX2_pour 20 = .ok (.iload_n 3, 1) := by decide +kernel
theorem dX2_pour_21 : decode cX2_pour 21 = .ok (.invokevirtual 105, 3) := by decide +kernel
theorem dX2_pour_24 : decode cX2_pour 24 = .ok (.iload_n 3, 1) := by decide +kernel
theorem dX2_pour_25 : decode cX2_pour 25 = .ok (.ireturn, 1) := by decide +kernel
theorem dX2_sell_0 : decode cX2_sell 0 = .ok (.aload_n 0, 1) := by decide +kernel
theorem dX2_sell_1 : decode cX2_sell 1 = .ok (.getfield 27, 3) := by decide +kernel
theorem dX2_sell_4 : decode cX2_sell 4 = .ok (.iload_n 1, 1) := by decide +kernel
theorem dX2_sell_5 : decode cX2_sell 5 = .ok (.iaload, 1) := by decide +kernel
theorem dX2_sell_6 : decode cX2_sell 6 = .ok (.iconst 4, 1) := by decide +kernel
theorem dX2_sell_7 : decode cX2_sell 7 = .ok (.if_icmp .ne 12, 3) := by decide +kernel
theorem dX2_sell_10 : decode cX2_sell 10 = .ok (.aload_n 0, 1) := by decide +kernel
theorem dX2_sell_11 : decode cX2_sell 11 = .ok (.getfield 24, 3) := by decide +kernel
theorem dX2_sell_14 : decode cX2_sell 14 = .ok (.iload_n 1, 1) := by decide +kernel
theorem dX2_sell_15 : decode cX2_sell 15 = .ok (.iaload, 1) := by decide +kernel
theorem dX2_sell_16 : decode cX2_sell 16 = .ok (.goto 11, 3) := by decide +kernel
theorem dX2_sell_19 : decode cX2_sell 19 = .ok (.iconst 2, 1) := by decide +kernel
theorem dX2_sell_20 : decode cX2_sell 20 = .ok (.aload_n 0, 1) := by decide +kernel
theorem dX2_sell_21 : decode cX2_sell 21 = .ok (.getfield 24, 3) := by decide +kernel
theorem dX2_sell_24 : decode cX2_sell 24 = .ok (.iload_n 1, 1) := by decide +kernel
theorem dX2_sell_25 : decode cX2_sell 25 = .ok (.iaload, 1) := by decide +kernel
theorem dX2_sell_26 : decode cX2_sell 26 = .ok (.imul, 1) := by decide +kernel
theorem dX2_sell_27 : decode cX2_sell 27 = .ok (.istore_n 2, 1) := by decide +kernel
theorem dX2_sell_28 : decode cX2_sell 28 = .ok (.iload_n 2, 1) := by decide +kernel
theorem dX2_sell_29 : decode cX2_sell 29 = .ok (.sipush 9999, 3) := by decide +kernel
theorem dX2_sell_32 : decode cX2_sell 32 = .ok (.aload_n 0, 1) := by decide +kernel
theorem dX2_sell_33 : decode cX2_sell 33 = .ok (.getfield 51, 3) := by decide +kernel
theorem dX2_sell_36 : decode cX2_sell 36 = .ok (.isub, 1) := by decide +kernel
theorem dX2_sell_37 : decode cX2_sell 37 = .ok (.invokestatic 109, 3) := by decide +kernel
theorem dX2_sell_40 : decode cX2_sell 40 = .ok (.istore_n 3, 1) := by decide +kernel
theorem dX2_sell_41 : decode cX2_sell 41 = .ok (.aload_n 0, 1) := by decide +kernel
theorem dX2_sell_42 : decode cX2_sell 42 = .ok (.dup, 1) := by decide +kernel
theorem dX2_sell_43 : decode cX2_sell 43 = .ok (.getfield 51, 3) := by decide +kernel
theorem dX2_sell_46 : decode cX2_sell 46 = .ok (.iload_n 3, 1) := by decide +kernel
theorem dX2_sell_47 : decode cX2_sell 47 = .ok (.iadd, 1) := by decide +kernel
theorem dX2_sell_48 : decode cX2_sell 48 = .ok (.putfield 51, 3) := by decide +kernel
theorem dX2_sell_51 : decode cX2_sell 51 = .ok (.aload_n 0, 1) := by decide +kernel
theorem dX2_sell_52 : decode cX2_sell 52 = .ok (.iload_n 1, 1) := by decide +kernel
theorem dX2_sell_53 : decode cX2_sell 53 = .ok (.aload_n 0, 1) := by decide +kernel
theorem dX2_sell_54 : decode cX2_sell 54 = .ok (.getfield 24, 3) := by decide +kernel
theorem dX2_sell_57 : decode cX2_sell 57 = .ok (.iload_n 1, 1) := by decide +kernel
theorem dX2_sell_58 : decode cX2_sell 58 = .ok (.iaload, 1) := by decide +kernel
theorem dX2_sell_59 : decode cX2_sell 59 = .ok (.invokevirtual 105, 3) := by decide +kernel
theorem dX2_sell_62 : decode cX2_sell 62 = .ok (.iload_n 3, 1) := by decide +kernel
theorem dX2_sell_63 : decode cX2_sell 63 = .ok (.ireturn, 1) := by decide +kernel
theorem dX3_kept_0 : decode cX3_kept 0 = .ok (.iconst 0, 1) := by decide +kernel
theorem dX3_kept_1 : decode cX3_kept 1 = .ok (.iload_n 1, 1) := by decide +kernel
theorem dX3_kept_2 : decode cX3_kept 2 = .ok (.iload_n 0, 1) := by decide +kernel
theorem dX3_kept_3 : decode cX3_kept 3 = .ok (.iload_n 1, 1) := by decide +kernel
theorem dX3_kept_4 : decode cX3_kept 4 = .ok (.iload_n 2, 1) := by decide +kernel
theorem dX3_kept_5 : decode cX3_kept 5 = .ok (.bipush 24, 2) := by decide +kernel
theorem dX3_kept_7 : decode cX3_kept 7 = .ok (.irem, 1) := by decide +kernel
theorem dX3_kept_8 : decode cX3_kept 8 = .ok (.invokestatic 9, 3) := by decide +kernel
theorem dX3_kept_11 : decode cX3_kept 11 = .ok (.isub, 1) := by decide +kernel
theorem dX3_kept_12 : decode cX3_kept 12 = .ok (.invokestatic 15, 3) := by decide +kernel
theorem dX3_kept_15 : decode cX3_kept 15 = .ok (.ireturn, 1) := by decide +kernel
theorem dX3_keptBehind_0 : decode cX3_keptBehind 0 = .ok (.iload_n 1, 1) := by decide +kernel
theorem dX3_keptBehind_1 : decode cX3_keptBehind 1 = .ok (.istore 4, 2) := by decide +kernel
theorem dX3_keptBehind_3 : decode cX3_keptBehind 3 = .ok (.iconst 0, 1) := by decide +kernel
theorem dX3_keptBehind_4 : decode cX3_keptBehind 4 = .ok (.istore 5, 2) := by decide +kernel
theorem dX3_keptBehind_6 : decode cX3_keptBehind 6 = .ok (.iload 5, 2) := by decide +kernel
theorem dX3_keptBehind_8 : decode cX3_keptBehind 8 = .ok (.iload_n 3, 1) := by decide +kernel
theorem dX3_keptBehind_9 : decode cX3_keptBehind 9 = .ok (.if_icmp .ge 21, 3) := by decide +kernel
theorem dX3_keptBehind_12 : decode cX3_keptBehind 12 = .ok (.iload_n 0, 1) := by decide +kernel
theorem dX3_keptBehind_13 : decode cX3_keptBehind 13 = .ok (.iload 4, 2) := by decide +kernel
theorem dX3_keptBehind_15 : decode cX3_keptBehind 15 = .ok (.iload_n 2, 1) := by decide +kernel
theorem dX3_keptBehind_16 : decode cX3_keptBehind 16 = .ok (.iload 5, 2) := by decide +kernel
theorem dX3_keptBehind_18 : decode cX3_keptBehind 18 = .ok (.iadd, 1) := by decide +kernel
theorem dX3_keptBehind_19 : decode cX3_keptBehind 19 = .ok (.invokestatic 21, 3) := by decide +kernel
theorem dX3_keptBehind_22 : decode cX3_keptBehind 22 = .ok (.istore 4, 2) := by decide +kernel
theorem dX3_keptBehind_24 : decode cX3_keptBehind 24 = .ok (.iinc 5 1, 3) := by decide +kernel
theorem dX3_keptBehind_27 : decode cX3_keptBehind 27 = .ok (.goto (-21), 3) := by decide +kernel
theorem dX3_keptBehind_30 : decode cX3_keptBehind 30 = .ok (.iload 4, 2) := by decide +kernel
theorem dX3_keptBehind_32 : decode cX3_keptBehind 32 = .ok (.ireturn, 1) := by decide +kernel
theorem dX3_lost_0 : decode cX3_lost 0 = .ok (.iconst 1, 1) := by decide +kernel
theorem dX3_lost_1 : decode cX3_lost 1 = .ok (.istore_n 3, 1) := by decide +kernel
theorem dX3_lost_2 : decode cX3_lost 2 = .ok (.iload_n 3, 1) := by decide +kernel
theorem dX3_lost_3 : decode cX3_lost 3 = .ok (.iconst 2, 1) := by decide +kernel
theorem dX3_lost_4 : decode cX3_lost 4 = .ok (.iadd, 1) := by decide +kernel
theorem dX3_lost_5 : decode cX3_lost 5 = .ok (.istore 4, 2) := by decide +kernel
theorem dX3_lost_7 : decode cX3_lost 7 = .ok (.iload_n 2, 1) := by decide +kernel
theorem dX3_lost_8 : decode cX3_lost 8 = .ok (.bipush 6, 2) := by decide +kernel
theorem dX3_lost_10 : decode cX3_lost 10 = .ok (.if_icmp .ge 7, 3) := by decide +kernel
theorem dX3_lost_13 : decode cX3_lost 13 = .ok (.iconst 0, 1) := by decide +kernel
theorem dX3_lost_14 : decode cX3_lost 14 = .ok (.goto 4, 3) := by decide +kernel
theorem dX3_lost_17 : decode cX3_lost 17 = .ok (.iload_n 3, 1) := by decide +kernel
theorem dX3_lost_18 : decode cX3_lost 18 = .ok (.istore 5, 2) := by decide +kernel
theorem dX3_lost_20 : decode cX3_lost 20 = .ok (.iload_n 0, 1) := by decide +kernel
theorem dX3_lost_21 : decode cX3_lost 21 = .ok (.tableswitch 68 1 5 #[35, 38, 41, 49, 55], 35) := by decide +kernel
theorem dX3_lost_56 : decode cX3_lost 56 = .ok (.iload 4, 2) := by decide +kernel
theorem dX3_lost_58 : decode cX3_lost 58 = .ok (.ireturn, 1) := by decide +kernel
theorem dX3_lost_59 : decode cX3_lost 59 = .ok (.iload 5, 2) := by decide +kernel
theorem dX3_lost_61 : decode cX3_lost 61 = .ok (.ireturn, 1) := by decide +kernel
theorem dX3_lost_62 : decode cX3_lost 62 = .ok (.iload 4, 2) := by decide +kernel
theorem dX3_lost_64 : decode cX3_lost 64 = .ok (.iload_n 1, 1) := by decide +kernel
theorem dX3_lost_65 : decode cX3_lost 65 = .ok (.bipush 10, 2) := by decide +kernel
theorem dX3_lost_67 : decode cX3_lost 67 = .ok (.idiv, 1) := by decide +kernel
theorem dX3_lost_68 : decode cX3_lost 68 = .ok (.iadd, 1) := by decide +kernel
theorem dX3_lost_69 : decode cX3_lost 69 = .ok (.ireturn, 1) := by decide +kernel
theorem dX3_lost_70 : decode cX3_lost 70 = .ok (.iload_n 1, 1) := by decide +kernel
theorem dX3_lost_71 : decode cX3_lost 71 = .ok (.iconst 1, 1) := by decide +kernel
theorem dX3_lost_72 : decode cX3_lost 72 = .ok (.iadd, 1) := by decide +kernel
theorem dX3_lost_73 : decode cX3_lost 73 = .ok (.iconst 2, 1) := by decide +kernel
theorem dX3_lost_74 : decode cX3_lost 74 = .ok (.idiv, 1) := by decide +kernel
theorem dX3_lost_75 : decode cX3_lost 75 = .ok (.ireturn, 1) := by decide +kernel
theorem dX3_lost_76 : decode cX3_lost 76 = .ok (.iload_n 1, 1) := by decide +kernel
theorem dX3_lost_77 : decode cX3_lost 77 = .ok (.bipush 20, 2) := by decide +kernel
theorem dX3_lost_79 : decode cX3_lost 79 = .ok (.if_icmp .lt 7, 3) := by decide +kernel
theorem dX3_lost_82 : decode cX3_lost 82 = .ok (.iconst 0, 1) := by decide +kernel
theorem dX3_lost_83 : decode cX3_lost 83 = .ok (.goto 5, 3) := by decide +kernel
theorem dX3_lost_86 : decode cX3_lost 86 = .ok (.iload 5, 2) := by decide +kernel
theorem dX3_lost_88 : decode cX3_lost 88 = .ok (.ireturn, 1) := by decide +kernel
theorem dX3_lost_89 : decode cX3_lost 89 = .ok (.iload_n 3, 1) := by decide +kernel
theorem dX3_lost_90 : decode cX3_lost 90 = .ok (.ireturn, 1) := by decide +kernel
theorem dX4_become_0 : decode cX4_become 0 = .ok (.aload_n 1, 1) := by decide +kernel
theorem dX4_become_1 : decode cX4_become 1 = .ok (.getfield 11, 3) := by decide +kernel
theorem dX4_become_4 : decode cX4_become 4 = .ok (.iconst 0, 1) := by decide +kernel
theorem dX4_become_5 : decode cX4_become 5 = .ok (.aload_n 0, 1) := by decide +kernel
theorem dX4_become_6 : decode cX4_become 6 = .ok (.getfield 11, 3) := by decide +kernel
theorem dX4_become_9 : decode cX4_become 9 = .ok (.iconst 0, 1) := by decide +kernel
theorem dX4_become_10 : decode cX4_become 10 = .ok (.bipush 88, 2) := by decide +kernel
theorem dX4_become_12 : decode cX4_become 12 = .ok (.invokestatic 19, 3) := by decide +kernel
theorem dX4_become_15 : decode cX4_become 15 = .ok (.aload_n 0, 1) := by decide +kernel
theorem dX4_become_16 : decode cX4_become 16 = .ok (.aload_n 1, 1) := by decide +kernel
theorem dX4_become_17 : decode cX4_become 17 = .ok (.getfield 15, 3) := by decide +kernel
theorem dX4_become_20 : decode cX4_become 20 = .ok (.putfield 15, 3) := by decide +kernel
theorem dX4_become_23 : decode cX4_become 23 = .ok (.return_, 1) := by decide +kernel
theorem dX4_bringBack_0 : decode cX4_bringBack 0 = .ok (.aload_n 0, 1) := by decide +kernel
theorem dX4_bringBack_1 : decode cX4_bringBack 1 = .ok (.getfield 15, 3) := by decide +kernel
theorem dX4_bringBack_4 : decode cX4_bringBack 4 = .ok (.ifCond .gt 5, 3) := by decide +kernel
theorem dX4_bringBack_7 : decode cX4_bringBack 7 = .ok (.iconst 0, 1) := by decide +kernel
theorem dX4_bringBack_8 : decode cX4_bringBack 8 = .ok (.ireturn, 1) := by decide +kernel
theorem dX4_bringBack_9 : decode cX4_bringBack 9 = .ok (.aload_n 0, 1) := by decide +kernel
theorem dX4_bringBack_10 : decode cX4_bringBack 10 = .ok (.dup, 1) := by decide +kernel
theorem dX4_bringBack_11 : decode cX4_bringBack 11 = .ok (.getfield 15, 3) := by decide +kernel
theorem dX4_bringBack_14 : decode cX4_bringBack 14 = .ok (.iconst 1, 1) := by decide +kernel
theorem dX4_bringBack_15 : decode cX4_bringBack 15 = .ok (.isub, 1) := by decide +kernel
theorem dX4_bringBack_16 : decode cX4_bringBack 16 = .ok (.putfield 15, 3) := by decide +kernel
theorem dX4_bringBack_19 : decode cX4_bringBack 19 = .ok (.aload_n 0, 1) := by decide +kernel
theorem dX4_bringBack_20 : decode cX4_bringBack 20 = .ok (.getfield 15, 3) := by decide +kernel
theorem dX4_bringBack_23 : decode cX4_bringBack 23 = .ok (.bipush 11, 2) := by decide +kernel
theorem dX4_bringBack_25 : decode cX4_bringBack 25 = .ok (.imul, 1) := by decide +kernel
theorem dX4_bringBack_26 : decode cX4_bringBack 26 = .ok (.istore_n 2, 1) := by decide +kernel
theorem dX4_bringBack_27 : decode cX4_bringBack 27 = .ok (.aload_n 0, 1) := by decide +kernel
theorem dX4_bringBack_28 : decode cX4_bringBack 28 = .ok (.getfield 11, 3) := by decide +kernel
theorem dX4_bringBack_31 : decode cX4_bringBack 31 = .ok (.iload_n 2, 1) := by decide +kernel
theorem dX4_bringBack_32 : decode cX4_bringBack 32 = .ok (.aload_n 1, 1) := by decide +kernel
theorem dX4_bringBack_33 : decode cX4_bringBack 33 = .ok (.getfield 25, 3) := by decide +kernel
theorem dX4_bringBack_36 : decode cX4_bringBack 36 = .ok (.iconst 0, 1) := by decide +kernel
theorem dX4_bringBack_37 : decode cX4_bringBack 37 = .ok (.iconst 4, 1) := by decide +kernel
theorem dX4_bringBack_38 : decode cX4_bringBack 38 = .ok (.invokestatic 19, 3) := by decide +kernel
theorem dX4_bringBack_41 : decode cX4_bringBack 41 = .ok (.aload_n 0, 1) := by decide +kernel
theorem dX4_bringBack_42 : decode cX4_bringBack 42 = .ok (.getfield 11, 3) := by decide +kernel
theorem dX4_bringBack_45 : decode cX4_bringBack 45 = .ok (.iload_n 2, 1) := by decide +kernel
theorem dX4_bringBack_46 : decode cX4_bringBack 46 = .ok (.iconst 4, 1) := by decide +kernel
theorem dX4_bringBack_47 : decode cX4_bringBack 47 = .ok (.iadd, 1) := by decide +kernel
theorem dX4_bringBack_48 : decode cX4_bringBack 48 = .ok (.aload_n 1, 1) := by decide +kernel
theorem dX4_bringBack_49 : decode cX4_bringBack 49 = .ok (.getfield 30, 3) := by decide +kernel
theorem dX4_bringBack_52 : decode cX4_bringBack 52 = .ok (.iconst 0, 1) := by decide +kernel
theorem dX4_bringBack_53 : decode cX4_bringBack 53 = .ok (.iconst 4, 1) := by decide +kernel
theorem dX4_bringBack_54 : decode cX4_bringBack 54 = .ok (.invokestatic 19, 3) := by decide +kernel
theorem dX4_bringBack_57 : decode cX4_bringBack 57 = .ok (.aload_n 1, 1) := by decide +kernel
theorem dX4_bringBack_58 : decode cX4_bringBack 58 = .ok (.aload_n 0, 1) := by decide +kernel
theorem dX4_bringBack_59 : decode cX4_bringBack 59 = .ok (.getfield 11, 3) := by decide +kernel
theorem dX4_bringBack_62 : decode cX4_bringBack 62 = .ok (.iload_n 2, 1) := by decide +kernel
theorem dX4_bringBack_63 : decode cX4_bringBack 63 = .ok (.bipush 8, 2) := by decide +kernel
theorem dX4_bringBack_65 : decode cX4_bringBack 65 = .ok (.iadd, 1) := by decide +kernel
theorem dX4_bringBack_66 : decode cX4_bringBack 66 = .ok (.iaload, 1) := by decide +kernel
theorem dX4_bringBack_67 : decode cX4_bringBack 67 = .ok (.putfield 33, 3) := by decide +kernel
theorem dX4_bringBack_70 : decode cX4_bringBack 70 = .ok (.aload_n 1, 1) := by decide +kernel
theorem dX4_bringBack_71 : decode cX4_bringBack 71 = .ok (.aload_n 0, 1) := by decide +kernel
theorem dX4_bringBack_72 : decode cX4_bringBack 72 = .ok (.getfield 11, 3) := by decide +kernel
theorem dX4_bringBack_75 : decode cX4_bringBack 75 = .ok (.iload_n 2, 1) := by decide +kernel
theorem dX4_bringBack_76 : decode cX4_bringBack 76 = .ok (.bipush 8, 2) := by decide +kernel
theorem dX4_bringBack_78 : decode cX4_bringBack 78 = .ok (.iadd, 1) := by decide +kernel
theorem dX4_bringBack_79 : decode cX4_bringBack 79 = .ok (.iconst 1, 1) := by decide +kernel
theorem dX4_bringBack_80 : decode cX4_bringBack 80 = .ok (.iadd, 1) := by decide +kernel
theorem dX4_bringBack_81 : decode cX4_bringBack 81 = .ok (.iaload, 1) := by decide +kernel
theorem dX4_bringBack_82 : decode cX4_bringBack 82 = .ok (.putfield 36, 3) := by decide +kernel
theorem dX4_bringBack_85 : decode cX4_bringBack 85 = .ok (.aload_n 1, 1) := by decide +kernel
theorem dX4_bringBack_86 : decode cX4_bringBack 86 = .ok (.aload_n 0, 1) := by decide +kernel
theorem dX4_bringBack_87 : decode cX4_bringBack 87 = .ok (.getfield 11, 3) := by decide +kernel
theorem dX4_bringBack_90 : decode cX4_bringBack 90 = .ok (.iload_n 2, 1) := by decide +kernel
theorem dX4_bringBack_91 : decode cX4_bringBack 91 = .ok (.bipush 8, 2) := by decide +kernel
theorem dX4_bringBack_93 : decode cX4_bringBack 93 = .ok (.iadd, 1) := by decide +kernel
theorem dX4_bringBack_94 : decode cX4_bringBack 94 = .ok (.iconst 2, 1) := by decide +kernel
theorem dX4_bringBack_95 : decode cX4_bringBack 95 = .ok (.iadd, 1) := by decide +kernel
theorem dX4_bringBack_96 : decode cX4_bringBack 96 = .ok (.iaload, 1) := by decide +kernel
theorem dX4_bringBack_97 : decode cX4_bringBack 97 = .ok (.putfield 39, 3) := by decide +kernel
theorem dX4_bringBack_100 : decode cX4_bringBack 100 = .ok (.iconst 1, 1) := by decide +kernel
theorem dX4_bringBack_101 : decode cX4_bringBack 101 = .ok (.ireturn, 1) := by decide +kernel
theorem dX4_empty_0 : decode cX4_empty 0 = .ok (.aload_n 0, 1) := by decide +kernel
theorem dX4_empty_1 : decode cX4_empty 1 = .ok (.iconst 0, 1) := by decide +kernel
theorem dX4_empty_2 : decode cX4_empty 2 = .ok (.putfield 15, 3) := by decide +kernel
theorem dX4_empty_5 : decode cX4_empty 5 = .ok (.return_, 1) := by decide +kernel
theorem dX4_remember_0 : decode cX4_remember 0 = .ok (.aload_n 0, 1) := by decide +kernel
theorem dX4_remember_1 : decode cX4_remember 1 = .ok (.getfield 15, 3) := by decide +kernel
theorem dX4_remember_4 : decode cX4_remember 4 = .ok (.bipush 8, 2) := by decide +kernel
theorem dX4_remember_6 : decode cX4_remember 6 = .ok (.if_icmp .lt 25, 3) := by decide +kernel
theorem dX4_remember_9 : decode cX4_remember 9 = .ok (.aload_n 0, 1) := by decide +kernel
theorem dX4_remember_10 : decode cX4_remember 10 = .ok (.getfield 11, 3) := by decide +kernel
theorem dX4_remember_13 : decode cX4_remember 13 = .ok (.bipush 11, 2) := by decide +kernel
theorem dX4_remember_15 : decode cX4_remember 15 = .ok (.aload_n 0, 1) := by decide +kernel
theorem dX4_remember_16 : decode cX4_remember 16 = .ok (.getfield 11, 3) := by decide +kernel
theorem dX4_remember_19 : decode cX4_remember 19 = .ok (.iconst 0, 1) := by decide +kernel
theorem dX4_remember_20 : decode cX4_remember 20 = .ok (.bipush 77, 2) := by decide +kernel
theorem dX4_remember_22 : decode cX4_remember 22 = .ok (.invokestatic 19, 3) := by decide +kernel
theorem dX4_remember_25 : decode cX4_remember 25 = .ok (.aload_n 0, 1) := by decide +kernel
theorem dX4_remember_26 : decode cX4_remember 26 = .ok (.bipush 7, 2) := by decide +kernel
theorem dX4_remember_28 : decode cX4_remember 28 = .ok (.putfield 15, 3) := by decide +kernel
theorem dX4_remember_31 : decode cX4_remember 31 = .ok (.aload_n 0, 1) := by decide +kernel
theorem dX4_remember_32 : decode cX4_remember 32 = .ok (.getfield 15, 3) := by decide +kernel
theorem dX4_remember_35 : decode cX4_remember 35 = .ok (.bipush 11, 2) := by decide +kernel
theorem dX4_remember_37 : decode cX4_remember 37 = .ok (.imul, 1) := by decide +kernel
theorem dX4_remember_38 : decode cX4_remember 38 = .ok (.istore_n 2, 1) := by decide +kernel
theorem dX4_remember_39 : decode cX4_remember 39 = .ok (.aload_n 1, 1) := by decide +kernel
theorem dX4_remember_40 : decode cX4_remember 40 = .ok (.getfield 25, 3) := by decide +kernel
theorem dX4_remember_43 : decode cX4_remember 43 = .ok (.iconst 0, 1) := by decide +kernel
theorem dX4_remember_44 : decode cX4_remember 44 = .ok (.aload_n 0, 1) := by decide +kernel
theorem dX4_remember_45 : decode cX4_remember 45 = .ok (.getfield 11, 3) := by decide +kernel
theorem dX4_remember_48 : decode cX4_remember 48 = .ok (.iload_n 2, 1) := by decide +kernel
theorem dX4_remember_49 : decode cX4_remember 49 = .ok (.iconst 4, 1) := by decide +kernel
theorem dX4_remember_50 : decode cX4_remember 50 = .ok (.invokestatic 19, 3) := by decide +kernel
theorem dX4_remember_53 : decode cX4_remember 53 = .ok (.aload_n 1, 1) := by decide +kernel
theorem dX4_remember_54 : decode cX4_remember 54 = .ok (.getfield 30, 3) := by decide +kernel
theorem dX4_remember_57 : decode cX4_remember 57 = .ok (.iconst 0, 1) := by decide +kernel
theorem dX4_remember_58 : decode cX4_remember 58 = .ok (.aload_n 0, 1) := by decide +kernel
theorem dX4_remember_59 : decode cX4_remember 59 = .ok (.getfield 11, 3) := by decide +kernel
theorem dX4_remember_62 : decode cX4_remember 62 = .ok (.iload_n 2, 1) := by decide +kernel
theorem dX4_remember_63 : decode cX4_remember 63 = .ok (.iconst 4, 1) := by decide +kernel
theorem dX4_remember_64 : decode cX4_remember 64 = .ok (.iadd, 1) := by decide +kernel
theorem dX4_remember_65 : decode cX4_remember 65 = .ok (.iconst 4, 1) := by decide +kernel
theorem dX4_remember_66 : decode cX4_remember 66 = .ok (.invokestatic 19, 3) := by decide +kernel
theorem dX4_remember_69 : decode cX4_remember 69 = .ok (.aload_n 0, 1) := by decide +kernel
theorem dX4_remember_70 : decode cX4_remember 70 = .ok (.getfield 11, 3) := by decide +kernel
theorem dX4_remember_73 : decode cX4_remember 73 = .ok (.iload_n 2, 1) := by decide +kernel
theorem dX4_remember_74 : decode cX4_remember 74 = .ok (.bipush 8, 2) := by decide +kernel
theorem dX4_remember_76 : decode cX4_remember 76 = .ok (.iadd, 1) := by decide +kernel
theorem dX4_remember_77 : decode cX4_remember 77 = .ok (.aload_n 1, 1) := by decide +kernel
theorem dX4_remember_78 : decode cX4_remember 78 = .ok (.getfield 33, 3) := by decide +kernel
theorem dX4_remember_81 : decode cX4_remember 81 = .ok (.iastore, 1) := by decide +kernel
theorem dX4_remember_82 : decode cX4_remember 82 = .ok (.aload_n 0, 1) := by decide +kernel
theorem dX4_remember_83 : decode cX4_remember 83 = .ok (.getfield 11, 3) := by decide +kernel
theorem dX4_remember_86 : decode cX4_remember 86 = .ok (.iload_n 2, 1) := by decide +kernel
theorem dX4_remember_87 : decode cX4_remember 87 = .ok (.bipush 8, 2) := by decide +kernel
theorem dX4_remember_89 : decode cX4_remember 89 = .ok (.iadd, 1) := by decide +kernel
theorem dX4_remember_90 : decode cX4_remember 90 = .ok (.iconst 1, 1) := by decide +kernel
theorem dX4_remember_91 : decode cX4_remember 91 = .ok (.iadd, 1) := by decide +kernel
theorem dX4_remember_92 : decode cX4_remember 92 = .ok (.aload_n 1, 1) := by decide +kernel
theorem dX4_remember_93 : decode cX4_remember 93 = .ok (.getfield 36, 3) := by decide +kernel
theorem dX4_remember_96 : decode cX4_remember 96 = .ok (.iastore, 1) := by decide +kernel
theorem dX4_remember_97 : decode cX4_remember 97 = .ok (.aload_n 0, 1) := by decide +kernel
theorem dX4_remember_98 : decode cX4_remember 98 = .ok (.getfield 11, 3) := by decide +kernel
theorem dX4_remember_101 : decode cX4_remember 101 = .ok (.iload_n 2, 1) := by decide +kernel
theorem dX4_remember_102 : decode cX4_remember 102 = .ok (.bipush 8, 2) := by decide +kernel
theorem dX4_remember_104 : decode cX4_remember 104 = .ok (.iadd, 1) := by decide +kernel
theorem dX4_remember_105 : decode cX4_remember 105 = .ok (.iconst 2, 1) := by decide +kernel
theorem dX4_remember_106 : decode cX4_remember 106 = .ok (.iadd, 1) := by decide +kernel
theorem dX4_remember_107 : decode cX4_remember 107 = .ok (.aload_n 1, 1) := by decide +kernel
theorem dX4_remember_108 : decode cX4_remember 108 = .ok (.getfield 39, 3) := by decide +kernel
theorem dX4_remember_111 : decode cX4_remember 111 = .ok (.iastore, 1) := by decide +kernel
theorem dX4_remember_112 : decode cX4_remember 112 = .ok (.aload_n 0, 1) := by decide +kernel
theorem dX4_remember_113 : decode cX4_remember 113 = .ok (.dup, 1) := by decide +kernel
theorem dX4_remember_114 : decode cX4_remember 114 = .ok (.getfield 15, 3) := by decide +kernel
theorem dX4_remember_117 : decode cX4_remember 117 = .ok (.iconst 1, 1) := by decide +kernel
theorem dX4_remember_118 : decode cX4_remember 118 = .ok (.iadd, 1) := by decide +kernel
theorem dX4_remember_119 : decode cX4_remember 119 = .ok (.putfield 15, 3) := by decide +kernel
theorem dX4_remember_122 : decode cX4_remember 122 = .ok (.return_, 1) := by decide +kernel
theorem dX5_askCasters_0 : decode cX5_askCasters 0 = .ok (.iconst 0, 1) := by decide +kernel
theorem dX5_askCasters_1 : decode cX5_askCasters 1 = .ok (.istore_n 3, 1) := by decide +kernel
theorem dX5_askCasters_2 : decode cX5_askCasters 2 = .ok (.iload_n 3, 1) := by decide +kernel
theorem dX5_askCasters_3 : decode cX5_askCasters 3 = .ok (.aload_n 0, 1) := by decide +kernel
theorem dX5_askCasters_4 : decode cX5_askCasters 4 = .ok (.getfield 27, 3) := by decide +kernel
theorem dX5_askCasters_7 : decode cX5_askCasters 7 = .ok (.if_icmp .ge 42, 3) := by decide +kernel
theorem dX5_askCasters_10 : decode cX5_askCasters 10 = .ok (.aload_n 0, 1) := by decide +kernel
theorem dX5_askCasters_11 : decode cX5_askCasters 11 = .ok (.getfield 11, 3) := by decide +kernel
theorem dX5_askCasters_14 : decode cX5_askCasters 14 = .ok (.iload_n 2, 1) := by decide +kernel
theorem dX5_askCasters_15 : decode cX5_askCasters 15 = .ok (.bipush 7, 2) := by decide +kernel
theorem dX5_askCasters_17 : decode cX5_askCasters 17 = .ok (.imul, 1) := by decide +kernel
theorem dX5_askCasters_18 : decode cX5_askCasters 18 = .ok (.iload_n 3, 1) := by decide +kernel
theorem dX5_askCasters_19 : decode cX5_askCasters 19 = .ok (.iadd, 1) := by decide +kernel
theorem dX5_askCasters_20 : decode cX5_askCasters 20 = .ok (.iload_n 2, 1) := by decide +kernel
theorem dX5_askCasters_21 : decode cX5_askCasters 21 = .ok (.ifCond .ne 15, 3) := by decide +kernel
theorem dX5_askCasters_24 : decode cX5_askCasters 24 = .ok (.aload_n 1, 1) := by decide +kernel
theorem dX5_askCasters_25 : decode cX5_askCasters 25 = .ok (.iload_n 3, 1) := by decide +kernel
theorem dX5_askCasters_26 : decode cX5_askCasters 26 = .ok (.invokevirtual 54, 3) := by decide +kernel
theorem dX5_askCasters_29 : decode cX5_askCasters 29 = .ok (.ifCond .eq 7, 3) := by decide +kernel
theorem dX5_askCasters_32 : decode cX5_askCasters 32 = .ok (.iconst (-1), 1) := by decide +kernel
theorem dX5_askCasters_33 : decode cX5_askCasters 33 = .ok (.goto 9, 3) := by decide +kernel
theorem dX5_askCasters_36 : decode cX5_askCasters 36 = .ok (.aload_n 1, 1) := by decide +kernel
theorem dX5_askCasters_37 : decode cX5_askCasters 37 = .ok (.iload_n 3, 1) := by decide +kernel
theorem dX5_askCasters_38 : decode cX5_askCasters 38 = .ok (.iload_n 2, 1) := by decide +kernel
theorem dX5_askCasters_39 : decode cX5_askCasters 39 = .ok (.invokevirtual 58, 3) := by decide +kernel
theorem dX5_askCasters_42 : decode cX5_askCasters 42 = .ok (.iastore, 1) := by decide +kernel
theorem dX5_askCasters_43 : decode cX5_askCasters 43 = .ok (.iinc 3 1, 3) := by decide +kernel
theorem dX5_askCasters_46 : decode cX5_askCasters 46 = .ok (.goto (-44), 3) := by decide +kernel
theorem dX5_askCasters_49 : decode cX5_askCasters 49 = .ok (.return_, 1) := by decide +kernel
theorem dX5_chooseRow_0 : decode cX5_chooseRow 0 = .ok (.aload_n 1, 1) := by decide +kernel
theorem dX5_chooseRow_1 : decode cX5_chooseRow 1 = .ok (.getfield 61, 3) := by decide +kernel
theorem dX5_chooseRow_4 : decode cX5_chooseRow 4 = .ok (.iload_n 2, 1) := by decide +kernel
theorem dX5_chooseRow_5 : decode cX5_chooseRow 5 = .ok (.iaload, 1) := by decide +kernel
theorem dX5_chooseRow_6 : decode cX5_chooseRow 6 = .ok (.istore_n 3, 1) := by decide +kernel
theorem dX5_chooseRow_7 : decode cX5_chooseRow 7 = .ok (.aload_n 0, 1) := by decide +kernel
theorem dX5_chooseRow_8 : decode cX5_chooseRow 8 = .ok (.aload_n 0, 1) := by decide +kernel
theorem dX5_chooseRow_9 : decode cX5_chooseRow 9 = .ok (.getfield 28, 3) := by decide +kernel
theorem dX5_chooseRow_12 : decode cX5_chooseRow 12 = .ok (.ifCond .ne 7, 3) := by decide +kernel
theorem dX5_chooseRow_15 : decode cX5_chooseRow 15 = .ok (.iload_n 3, 1) := by decide +kernel
theorem dX5_chooseRow_16 : decode cX5_chooseRow 16 = .ok (.goto 9, 3) := by decide +kernel
theorem dX5_chooseRow_19 : decode cX5_chooseRow 19 = .ok (.aload_n 0, 1) := by decide +kernel
theorem dX5_chooseRow_20 : decode cX5_chooseRow 20 = .ok (.iconst 0, 1) := by decide +kernel
theorem dX5_chooseRow_21 : decode cX5_chooseRow 21 = .ok (.iload_n 3, 1) := by decide +kernel
theorem dX5_chooseRow_22 : decode cX5_chooseRow 22 = .ok (.invokevirtual 47, 3) := by decide +kernel
theorem dX5_chooseRow_25 : decode cX5_chooseRow 25 = .ok (.putfield 64, 3) := by decide +kernel
theorem dX5_chooseRow_28 : decode cX5_chooseRow 28 = .ok (.iconst 0, 1) := by decide +kernel
theorem dX5_chooseRow_29 : decode cX5_chooseRow 29 = .ok (.istore 4, 2) := by decide +kernel
theorem dX5_chooseRow_31 : decode cX5_chooseRow 31 = .ok (.iload 4, 2) := by decide +kernel
theorem dX5_chooseRow_33 : decode cX5_chooseRow 33 = .ok (.aload_n 0, 1) := by decide +kernel
theorem dX5_chooseRow_34 : decode cX5_chooseRow 34 = .ok (.getfield 28, 3) := by decide +kernel
theorem dX5_chooseRow_37 : decode cX5_chooseRow 37 = .ok (.if_icmp .ge 47, 3) := by decide +kernel
theorem dX5_chooseRow_40 : decode cX5_chooseRow 40 = .ok (.aload_n 0, 1) := by decide +kernel
theorem dX5_chooseRow_41 : decode cX5_chooseRow 41 = .ok (.getfield 18, 3) := by decide +kernel
theorem dX5_chooseRow_44 : decode cX5_chooseRow 44 = .ok (.iload 4, 2) := by decide +kernel
theorem dX5_chooseRow_46 : decode cX5_chooseRow 46 = .ok (.aload_n 0, 1) := by decide +kernel
theorem dX5_chooseRow_47 : decode cX5_chooseRow 47 = .ok (.iload 4, 2) := by decide +kernel
theorem dX5_chooseRow_49 : decode cX5_chooseRow 49 = .ok (.iload_n 3, 1) := by decide +kernel
theorem dX5_chooseRow_50 : decode cX5_chooseRow 50 = .ok (.invokevirtual 67, 3) := by decide +kernel
theorem dX5_chooseRow_53 : decode cX5_chooseRow 53 = .ok (.iastore, 1) := by decide +kernel
theorem dX5_chooseRow_54 : decode cX5_chooseRow 54 = .ok (.aload_n 1, 1) := by decide +kernel
theorem dX5_chooseRow_55 : decode cX5_chooseRow 55 = .ok (.getfield 35, 3) := by decide +kernel
theorem dX5_chooseRow_58 : decode cX5_chooseRow 58 = .ok (.iload_n 2, 1) := by decide +kernel
theorem dX5_chooseRow_59 : decode cX5_chooseRow 59 = .ok (.iaload, 1) := by decide +kernel
theorem dX5_chooseRow_60 : decode cX5_chooseRow 60 = .ok (.aload_n 0, 1) := by decide +kernel
theorem dX5_chooseRow_61 : decode cX5_chooseRow 61 = .ok (.iload 4, 2) := by decide +kernel
theorem dX5_chooseRow_63 : decode cX5_chooseRow 63 = .ok (.iload_n 3, 1) := by decide +kernel
theorem dX5_chooseRow_64 : decode cX5_chooseRow 64 = .ok (.invokevirtual 70, 3) := by decide +kernel
theorem dX5_chooseRow_67 : decode cX5_chooseRow 67 = .ok (.aload_n 1, 1) := by decide +kernel
theorem dX5_chooseRow_68 : decode cX5_chooseRow 68 = .ok (.getfield 38, 3) := by decide +kernel
theorem dX5_chooseRow_71 : decode cX5_chooseRow 71 = .ok (.iload 4, 2) := by decide +kernel
theorem dX5_chooseRow_73 : decode cX5_chooseRow 73 = .ok (.iadd, 1) := by decide +kernel
theorem dX5_chooseRow_74 : decode cX5_chooseRow 74 = .ok (.invokestatic 41, 3) := by decide +kernel
theorem dX5_chooseRow_77 : decode cX5_chooseRow 77 = .ok (.istore_n 3, 1) := by decide +kernel
theorem dX5_chooseRow_78 : decode cX5_chooseRow 78 = .ok (.iinc 4 1, 3) := by decide +kernel
theorem dX5_chooseRow_81 : decode cX5_chooseRow 81 = .ok (.goto (-50), 3) := by decide +kernel
theorem dX5_chooseRow_84 : decode cX5_chooseRow 84 = .ok (.return_, 1) := by decide +kernel
theorem dX5_filled_0 : decode cX5_filled 0 = .ok (.aload_n 0, 1) := by decide +kernel
theorem dX5_filled_1 : decode cX5_filled 1 = .ok (.getfield 18, 3) := by decide +kernel
theorem dX5_filled_4 : decode cX5_filled 4 = .ok (.iload_n 1, 1) := by decide +kernel
theorem dX5_filled_5 : decode cX5_filled 5 = .ok (.iaload, 1) := by decide +kernel
theorem dX5_filled_6 : decode cX5_filled 6 = .ok (.iconst (-1), 1) := by decide +kernel
theorem dX5_filled_7 : decode cX5_filled 7 = .ok (.if_icmp .ne 7, 3) := by decide +kernel
theorem dX5_filled_10 : decode cX5_filled 10 = .ok (.iload_n 2, 1) := by decide +kernel
theorem dX5_filled_11 : decode cX5_filled 11 = .ok (.goto 15, 3) := by decide +kernel
theorem dX5_filled_14 : decode cX5_filled 14 = .ok (.aload_n 0, 1) := by decide +kernel
theorem dX5_filled_15 : decode cX5_filled 15 = .ok (.iload_n 1, 1) := by decide +kernel
theorem dX5_filled_16 : decode cX5_filled 16 = .ok (.aload_n 0, 1) := by decide +kernel
theorem dX5_filled_17 : decode cX5_filled 17 = .ok (.getfield 18, 3) := by decide +kernel
theorem dX5_filled_20 : decode cX5_filled 20 = .ok (.iload_n 1, 1) := by decide +kernel
theorem dX5_filled_21 : decode cX5_filled 21 = .ok (.iaload, 1) := by decide +kernel
theorem dX5_filled_22 : decode cX5_filled 22 = .ok (.iload_n 2, 1) := by decide +kernel
theorem dX5_filled_23 : decode cX5_filled 23 = .ok (.invokevirtual 73, 3) := by decide +kernel
theorem dX5_filled_26 : decode cX5_filled 26 = .ok (.ireturn, 1) := by decide +kernel
theorem dX5_firstThatReaches_0 : decode cX5_firstThatReaches 0 = .ok (.iconst 0, 1) := by decide +kernel
theorem dX5_firstThatReaches_1 : decode cX5_firstThatReaches 1 = .ok (.istore_n 3, 1) := by decide +kernel
theorem dX5_firstThatReaches_2 : decode cX5_firstThatReaches 2 = .ok (.iload_n 3, 1) := by decide +kernel
theorem dX5_firstThatReaches_3 : decode cX5_firstThatReaches 3 = .ok (.aload_n 0, 1) := by decide +kernel
theorem dX5_firstThatReaches_4 : decode cX5_firstThatReaches 4 = .ok (.getfield 27, 3) := by decide +kernel
theorem dX5_firstThatReaches_7 : decode cX5_firstThatReaches 7 = .ok (.if_icmp .ge 50, 3) := by decide +kernel
theorem dX5_firstThatReaches_10 : decode cX5_firstThatReaches 10 = .ok (.aload_n 0, 1) := by decide +kernel
theorem dX5_firstThatReaches_11 : decode cX5_firstThatReaches 11 = .ok (.getfield 11, 3) := by decide +kernel
theorem dX5_firstThatReaches_14 : decode cX5_firstThatReaches 14 = .ok (.iload_n 1, 1) := by decide +kernel
theorem dX5_firstThatReaches_15 : decode cX5_firstThatReaches 15 = .ok (.bipush 7, 2) := by decide +kernel
theorem dX5_firstThatReaches_17 : decode cX5_firstThatReaches 17 = .ok (.imul, 1) := by decide +kernel
theorem dX5_firstThatReaches_18 : decode cX5_firstThatReaches 18 = .ok (.iload_n 3, 1) := by decide +kernel
theorem dX5_firstThatReaches_19 : decode cX5_firstThatReaches 19 = .ok (.iadd, 1) := by decide +kernel
theorem dX5_firstThatReaches_20 : decode cX5_firstThatReaches 20 = .ok (.iaload, 1) := by decide +kernel
theorem dX5_firstThatReaches_21 : decode cX5_firstThatReaches 21 = .ok (.iconst (-1), 1) := by decide +kernel
theorem dX5_firstThatReaches_22 : decode cX5_firstThatReaches 22 = .ok (.if_icmp .eq 29, 3) := by decide +kernel
theorem dX5_firstThatReaches_25 : decode cX5_firstThatReaches 25 = .ok (.aload_n 0, 1) := by decide +kernel
theorem dX5_firstThatReaches_26 : decode cX5_firstThatReaches 26 = .ok (.getfield 15, 3) := by decide +kernel
theorem dX5_firstThatReaches_29 : decode cX5_firstThatReaches 29 = .ok (.iload_n 1, 1) := by decide +kernel
theorem dX5_firstThatReaches_30 : decode cX5_firstThatReaches 30 = .ok (.bipush 61, 2) := by decide +kernel
theorem dX5_firstThatReaches_32 : decode cX5_firstThatReaches 32 = .ok (.imul, 1) := by decide +kernel
theorem dX5_firstThatReaches_33 : decode cX5_firstThatReaches 33 = .ok (.aload_n 0, 1) := by decide +kernel
theorem dX5_firstThatReaches_34 : decode cX5_firstThatReaches 34 = .ok (.iload_n 1, 1) := by decide +kernel
theorem dX5_firstThatReaches_35 : decode cX5_firstThatReaches 35 = .ok (.iload_n 3, 1) := by decide +kernel
theorem dX5_firstThatReaches_36 : decode cX5_firstThatReaches 36 = .ok (.iload_n 2, 1) := by decide +kernel
theorem dX5_firstThatReaches_37 : decode cX5_firstThatReaches 37 = .ok (.invokevirtual 73, 3) := by decide +kernel
theorem dX5_firstThatReaches_40 : decode cX5_firstThatReaches 40 = .ok (.iadd, 1) := by decide +kernel
theorem dX5_firstThatReaches_41 : decode cX5_firstThatReaches 41 = .ok (.iaload, 1) := by decide +kernel
theorem dX5_firstThatReaches_42 : decode cX5_firstThatReaches 42 = .ok (.aload_n 0, 1) := by decide +kernel
theorem dX5_firstThatReaches_43 : decode cX5_firstThatReaches 43 = .ok (.getfield 64, 3) := by decide +kernel
theorem dX5_firstThatReaches_46 : decode cX5_firstThatReaches 46 = .ok (.if_icmp .ne 5, 3) := by decide +kernel
theorem dX5_firstThatReaches_49 : decode cX5_firstThatReaches 49 = .ok (.iload_n 3, 1) := by decide +kernel
theorem dX5_firstThatReaches_50 : decode cX5_firstThatReaches 50 = .ok (.ireturn, 1) := by decide +kernel
theorem dX5_firstThatReaches_51 : decode cX5_firstThatReaches 51 = .ok (.iinc 3 1, 3) := by decide +kernel
theorem dX5_firstThatReaches_54 : decode cX5_firstThatReaches 54 = .ok (.goto (-52), 3) := by decide +kernel
theorem dX5_firstThatReaches_57 : decode cX5_firstThatReaches 57 = .ok (.iconst (-1), 1) := by decide +kernel
theorem dX5_firstThatReaches_58 : decode cX5_firstThatReaches 58 = .ok (.ireturn, 1) := by decide +kernel
theorem dX5_make_0 : decode cX5_make 0 = .ok (.aload_n 0, 1) := by decide +kernel
theorem dX5_make_1 : decode cX5_make 1 = .ok (.aload_n 1, 1) := by decide +kernel
theorem dX5_make_2 : decode cX5_make 2 = .ok (.getfield 21, 3) := by decide +kernel
theorem dX5_make_5 : decode cX5_make 5 = .ok (.putfield 27, 3) := by decide +kernel
theorem dX5_make_8 : decode cX5_make 8 = .ok (.aload_n 0, 1) := by decide +kernel
theorem dX5_make_9 : decode cX5_make 9 = .ok (.iload_n 3, 1) := by decide +kernel
theorem dX5_make_10 : decode cX5_make 10 = .ok (.putfield 28, 3) := by decide +kernel
theorem dX5_make_13 : decode cX5_make 13 = .ok (.iconst 0, 1) := by decide +kernel
theorem dX5_make_14 : decode cX5_make 14 = .ok (.istore 4, 2) := by decide +kernel
theorem dX5_make_16 : decode cX5_make 16 = .ok (.iload 4, 2) := by decide +kernel
theorem dX5_make_18 : decode cX5_make 18 = .ok (.iload_n 3, 1) := by decide +kernel
theorem dX5_make_19 : decode cX5_make 19 = .ok (.if_icmp .ge 16, 3) := by decide +kernel
theorem dX5_make_22 : decode cX5_make 22 = .ok (.aload_n 0, 1) := by decide +kernel
theorem dX5_make_23 : decode cX5_make 23 = .ok (.aload_n 1, 1) := by decide +kernel
theorem dX5_make_24 : decode cX5_make 24 = .ok (.iload 4, 2) := by decide +kernel
theorem dX5_make_26 : decode cX5_make 26 = .ok (.invokevirtual 31, 3) := by decide +kernel
theorem dX5_make_29 : decode cX5_make 29 = .ok (.iinc 4 1, 3) := by decide +kernel
theorem dX5_make_32 : decode cX5_make 32 = .ok (.goto (-16), 3) := by decide +kernel
theorem dX5_make_35 : decode cX5_make 35 = .ok (.iload_n 3, 1) := by decide +kernel
theorem dX5_make_36 : decode cX5_make 36 = .ok (.iconst 1, 1) := by decide +kernel
theorem dX5_make_37 : decode cX5_make 37 = .ok (.isub, 1) := by decide +kernel
theorem dX5_make_38 : decode cX5_make 38 = .ok (.istore 4, 2) := by decide +kernel
theorem dX5_make_40 : decode cX5_make 40 = .ok (.iload 4, 2) := by decide +kernel
theorem dX5_make_42 : decode cX5_make 42 = .ok (.ifCond .lt 81, 3) := by decide +kernel
theorem dX5_make_45 : decode cX5_make 45 = .ok (.iconst 0, 1) := by decide +kernel
theorem dX5_make_46 : decode cX5_make 46 = .ok (.istore 5, 2) := by decide +kernel
theorem dX5_make_48 : decode cX5_make 48 = .ok (.iload 5, 2) := by decide +kernel
theorem dX5_make_50 : decode cX5_make 50 = .ok (.bipush 60, 2) := by decide +kernel
theorem dX5_make_52 : decode cX5_make 52 = .ok (.if_icmp .gt 65, 3) := by decide +kernel
theorem dX5_make_55 : decode cX5_make 55 = .ok (.aload_n 1, 1) := by decide +kernel
theorem dX5_make_56 : decode cX5_make 56 = .ok (.getfield 35, 3) := by decide +kernel
theorem dX5_make_59 : decode cX5_make 59 = .ok (.iload_n 2, 1) := by decide +kernel
theorem dX5_make_60 : decode cX5_make 60 = .ok (.iaload, 1) := by decide +kernel
theorem dX5_make_61 : decode cX5_make 61 = .ok (.iload 5, 2) := by decide +kernel
theorem dX5_make_63 : decode cX5_make 63 = .ok (.aload_n 1, 1) := by decide +kernel
theorem dX5_make_64 : decode cX5_make 64 = .ok (.getfield 38, 3) := by decide +kernel
theorem dX5_make_67 : decode cX5_make 67 = .ok (.iload 4, 2) := by decide +kernel
theorem dX5_make_69 : decode cX5_make 69 = .ok (.iadd, 1) := by decide +kernel
theorem dX5_make_70 : decode cX5_make 70 = .ok (.invokestatic 41, 3) := by decide +kernel
theorem dX5_make_73 : decode cX5_make 73 = .ok (.istore 6, 2) := by decide +kernel
theorem dX5_make_75 : decode cX5_make 75 = .ok (.aload_n 0, 1) := by decide +kernel
theorem dX5_make_76 : decode cX5_make 76 = .ok (.getfield 15, 3) := by decide +kernel
theorem dX5_make_79 : decode cX5_make 79 = .ok (.iload 4, 2) := by decide +kernel
theorem dX5_make_81 : decode cX5_make 81 = .ok (.bipush 61, 2) := by decide +kernel
theorem dX5_make_83 : decode cX5_make 83 = .ok (.imul, 1) := by decide +kernel
theorem dX5_make_84 : decode cX5_make 84 = .ok (.iload 5, 2) := by decide +kernel
theorem dX5_make_86 : decode cX5_make 86 = .ok (.iadd, 1) := by decide +kernel
theorem dX5_make_87 : decode cX5_make 87 = .ok (.iload 4, 2) := by decide +kernel
theorem dX5_make_89 : decode cX5_make 89 = .ok (.iload_n 3, 1) := by decide +kernel
theorem dX5_make_90 : decode cX5_make 90 = .ok (.iconst 1, 1) := by decide +kernel
theorem dX5_make_91 : decode cX5_make 91 = .ok (.isub, 1) := by decide +kernel
theorem dX5_make_92 : decode cX5_make 92 = .ok (.if_icmp .ne 8, 3) := by decide +kernel
theorem dX5_make_95 : decode cX5_make 95 = .ok (.iload 6, 2) := by decide +kernel
theorem dX5_make_97 : decode cX5_make 97 = .ok (.goto 13, 3) := by decide +kernel
theorem dX5_make_100 : decode cX5_make 100 = .ok (.aload_n 0, 1) := by decide +kernel
theorem dX5_make_101 : decode cX5_make 101 = .ok (.iload 4, 2) := by decide +kernel
theorem dX5_make_103 : decode cX5_make 103 = .ok (.iconst 1, 1) := by decide +kernel
theorem dX5_make_104 : decode cX5_make 104 = .ok (.iadd, 1) := by decide +kernel
theorem dX5_make_105 : decode cX5_make 105 = .ok (.iload 6, 2) := by decide +kernel
theorem dX5_make_107 : decode cX5_make 107 = .ok (.invokevirtual 47, 3) := by decide +kernel
theorem dX5_make_110 : decode cX5_make 110 = .ok (.iastore, 1) := by decide +kernel
theorem dX5_make_111 : decode cX5_make 111 = .ok (.iinc 5 1, 3) := by decide +kernel
theorem dX5_make_114 : decode cX5_make 114 = .ok (.goto (-66), 3) := by decide +kernel
theorem dX5_make_117 : decode cX5_make 117 = .ok (.iinc 4 (-1), 3) := by decide +kernel
theorem dX5_make_120 : decode cX5_make 120 = .ok (.goto (-80), 3) := by decide +kernel
theorem dX5_make_123 : decode cX5_make 123 = .ok (.aload_n 0, 1) := by decide +kernel
theorem dX5_make_124 : decode cX5_make 124 = .ok (.aload_n 1, 1) := by decide +kernel
theorem dX5_make_125 : decode cX5_make 125 = .ok (.iload_n 2, 1) := by decide +kernel
theorem dX5_make_126 : decode cX5_make 126 = .ok (.invokevirtual 51, 3) := by decide +kernel
theorem dX5_make_129 : decode cX5_make 129 = .ok (.return_, 1) := by decide +kernel
theorem dX5_mostFrom_0 : decode cX5_mostFrom 0 = .ok (.aload_n 0, 1) := by decide +kernel
theorem dX5_mostFrom_1 : decode cX5_mostFrom 1 = .ok (.getfield 15, 3) := by decide +kernel
theorem dX5_mostFrom_4 : decode cX5_mostFrom 4 = .ok (.iload_n 1, 1) := by decide +kernel
theorem dX5_mostFrom_5 : decode cX5_mostFrom 5 = .ok (.bipush 61, 2) := by decide +kernel
theorem dX5_mostFrom_7 : decode cX5_mostFrom 7 = .ok (.imul, 1) := by decide +kernel
theorem dX5_mostFrom_8 : decode cX5_mostFrom 8 = .ok (.iload_n 2, 1) := by decide +kernel
theorem dX5_mostFrom_9 : decode cX5_mostFrom 9 = .ok (.iadd, 1) := by decide +kernel
theorem dX5_mostFrom_10 : decode cX5_mostFrom 10 = .ok (.iaload, 1) := by decide +kernel
theorem dX5_mostFrom_11 : decode cX5_mostFrom 11 = .ok (.istore_n 3, 1) := by decide +kernel
theorem dX5_mostFrom_12 : decode cX5_mostFrom 12 = .ok (.iconst 0, 1) := by decide +kernel
theorem dX5_mostFrom_13 : decode cX5_mostFrom 13 = .ok (.istore 4, 2) := by decide +kernel
theorem dX5_mostFrom_15 : decode cX5_mostFrom 15 = .ok (.iload 4, 2) := by decide +kernel
theorem dX5_mostFrom_17 : decode cX5_mostFrom 17 = .ok (.aload_n 0, 1) := by decide +kernel
theorem dX5_mostFrom_18 : decode cX5_mostFrom 18 = .ok (.getfield 27, 3) := by decide +kernel
theorem dX5_mostFrom_21 : decode cX5_mostFrom 21 = .ok (.if_icmp .ge 32, 3) := by decide +kernel
theorem dX5_mostFrom_24 : decode cX5_mostFrom 24 = .ok (.iload_n 3, 1) := by decide +kernel
theorem dX5_mostFrom_25 : decode cX5_mostFrom 25 = .ok (.aload_n 0, 1) := by decide +kernel
theorem dX5_mostFrom_26 : decode cX5_mostFrom 26 = .ok (.getfield 15, 3) := by decide +kernel
theorem dX5_mostFrom_29 : decode cX5_mostFrom 29 = .ok (.iload_n 1, 1) := by decide +kernel
theorem dX5_mostFrom_30 : decode cX5_mostFrom 30 = .ok (.bipush 61, 2) := by decide +kernel
theorem dX5_mostFrom_32 : decode cX5_mostFrom 32 = .ok (.imul, 1) := by decide +kernel
theorem dX5_mostFrom_33 : decode cX5_mostFrom 33 = .ok (.aload_n 0, 1) := by decide +kernel
theorem dX5_mostFrom_34 : decode cX5_mostFrom 34 = .ok (.iload_n 1, 1) := by decide +kernel
theorem dX5_mostFrom_35 : decode cX5_mostFrom 35 = .ok (.iload 4, 2) := by decide +kernel
theorem dX5_mostFrom_37 : decode cX5_mostFrom 37 = .ok (.iload_n 2, 1) := by decide +kernel
theorem dX5_mostFrom_38 : decode cX5_mostFrom 38 = .ok (.invokevirtual 73, 3) := by decide +kernel
theorem dX5_mostFrom_41 : decode cX5_mostFrom 41 = .ok (.iadd, 1) := by decide +kernel
theorem dX5_mostFrom_42 : decode cX5_mostFrom 42 = .ok (.iaload, 1) := by decide +kernel
theorem dX5_mostFrom_43 : decode cX5_mostFrom 43 = .ok (.invokestatic 76, 3) := by decide +kernel
theorem dX5_mostFrom_46 : decode cX5_mostFrom 46 = .ok (.istore_n 3, 1) := by decide +kernel
theorem dX5_mostFrom_47 : decode cX5_mostFrom 47 = .ok (.iinc 4 1, 3) := by decide +kernel
theorem dX5_mostFrom_50 : decode cX5_mostFrom 50 = .ok (.goto (-35), 3) := by decide +kernel
theorem dX5_mostFrom_53 : decode cX5_mostFrom 53 = .ok (.iload_n 3, 1) := by decide +kernel
theorem dX5_mostFrom_54 : decode cX5_mostFrom 54 = .ok (.ireturn, 1) := by decide +kernel
theorem dX5_waysInAll_0 : decode cX5_waysInAll 0 = .ok (.lconst 1, 1) := by decide +kernel
theorem dX5_waysInAll_1 : decode cX5_waysInAll 1 = .ok (.lstore_n 1, 1) := by decide +kernel
theorem dX5_waysInAll_2 : decode cX5_waysInAll 2 = .ok (.iconst 0, 1) := by decide +kernel
theorem dX5_waysInAll_3 : decode cX5_waysInAll 3 = .ok (.istore_n 3, 1) := by decide +kernel
theorem dX5_waysInAll_4 : decode cX5_waysInAll 4 = .ok (.iload_n 3, 1) := by decide +kernel
theorem dX5_waysInAll_5 : decode cX5_waysInAll 5 = .ok (.aload_n 0, 1) := by decide +kernel
theorem dX5_waysInAll_6 : decode cX5_waysInAll 6 = .ok (.getfield 28, 3) := by decide +kernel
theorem dX5_waysInAll_9 : decode cX5_waysInAll 9 = .ok (.if_icmp .ge 15, 3) := by decide +kernel
theorem dX5_waysInAll_12 : decode cX5_waysInAll 12 = .ok (.lload_n 1, 1) := by decide +kernel
theorem dX5_waysInAll_13 : decode cX5_waysInAll 13 = .ok (.ldc2_w 84, 3) := by decide +kernel
theorem dX5_waysInAll_16 : decode cX5_waysInAll 16 = .ok (.lmul, 1) := by decide +kernel
theorem dX5_waysInAll_17 : decode cX5_waysInAll 17 = .ok (.lstore_n 1, 1) := by decide +kernel
theorem dX5_waysInAll_18 : decode cX5_waysInAll 18 = .ok (.iinc 3 1, 3) := by decide +kernel
theorem dX5_waysInAll_21 : decode cX5_waysInAll 21 = .ok (.goto (-17), 3) := by decide +kernel
theorem dX5_waysInAll_24 : decode cX5_waysInAll 24 = .ok (.lload_n 1, 1) := by decide +kernel
theorem dX5_waysInAll_25 : decode cX5_waysInAll 25 = .ok (.lreturn, 1) := by decide +kernel
theorem dX5_waysToKeep_0 : decode cX5_waysToKeep 0 = .ok (.lconst 0, 1) := by decide +kernel
theorem dX5_waysToKeep_1 : decode cX5_waysToKeep 1 = .ok (.lstore 5, 2) := by decide +kernel
theorem dX5_waysToKeep_3 : decode cX5_waysToKeep 3 = .ok (.iconst 0, 1) := by decide +kernel
theorem dX5_waysToKeep_4 : decode cX5_waysToKeep 4 = .ok (.istore 7, 2) := by decide +kernel
theorem dX5_waysToKeep_6 : decode cX5_waysToKeep 6 = .ok (.iload 7, 2) := by decide +kernel
theorem dX5_waysToKeep_8 : decode cX5_waysToKeep 8 = .ok (.iconst 1, 1) := by decide +kernel
theorem dX5_waysToKeep_9 : decode cX5_waysToKeep 9 = .ok (.aload_n 0, 1) := by decide +kernel
theorem dX5_waysToKeep_10 : decode cX5_waysToKeep 10 = .ok (.getfield 28, 3) := by decide +kernel
theorem dX5_waysToKeep_13 : decode cX5_waysToKeep 13 = .ok (.ishl, 1) := by decide +kernel
theorem dX5_waysToKeep_14 : decode cX5_waysToKeep 14 = .ok (.if_icmp .ge 126, 3) := by decide +kernel
theorem dX5_waysToKeep_17 : decode cX5_waysToKeep 17 = .ok (.lconst 1, 1) := by decide +kernel
theorem dX5_waysToKeep_18 : decode cX5_waysToKeep 18 = .ok (.lstore 8, 2) := by decide +kernel
theorem dX5_waysToKeep_20 : decode cX5_waysToKeep 20 = .ok (.aload_n 1, 1) := by decide +kernel
theorem dX5_waysToKeep_21 : decode cX5_waysToKeep 21 = .ok (.getfield 61, 3) := by decide +kernel
theorem dX5_waysToKeep_24 : decode cX5_waysToKeep 24 = .ok (.iload_n 2, 1) := by decide +kernel
theorem dX5_waysToKeep_25 : decode cX5_waysToKeep 25 = .ok (.iaload, 1) := by decide +kernel
theorem dX5_waysToKeep_26 : decode cX5_waysToKeep 26 = .ok (.istore 10, 2) := by decide +kernel
theorem dX5_waysToKeep_28 : decode cX5_waysToKeep 28 = .ok (.iconst 0, 1) := by decide +kernel
theorem dX5_waysToKeep_29 : decode cX5_waysToKeep 29 = .ok (.istore 11, 2) := by decide +kernel
theorem dX5_waysToKeep_31 : decode cX5_waysToKeep 31 = .ok (.iload 11, 2) := by decide +kernel
theorem dX5_waysToKeep_33 : decode cX5_waysToKeep 33 = .ok (.aload_n 0, 1) := by decide +kernel
theorem dX5_waysToKeep_34 : decode cX5_waysToKeep 34 = .ok (.getfield 28, 3) := by decide +kernel
theorem dX5_waysToKeep_37 : decode cX5_waysToKeep 37 = .ok (.if_icmp .ge 84, 3) := by decide +kernel
theorem dX5_waysToKeep_40 : decode cX5_waysToKeep 40 = .ok (.iload 7, 2) := by decide +kernel
theorem dX5_waysToKeep_42 : decode cX5_waysToKeep 42 = .ok (.iload 11, 2) := by decide +kernel
theorem dX5_waysToKeep_44 : decode cX5_waysToKeep 44 = .ok (.ishr, 1) := by decide +kernel
theorem dX5_waysToKeep_45 : decode cX5_waysToKeep 45 = .ok (.iconst 1, 1) := by decide +kernel
theorem dX5_waysToKeep_46 : decode cX5_waysToKeep 46 = .ok (.iand, 1) := by decide +kernel
theorem dX5_waysToKeep_47 : decode cX5_waysToKeep 47 = .ok (.ifCond .eq 7, 3) := by decide +kernel
theorem dX5_waysToKeep_50 : decode cX5_waysToKeep 50 = .ok (.iconst 1, 1) := by decide +kernel
theorem dX5_waysToKeep_51 : decode cX5_waysToKeep 51 = .ok (.goto 4, 3) := by decide +kernel
theorem dX5_waysToKeep_54 : decode cX5_waysToKeep 54 = .ok (.iconst 0, 1) := by decide +kernel
theorem dX5_waysToKeep_55 : decode cX5_waysToKeep 55 = .ok (.istore 12, 2) := by decide +kernel
theorem dX5_waysToKeep_57 : decode cX5_waysToKeep 57 = .ok (.lload 8, 2) := by decide +kernel
theorem dX5_waysToKeep_59 : decode cX5_waysToKeep 59 = .ok (.iload 12, 2) := by decide +kernel
theorem dX5_waysToKeep_61 : decode cX5_waysToKeep 61 = .ok (.ifCond .eq 9, 3) := by decide +kernel
theorem dX5_waysToKeep_64 : decode cX5_waysToKeep 64 = .ok (.iload 4, 2) := by decide +kernel
theorem dX5_waysToKeep_66 : decode cX5_waysToKeep 66 = .ok (.i2l, 1) := by decide +kernel
theorem dX5_waysToKeep_67 : decode cX5_waysToKeep 67 = .ok (.goto 9, 3) := by decide +kernel
theorem dX5_waysToKeep_70 : decode cX5_waysToKeep 70 = .ok (.bipush 10, 2) := by decide +kernel
theorem dX5_waysToKeep_72 : decode cX5_waysToKeep 72 = .ok (.iload 4, 2) := by decide +kernel
theorem dX5_waysToKeep_74 : decode cX5_waysToKeep 74 = .ok (.isub, 1) := by decide +kernel
theorem dX5_waysToKeep_75 : decode cX5_waysToKeep 75 = .ok (.i2l, 1) := by decide +kernel
theorem dX5_waysToKeep_76 : decode cX5_waysToKeep 76 = .ok (.lmul, 1) := by decide +kernel
theorem dX5_waysToKeep_77 : decode cX5_waysToKeep 77 = .ok (.lstore 8, 2) := by decide +kernel
theorem dX5_waysToKeep_79 : decode cX5_waysToKeep 79 = .ok (.aload_n 1, 1) := by decide +kernel
theorem dX5_waysToKeep_80 : decode cX5_waysToKeep 80 = .ok (.getfield 35, 3) := by decide +kernel
theorem dX5_waysToKeep_83 : decode cX5_waysToKeep 83 = .ok (.iload_n 2, 1) := by decide +kernel
theorem dX5_waysToKeep_84 : decode cX5_waysToKeep 84 = .ok (.iaload, 1) := by decide +kernel
theorem dX5_waysToKeep_85 : decode cX5_waysToKeep 85 = .ok (.iload 12, 2) := by decide +kernel
theorem dX5_waysToKeep_87 : decode cX5_waysToKeep 87 = .ok (.ifCond .eq 8, 3) := by decide +kernel
theorem dX5_waysToKeep_90 : decode cX5_waysToKeep 90 = .ok (.iload 10, 2) := by decide +kernel
theorem dX5_waysToKeep_92 : decode cX5_waysToKeep 92 = .ok (.goto 11, 3) := by decide +kernel
theorem dX5_waysToKeep_95 : decode cX5_waysToKeep 95 = .ok (.aload_n 0, 1) := by decide +kernel
theorem dX5_waysToKeep_96 : decode cX5_waysToKeep 96 = .ok (.iload 11, 2) := by decide +kernel
theorem dX5_waysToKeep_98 : decode cX5_waysToKeep 98 = .ok (.iload 10, 2) := by decide +kernel
theorem dX5_waysToKeep_100 : decode cX5_waysToKeep 100 = .ok (.invokevirtual 70, 3) := by decide +kernel
theorem dX5_waysToKeep_103 : decode cX5_waysToKeep 103 = .ok (.aload_n 1, 1) := by decide +kernel
theorem dX5_waysToKeep_104 : decode cX5_waysToKeep 104 = .ok (.getfield 38, 3) := by decide +kernel
theorem dX5_waysToKeep_107 : decode cX5_waysToKeep 107 = .ok (.iload 11, 2) := by decide +kernel
theorem dX5_waysToKeep_109 : decode cX5_waysToKeep 109 = .ok (.iadd, 1) := by decide +kernel
theorem dX5_waysToKeep_110 : decode cX5_waysToKeep 110 = .ok (.invokestatic 41, 3) := by decide +kernel
theorem dX5_waysToKeep_113 : decode cX5_waysToKeep 113 = .ok (.istore 10, 2) := by decide +kernel
theorem dX5_waysToKeep_115 : decode cX5_waysToKeep 115 = .ok (.iinc 11 1, 3) := by decide +kernel
theorem dX5_waysToKeep_118 : decode cX5_waysToKeep 118 = .ok (.goto (-87), 3) := by decide +kernel
theorem dX5_waysToKeep_121 : decode cX5_waysToKeep 121 = .ok (.iload 10, 2) := by decide +kernel
theorem dX5_waysToKeep_123 : decode cX5_waysToKeep 123 = .ok (.iload_n 3, 1) := by decide +kernel
theorem dX5_waysToKeep_124 : decode cX5_waysToKeep 124 = .ok (.if_icmp .lt 10, 3) := by decide +kernel
theorem dX5_waysToKeep_127 : decode cX5_waysToKeep 127 = .ok (.lload 5, 2) := by decide +kernel
theorem dX5_waysToKeep_129 : decode cX5_waysToKeep 129 = .ok (.lload 8, 2) := by decide +kernel
theorem dX5_waysToKeep_131 : decode cX5_waysToKeep 131 = .ok (.ladd, 1) := by decide +kernel
theorem dX5_waysToKeep_132 : decode cX5_waysToKeep 132 = .ok (.lstore 5, 2) := by decide +kernel
theorem dX5_waysToKeep_134 : decode cX5_waysToKeep 134 = .ok (.iinc 7 1, 3) := by decide +kernel
theorem dX5_waysToKeep_137 : decode cX5_waysToKeep 137 = .ok (.goto (-131), 3) := by decide +kernel
theorem dX5_waysToKeep_140 : decode cX5_waysToKeep 140 = .ok (.lload 5, 2) := by decide +kernel
theorem dX5_waysToKeep_142 : decode cX5_waysToKeep 142 = .ok (.lreturn, 1) := by decide +kernel
theorem dX5_with_0 : decode cX5_with 0 = .ok (.bipush 60, 2) := by decide +kernel
theorem dX5_with_2 : decode cX5_with 2 = .ok (.iload_n 3, 1) := by decide +kernel
theorem dX5_with_3 : decode cX5_with 3 = .ok (.iconst 0, 1) := by decide +kernel
theorem dX5_with_4 : decode cX5_with 4 = .ok (.aload_n 0, 1) := by decide +kernel
theorem dX5_with_5 : decode cX5_with 5 = .ok (.getfield 11, 3) := by decide +kernel
theorem dX5_with_8 : decode cX5_with 8 = .ok (.iload_n 1, 1) := by decide +kernel
theorem dX5_with_9 : decode cX5_with 9 = .ok (.bipush 7, 2) := by decide +kernel
theorem dX5_with_11 : decode cX5_with 11 = .ok (.imul, 1) := by decide +kernel
theorem dX5_with_12 : decode cX5_with 12 = .ok (.iload_n 2, 1) := by decide +kernel
theorem dX5_with_13 : decode cX5_with 13 = .ok (.iadd, 1) := by decide +kernel
theorem dX5_with_14 : decode cX5_with 14 = .ok (.iaload, 1) := by decide +kernel
theorem dX5_with_15 : decode cX5_with 15 = .ok (.invokestatic 76, 3) := by decide +kernel
theorem dX5_with_18 : decode cX5_with 18 = .ok (.iadd, 1) := by decide +kernel
theorem dX5_with_19 : decode cX5_with 19 = .ok (.invokestatic 81, 3) := by decide +kernel
theorem dX5_with_22 : decode cX5_with 22 = .ok (.ireturn, 1) := by decide +kernel
theorem dX6_add_0 : decode cX6_add 0 = .ok (.aload_n 0, 1) := by decide +kernel
theorem dX6_add_1 : decode cX6_add 1 = .ok (.invokevirtual 19, 3) := by decide +kernel
theorem dX6_add_4 : decode cX6_add 4 = .ok (.ifCond .eq 6, 3) := by decide +kernel
theorem dX6_add_7 : decode cX6_add 7 = .ok (.bipush (-4), 2) := by decide +kernel
theorem dX6_add_9 : decode cX6_add 9 = .ok (.ireturn, 1) := by decide +kernel
theorem dX6_add_10 : decode cX6_add 10 = .ok (.aload_n 0, 1) := by decide +kernel
theorem dX6_add_11 : decode cX6_add 11 = .ok (.getfield 15, 3) := by decide +kernel
theorem dX6_add_14 : decode cX6_add 14 = .ok (.iconst 4, 1) := by decide +kernel
theorem dX6_add_15 : decode cX6_add 15 = .ok (.imul, 1) := by decide +kernel
theorem dX6_add_16 : decode cX6_add 16 = .ok (.istore 5, 2) := by decide +kernel
theorem dX6_add_18 : decode cX6_add 18 = .ok (.aload_n 0, 1) := by decide +kernel
theorem dX6_add_19 : decode cX6_add 19 = .ok (.getfield 11, 3) := by decide +kernel
theorem dX6_add_22 : decode cX6_add 22 = .ok (.iload 5, 2) := by decide +kernel
theorem dX6_add_24 : decode cX6_add 24 = .ok (.iload_n 1, 1) := by decide +kernel
theorem dX6_add_25 : decode cX6_add 25 = .ok (.iastore, 1) := by decide +kernel
theorem dX6_add_26 : decode cX6_add 26 = .ok (.aload_n 0, 1) := by decide +kernel
theorem dX6_add_27 : decode cX6_add 27 = .ok (.getfield 11, 3) := by decide +kernel
theorem dX6_add_30 : decode cX6_add 30 = .ok (.iload 5, 2) := by decide +kernel
theorem dX6_add_32 : decode cX6_add 32 = .ok (.iconst 1, 1) := by decide +kernel
theorem dX6_add_33 : decode cX6_add 33 = .ok (.iadd, 1) := by decide +kernel
theorem dX6_add_34 : decode cX6_add 34 = .ok (.iload_n 2, 1) := by decide +kernel
theorem dX6_add_35 : decode cX6_add 35 = .ok (.iastore, 1) := by decide +kernel
theorem dX6_add_36 : decode cX6_add 36 = .ok (.aload_n 0, 1) := by decide +kernel
theorem dX6_add_37 : decode cX6_add 37 = .ok (.getfield 11, 3) := by decide +kernel
theorem dX6_add_40 : decode cX6_add 40 = .ok (.iload 5, 2) := by decide +kernel
theorem dX6_add_42 : decode cX6_add 42 = .ok (.iconst 2, 1) := by decide +kernel
theorem dX6_add_43 : decode cX6_add 43 = .ok (.iadd, 1) := by decide +kernel
theorem dX6_add_44 : decode cX6_add 44 = .ok (.iload_n 3, 1) := by decide +kernel
theorem dX6_add_45 : decode cX6_add 45 = .ok (.iastore, 1) := by decide +kernel
theorem dX6_add_46 : decode cX6_add 46 = .ok (.aload_n 0, 1) := by decide +kernel
theorem dX6_add_47 : decode cX6_add 47 = .ok (.getfield 11, 3) := by decide +kernel
theorem dX6_add_50 : decode cX6_add 50 = .ok (.iload 5, 2) := by decide +kernel
theorem dX6_add_52 : decode cX6_add 52 = .ok (.iconst 3, 1) := by decide +kernel
theorem dX6_add_53 : decode cX6_add 53 = .ok (.iadd, 1) := by decide +kernel
theorem dX6_add_54 : decode cX6_add 54 = .ok (.iload 4, 2) := by decide +kernel
theorem dX6_add_56 : decode cX6_add 56 = .ok (.iastore, 1) := by decide +kernel
theorem dX6_add_57 : decode cX6_add 57 = .ok (.aload_n 0, 1) := by decide +kernel
theorem dX6_add_58 : decode cX6_add 58 = .ok (.dup, 1) := by decide +kernel
theorem dX6_add_59 : decode cX6_add 59 = .ok (.getfield 15, 3) := by decide +kernel
theorem dX6_add_62 : decode cX6_add 62 = .ok (.iconst 1, 1) := by decide +kernel
theorem dX6_add_63 : decode cX6_add 63 = .ok (.iadd, 1) := by decide +kernel
theorem dX6_add_64 : decode cX6_add 64 = .ok (.putfield 15, 3) := by decide +kernel
theorem dX6_add_67 : decode cX6_add 67 = .ok (.aload_n 0, 1) := by decide +kernel
theorem dX6_add_68 : decode cX6_add 68 = .ok (.getfield 15, 3) := by decide +kernel
theorem dX6_add_71 : decode cX6_add 71 = .ok (.ireturn, 1) := by decide +kernel
theorem dX6_agree_0 : decode cX6_agree 0 = .ok (.iconst 0, 1) := by decide +kernel
theorem dX6_agree_1 : decode cX6_agree 1 = .ok (.istore 4, 2) := by decide +kernel
theorem dX6_agree_3 : decode cX6_agree 3 = .ok (.iload 4, 2) := by decide +kernel
theorem dX6_agree_5 : decode cX6_agree 5 = .ok (.aload_n 0, 1) := by decide +kernel
theorem dX6_agree_6 : decode cX6_agree 6 = .ok (.getfield 15, 3) := by decide +kernel
theorem dX6_agree_9 : decode cX6_agree 9 = .ok (.iconst 4, 1) := by decide +kernel
theorem dX6_agree_10 : decode cX6_agree 10 = .ok (.imul, 1) := by decide +kernel
theorem dX6_agree_11 : decode cX6_agree 11 = .ok (.if_icmp .ge 57, 3) := by decide +kernel
theorem dX6_agree_14 : decode cX6_agree 14 = .ok (.aload_n 0, 1) := by decide +kernel
theorem dX6_agree_15 : decode cX6_agree 15 = .ok (.getfield 11, 3) := by decide +kernel
theorem dX6_agree_18 : decode cX6_agree 18 = .ok (.iload 4, 2) := by decide +kernel
theorem dX6_agree_20 : decode cX6_agree 20 = .ok (.iaload, 1) := by decide +kernel
theorem dX6_agree_21 : decode cX6_agree 21 = .ok (.iload_n 2, 1) := by decide +kernel
theorem dX6_agree_22 : decode cX6_agree 22 = .ok (.if_icmp .ne 40, 3) := by decide +kernel
theorem dX6_agree_25 : decode cX6_agree 25 = .ok (.iload_n 1, 1) := by decide +kernel
theorem dX6_agree_26 : decode cX6_agree 26 = .ok (.iload_n 3, 1) := by decide +kernel
theorem dX6_agree_27 : decode cX6_agree 27 = .ok (.aload_n 0, 1) := by decide +kernel
theorem dX6_agree_28 : decode cX6_agree 28 = .ok (.getfield 11, 3) := by decide +kernel
theorem dX6_agree_31 : decode cX6_agree 31 = .ok (.iload 4, 2) := by decide +kernel
theorem dX6_agree_33 : decode cX6_agree 33 = .ok (.iconst 1, 1) := by decide +kernel
theorem dX6_agree_34 : decode cX6_agree 34 = .ok (.iadd, 1) := by decide +kernel
theorem dX6_agree_35 : decode cX6_agree 35 = .ok (.iaload, 1) := by decide +kernel
theorem dX6_agree_36 : decode cX6_agree 36 = .ok (.aload_n 0, 1) := by decide +kernel
theorem dX6_agree_37 : decode cX6_agree 37 = .ok (.getfield 11, 3) := by decide +kernel
theorem dX6_agree_40 : decode cX6_agree 40 = .ok (.iload 4, 2) := by decide +kernel
theorem dX6_agree_42 : decode cX6_agree 42 = .ok (.iconst 2, 1) := by decide +kernel
theorem dX6_agree_43 : decode cX6_agree 43 = .ok (.iadd, 1) := by decide +kernel
theorem dX6_agree_44 : decode cX6_agree 44 = .ok (.iaload, 1) := by decide +kernel
theorem dX6_agree_45 : decode cX6_agree 45 = .ok (.invokestatic 29, 3) := by decide +kernel
theorem dX6_agree_48 : decode cX6_agree 48 = .ok (.aload_n 0, 1) := by decide +kernel
theorem dX6_agree_49 : decode cX6_agree 49 = .ok (.getfield 11, 3) := by decide +kernel
theorem dX6_agree_52 : decode cX6_agree 52 = .ok (.iload 4, 2) := by decide +kernel
theorem dX6_agree_54 : decode cX6_agree 54 = .ok (.iconst 3, 1) := by decide +kernel
theorem dX6_agree_55 : decode cX6_agree 55 = .ok (.iadd, 1) := by decide +kernel
theorem dX6_agree_56 : decode cX6_agree 56 = .ok (.iaload, 1) := by decide +kernel
theorem dX6_agree_57 : decode cX6_agree 57 = .ok (.if_icmp .eq 5, 3) := by decide +kernel
theorem dX6_agree_60 : decode cX6_agree 60 = .ok (.iconst 0, 1) := by decide +kernel
theorem dX6_agree_61 : decode cX6_agree 61 = .ok (.ireturn, 1) := by decide +kernel
theorem dX6_agree_62 : decode cX6_agree 62 = .ok (.iinc 4 4, 3) := by decide +kernel
theorem dX6_agree_65 : decode cX6_agree 65 = .ok (.goto (-62), 3) := by decide +kernel
theorem dX6_agree_68 : decode cX6_agree 68 = .ok (.iconst 1, 1) := by decide +kernel
theorem dX6_agree_69 : decode cX6_agree 69 = .ok (.ireturn, 1) := by decide +kernel
theorem dX6_become_0 : decode cX6_become 0 = .ok (.aload_n 1, 1) := by decide +kernel
theorem dX6_become_1 : decode cX6_become 1 = .ok (.getfield 11, 3) := by decide +kernel
theorem dX6_become_4 : decode cX6_become 4 = .ok (.iconst 0, 1) := by decide +kernel
theorem dX6_become_5 : decode cX6_become 5 = .ok (.aload_n 0, 1) := by decide +kernel
theorem dX6_become_6 : decode cX6_become 6 = .ok (.getfield 11, 3) := by decide +kernel
theorem dX6_become_9 : decode cX6_become 9 = .ok (.iconst 0, 1) := by decide +kernel
theorem dX6_become_10 : decode cX6_become 10 = .ok (.bipush 24, 2) := by decide +kernel
theorem dX6_become_12 : decode cX6_become 12 = .ok (.invokestatic 23, 3) := by decide +kernel
theorem dX6_become_15 : decode cX6_become 15 = .ok (.aload_n 0, 1) := by decide +kernel
theorem dX6_become_16 : decode cX6_become 16 = .ok (.aload_n 1, 1) := by decide +kernel
theorem dX6_become_17 : decode cX6_become 17 = .ok (.getfield 15, 3) := by decide +kernel
theorem dX6_become_20 : decode cX6_become 20 = .ok (.putfield 15, 3) := by decide +kernel
theorem dX6_become_23 : decode cX6_become 23 = .ok (.return_, 1) := by decide +kernel
theorem dX6_empty_0 : decode cX6_empty 0 = .ok (.aload_n 0, 1) := by decide +kernel
theorem dX6_empty_1 : decode cX6_empty 1 = .ok (.getfield 15, 3) := by decide +kernel
theorem dX6_empty_4 : decode cX6_empty 4 = .ok (.istore_n 1, 1) := by decide +kernel
theorem dX6_empty_5 : decode cX6_empty 5 = .ok (.aload_n 0, 1) := by decide +kernel
