theorem dX6_empty_6 : decode cX6_empty 6 = .ok (.iconst 0, 1) := by decide +kernel
theorem dX6_empty_7 : decode cX6_empty 7 = .ok (.putfield 15, 3) := by decide +kernel
theorem dX6_empty_10 : decode cX6_empty 10 = .ok (.iload_n 1, 1) := by decide +kernel
theorem dX6_empty_11 : decode cX6_empty 11 = .ok (.ireturn, 1) := by decide +kernel
theorem dX6_isFull_0 : decode cX6_isFull 0 = .ok (.aload_n 0, 1) := by decide +kernel
theorem dX6_isFull_1 : decode cX6_isFull 1 = .ok (.getfield 15, 3) := by decide +kernel
theorem dX6_isFull_4 : decode cX6_isFull 4 = .ok (.bipush 6, 2) := by decide +kernel
theorem dX6_isFull_6 : decode cX6_isFull 6 = .ok (.if_icmp .lt 7, 3) := by decide +kernel
theorem dX6_isFull_9 : decode cX6_isFull 9 = .ok (.iconst 1, 1) := by decide +kernel
theorem dX6_isFull_10 : decode cX6_isFull 10 = .ok (.goto 4, 3) := by decide +kernel
theorem dX6_isFull_13 : decode cX6_isFull 13 = .ok (.iconst 0, 1) := by decide +kernel
theorem dX6_isFull_14 : decode cX6_isFull 14 = .ok (.ireturn, 1) := by decide +kernel
theorem dX6_mixed_0 : decode cX6_mixed 0 = .ok (.lload_n 1, 1) := by decide +kernel
theorem dX6_mixed_1 : decode cX6_mixed 1 = .ok (.lstore_n 3, 1) := by decide +kernel
theorem dX6_mixed_2 : decode cX6_mixed 2 = .ok (.iconst 0, 1) := by decide +kernel
theorem dX6_mixed_3 : decode cX6_mixed 3 = .ok (.istore 5, 2) := by decide +kernel
theorem dX6_mixed_5 : decode cX6_mixed 5 = .ok (.iload 5, 2) := by decide +kernel
theorem dX6_mixed_7 : decode cX6_mixed 7 = .ok (.aload_n 0, 1) := by decide +kernel
theorem dX6_mixed_8 : decode cX6_mixed 8 = .ok (.getfield 15, 3) := by decide +kernel
theorem dX6_mixed_11 : decode cX6_mixed 11 = .ok (.iconst 4, 1) := by decide +kernel
theorem dX6_mixed_12 : decode cX6_mixed 12 = .ok (.imul, 1) := by decide +kernel
theorem dX6_mixed_13 : decode cX6_mixed 13 = .ok (.if_icmp .ge 24, 3) := by decide +kernel
theorem dX6_mixed_16 : decode cX6_mixed 16 = .ok (.ldc2_w 35, 3) := by decide +kernel
theorem dX6_mixed_19 : decode cX6_mixed 19 = .ok (.lload_n 3, 1) := by decide +kernel
theorem dX6_mixed_20 : decode cX6_mixed 20 = .ok (.lmul, 1) := by decide +kernel
theorem dX6_mixed_21 : decode cX6_mixed 21 = .ok (.aload_n 0, 1) := by decide +kernel
theorem dX6_mixed_22 : decode cX6_mixed 22 = .ok (.getfield 11, 3) := by decide +kernel
theorem dX6_mixed_25 : decode cX6_mixed 25 = .ok (.iload 5, 2) := by decide +kernel
theorem dX6_mixed_27 : decode cX6_mixed 27 = .ok (.iaload, 1) := by decide +kernel
theorem dX6_mixed_28 : decode cX6_mixed 28 = .ok (.i2l, 1) := by decide +kernel
theorem dX6_mixed_29 : decode cX6_mixed 29 = .ok (.ladd, 1) := by decide +kernel
theorem dX6_mixed_30 : decode cX6_mixed 30 = .ok (.lstore_n 3, 1) := by decide +kernel
theorem dX6_mixed_31 : decode cX6_mixed 31 = .ok (.iinc 5 1, 3) := by decide +kernel
theorem dX6_mixed_34 : decode cX6_mixed 34 = .ok (.goto (-29), 3) := by decide +kernel
theorem dX6_mixed_37 : decode cX6_mixed 37 = .ok (.lload_n 3, 1) := by decide +kernel
theorem dX6_mixed_38 : decode cX6_mixed 38 = .ok (.lreturn, 1) := by decide +kernel
theorem dX8_about_0 : decode cX8_about 0 = .ok (.aload_n 0, 1) := by decide +kernel
theorem dX8_about_1 : decode cX8_about 1 = .ok (.getfield 10, 3) := by decide +kernel
theorem dX8_about_4 : decode cX8_about 4 = .ok (.iload_n 1, 1) := by decide +kernel
theorem dX8_about_5 : decode cX8_about 5 = .ok (.invokevirtual 112, 3) := by decide +kernel
theorem dX8_about_8 : decode cX8_about 8 = .ok (.ifCond .ne 10, 3) := by decide +kernel
theorem dX8_about_11 : decode cX8_about 11 = .ok (.aload_n 0, 1) := by decide +kernel
theorem dX8_about_12 : decode cX8_about 12 = .ok (.bipush (-2), 2) := by decide +kernel
theorem dX8_about_14 : decode cX8_about 14 = .ok (.invokevirtual 59, 3) := by decide +kernel
theorem dX8_about_17 : decode cX8_about 17 = .ok (.ireturn, 1) := by decide +kernel
theorem dX8_about_18 : decode cX8_about 18 = .ok (.iload_n 2, 1) := by decide +kernel
theorem dX8_about_19 : decode cX8_about 19 = .ok (.tableswitch 79 0 3 #[29, 39, 49, 59], 29) := by decide +kernel
theorem dX8_about_48 : decode cX8_about 48 = .ok (.aload_n 0, 1) := by decide +kernel
theorem dX8_about_49 : decode cX8_about 49 = .ok (.getfield 10, 3) := by decide +kernel
theorem dX8_about_52 : decode cX8_about 52 = .ok (.getfield 157, 3) := by decide +kernel
theorem dX8_about_55 : decode cX8_about 55 = .ok (.iload_n 1, 1) := by decide +kernel
theorem dX8_about_56 : decode cX8_about 56 = .ok (.iaload, 1) := by decide +kernel
theorem dX8_about_57 : decode cX8_about 57 = .ok (.ireturn, 1) := by decide +kernel
theorem dX8_about_58 : decode cX8_about 58 = .ok (.aload_n 0, 1) := by decide +kernel
theorem dX8_about_59 : decode cX8_about 59 = .ok (.getfield 10, 3) := by decide +kernel
theorem dX8_about_62 : decode cX8_about 62 = .ok (.getfield 125, 3) := by decide +kernel
theorem dX8_about_65 : decode cX8_about 65 = .ok (.iload_n 1, 1) := by decide +kernel
theorem dX8_about_66 : decode cX8_about 66 = .ok (.iaload, 1) := by decide +kernel
theorem dX8_about_67 : decode cX8_about 67 = .ok (.ireturn, 1) := by decide +kernel
theorem dX8_about_68 : decode cX8_about 68 = .ok (.aload_n 0, 1) := by decide +kernel
theorem dX8_about_69 : decode cX8_about 69 = .ok (.getfield 10, 3) := by decide +kernel
theorem dX8_about_72 : decode cX8_about 72 = .ok (.getfield 160, 3) := by decide +kernel
theorem dX8_about_75 : decode cX8_about 75 = .ok (.iload_n 1, 1) := by decide +kernel
theorem dX8_about_76 : decode cX8_about 76 = .ok (.iaload, 1) := by decide +kernel
theorem dX8_about_77 : decode cX8_about 77 = .ok (.ireturn, 1) := by decide +kernel
theorem dX8_about_78 : decode cX8_about 78 = .ok (.aload_n 0, 1) := by decide +kernel
theorem dX8_about_79 : decode cX8_about 79 = .ok (.getfield 10, 3) := by decide +kernel
theorem dX8_about_82 : decode cX8_about 82 = .ok (.getfield 125, 3) := by decide +kernel
theorem dX8_about_85 : decode cX8_about 85 = .ok (.iload_n 1, 1) := by decide +kernel
theorem dX8_about_86 : decode cX8_about 86 = .ok (.iaload, 1) := by decide +kernel
theorem dX8_about_87 : decode cX8_about 87 = .ok (.aload_n 0, 1) := by decide +kernel
theorem dX8_about_88 : decode cX8_about 88 = .ok (.getfield 10, 3) := by decide +kernel
theorem dX8_about_91 : decode cX8_about 91 = .ok (.iload_n 1, 1) := by decide +kernel
theorem dX8_about_92 : decode cX8_about 92 = .ok (.iconst 1, 1) := by decide +kernel
theorem dX8_about_93 : decode cX8_about 93 = .ok (.invokevirtual 163, 3) := by decide +kernel
theorem dX8_about_96 : decode cX8_about 96 = .ok (.isub, 1) := by decide +kernel
theorem dX8_about_97 : decode cX8_about 97 = .ok (.ireturn, 1) := by decide +kernel
theorem dX8_about_98 : decode cX8_about 98 = .ok (.aload_n 0, 1) := by decide +kernel
theorem dX8_about_99 : decode cX8_about 99 = .ok (.bipush (-2), 2) := by decide +kernel
theorem dX8_about_101 : decode cX8_about 101 = .ok (.invokevirtual 59, 3) := by decide +kernel
theorem dX8_about_104 : decode cX8_about 104 = .ok (.ireturn, 1) := by decide +kernel
theorem dX8_ask_0 : decode cX8_ask 0 = .ok (.aload_n 0, 1) := by decide +kernel
theorem dX8_ask_1 : decode cX8_ask 1 = .ok (.getfield 10, 3) := by decide +kernel
theorem dX8_ask_4 : decode cX8_ask 4 = .ok (.iload_n 1, 1) := by decide +kernel
theorem dX8_ask_5 : decode cX8_ask 5 = .ok (.invokevirtual 112, 3) := by decide +kernel
theorem dX8_ask_8 : decode cX8_ask 8 = .ok (.ifCond .ne 10, 3) := by decide +kernel
theorem dX8_ask_11 : decode cX8_ask 11 = .ok (.aload_n 0, 1) := by decide +kernel
theorem dX8_ask_12 : decode cX8_ask 12 = .ok (.bipush (-2), 2) := by decide +kernel
theorem dX8_ask_14 : decode cX8_ask 14 = .ok (.invokevirtual 59, 3) := by decide +kernel
theorem dX8_ask_17 : decode cX8_ask 17 = .ok (.ireturn, 1) := by decide +kernel
theorem dX8_ask_18 : decode cX8_ask 18 = .ok (.aload_n 0, 1) := by decide +kernel
theorem dX8_ask_19 : decode cX8_ask 19 = .ok (.getfield 44, 3) := by decide +kernel
theorem dX8_ask_22 : decode cX8_ask 22 = .ok (.iconst 1, 1) := by decide +kernel
theorem dX8_ask_23 : decode cX8_ask 23 = .ok (.aload_n 0, 1) := by decide +kernel
theorem dX8_ask_24 : decode cX8_ask 24 = .ok (.getfield 10, 3) := by decide +kernel
theorem dX8_ask_27 : decode cX8_ask 27 = .ok (.getfield 202, 3) := by decide +kernel
theorem dX8_ask_30 : decode cX8_ask 30 = .ok (.iload_n 1, 1) := by decide +kernel
theorem dX8_ask_31 : decode cX8_ask 31 = .ok (.invokevirtual 206, 3) := by decide +kernel
theorem dX8_ask_34 : decode cX8_ask 34 = .ok (.istore_n 2, 1) := by decide +kernel
theorem dX8_ask_35 : decode cX8_ask 35 = .ok (.aload_n 0, 1) := by decide +kernel
theorem dX8_ask_36 : decode cX8_ask 36 = .ok (.getfield 44, 3) := by decide +kernel
theorem dX8_ask_39 : decode cX8_ask 39 = .ok (.iconst 1, 1) := by decide +kernel
theorem dX8_ask_40 : decode cX8_ask 40 = .ok (.iload_n 2, 1) := by decide +kernel
theorem dX8_ask_41 : decode cX8_ask 41 = .ok (.iconst 0, 1) := by decide +kernel
theorem dX8_ask_42 : decode cX8_ask 42 = .ok (.bipush 60, 2) := by decide +kernel
theorem dX8_ask_44 : decode cX8_ask 44 = .ok (.invokevirtual 210, 3) := by decide +kernel
theorem dX8_ask_47 : decode cX8_ask 47 = .ok (.ireturn, 1) := by decide +kernel
theorem dX8_caster_0 : decode cX8_caster 0 = .ok (.iload_n 1, 1) := by decide +kernel
theorem dX8_caster_1 : decode cX8_caster 1 = .ok (.iconst 0, 1) := by decide +kernel
theorem dX8_caster_2 : decode cX8_caster 2 = .ok (.iconst 5, 1) := by decide +kernel
theorem dX8_caster_3 : decode cX8_caster 3 = .ok (.invokestatic 55, 3) := by decide +kernel
theorem dX8_caster_6 : decode cX8_caster 6 = .ok (.ifCond .eq 22, 3) := by decide +kernel
theorem dX8_caster_9 : decode cX8_caster 9 = .ok (.iload_n 2, 1) := by decide +kernel
theorem dX8_caster_10 : decode cX8_caster 10 = .ok (.iconst 1, 1) := by decide +kernel
theorem dX8_caster_11 : decode cX8_caster 11 = .ok (.bipush 9, 2) := by decide +kernel
theorem dX8_caster_13 : decode cX8_caster 13 = .ok (.invokestatic 55, 3) := by decide +kernel
theorem dX8_caster_16 : decode cX8_caster 16 = .ok (.ifCond .eq 12, 3) := by decide +kernel
theorem dX8_caster_19 : decode cX8_caster 19 = .ok (.iload_n 3, 1) := by decide +kernel
theorem dX8_caster_20 : decode cX8_caster 20 = .ok (.iconst 0, 1) := by decide +kernel
theorem dX8_caster_21 : decode cX8_caster 21 = .ok (.iconst 3, 1) := by decide +kernel
theorem dX8_caster_22 : decode cX8_caster 22 = .ok (.invokestatic 55, 3) := by decide +kernel
theorem dX8_caster_25 : decode cX8_caster 25 = .ok (.ifCond .ne 10, 3) := by decide +kernel
theorem dX8_caster_28 : decode cX8_caster 28 = .ok (.aload_n 0, 1) := by decide +kernel
theorem dX8_caster_29 : decode cX8_caster 29 = .ok (.bipush (-2), 2) := by decide +kernel
theorem dX8_caster_31 : decode cX8_caster 31 = .ok (.invokevirtual 59, 3) := by decide +kernel
theorem dX8_caster_34 : decode cX8_caster 34 = .ok (.ireturn, 1) := by decide +kernel
theorem dX8_caster_35 : decode cX8_caster 35 = .ok (.aload_n 0, 1) := by decide +kernel
theorem dX8_caster_36 : decode cX8_caster 36 = .ok (.getfield 10, 3) := by decide +kernel
theorem dX8_caster_39 : decode cX8_caster 39 = .ok (.getfield 63, 3) := by decide +kernel
theorem dX8_caster_42 : decode cX8_caster 42 = .ok (.bipush 7, 2) := by decide +kernel
theorem dX8_caster_44 : decode cX8_caster 44 = .ok (.if_icmp .lt 10, 3) := by decide +kernel
theorem dX8_caster_47 : decode cX8_caster 47 = .ok (.aload_n 0, 1) := by decide +kernel
theorem dX8_caster_48 : decode cX8_caster 48 = .ok (.bipush (-4), 2) := by decide +kernel
theorem dX8_caster_50 : decode cX8_caster 50 = .ok (.invokevirtual 59, 3) := by decide +kernel
theorem dX8_caster_53 : decode cX8_caster 53 = .ok (.ireturn, 1) := by decide +kernel
theorem dX8_caster_54 : decode cX8_caster 54 = .ok (.aload_n 0, 1) := by decide +kernel
theorem dX8_caster_55 : decode cX8_caster 55 = .ok (.getfield 10, 3) := by decide +kernel
theorem dX8_caster_58 : decode cX8_caster 58 = .ok (.getfield 71, 3) := by decide +kernel
theorem dX8_caster_61 : decode cX8_caster 61 = .ok (.invokevirtual 75, 3) := by decide +kernel
theorem dX8_caster_64 : decode cX8_caster 64 = .ok (.aload_n 0, 1) := by decide +kernel
theorem dX8_caster_65 : decode cX8_caster 65 = .ok (.getfield 10, 3) := by decide +kernel
theorem dX8_caster_68 : decode cX8_caster 68 = .ok (.iload_n 1, 1) := by decide +kernel
theorem dX8_caster_69 : decode cX8_caster 69 = .ok (.iload_n 2, 1) := by decide +kernel
theorem dX8_caster_70 : decode cX8_caster 70 = .ok (.iload_n 3, 1) := by decide +kernel
theorem dX8_caster_71 : decode cX8_caster 71 = .ok (.invokevirtual 80, 3) := by decide +kernel
theorem dX8_caster_74 : decode cX8_caster 74 = .ok (.ireturn, 1) := by decide +kernel
theorem dX8_count_0 : decode cX8_count 0 = .ok (.iload_n 1, 1) := by decide +kernel
theorem dX8_count_1 : decode cX8_count 1 = .ok (.iconst 0, 1) := by decide +kernel
theorem dX8_count_2 : decode cX8_count 2 = .ok (.bipush 9, 2) := by decide +kernel
theorem dX8_count_4 : decode cX8_count 4 = .ok (.invokestatic 55, 3) := by decide +kernel
theorem dX8_count_7 : decode cX8_count 7 = .ok (.ifCond .ne 10, 3) := by decide +kernel
theorem dX8_count_10 : decode cX8_count 10 = .ok (.aload_n 0, 1) := by decide +kernel
theorem dX8_count_11 : decode cX8_count 11 = .ok (.bipush (-2), 2) := by decide +kernel
theorem dX8_count_13 : decode cX8_count 13 = .ok (.invokevirtual 59, 3) := by decide +kernel
theorem dX8_count_16 : decode cX8_count 16 = .ok (.ireturn, 1) := by decide +kernel
theorem dX8_count_17 : decode cX8_count 17 = .ok (.aload_n 0, 1) := by decide +kernel
theorem dX8_count_18 : decode cX8_count 18 = .ok (.iload_n 1, 1) := by decide +kernel
theorem dX8_count_19 : decode cX8_count 19 = .ok (.invokevirtual 263, 3) := by decide +kernel
theorem dX8_count_22 : decode cX8_count 22 = .ok (.ireturn, 1) := by decide +kernel
theorem dX8_counted_0 : decode cX8_counted 0 = .ok (.iload_n 1, 1) := by decide +kernel
theorem dX8_counted_1 : decode cX8_counted 1 = .ok (.tableswitch 135 0 8 #[51, 59, 67, 75, 83, 94, 102, 113, 124], 51) := by decide +kernel
theorem dX8_counted_52 : decode cX8_counted 52 = .ok (.aload_n 0, 1) := by decide +kernel
theorem dX8_counted_53 : decode cX8_counted 53 = .ok (.getfield 10, 3) := by decide +kernel
theorem dX8_counted_56 : decode cX8_counted 56 = .ok (.getfield 63, 3) := by decide +kernel
theorem dX8_counted_59 : decode cX8_counted 59 = .ok (.ireturn, 1) := by decide +kernel
theorem dX8_counted_60 : decode cX8_counted 60 = .ok (.aload_n 0, 1) := by decide +kernel
theorem dX8_counted_61 : decode cX8_counted 61 = .ok (.getfield 10, 3) := by decide +kernel
theorem dX8_counted_64 : decode cX8_counted 64 = .ok (.getfield 84, 3) := by decide +kernel
theorem dX8_counted_67 : decode cX8_counted 67 = .ok (.ireturn, 1) := by decide +kernel
theorem dX8_counted_68 : decode cX8_counted 68 = .ok (.aload_n 0, 1) := by decide +kernel
theorem dX8_counted_69 : decode cX8_counted 69 = .ok (.getfield 10, 3) := by decide +kernel
theorem dX8_counted_72 : decode cX8_counted 72 = .ok (.invokevirtual 251, 3) := by decide +kernel
theorem dX8_counted_75 : decode cX8_counted 75 = .ok (.ireturn, 1) := by decide +kernel
theorem dX8_counted_76 : decode cX8_counted 76 = .ok (.aload_n 0, 1) := by decide +kernel
theorem dX8_counted_77 : decode cX8_counted 77 = .ok (.getfield 10, 3) := by decide +kernel
theorem dX8_counted_80 : decode cX8_counted 80 = .ok (.getfield 135, 3) := by decide +kernel
theorem dX8_counted_83 : decode cX8_counted 83 = .ok (.ireturn, 1) := by decide +kernel
theorem dX8_counted_84 : decode cX8_counted 84 = .ok (.aload_n 0, 1) := by decide +kernel
theorem dX8_counted_85 : decode cX8_counted 85 = .ok (.getfield 10, 3) := by decide +kernel
theorem dX8_counted_88 : decode cX8_counted 88 = .ok (.getfield 274, 3) := by decide +kernel
theorem dX8_counted_91 : decode cX8_counted 91 = .ok (.invokestatic 184, 3) := by decide +kernel
theorem dX8_counted_94 : decode cX8_counted 94 = .ok (.ireturn, 1) := by decide +kernel
theorem dX8_counted_95 : decode cX8_counted 95 = .ok (.aload_n 0, 1) := by decide +kernel
theorem dX8_counted_96 : decode cX8_counted 96 = .ok (.getfield 10, 3) := by decide +kernel
theorem dX8_counted_99 : decode cX8_counted 99 = .ok (.getfield 277, 3) := by decide +kernel
theorem dX8_counted_102 : decode cX8_counted 102 = .ok (.ireturn, 1) := by decide +kernel
theorem dX8_counted_103 : decode cX8_counted 103 = .ok (.aload_n 0, 1) := by decide +kernel
theorem dX8_counted_104 : decode cX8_counted 104 = .ok (.getfield 10, 3) := by decide +kernel
theorem dX8_counted_107 : decode cX8_counted 107 = .ok (.getfield 192, 3) := by decide +kernel
theorem dX8_counted_110 : decode cX8_counted 110 = .ok (.getfield 280, 3) := by decide +kernel
theorem dX8_counted_113 : decode cX8_counted 113 = .ok (.ireturn, 1) := by decide +kernel
theorem dX8_counted_114 : decode cX8_counted 114 = .ok (.aload_n 0, 1) := by decide +kernel
theorem dX8_counted_115 : decode cX8_counted 115 = .ok (.getfield 10, 3) := by decide +kernel
theorem dX8_counted_118 : decode cX8_counted 118 = .ok (.getfield 202, 3) := by decide +kernel
theorem dX8_counted_121 : decode cX8_counted 121 = .ok (.getfield 280, 3) := by decide +kernel
theorem dX8_counted_124 : decode cX8_counted 124 = .ok (.ireturn, 1) := by decide +kernel
theorem dX8_counted_125 : decode cX8_counted 125 = .ok (.aload_n 0, 1) := by decide +kernel
theorem dX8_counted_126 : decode cX8_counted 126 = .ok (.getfield 10, 3) := by decide +kernel
theorem dX8_counted_129 : decode cX8_counted 129 = .ok (.getfield 71, 3) := by decide +kernel
theorem dX8_counted_132 : decode cX8_counted 132 = .ok (.getfield 283, 3) := by decide +kernel
theorem dX8_counted_135 : decode cX8_counted 135 = .ok (.ireturn, 1) := by decide +kernel
theorem dX8_counted_136 : decode cX8_counted 136 = .ok (.aload_n 0, 1) := by decide +kernel
theorem dX8_counted_137 : decode cX8_counted 137 = .ok (.getfield 30, 3) := by decide +kernel
theorem dX8_counted_140 : decode cX8_counted 140 = .ok (.getfield 286, 3) := by decide +kernel
theorem dX8_counted_143 : decode cX8_counted 143 = .ok (.ireturn, 1) := by decide +kernel
theorem dX8_digest_0 : decode cX8_digest 0 = .ok (.ldc2_w 266, 3) := by decide +kernel
theorem dX8_digest_3 : decode cX8_digest 3 = .ok (.lstore_n 1, 1) := by decide +kernel
theorem dX8_digest_4 : decode cX8_digest 4 = .ok (.iconst 0, 1) := by decide +kernel
theorem dX8_digest_5 : decode cX8_digest 5 = .ok (.istore_n 3, 1) := by decide +kernel
theorem dX8_digest_6 : decode cX8_digest 6 = .ok (.iload_n 3, 1) := by decide +kernel
theorem dX8_digest_7 : decode cX8_digest 7 = .ok (.bipush 9, 2) := by decide +kernel
theorem dX8_digest_9 : decode cX8_digest 9 = .ok (.if_icmp .gt 22, 3) := by decide +kernel
theorem dX8_digest_12 : decode cX8_digest 12 = .ok (.ldc2_w 268, 3) := by decide +kernel
theorem dX8_digest_15 : decode cX8_digest 15 = .ok (.lload_n 1, 1) := by decide +kernel
theorem dX8_digest_16 : decode cX8_digest 16 = .ok (.lmul, 1) := by decide +kernel
theorem dX8_digest_17 : decode cX8_digest 17 = .ok (.aload_n 0, 1) := by decide +kernel
theorem dX8_digest_18 : decode cX8_digest 18 = .ok (.iload_n 3, 1) := by decide +kernel
theorem dX8_digest_19 : decode cX8_digest 19 = .ok (.invokevirtual 263, 3) := by decide +kernel
theorem dX8_digest_22 : decode cX8_digest 22 = .ok (.i2l, 1) := by decide +kernel
theorem dX8_digest_23 : decode cX8_digest 23 = .ok (.ladd, 1) := by decide +kernel
theorem dX8_digest_24 : decode cX8_digest 24 = .ok (.lstore_n 1, 1) := by decide +kernel
theorem dX8_digest_25 : decode cX8_digest 25 = .ok (.iinc 3 1, 3) := by decide +kernel
theorem dX8_digest_28 : decode cX8_digest 28 = .ok (.goto (-22), 3) := by decide +kernel
theorem dX8_digest_31 : decode cX8_digest 31 = .ok (.aload_n 0, 1) := by decide +kernel
theorem dX8_digest_32 : decode cX8_digest 32 = .ok (.getfield 10, 3) := by decide +kernel
theorem dX8_digest_35 : decode cX8_digest 35 = .ok (.lload_n 1, 1) := by decide +kernel
theorem dX8_digest_36 : decode cX8_digest 36 = .ok (.invokevirtual 270, 3) := by decide +kernel
theorem dX8_digest_39 : decode cX8_digest 39 = .ok (.lstore_n 1, 1) := by decide +kernel
theorem dX8_digest_40 : decode cX8_digest 40 = .ok (.ldc2_w 268, 3) := by decide +kernel
theorem dX8_digest_43 : decode cX8_digest 43 = .ok (.lload_n 1, 1) := by decide +kernel
theorem dX8_digest_44 : decode cX8_digest 44 = .ok (.lmul, 1) := by decide +kernel
theorem dX8_digest_45 : decode cX8_digest 45 = .ok (.aload_n 0, 1) := by decide +kernel
theorem dX8_digest_46 : decode cX8_digest 46 = .ok (.getfield 48, 3) := by decide +kernel
theorem dX8_digest_49 : decode cX8_digest 49 = .ok (.ladd, 1) := by decide +kernel
theorem dX8_digest_50 : decode cX8_digest 50 = .ok (.lstore_n 1, 1) := by decide +kernel
theorem dX8_digest_51 : decode cX8_digest 51 = .ok (.ldc2_w 268, 3) := by decide +kernel
theorem dX8_digest_54 : decode cX8_digest 54 = .ok (.lload_n 1, 1) := by decide +kernel
theorem dX8_digest_55 : decode cX8_digest 55 = .ok (.lmul, 1) := by decide +kernel
theorem dX8_digest_56 : decode cX8_digest 56 = .ok (.aload_n 0, 1) := by decide +kernel
theorem dX8_digest_57 : decode cX8_digest 57 = .ok (.getfield 52, 3) := by decide +kernel
theorem dX8_digest_60 : decode cX8_digest 60 = .ok (.ladd, 1) := by decide +kernel
theorem dX8_digest_61 : decode cX8_digest 61 = .ok (.lreturn, 1) := by decide +kernel
theorem dX8_few_0 : decode cX8_few 0 = .ok (.aload_n 0, 1) := by decide +kernel
theorem dX8_few_1 : decode cX8_few 1 = .ok (.getfield 10, 3) := by decide +kernel
theorem dX8_few_4 : decode cX8_few 4 = .ok (.iload_n 1, 1) := by decide +kernel
theorem dX8_few_5 : decode cX8_few 5 = .ok (.invokevirtual 112, 3) := by decide +kernel
theorem dX8_few_8 : decode cX8_few 8 = .ok (.ifCond .eq 32, 3) := by decide +kernel
theorem dX8_few_11 : decode cX8_few 11 = .ok (.iload_n 2, 1) := by decide +kernel
theorem dX8_few_12 : decode cX8_few 12 = .ok (.iconst 0, 1) := by decide +kernel
theorem dX8_few_13 : decode cX8_few 13 = .ok (.iconst 3, 1) := by decide +kernel
theorem dX8_few_14 : decode cX8_few 14 = .ok (.invokestatic 55, 3) := by decide +kernel
theorem dX8_few_17 : decode cX8_few 17 = .ok (.ifCond .eq 23, 3) := by decide +kernel
theorem dX8_few_20 : decode cX8_few 20 = .ok (.iload_n 3, 1) := by decide +kernel
theorem dX8_few_21 : decode cX8_few 21 = .ok (.iconst 1, 1) := by decide +kernel
theorem dX8_few_22 : decode cX8_few 22 = .ok (.bipush 60, 2) := by decide +kernel
theorem dX8_few_24 : decode cX8_few 24 = .ok (.invokestatic 55, 3) := by decide +kernel
theorem dX8_few_27 : decode cX8_few 27 = .ok (.ifCond .eq 13, 3) := by decide +kernel
theorem dX8_few_30 : decode cX8_few 30 = .ok (.iload 4, 2) := by decide +kernel
theorem dX8_few_32 : decode cX8_few 32 = .ok (.iconst 0, 1) := by decide +kernel
theorem dX8_few_33 : decode cX8_few 33 = .ok (.iconst 1, 1) := by decide +kernel
theorem dX8_few_34 : decode cX8_few 34 = .ok (.invokestatic 55, 3) := by decide +kernel
theorem dX8_few_37 : decode cX8_few 37 = .ok (.ifCond .ne 10, 3) := by decide +kernel
theorem dX8_few_40 : decode cX8_few 40 = .ok (.aload_n 0, 1) := by decide +kernel
theorem dX8_few_41 : decode cX8_few 41 = .ok (.bipush (-2), 2) := by decide +kernel
theorem dX8_few_43 : decode cX8_few 43 = .ok (.invokevirtual 59, 3) := by decide +kernel
theorem dX8_few_46 : decode cX8_few 46 = .ok (.ireturn, 1) := by decide +kernel
theorem dX8_few_47 : decode cX8_few 47 = .ok (.aload_n 0, 1) := by decide +kernel
theorem dX8_few_48 : decode cX8_few 48 = .ok (.iload_n 1, 1) := by decide +kernel
theorem dX8_few_49 : decode cX8_few 49 = .ok (.iload_n 2, 1) := by decide +kernel
theorem dX8_few_50 : decode cX8_few 50 = .ok (.iload_n 3, 1) := by decide +kernel
theorem dX8_few_51 : decode cX8_few 51 = .ok (.invokevirtual 181, 3) := by decide +kernel
theorem dX8_few_54 : decode cX8_few 54 = .ok (.istore 5, 2) := by decide +kernel
theorem dX8_few_56 : decode cX8_few 56 = .ok (.iload 5, 2) := by decide +kernel
theorem dX8_few_58 : decode cX8_few 58 = .ok (.iconst (-1), 1) := by decide +kernel
theorem dX8_few_59 : decode cX8_few 59 = .ok (.if_icmp .ne 5, 3) := by decide +kernel
theorem dX8_few_62 : decode cX8_few 62 = .ok (.iconst (-1), 1) := by decide +kernel
theorem dX8_few_63 : decode cX8_few 63 = .ok (.ireturn, 1) := by decide +kernel
theorem dX8_few_64 : decode cX8_few 64 = .ok (.iload 4, 2) := by decide +kernel
theorem dX8_few_66 : decode cX8_few 66 = .ok (.ifCond .ne 11, 3) := by decide +kernel
theorem dX8_few_69 : decode cX8_few 69 = .ok (.iload 5, 2) := by decide +kernel
theorem dX8_few_71 : decode cX8_few 71 = .ok (.invokestatic 184, 3) := by decide +kernel
theorem dX8_few_74 : decode cX8_few 74 = .ok (.goto 5, 3) := by decide +kernel
theorem dX8_few_77 : decode cX8_few 77 = .ok (.iload 5, 2) := by decide +kernel
theorem dX8_few_79 : decode cX8_few 79 = .ok (.ireturn, 1) := by decide +kernel
theorem dX8_fewestLadles_0 : decode cX8_fewestLadles 0 = .ok (.aload_n 0, 1) := by decide +kernel
theorem dX8_fewestLadles_1 : decode cX8_fewestLadles 1 = .ok (.getfield 10, 3) := by decide +kernel
theorem dX8_fewestLadles_4 : decode cX8_fewestLadles 4 = .ok (.getfield 125, 3) := by decide +kernel
theorem dX8_fewestLadles_7 : decode cX8_fewestLadles 7 = .ok (.iload_n 1, 1) := by decide +kernel
theorem dX8_fewestLadles_8 : decode cX8_fewestLadles 8 = .ok (.iaload, 1) := by decide +kernel
theorem dX8_fewestLadles_9 : decode cX8_fewestLadles 9 = .ok (.ifCond .le 18, 3) := by decide +kernel
theorem dX8_fewestLadles_12 : decode cX8_fewestLadles 12 = .ok (.aload_n 0, 1) := by decide +kernel
theorem dX8_fewestLadles_13 : decode cX8_fewestLadles 13 = .ok (.getfield 10, 3) := by decide +kernel
theorem dX8_fewestLadles_16 : decode cX8_fewestLadles 16 = .ok (.getfield 160, 3) := by decide +kernel
theorem dX8_fewestLadles_19 : decode cX8_fewestLadles 19 = .ok (.iload_n 1, 1) := by decide +kernel
theorem dX8_fewestLadles_20 : decode cX8_fewestLadles 20 = .ok (.iaload, 1) := by decide +kernel
theorem dX8_fewestLadles_21 : decode cX8_fewestLadles 21 = .ok (.iload_n 2, 1) := by decide +kernel
theorem dX8_fewestLadles_22 : decode cX8_fewestLadles 22 = .ok (.if_icmp .eq 5, 3) := by decide +kernel
theorem dX8_fewestLadles_25 : decode cX8_fewestLadles 25 = .ok (.iconst (-1), 1) := by decide +kernel
theorem dX8_fewestLadles_26 : decode cX8_fewestLadles 26 = .ok (.ireturn, 1) := by decide +kernel
theorem dX8_fewestLadles_27 : decode cX8_fewestLadles 27 = .ok (.iconst (-1), 1) := by decide +kernel
theorem dX8_fewestLadles_28 : decode cX8_fewestLadles 28 = .ok (.istore 4, 2) := by decide +kernel
theorem dX8_fewestLadles_30 : decode cX8_fewestLadles 30 = .ok (.iconst 0, 1) := by decide +kernel
theorem dX8_fewestLadles_31 : decode cX8_fewestLadles 31 = .ok (.istore 5, 2) := by decide +kernel
theorem dX8_fewestLadles_33 : decode cX8_fewestLadles 33 = .ok (.iload 5, 2) := by decide +kernel
theorem dX8_fewestLadles_35 : decode cX8_fewestLadles 35 = .ok (.iconst 1, 1) := by decide +kernel
theorem dX8_fewestLadles_36 : decode cX8_fewestLadles 36 = .ok (.aload_n 0, 1) := by decide +kernel
theorem dX8_fewestLadles_37 : decode cX8_fewestLadles 37 = .ok (.getfield 10, 3) := by decide +kernel
theorem dX8_fewestLadles_40 : decode cX8_fewestLadles 40 = .ok (.getfield 63, 3) := by decide +kernel
theorem dX8_fewestLadles_43 : decode cX8_fewestLadles 43 = .ok (.ishl, 1) := by decide +kernel
theorem dX8_fewestLadles_44 : decode cX8_fewestLadles 44 = .ok (.if_icmp .ge 80, 3) := by decide +kernel
theorem dX8_fewestLadles_47 : decode cX8_fewestLadles 47 = .ok (.iload 4, 2) := by decide +kernel
theorem dX8_fewestLadles_49 : decode cX8_fewestLadles 49 = .ok (.iconst (-1), 1) := by decide +kernel
theorem dX8_fewestLadles_50 : decode cX8_fewestLadles 50 = .ok (.if_icmp .eq 16, 3) := by decide +kernel
theorem dX8_fewestLadles_53 : decode cX8_fewestLadles 53 = .ok (.iload 5, 2) := by decide +kernel
theorem dX8_fewestLadles_55 : decode cX8_fewestLadles 55 = .ok (.invokestatic 184, 3) := by decide +kernel
theorem dX8_fewestLadles_58 : decode cX8_fewestLadles 58 = .ok (.iload 4, 2) := by decide +kernel
theorem dX8_fewestLadles_60 : decode cX8_fewestLadles 60 = .ok (.invokestatic 184, 3) := by decide +kernel
theorem dX8_fewestLadles_63 : decode cX8_fewestLadles 63 = .ok (.if_icmp .ge 7, 3) := by decide +kernel
theorem dX8_fewestLadles_66 : decode cX8_fewestLadles 66 = .ok (.iconst 1, 1) := by decide +kernel
theorem dX8_fewestLadles_67 : decode cX8_fewestLadles 67 = .ok (.goto 4, 3) := by decide +kernel
theorem dX8_fewestLadles_70 : decode cX8_fewestLadles 70 = .ok (.iconst 0, 1) := by decide +kernel
theorem dX8_fewestLadles_71 : decode cX8_fewestLadles 71 = .ok (.istore 6, 2) := by decide +kernel
theorem dX8_fewestLadles_73 : decode cX8_fewestLadles 73 = .ok (.iload 6, 2) := by decide +kernel
theorem dX8_fewestLadles_75 : decode cX8_fewestLadles 75 = .ok (.ifCond .eq 43, 3) := by decide +kernel
theorem dX8_fewestLadles_78 : decode cX8_fewestLadles 78 = .ok (.aload_n 0, 1) := by decide +kernel
theorem dX8_fewestLadles_79 : decode cX8_fewestLadles 79 = .ok (.getfield 10, 3) := by decide +kernel
theorem dX8_fewestLadles_82 : decode cX8_fewestLadles 82 = .ok (.iload 5, 2) := by decide +kernel
theorem dX8_fewestLadles_84 : decode cX8_fewestLadles 84 = .ok (.iload_n 2, 1) := by decide +kernel
theorem dX8_fewestLadles_85 : decode cX8_fewestLadles 85 = .ok (.invokevirtual 289, 3) := by decide +kernel
theorem dX8_fewestLadles_88 : decode cX8_fewestLadles 88 = .ok (.ifCond .eq 30, 3) := by decide +kernel
theorem dX8_fewestLadles_91 : decode cX8_fewestLadles 91 = .ok (.aload_n 0, 1) := by decide +kernel
theorem dX8_fewestLadles_92 : decode cX8_fewestLadles 92 = .ok (.getfield 10, 3) := by decide +kernel
theorem dX8_fewestLadles_95 : decode cX8_fewestLadles 95 = .ok (.getfield 125, 3) := by decide +kernel
theorem dX8_fewestLadles_98 : decode cX8_fewestLadles 98 = .ok (.iload_n 1, 1) := by decide +kernel
theorem dX8_fewestLadles_99 : decode cX8_fewestLadles 99 = .ok (.iaload, 1) := by decide +kernel
theorem dX8_fewestLadles_100 : decode cX8_fewestLadles 100 = .ok (.aload_n 0, 1) := by decide +kernel
theorem dX8_fewestLadles_101 : decode cX8_fewestLadles 101 = .ok (.getfield 10, 3) := by decide +kernel
theorem dX8_fewestLadles_104 : decode cX8_fewestLadles 104 = .ok (.iload 5, 2) := by decide +kernel
theorem dX8_fewestLadles_106 : decode cX8_fewestLadles 106 = .ok (.invokevirtual 292, 3) := by decide +kernel
theorem dX8_fewestLadles_109 : decode cX8_fewestLadles 109 = .ok (.iadd, 1) := by decide +kernel
theorem dX8_fewestLadles_110 : decode cX8_fewestLadles 110 = .ok (.iload_n 3, 1) := by decide +kernel
theorem dX8_fewestLadles_111 : decode cX8_fewestLadles 111 = .ok (.if_icmp .lt 7, 3) := by decide +kernel
theorem dX8_fewestLadles_114 : decode cX8_fewestLadles 114 = .ok (.iload 5, 2) := by decide +kernel
theorem dX8_fewestLadles_116 : decode cX8_fewestLadles 116 = .ok (.istore 4, 2) := by decide +kernel
theorem dX8_fewestLadles_118 : decode cX8_fewestLadles 118 = .ok (.iinc 5 1, 3) := by decide +kernel
theorem dX8_fewestLadles_121 : decode cX8_fewestLadles 121 = .ok (.goto (-88), 3) := by decide +kernel
theorem dX8_fewestLadles_124 : decode cX8_fewestLadles 124 = .ok (.iload 4, 2) := by decide +kernel
theorem dX8_fewestLadles_126 : decode cX8_fewestLadles 126 = .ok (.ireturn, 1) := by decide +kernel
theorem dX8_forget_0 : decode cX8_forget 0 = .ok (.iload_n 1, 1) := by decide +kernel
theorem dX8_forget_1 : decode cX8_forget 1 = .ok (.lookupswitch 49 #[(0, 27), (1, 38)], 27) := by decide +kernel
theorem dX8_forget_28 : decode cX8_forget 28 = .ok (.aload_n 0, 1) := by decide +kernel
theorem dX8_forget_29 : decode cX8_forget 29 = .ok (.getfield 10, 3) := by decide +kernel
theorem dX8_forget_32 : decode cX8_forget 32 = .ok (.getfield 192, 3) := by decide +kernel
theorem dX8_forget_35 : decode cX8_forget 35 = .ok (.invokevirtual 205, 3) := by decide +kernel
theorem dX8_forget_38 : decode cX8_forget 38 = .ok (.ireturn, 1) := by decide +kernel
theorem dX8_forget_39 : decode cX8_forget 39 = .ok (.aload_n 0, 1) := by decide +kernel
theorem dX8_forget_40 : decode cX8_forget 40 = .ok (.getfield 10, 3) := by decide +kernel
theorem dX8_forget_43 : decode cX8_forget 43 = .ok (.getfield 202, 3) := by decide +kernel
theorem dX8_forget_46 : decode cX8_forget 46 = .ok (.invokevirtual 205, 3) := by decide +kernel
theorem dX8_forget_49 : decode cX8_forget 49 = .ok (.ireturn, 1) := by decide +kernel
theorem dX8_forget_50 : decode cX8_forget 50 = .ok (.aload_n 0, 1) := by decide +kernel
theorem dX8_forget_51 : decode cX8_forget 51 = .ok (.bipush (-2), 2) := by decide +kernel
theorem dX8_forget_53 : decode cX8_forget 53 = .ok (.invokevirtual 59, 3) := by decide +kernel
theorem dX8_forget_56 : decode cX8_forget 56 = .ok (.ireturn, 1) := by decide +kernel
theorem dX8_gives_0 : decode cX8_gives 0 = .ok (.aload_n 0, 1) := by decide +kernel
theorem dX8_gives_1 : decode cX8_gives 1 = .ok (.getfield 10, 3) := by decide +kernel
theorem dX8_gives_4 : decode cX8_gives 4 = .ok (.iload_n 1, 1) := by decide +kernel
theorem dX8_gives_5 : decode cX8_gives 5 = .ok (.invokevirtual 108, 3) := by decide +kernel
theorem dX8_gives_8 : decode cX8_gives 8 = .ok (.ifCond .eq 13, 3) := by decide +kernel
theorem dX8_gives_11 : decode cX8_gives 11 = .ok (.iload_n 2, 1) := by decide +kernel
theorem dX8_gives_12 : decode cX8_gives 12 = .ok (.iconst 0, 1) := by decide +kernel
theorem dX8_gives_13 : decode cX8_gives 13 = .ok (.bipush 60, 2) := by decide +kernel
theorem dX8_gives_15 : decode cX8_gives 15 = .ok (.invokestatic 55, 3) := by decide +kernel
theorem dX8_gives_18 : decode cX8_gives 18 = .ok (.ifCond .ne 10, 3) := by decide +kernel
theorem dX8_gives_21 : decode cX8_gives 21 = .ok (.aload_n 0, 1) := by decide +kernel
theorem dX8_gives_22 : decode cX8_gives 22 = .ok (.bipush (-2), 2) := by decide +kernel
theorem dX8_gives_24 : decode cX8_gives 24 = .ok (.invokevirtual 59, 3) := by decide +kernel
theorem dX8_gives_27 : decode cX8_gives 27 = .ok (.ireturn, 1) := by decide +kernel
theorem dX8_gives_28 : decode cX8_gives 28 = .ok (.aload_n 0, 1) := by decide +kernel
theorem dX8_gives_29 : decode cX8_gives 29 = .ok (.getfield 10, 3) := by decide +kernel
theorem dX8_gives_32 : decode cX8_gives 32 = .ok (.iload_n 1, 1) := by decide +kernel
theorem dX8_gives_33 : decode cX8_gives 33 = .ok (.iload_n 2, 1) := by decide +kernel
theorem dX8_gives_34 : decode cX8_gives 34 = .ok (.invokevirtual 154, 3) := by decide +kernel
theorem dX8_gives_37 : decode cX8_gives 37 = .ok (.ireturn, 1) := by decide +kernel
theorem dX8_gone_0 : decode cX8_gone 0 = .ok (.aload_n 0, 1) := by decide +kernel
theorem dX8_gone_1 : decode cX8_gone 1 = .ok (.getfield 10, 3) := by decide +kernel
theorem dX8_gone_4 : decode cX8_gone 4 = .ok (.iload_n 1, 1) := by decide +kernel
theorem dX8_gone_5 : decode cX8_gone 5 = .ok (.invokevirtual 112, 3) := by decide +kernel
theorem dX8_gone_8 : decode cX8_gone 8 = .ok (.ifCond .ne 10, 3) := by decide +kernel
theorem dX8_gone_11 : decode cX8_gone 11 = .ok (.aload_n 0, 1) := by decide +kernel
theorem dX8_gone_12 : decode cX8_gone 12 = .ok (.bipush (-2), 2) := by decide +kernel
theorem dX8_gone_14 : decode cX8_gone 14 = .ok (.invokevirtual 59, 3) := by decide +kernel
theorem dX8_gone_17 : decode cX8_gone 17 = .ok (.ireturn, 1) := by decide +kernel
theorem dX8_gone_18 : decode cX8_gone 18 = .ok (.aload_n 0, 1) := by decide +kernel
theorem dX8_gone_19 : decode cX8_gone 19 = .ok (.getfield 10, 3) := by decide +kernel
theorem dX8_gone_22 : decode cX8_gone 22 = .ok (.getfield 125, 3) := by decide +kernel
theorem dX8_gone_25 : decode cX8_gone 25 = .ok (.iload_n 1, 1) := by decide +kernel
theorem dX8_gone_26 : decode cX8_gone 26 = .ok (.iaload, 1) := by decide +kernel
theorem dX8_gone_27 : decode cX8_gone 27 = .ok (.istore_n 2, 1) := by decide +kernel
theorem dX8_gone_28 : decode cX8_gone 28 = .ok (.iconst 0, 1) := by decide +kernel
theorem dX8_gone_29 : decode cX8_gone 29 = .ok (.istore_n 3, 1) := by decide +kernel
theorem dX8_gone_30 : decode cX8_gone 30 = .ok (.iload_n 3, 1) := by decide +kernel
theorem dX8_gone_31 : decode cX8_gone 31 = .ok (.bipush 60, 2) := by decide +kernel
theorem dX8_gone_33 : decode cX8_gone 33 = .ok (.if_icmp .gt 38, 3) := by decide +kernel
theorem dX8_gone_36 : decode cX8_gone 36 = .ok (.iload_n 2, 1) := by decide +kernel
theorem dX8_gone_37 : decode cX8_gone 37 = .ok (.ifCond .ne 5, 3) := by decide +kernel
theorem dX8_gone_40 : decode cX8_gone 40 = .ok (.iload_n 3, 1) := by decide +kernel
theorem dX8_gone_41 : decode cX8_gone 41 = .ok (.ireturn, 1) := by decide +kernel
theorem dX8_gone_42 : decode cX8_gone 42 = .ok (.aload_n 0, 1) := by decide +kernel
theorem dX8_gone_43 : decode cX8_gone 43 = .ok (.getfield 10, 3) := by decide +kernel
theorem dX8_gone_46 : decode cX8_gone 46 = .ok (.getfield 157, 3) := by decide +kernel
theorem dX8_gone_49 : decode cX8_gone 49 = .ok (.iload_n 1, 1) := by decide +kernel
theorem dX8_gone_50 : decode cX8_gone 50 = .ok (.iaload, 1) := by decide +kernel
theorem dX8_gone_51 : decode cX8_gone 51 = .ok (.iload_n 2, 1) := by decide +kernel
theorem dX8_gone_52 : decode cX8_gone 52 = .ok (.aload_n 0, 1) := by decide +kernel
theorem dX8_gone_53 : decode cX8_gone 53 = .ok (.getfield 10, 3) := by decide +kernel
theorem dX8_gone_56 : decode cX8_gone 56 = .ok (.getfield 135, 3) := by decide +kernel
theorem dX8_gone_59 : decode cX8_gone 59 = .ok (.iload_n 3, 1) := by decide +kernel
theorem dX8_gone_60 : decode cX8_gone 60 = .ok (.iadd, 1) := by decide +kernel
theorem dX8_gone_61 : decode cX8_gone 61 = .ok (.invokestatic 166, 3) := by decide +kernel
theorem dX8_gone_64 : decode cX8_gone 64 = .ok (.istore_n 2, 1) := by decide +kernel
theorem dX8_gone_65 : decode cX8_gone 65 = .ok (.iinc 3 1, 3) := by decide +kernel
theorem dX8_gone_68 : decode cX8_gone 68 = .ok (.goto (-38), 3) := by decide +kernel
theorem dX8_gone_71 : decode cX8_gone 71 = .ok (.iconst (-1), 1) := by decide +kernel
theorem dX8_gone_72 : decode cX8_gone 72 = .ok (.ireturn, 1) := by decide +kernel
theorem dX8_greatestDivisor_0 : decode cX8_greatestDivisor 0 = .ok (.iconst 0, 1) := by decide +kernel
theorem dX8_greatestDivisor_1 : decode cX8_greatestDivisor 1 = .ok (.istore 4, 2) := by decide +kernel
theorem dX8_greatestDivisor_3 : decode cX8_greatestDivisor 3 = .ok (.iload 4, 2) := by decide +kernel
theorem dX8_greatestDivisor_5 : decode cX8_greatestDivisor 5 = .ok (.sipush 128, 3) := by decide +kernel
theorem dX8_greatestDivisor_8 : decode cX8_greatestDivisor 8 = .ok (.if_icmp .ge 25, 3) := by decide +kernel
theorem dX8_greatestDivisor_11 : decode cX8_greatestDivisor 11 = .ok (.lload_n 2, 1) := by decide +kernel
theorem dX8_greatestDivisor_12 : decode cX8_greatestDivisor 12 = .ok (.lconst 0, 1) := by decide +kernel
theorem dX8_greatestDivisor_13 : decode cX8_greatestDivisor 13 = .ok (.lcmp, 1) := by decide +kernel
theorem dX8_greatestDivisor_14 : decode cX8_greatestDivisor 14 = .ok (.ifCond .eq 19, 3) := by decide +kernel
theorem dX8_greatestDivisor_17 : decode cX8_greatestDivisor 17 = .ok (.lload_n 0, 1) := by decide +kernel
theorem dX8_greatestDivisor_18 : decode cX8_greatestDivisor 18 = .ok (.lload_n 2, 1) := by decide +kernel
theorem dX8_greatestDivisor_19 : decode cX8_greatestDivisor 19 = .ok (.lrem, 1) := by decide +kernel
theorem dX8_greatestDivisor_20 : decode cX8_greatestDivisor 20 = .ok (.lstore 5, 2) := by decide +kernel
theorem dX8_greatestDivisor_22 : decode cX8_greatestDivisor 22 = .ok (.lload_n 2, 1) := by decide +kernel
theorem dX8_greatestDivisor_23 : decode cX8_greatestDivisor 23 = .ok (.lstore_n 0, 1) := by decide +kernel
theorem dX8_greatestDivisor_24 : decode cX8_greatestDivisor 24 = .ok (.lload 5, 2) := by decide +kernel
theorem dX8_greatestDivisor_26 : decode cX8_greatestDivisor 26 = .ok (.lstore_n 2, 1) := by decide +kernel
theorem dX8_greatestDivisor_27 : decode cX8_greatestDivisor 27 = .ok (.iinc 4 1, 3) := by decide +kernel
theorem dX8_greatestDivisor_30 : decode cX8_greatestDivisor 30 = .ok (.goto (-27), 3) := by decide +kernel
theorem dX8_greatestDivisor_33 : decode cX8_greatestDivisor 33 = .ok (.lload_n 0, 1) := by decide +kernel
theorem dX8_greatestDivisor_34 : decode cX8_greatestDivisor 34 = .ok (.lreturn, 1) := by decide +kernel
theorem dX8_hours_0 : decode cX8_hours 0 = .ok (.iload_n 1, 1) := by decide +kernel
theorem dX8_hours_1 : decode cX8_hours 1 = .ok (.iconst 1, 1) := by decide +kernel
theorem dX8_hours_2 : decode cX8_hours 2 = .ok (.bipush 60, 2) := by decide +kernel
theorem dX8_hours_4 : decode cX8_hours 4 = .ok (.invokestatic 55, 3) := by decide +kernel
theorem dX8_hours_7 : decode cX8_hours 7 = .ok (.ifCond .ne 10, 3) := by decide +kernel
theorem dX8_hours_10 : decode cX8_hours 10 = .ok (.aload_n 0, 1) := by decide +kernel
theorem dX8_hours_11 : decode cX8_hours 11 = .ok (.bipush (-2), 2) := by decide +kernel
theorem dX8_hours_13 : decode cX8_hours 13 = .ok (.invokevirtual 59, 3) := by decide +kernel
theorem dX8_hours_16 : decode cX8_hours 16 = .ok (.ireturn, 1) := by decide +kernel
theorem dX8_hours_17 : decode cX8_hours 17 = .ok (.aload_n 0, 1) := by decide +kernel
theorem dX8_hours_18 : decode cX8_hours 18 = .ok (.getfield 10, 3) := by decide +kernel
theorem dX8_hours_21 : decode cX8_hours 21 = .ok (.getfield 135, 3) := by decide +kernel
theorem dX8_hours_24 : decode cX8_hours 24 = .ok (.sipush 9999, 3) := by decide +kernel
theorem dX8_hours_27 : decode cX8_hours 27 = .ok (.if_icmp .ge 25, 3) := by decide +kernel
theorem dX8_hours_30 : decode cX8_hours 30 = .ok (.aload_n 0, 1) := by decide +kernel
theorem dX8_hours_31 : decode cX8_hours 31 = .ok (.getfield 10, 3) := by decide +kernel
theorem dX8_hours_34 : decode cX8_hours 34 = .ok (.getfield 71, 3) := by decide +kernel
theorem dX8_hours_37 : decode cX8_hours 37 = .ok (.aload_n 0, 1) := by decide +kernel
theorem dX8_hours_38 : decode cX8_hours 38 = .ok (.getfield 10, 3) := by decide +kernel
theorem dX8_hours_41 : decode cX8_hours 41 = .ok (.invokevirtual 118, 3) := by decide +kernel
theorem dX8_hours_44 : decode cX8_hours 44 = .ok (.aload_n 0, 1) := by decide +kernel
theorem dX8_hours_45 : decode cX8_hours 45 = .ok (.getfield 10, 3) := by decide +kernel
theorem dX8_hours_48 : decode cX8_hours 48 = .ok (.iload_n 1, 1) := by decide +kernel
theorem dX8_hours_49 : decode cX8_hours 49 = .ok (.invokevirtual 138, 3) := by decide +kernel
theorem dX8_hours_52 : decode cX8_hours 52 = .ok (.aload_n 0, 1) := by decide +kernel
theorem dX8_hours_53 : decode cX8_hours 53 = .ok (.getfield 10, 3) := by decide +kernel
theorem dX8_hours_56 : decode cX8_hours 56 = .ok (.getfield 135, 3) := by decide +kernel
theorem dX8_hours_59 : decode cX8_hours 59 = .ok (.ireturn, 1) := by decide +kernel
theorem dX8_into_0 : decode cX8_into 0 = .ok (.aload_n 0, 1) := by decide +kernel
theorem dX8_into_1 : decode cX8_into 1 = .ok (.getfield 10, 3) := by decide +kernel
theorem dX8_into_4 : decode cX8_into 4 = .ok (.iload_n 1, 1) := by decide +kernel
theorem dX8_into_5 : decode cX8_into 5 = .ok (.invokevirtual 112, 3) := by decide +kernel
theorem dX8_into_8 : decode cX8_into 8 = .ok (.ifCond .eq 22, 3) := by decide +kernel
theorem dX8_into_11 : decode cX8_into 11 = .ok (.iload_n 2, 1) := by decide +kernel
theorem dX8_into_12 : decode cX8_into 12 = .ok (.iconst 1, 1) := by decide +kernel
theorem dX8_into_13 : decode cX8_into 13 = .ok (.bipush 30, 2) := by decide +kernel
theorem dX8_into_15 : decode cX8_into 15 = .ok (.invokestatic 55, 3) := by decide +kernel
theorem dX8_into_18 : decode cX8_into 18 = .ok (.ifCond .eq 12, 3) := by decide +kernel
theorem dX8_into_21 : decode cX8_into 21 = .ok (.iload_n 3, 1) := by decide +kernel
theorem dX8_into_22 : decode cX8_into 22 = .ok (.iconst 0, 1) := by decide +kernel
theorem dX8_into_23 : decode cX8_into 23 = .ok (.iconst 1, 1) := by decide +kernel
theorem dX8_into_24 : decode cX8_into 24 = .ok (.invokestatic 55, 3) := by decide +kernel
theorem dX8_into_27 : decode cX8_into 27 = .ok (.ifCond .ne 10, 3) := by decide +kernel
theorem dX8_into_30 : decode cX8_into 30 = .ok (.aload_n 0, 1) := by decide +kernel
theorem dX8_into_31 : decode cX8_into 31 = .ok (.bipush (-2), 2) := by decide +kernel
theorem dX8_into_33 : decode cX8_into 33 = .ok (.invokevirtual 59, 3) := by decide +kernel
theorem dX8_into_36 : decode cX8_into 36 = .ok (.ireturn, 1) := by decide +kernel
theorem dX8_into_37 : decode cX8_into 37 = .ok (.aload_n 0, 1) := by decide +kernel
theorem dX8_into_38 : decode cX8_into 38 = .ok (.getfield 10, 3) := by decide +kernel
theorem dX8_into_41 : decode cX8_into 41 = .ok (.getfield 125, 3) := by decide +kernel
theorem dX8_into_44 : decode cX8_into 44 = .ok (.iload_n 1, 1) := by decide +kernel
theorem dX8_into_45 : decode cX8_into 45 = .ok (.iaload, 1) := by decide +kernel
theorem dX8_into_46 : decode cX8_into 46 = .ok (.ifCond .ne 5, 3) := by decide +kernel
theorem dX8_into_49 : decode cX8_into 49 = .ok (.iconst (-1), 1) := by decide +kernel
theorem dX8_into_50 : decode cX8_into 50 = .ok (.ireturn, 1) := by decide +kernel
theorem dX8_into_51 : decode cX8_into 51 = .ok (.iconst (-1), 1) := by decide +kernel
theorem dX8_into_52 : decode cX8_into 52 = .ok (.istore 4, 2) := by decide +kernel
theorem dX8_into_54 : decode cX8_into 54 = .ok (.iconst (-1), 1) := by decide +kernel
theorem dX8_into_55 : decode cX8_into 55 = .ok (.istore 5, 2) := by decide +kernel
theorem dX8_into_57 : decode cX8_into 57 = .ok (.iconst 0, 1) := by decide +kernel
theorem dX8_into_58 : decode cX8_into 58 = .ok (.istore 6, 2) := by decide +kernel
theorem dX8_into_60 : decode cX8_into 60 = .ok (.iload 6, 2) := by decide +kernel
theorem dX8_into_62 : decode cX8_into 62 = .ok (.aload_n 0, 1) := by decide +kernel
theorem dX8_into_63 : decode cX8_into 63 = .ok (.getfield 10, 3) := by decide +kernel
theorem dX8_into_66 : decode cX8_into 66 = .ok (.getfield 84, 3) := by decide +kernel
theorem dX8_into_69 : decode cX8_into 69 = .ok (.if_icmp .ge 44, 3) := by decide +kernel
theorem dX8_into_72 : decode cX8_into 72 = .ok (.iload 6, 2) := by decide +kernel
theorem dX8_into_74 : decode cX8_into 74 = .ok (.iload_n 1, 1) := by decide +kernel
theorem dX8_into_75 : decode cX8_into 75 = .ok (.if_icmp .ne 7, 3) := by decide +kernel
theorem dX8_into_78 : decode cX8_into 78 = .ok (.iconst (-1), 1) := by decide +kernel
theorem dX8_into_79 : decode cX8_into 79 = .ok (.goto 11, 3) := by decide +kernel
theorem dX8_into_82 : decode cX8_into 82 = .ok (.aload_n 0, 1) := by decide +kernel
theorem dX8_into_83 : decode cX8_into 83 = .ok (.iload_n 1, 1) := by decide +kernel
theorem dX8_into_84 : decode cX8_into 84 = .ok (.iload 6, 2) := by decide +kernel
theorem dX8_into_86 : decode cX8_into 86 = .ok (.iload_n 2, 1) := by decide +kernel
theorem dX8_into_87 : decode cX8_into 87 = .ok (.invokevirtual 189, 3) := by decide +kernel
theorem dX8_into_90 : decode cX8_into 90 = .ok (.istore 7, 2) := by decide +kernel
theorem dX8_into_92 : decode cX8_into 92 = .ok (.iload 7, 2) := by decide +kernel
theorem dX8_into_94 : decode cX8_into 94 = .ok (.iload 5, 2) := by decide +kernel
theorem dX8_into_96 : decode cX8_into 96 = .ok (.if_icmp .le 11, 3) := by decide +kernel
theorem dX8_into_99 : decode cX8_into 99 = .ok (.iload 6, 2) := by decide +kernel
theorem dX8_into_101 : decode cX8_into 101 = .ok (.istore 4, 2) := by decide +kernel
theorem dX8_into_103 : decode cX8_into 103 = .ok (.iload 7, 2) := by decide +kernel
theorem dX8_into_105 : decode cX8_into 105 = .ok (.istore 5, 2) := by decide +kernel
theorem dX8_into_107 : decode cX8_into 107 = .ok (.iinc 6 1, 3) := by decide +kernel
theorem dX8_into_110 : decode cX8_into 110 = .ok (.goto (-50), 3) := by decide +kernel
theorem dX8_into_113 : decode cX8_into 113 = .ok (.iload_n 3, 1) := by decide +kernel
theorem dX8_into_114 : decode cX8_into 114 = .ok (.ifCond .ne 8, 3) := by decide +kernel
theorem dX8_into_117 : decode cX8_into 117 = .ok (.iload 4, 2) := by decide +kernel
theorem dX8_into_119 : decode cX8_into 119 = .ok (.goto 5, 3) := by decide +kernel
theorem dX8_into_122 : decode cX8_into 122 = .ok (.iload 5, 2) := by decide +kernel
theorem dX8_into_124 : decode cX8_into 124 = .ok (.ireturn, 1) := by decide +kernel
theorem dX8_is_0 : decode cX8_is 0 = .ok (.aload_n 0, 1) := by decide +kernel
theorem dX8_is_1 : decode cX8_is 1 = .ok (.getfield 10, 3) := by decide +kernel
theorem dX8_is_4 : decode cX8_is 4 = .ok (.iload_n 1, 1) := by decide +kernel
theorem dX8_is_5 : decode cX8_is 5 = .ok (.invokevirtual 108, 3) := by decide +kernel
theorem dX8_is_8 : decode cX8_is 8 = .ok (.ifCond .ne 10, 3) := by decide +kernel
theorem dX8_is_11 : decode cX8_is 11 = .ok (.aload_n 0, 1) := by decide +kernel
theorem dX8_is_12 : decode cX8_is 12 = .ok (.bipush (-2), 2) := by decide +kernel
theorem dX8_is_14 : decode cX8_is 14 = .ok (.invokevirtual 59, 3) := by decide +kernel
theorem dX8_is_17 : decode cX8_is 17 = .ok (.ireturn, 1) := by decide +kernel
theorem dX8_is_18 : decode cX8_is 18 = .ok (.aload_n 0, 1) := by decide +kernel
theorem dX8_is_19 : decode cX8_is 19 = .ok (.getfield 44, 3) := by decide +kernel
theorem dX8_is_22 : decode cX8_is 22 = .ok (.iconst 0, 1) := by decide +kernel
theorem dX8_is_23 : decode cX8_is 23 = .ok (.aload_n 0, 1) := by decide +kernel
theorem dX8_is_24 : decode cX8_is 24 = .ok (.getfield 10, 3) := by decide +kernel
theorem dX8_is_27 : decode cX8_is 27 = .ok (.getfield 192, 3) := by decide +kernel
theorem dX8_is_30 : decode cX8_is 30 = .ok (.iload_n 1, 1) := by decide +kernel
theorem dX8_is_31 : decode cX8_is 31 = .ok (.invokevirtual 206, 3) := by decide +kernel
theorem dX8_is_34 : decode cX8_is 34 = .ok (.ireturn, 1) := by decide +kernel
theorem dX8_island_0 : decode cX8_island 0 = .ok (.iload_n 1, 1) := by decide +kernel
theorem dX8_island_1 : decode cX8_island 1 = .ok (.iconst 0, 1) := by decide +kernel
theorem dX8_island_2 : decode cX8_island 2 = .ok (.bipush 99, 2) := by decide +kernel
theorem dX8_island_4 : decode cX8_island 4 = .ok (.invokestatic 55, 3) := by decide +kernel
theorem dX8_island_7 : decode cX8_island 7 = .ok (.ifCond .ne 10, 3) := by decide +kernel
theorem dX8_island_10 : decode cX8_island 10 = .ok (.aload_n 0, 1) := by decide +kernel
theorem dX8_island_11 : decode cX8_island 11 = .ok (.bipush (-2), 2) := by decide +kernel
theorem dX8_island_13 : decode cX8_island 13 = .ok (.invokevirtual 59, 3) := by decide +kernel
theorem dX8_island_16 : decode cX8_island 16 = .ok (.ireturn, 1) := by decide +kernel
theorem dX8_island_17 : decode cX8_island 17 = .ok (.aload_n 0, 1) := by decide +kernel
theorem dX8_island_18 : decode cX8_island 18 = .ok (.getfield 10, 3) := by decide +kernel
theorem dX8_island_21 : decode cX8_island 21 = .ok (.getfield 63, 3) := by decide +kernel
theorem dX8_island_24 : decode cX8_island 24 = .ok (.istore_n 2, 1) := by decide +kernel
theorem dX8_island_25 : decode cX8_island 25 = .ok (.aload_n 0, 1) := by decide +kernel
theorem dX8_island_26 : decode cX8_island 26 = .ok (.getfield 10, 3) := by decide +kernel
theorem dX8_island_29 : decode cX8_island 29 = .ok (.iload_n 1, 1) := by decide +kernel
theorem dX8_island_30 : decode cX8_island 30 = .ok (.invokevirtual 67, 3) := by decide +kernel
theorem dX8_island_33 : decode cX8_island 33 = .ok (.iload_n 2, 1) := by decide +kernel
theorem dX8_island_34 : decode cX8_island 34 = .ok (.ireturn, 1) := by decide +kernel
theorem dX8_jar_0 : decode cX8_jar 0 = .ok (.iload_n 1, 1) := by decide +kernel
theorem dX8_jar_1 : decode cX8_jar 1 = .ok (.iconst 0, 1) := by decide +kernel
theorem dX8_jar_2 : decode cX8_jar 2 = .ok (.iconst 5, 1) := by decide +kernel
theorem dX8_jar_3 : decode cX8_jar 3 = .ok (.invokestatic 55, 3) := by decide +kernel
theorem dX8_jar_6 : decode cX8_jar 6 = .ok (.ifCond .ne 10, 3) := by decide +kernel
theorem dX8_jar_9 : decode cX8_jar 9 = .ok (.aload_n 0, 1) := by decide +kernel
theorem dX8_jar_10 : decode cX8_jar 10 = .ok (.bipush (-2), 2) := by decide +kernel
theorem dX8_jar_12 : decode cX8_jar 12 = .ok (.invokevirtual 59, 3) := by decide +kernel
theorem dX8_jar_15 : decode cX8_jar 15 = .ok (.ireturn, 1) := by decide +kernel
theorem dX8_jar_16 : decode cX8_jar 16 = .ok (.aload_n 0, 1) := by decide +kernel
theorem dX8_jar_17 : decode cX8_jar 17 = .ok (.getfield 10, 3) := by decide +kernel
theorem dX8_jar_20 : decode cX8_jar 20 = .ok (.getfield 84, 3) := by decide +kernel
theorem dX8_jar_23 : decode cX8_jar 23 = .ok (.iconst 4, 1) := by decide +kernel
theorem dX8_jar_24 : decode cX8_jar 24 = .ok (.if_icmp .lt 10, 3) := by decide +kernel
theorem dX8_jar_27 : decode cX8_jar 27 = .ok (.aload_n 0, 1) := by decide +kernel
theorem dX8_jar_28 : decode cX8_jar 28 = .ok (.bipush (-4), 2) := by decide +kernel
theorem dX8_jar_30 : decode cX8_jar 30 = .ok (.invokevirtual 59, 3) := by decide +kernel
theorem dX8_jar_33 : decode cX8_jar 33 = .ok (.ireturn, 1) := by decide +kernel
theorem dX8_jar_34 : decode cX8_jar 34 = .ok (.aload_n 0, 1) := by decide +kernel
theorem dX8_jar_35 : decode cX8_jar 35 = .ok (.getfield 10, 3) := by decide +kernel
theorem dX8_jar_38 : decode cX8_jar 38 = .ok (.getfield 71, 3) := by decide +kernel
theorem dX8_jar_41 : decode cX8_jar 41 = .ok (.invokevirtual 75, 3) := by decide +kernel
theorem dX8_jar_44 : decode cX8_jar 44 = .ok (.aload_n 0, 1) := by decide +kernel
theorem dX8_jar_45 : decode cX8_jar 45 = .ok (.getfield 10, 3) := by decide +kernel
theorem dX8_jar_48 : decode cX8_jar 48 = .ok (.iload_n 1, 1) := by decide +kernel
theorem dX8_jar_49 : decode cX8_jar 49 = .ok (.invokevirtual 87, 3) := by decide +kernel
theorem dX8_jar_52 : decode cX8_jar 52 = .ok (.ireturn, 1) := by decide +kernel
theorem dX8_keeps_0 : decode cX8_keeps 0 = .ok (.aload_n 0, 1) := by decide +kernel
theorem dX8_keeps_1 : decode cX8_keeps 1 = .ok (.getfield 10, 3) := by decide +kernel
theorem dX8_keeps_4 : decode cX8_keeps 4 = .ok (.iload_n 1, 1) := by decide +kernel
theorem dX8_keeps_5 : decode cX8_keeps 5 = .ok (.invokevirtual 112, 3) := by decide +kernel
theorem dX8_keeps_8 : decode cX8_keeps 8 = .ok (.ifCond .eq 13, 3) := by decide +kernel
theorem dX8_keeps_11 : decode cX8_keeps 11 = .ok (.iload_n 2, 1) := by decide +kernel
theorem dX8_keeps_12 : decode cX8_keeps 12 = .ok (.iconst 0, 1) := by decide +kernel
theorem dX8_keeps_13 : decode cX8_keeps 13 = .ok (.bipush 60, 2) := by decide +kernel
theorem dX8_keeps_15 : decode cX8_keeps 15 = .ok (.invokestatic 55, 3) := by decide +kernel
theorem dX8_keeps_18 : decode cX8_keeps 18 = .ok (.ifCond .ne 10, 3) := by decide +kernel
theorem dX8_keeps_21 : decode cX8_keeps 21 = .ok (.aload_n 0, 1) := by decide +kernel
theorem dX8_keeps_22 : decode cX8_keeps 22 = .ok (.bipush (-2), 2) := by decide +kernel
theorem dX8_keeps_24 : decode cX8_keeps 24 = .ok (.invokevirtual 59, 3) := by decide +kernel
theorem dX8_keeps_27 : decode cX8_keeps 27 = .ok (.ireturn, 1) := by decide +kernel
theorem dX8_keeps_28 : decode cX8_keeps 28 = .ok (.aload_n 0, 1) := by decide +kernel
theorem dX8_keeps_29 : decode cX8_keeps 29 = .ok (.getfield 10, 3) := by decide +kernel
theorem dX8_keeps_32 : decode cX8_keeps 32 = .ok (.iload_n 1, 1) := by decide +kernel
theorem dX8_keeps_33 : decode cX8_keeps 33 = .ok (.iload_n 2, 1) := by decide +kernel
theorem dX8_keeps_34 : decode cX8_keeps 34 = .ok (.invokevirtual 163, 3) := by decide +kernel
theorem dX8_keeps_37 : decode cX8_keeps 37 = .ok (.ireturn, 1) := by decide +kernel
theorem dX8_kinds_0 : decode cX8_kinds 0 = .ok (.aload_n 0, 1) := by decide +kernel
theorem dX8_kinds_1 : decode cX8_kinds 1 = .ok (.getfield 10, 3) := by decide +kernel
theorem dX8_kinds_4 : decode cX8_kinds 4 = .ok (.iload_n 1, 1) := by decide +kernel
theorem dX8_kinds_5 : decode cX8_kinds 5 = .ok (.invokevirtual 112, 3) := by decide +kernel
theorem dX8_kinds_8 : decode cX8_kinds 8 = .ok (.ifCond .ne 10, 3) := by decide +kernel
theorem dX8_kinds_11 : decode cX8_kinds 11 = .ok (.aload_n 0, 1) := by decide +kernel
theorem dX8_kinds_12 : decode cX8_kinds 12 = .ok (.bipush (-2), 2) := by decide +kernel
theorem dX8_kinds_14 : decode cX8_kinds 14 = .ok (.invokevirtual 59, 3) := by decide +kernel
theorem dX8_kinds_17 : decode cX8_kinds 17 = .ok (.ireturn, 1) := by decide +kernel
theorem dX8_kinds_18 : decode cX8_kinds 18 = .ok (.aload_n 0, 1) := by decide +kernel
theorem dX8_kinds_19 : decode cX8_kinds 19 = .ok (.getfield 44, 3) := by decide +kernel
theorem dX8_kinds_22 : decode cX8_kinds 22 = .ok (.iconst 1, 1) := by decide +kernel
theorem dX8_kinds_23 : decode cX8_kinds 23 = .ok (.aload_n 0, 1) := by decide +kernel
theorem dX8_kinds_24 : decode cX8_kinds 24 = .ok (.getfield 10, 3) := by decide +kernel
theorem dX8_kinds_27 : decode cX8_kinds 27 = .ok (.getfield 202, 3) := by decide +kernel
theorem dX8_kinds_30 : decode cX8_kinds 30 = .ok (.iload_n 1, 1) := by decide +kernel
theorem dX8_kinds_31 : decode cX8_kinds 31 = .ok (.invokevirtual 206, 3) := by decide +kernel
theorem dX8_kinds_34 : decode cX8_kinds 34 = .ok (.ireturn, 1) := by decide +kernel
theorem dX8_ladle_0 : decode cX8_ladle 0 = .ok (.aload_n 0, 1) := by decide +kernel
theorem dX8_ladle_1 : decode cX8_ladle 1 = .ok (.getfield 10, 3) := by decide +kernel
theorem dX8_ladle_4 : decode cX8_ladle 4 = .ok (.iload_n 1, 1) := by decide +kernel
theorem dX8_ladle_5 : decode cX8_ladle 5 = .ok (.invokevirtual 108, 3) := by decide +kernel
theorem dX8_ladle_8 : decode cX8_ladle 8 = .ok (.ifCond .eq 14, 3) := by decide +kernel
theorem dX8_ladle_11 : decode cX8_ladle 11 = .ok (.aload_n 0, 1) := by decide +kernel
theorem dX8_ladle_12 : decode cX8_ladle 12 = .ok (.getfield 10, 3) := by decide +kernel
theorem dX8_ladle_15 : decode cX8_ladle 15 = .ok (.iload_n 2, 1) := by decide +kernel
theorem dX8_ladle_16 : decode cX8_ladle 16 = .ok (.invokevirtual 112, 3) := by decide +kernel
theorem dX8_ladle_19 : decode cX8_ladle 19 = .ok (.ifCond .ne 10, 3) := by decide +kernel
theorem dX8_ladle_22 : decode cX8_ladle 22 = .ok (.aload_n 0, 1) := by decide +kernel
theorem dX8_ladle_23 : decode cX8_ladle 23 = .ok (.bipush (-2), 2) := by decide +kernel
theorem dX8_ladle_25 : decode cX8_ladle 25 = .ok (.invokevirtual 59, 3) := by decide +kernel
theorem dX8_ladle_28 : decode cX8_ladle 28 = .ok (.ireturn, 1) := by decide +kernel
theorem dX8_ladle_29 : decode cX8_ladle 29 = .ok (.aload_n 0, 1) := by decide +kernel
theorem dX8_ladle_30 : decode cX8_ladle 30 = .ok (.getfield 10, 3) := by decide +kernel
theorem dX8_ladle_33 : decode cX8_ladle 33 = .ok (.iload_n 1, 1) := by decide +kernel
theorem dX8_ladle_34 : decode cX8_ladle 34 = .ok (.invokevirtual 115, 3) := by decide +kernel
theorem dX8_ladle_37 : decode cX8_ladle 37 = .ok (.ifCond .eq 10, 3) := by decide +kernel
theorem dX8_ladle_40 : decode cX8_ladle 40 = .ok (.aload_n 0, 1) := by decide +kernel
theorem dX8_ladle_41 : decode cX8_ladle 41 = .ok (.bipush (-3), 2) := by decide +kernel
theorem dX8_ladle_43 : decode cX8_ladle 43 = .ok (.invokevirtual 59, 3) := by decide +kernel
theorem dX8_ladle_46 : decode cX8_ladle 46 = .ok (.ireturn, 1) := by decide +kernel
theorem dX8_ladle_47 : decode cX8_ladle 47 = .ok (.aload_n 0, 1) := by decide +kernel
theorem dX8_ladle_48 : decode cX8_ladle 48 = .ok (.getfield 10, 3) := by decide +kernel
theorem dX8_ladle_51 : decode cX8_ladle 51 = .ok (.getfield 71, 3) := by decide +kernel
theorem dX8_ladle_54 : decode cX8_ladle 54 = .ok (.aload_n 0, 1) := by decide +kernel
theorem dX8_ladle_55 : decode cX8_ladle 55 = .ok (.getfield 10, 3) := by decide +kernel
theorem dX8_ladle_58 : decode cX8_ladle 58 = .ok (.invokevirtual 118, 3) := by decide +kernel
theorem dX8_ladle_61 : decode cX8_ladle 61 = .ok (.aload_n 0, 1) := by decide +kernel
theorem dX8_ladle_62 : decode cX8_ladle 62 = .ok (.getfield 10, 3) := by decide +kernel
theorem dX8_ladle_65 : decode cX8_ladle 65 = .ok (.iload_n 1, 1) := by decide +kernel
theorem dX8_ladle_66 : decode cX8_ladle 66 = .ok (.iload_n 2, 1) := by decide +kernel
theorem dX8_ladle_67 : decode cX8_ladle 67 = .ok (.invokevirtual 121, 3) := by decide +kernel
theorem dX8_ladle_70 : decode cX8_ladle 70 = .ok (.ireturn, 1) := by decide +kernel
theorem dX8_look_0 : decode cX8_look 0 = .ok (.aload_n 0, 1) := by decide +kernel
theorem dX8_look_1 : decode cX8_look 1 = .ok (.getfield 10, 3) := by decide +kernel
theorem dX8_look_4 : decode cX8_look 4 = .ok (.iload_n 1, 1) := by decide +kernel
theorem dX8_look_5 : decode cX8_look 5 = .ok (.invokevirtual 108, 3) := by decide +kernel
theorem dX8_look_8 : decode cX8_look 8 = .ok (.ifCond .ne 10, 3) := by decide +kernel
theorem dX8_look_11 : decode cX8_look 11 = .ok (.aload_n 0, 1) := by decide +kernel
theorem dX8_look_12 : decode cX8_look 12 = .ok (.bipush (-2), 2) := by decide +kernel
theorem dX8_look_14 : decode cX8_look 14 = .ok (.invokevirtual 59, 3) := by decide +kernel
theorem dX8_look_17 : decode cX8_look 17 = .ok (.ireturn, 1) := by decide +kernel
theorem dX8_look_18 : decode cX8_look 18 = .ok (.aload_n 0, 1) := by decide +kernel
theorem dX8_look_19 : decode cX8_look 19 = .ok (.getfield 44, 3) := by decide +kernel
theorem dX8_look_22 : decode cX8_look 22 = .ok (.iconst 0, 1) := by decide +kernel
theorem dX8_look_23 : decode cX8_look 23 = .ok (.aload_n 0, 1) := by decide +kernel
theorem dX8_look_24 : decode cX8_look 24 = .ok (.getfield 10, 3) := by decide +kernel
theorem dX8_look_27 : decode cX8_look 27 = .ok (.getfield 192, 3) := by decide +kernel
theorem dX8_look_30 : decode cX8_look 30 = .ok (.iload_n 1, 1) := by decide +kernel
theorem dX8_look_31 : decode cX8_look 31 = .ok (.invokevirtual 206, 3) := by decide +kernel
theorem dX8_look_34 : decode cX8_look 34 = .ok (.istore_n 2, 1) := by decide +kernel
theorem dX8_look_35 : decode cX8_look 35 = .ok (.aload_n 0, 1) := by decide +kernel
theorem dX8_look_36 : decode cX8_look 36 = .ok (.getfield 44, 3) := by decide +kernel
theorem dX8_look_39 : decode cX8_look 39 = .ok (.iconst 0, 1) := by decide +kernel
theorem dX8_look_40 : decode cX8_look 40 = .ok (.iload_n 2, 1) := by decide +kernel
theorem dX8_look_41 : decode cX8_look 41 = .ok (.aload_n 0, 1) := by decide +kernel
theorem dX8_look_42 : decode cX8_look 42 = .ok (.getfield 10, 3) := by decide +kernel
theorem dX8_look_45 : decode cX8_look 45 = .ok (.getfield 148, 3) := by decide +kernel
theorem dX8_look_48 : decode cX8_look 48 = .ok (.iload_n 1, 1) := by decide +kernel
theorem dX8_look_49 : decode cX8_look 49 = .ok (.iaload, 1) := by decide +kernel
theorem dX8_look_50 : decode cX8_look 50 = .ok (.aload_n 0, 1) := by decide +kernel
theorem dX8_look_51 : decode cX8_look 51 = .ok (.getfield 10, 3) := by decide +kernel
theorem dX8_look_54 : decode cX8_look 54 = .ok (.getfield 148, 3) := by decide +kernel
theorem dX8_look_57 : decode cX8_look 57 = .ok (.iload_n 1, 1) := by decide +kernel
theorem dX8_look_58 : decode cX8_look 58 = .ok (.iaload, 1) := by decide +kernel
theorem dX8_look_59 : decode cX8_look 59 = .ok (.invokevirtual 210, 3) := by decide +kernel
theorem dX8_look_62 : decode cX8_look 62 = .ok (.istore_n 3, 1) := by decide +kernel
theorem dX8_look_63 : decode cX8_look 63 = .ok (.iload_n 3, 1) := by decide +kernel
theorem dX8_look_64 : decode cX8_look 64 = .ok (.iconst (-1), 1) := by decide +kernel
theorem dX8_look_65 : decode cX8_look 65 = .ok (.if_icmp .ne 7, 3) := by decide +kernel
theorem dX8_look_68 : decode cX8_look 68 = .ok (.iconst (-1), 1) := by decide +kernel
theorem dX8_look_69 : decode cX8_look 69 = .ok (.goto 7, 3) := by decide +kernel
theorem dX8_look_72 : decode cX8_look 72 = .ok (.iload_n 3, 1) := by decide +kernel
theorem dX8_look_73 : decode cX8_look 73 = .ok (.bipush 100, 2) := by decide +kernel
theorem dX8_look_75 : decode cX8_look 75 = .ok (.irem, 1) := by decide +kernel
theorem dX8_look_76 : decode cX8_look 76 = .ok (.ireturn, 1) := by decide +kernel
theorem dX8_mark_0 : decode cX8_mark 0 = .ok (.aload_n 0, 1) := by decide +kernel
theorem dX8_mark_1 : decode cX8_mark 1 = .ok (.getfield 10, 3) := by decide +kernel
theorem dX8_mark_4 : decode cX8_mark 4 = .ok (.iload_n 1, 1) := by decide +kernel
theorem dX8_mark_5 : decode cX8_mark 5 = .ok (.invokevirtual 112, 3) := by decide +kernel
theorem dX8_mark_8 : decode cX8_mark 8 = .ok (.ifCond .eq 34, 3) := by decide +kernel
theorem dX8_mark_11 : decode cX8_mark 11 = .ok (.iload_n 2, 1) := by decide +kernel
theorem dX8_mark_12 : decode cX8_mark 12 = .ok (.iconst 0, 1) := by decide +kernel
theorem dX8_mark_13 : decode cX8_mark 13 = .ok (.bipush 60, 2) := by decide +kernel
theorem dX8_mark_15 : decode cX8_mark 15 = .ok (.invokestatic 55, 3) := by decide +kernel
theorem dX8_mark_18 : decode cX8_mark 18 = .ok (.ifCond .eq 24, 3) := by decide +kernel
theorem dX8_mark_21 : decode cX8_mark 21 = .ok (.iload_n 3, 1) := by decide +kernel
theorem dX8_mark_22 : decode cX8_mark 22 = .ok (.iconst 0, 1) := by decide +kernel
theorem dX8_mark_23 : decode cX8_mark 23 = .ok (.bipush 23, 2) := by decide +kernel
theorem dX8_mark_25 : decode cX8_mark 25 = .ok (.invokestatic 55, 3) := by decide +kernel
theorem dX8_mark_28 : decode cX8_mark 28 = .ok (.ifCond .eq 14, 3) := by decide +kernel
theorem dX8_mark_31 : decode cX8_mark 31 = .ok (.iload 4, 2) := by decide +kernel
theorem dX8_mark_33 : decode cX8_mark 33 = .ok (.iconst 0, 1) := by decide +kernel
theorem dX8_mark_34 : decode cX8_mark 34 = .ok (.bipush 60, 2) := by decide +kernel
theorem dX8_mark_36 : decode cX8_mark 36 = .ok (.invokestatic 55, 3) := by decide +kernel
theorem dX8_mark_39 : decode cX8_mark 39 = .ok (.ifCond .ne 10, 3) := by decide +kernel
theorem dX8_mark_42 : decode cX8_mark 42 = .ok (.aload_n 0, 1) := by decide +kernel
theorem dX8_mark_43 : decode cX8_mark 43 = .ok (.bipush (-2), 2) := by decide +kernel
theorem dX8_mark_45 : decode cX8_mark 45 = .ok (.invokevirtual 59, 3) := by decide +kernel
theorem dX8_mark_48 : decode cX8_mark 48 = .ok (.ireturn, 1) := by decide +kernel
theorem dX8_mark_49 : decode cX8_mark 49 = .ok (.aload_n 0, 1) := by decide +kernel
theorem dX8_mark_50 : decode cX8_mark 50 = .ok (.getfield 10, 3) := by decide +kernel
theorem dX8_mark_53 : decode cX8_mark 53 = .ok (.getfield 202, 3) := by decide +kernel
theorem dX8_mark_56 : decode cX8_mark 56 = .ok (.invokevirtual 196, 3) := by decide +kernel
theorem dX8_mark_59 : decode cX8_mark 59 = .ok (.ifCond .eq 10, 3) := by decide +kernel
theorem dX8_mark_62 : decode cX8_mark 62 = .ok (.aload_n 0, 1) := by decide +kernel
theorem dX8_mark_63 : decode cX8_mark 63 = .ok (.bipush (-4), 2) := by decide +kernel
theorem dX8_mark_65 : decode cX8_mark 65 = .ok (.invokevirtual 59, 3) := by decide +kernel
theorem dX8_mark_68 : decode cX8_mark 68 = .ok (.ireturn, 1) := by decide +kernel
theorem dX8_mark_69 : decode cX8_mark 69 = .ok (.aload_n 0, 1) := by decide +kernel
theorem dX8_mark_70 : decode cX8_mark 70 = .ok (.getfield 10, 3) := by decide +kernel
theorem dX8_mark_73 : decode cX8_mark 73 = .ok (.getfield 202, 3) := by decide +kernel
theorem dX8_mark_76 : decode cX8_mark 76 = .ok (.iload_n 1, 1) := by decide +kernel
theorem dX8_mark_77 : decode cX8_mark 77 = .ok (.iload_n 2, 1) := by decide +kernel
theorem dX8_mark_78 : decode cX8_mark 78 = .ok (.iload_n 3, 1) := by decide +kernel
theorem dX8_mark_79 : decode cX8_mark 79 = .ok (.iload 4, 2) := by decide +kernel
theorem dX8_mark_81 : decode cX8_mark 81 = .ok (.invokevirtual 199, 3) := by decide +kernel
theorem dX8_mark_84 : decode cX8_mark 84 = .ok (.ireturn, 1) := by decide +kernel
theorem dX8_noons_0 : decode cX8_noons 0 = .ok (.iload_n 1, 1) := by decide +kernel
theorem dX8_noons_1 : decode cX8_noons 1 = .ok (.iconst 0, 1) := by decide +kernel
theorem dX8_noons_2 : decode cX8_noons 2 = .ok (.ldc 229, 2) := by decide +kernel
theorem dX8_noons_4 : decode cX8_noons 4 = .ok (.invokestatic 55, 3) := by decide +kernel
theorem dX8_noons_7 : decode cX8_noons 7 = .ok (.ifCond .eq 13, 3) := by decide +kernel
theorem dX8_noons_10 : decode cX8_noons 10 = .ok (.iload_n 2, 1) := by decide +kernel
theorem dX8_noons_11 : decode cX8_noons 11 = .ok (.iconst 0, 1) := by decide +kernel
theorem dX8_noons_12 : decode cX8_noons 12 = .ok (.bipush 60, 2) := by decide +kernel
theorem dX8_noons_14 : decode cX8_noons 14 = .ok (.invokestatic 55, 3) := by decide +kernel
theorem dX8_noons_17 : decode cX8_noons 17 = .ok (.ifCond .ne 10, 3) := by decide +kernel
theorem dX8_noons_20 : decode cX8_noons 20 = .ok (.aload_n 0, 1) := by decide +kernel
theorem dX8_noons_21 : decode cX8_noons 21 = .ok (.bipush (-2), 2) := by decide +kernel
theorem dX8_noons_23 : decode cX8_noons 23 = .ok (.invokevirtual 59, 3) := by decide +kernel
theorem dX8_noons_26 : decode cX8_noons 26 = .ok (.ireturn, 1) := by decide +kernel
theorem dX8_noons_27 : decode cX8_noons 27 = .ok (.aload_n 0, 1) := by decide +kernel
theorem dX8_noons_28 : decode cX8_noons 28 = .ok (.getfield 16, 3) := by decide +kernel
theorem dX8_noons_31 : decode cX8_noons 31 = .ok (.aload_n 0, 1) := by decide +kernel
theorem dX8_noons_32 : decode cX8_noons 32 = .ok (.getfield 10, 3) := by decide +kernel
theorem dX8_noons_35 : decode cX8_noons 35 = .ok (.invokevirtual 104, 3) := by decide +kernel
theorem dX8_noons_38 : decode cX8_noons 38 = .ok (.iload_n 1, 1) := by decide +kernel
theorem dX8_noons_39 : decode cX8_noons 39 = .ok (.i2l, 1) := by decide +kernel
theorem dX8_noons_40 : decode cX8_noons 40 = .ok (.lstore_n 3, 1) := by decide +kernel
theorem dX8_noons_41 : decode cX8_noons 41 = .ok (.iconst 0, 1) := by decide +kernel
theorem dX8_noons_42 : decode cX8_noons 42 = .ok (.istore 5, 2) := by decide +kernel
theorem dX8_noons_44 : decode cX8_noons 44 = .ok (.iload 5, 2) := by decide +kernel
theorem dX8_noons_46 : decode cX8_noons 46 = .ok (.iload_n 2, 1) := by decide +kernel
theorem dX8_noons_47 : decode cX8_noons 47 = .ok (.if_icmp .ge 116, 3) := by decide +kernel
theorem dX8_noons_50 : decode cX8_noons 50 = .ok (.lload_n 3, 1) := by decide +kernel
theorem dX8_noons_51 : decode cX8_noons 51 = .ok (.ldc2_w 230, 3) := by decide +kernel
theorem dX8_noons_54 : decode cX8_noons 54 = .ok (.lmul, 1) := by decide +kernel
theorem dX8_noons_55 : decode cX8_noons 55 = .ok (.ldc2_w 232, 3) := by decide +kernel
theorem dX8_noons_58 : decode cX8_noons 58 = .ok (.ladd, 1) := by decide +kernel
theorem dX8_noons_59 : decode cX8_noons 59 = .ok (.ldc2_w 234, 3) := by decide +kernel
theorem dX8_noons_62 : decode cX8_noons 62 = .ok (.lrem, 1) := by decide +kernel
theorem dX8_noons_63 : decode cX8_noons 63 = .ok (.lstore_n 3, 1) := by decide +kernel
theorem dX8_noons_64 : decode cX8_noons 64 = .ok (.lload_n 3, 1) := by decide +kernel
theorem dX8_noons_65 : decode cX8_noons 65 = .ok (.ldc2_w 236, 3) := by decide +kernel
theorem dX8_noons_68 : decode cX8_noons 68 = .ok (.ldiv, 1) := by decide +kernel
theorem dX8_noons_69 : decode cX8_noons 69 = .ok (.ldc2_w 238, 3) := by decide +kernel
theorem dX8_noons_72 : decode cX8_noons 72 = .ok (.lrem, 1) := by decide +kernel
theorem dX8_noons_73 : decode cX8_noons 73 = .ok (.l2i, 1) := by decide +kernel
theorem dX8_noons_74 : decode cX8_noons 74 = .ok (.istore 6, 2) := by decide +kernel
theorem dX8_noons_76 : decode cX8_noons 76 = .ok (.lload_n 3, 1) := by decide +kernel
theorem dX8_noons_77 : decode cX8_noons 77 = .ok (.ldc2_w 240, 3) := by decide +kernel
theorem dX8_noons_80 : decode cX8_noons 80 = .ok (.ldiv, 1) := by decide +kernel
theorem dX8_noons_81 : decode cX8_noons 81 = .ok (.ldc2_w 242, 3) := by decide +kernel
theorem dX8_noons_84 : decode cX8_noons 84 = .ok (.lrem, 1) := by decide +kernel
theorem dX8_noons_85 : decode cX8_noons 85 = .ok (.l2i, 1) := by decide +kernel
theorem dX8_noons_86 : decode cX8_noons 86 = .ok (.istore 7, 2) := by decide +kernel
theorem dX8_noons_88 : decode cX8_noons 88 = .ok (.aload_n 0, 1) := by decide +kernel
theorem dX8_noons_89 : decode cX8_noons 89 = .ok (.getfield 16, 3) := by decide +kernel
theorem dX8_noons_92 : decode cX8_noons 92 = .ok (.iload 6, 2) := by decide +kernel
theorem dX8_noons_94 : decode cX8_noons 94 = .ok (.invokevirtual 108, 3) := by decide +kernel
theorem dX8_noons_97 : decode cX8_noons 97 = .ok (.ifCond .eq 39, 3) := by decide +kernel
theorem dX8_noons_100 : decode cX8_noons 100 = .ok (.aload_n 0, 1) := by decide +kernel
theorem dX8_noons_101 : decode cX8_noons 101 = .ok (.getfield 16, 3) := by decide +kernel
theorem dX8_noons_104 : decode cX8_noons 104 = .ok (.iload 7, 2) := by decide +kernel
theorem dX8_noons_106 : decode cX8_noons 106 = .ok (.invokevirtual 112, 3) := by decide +kernel
theorem dX8_noons_109 : decode cX8_noons 109 = .ok (.ifCond .eq 27, 3) := by decide +kernel
theorem dX8_noons_112 : decode cX8_noons 112 = .ok (.aload_n 0, 1) := by decide +kernel
theorem dX8_noons_113 : decode cX8_noons 113 = .ok (.getfield 16, 3) := by decide +kernel
theorem dX8_noons_116 : decode cX8_noons 116 = .ok (.iload 6, 2) := by decide +kernel
theorem dX8_noons_118 : decode cX8_noons 118 = .ok (.invokevirtual 115, 3) := by decide +kernel
theorem dX8_noons_121 : decode cX8_noons 121 = .ok (.ifCond .ne 15, 3) := by decide +kernel
theorem dX8_noons_124 : decode cX8_noons 124 = .ok (.aload_n 0, 1) := by decide +kernel
theorem dX8_noons_125 : decode cX8_noons 125 = .ok (.getfield 16, 3) := by decide +kernel
theorem dX8_noons_128 : decode cX8_noons 128 = .ok (.iload 6, 2) := by decide +kernel
theorem dX8_noons_130 : decode cX8_noons 130 = .ok (.iload 7, 2) := by decide +kernel
theorem dX8_noons_132 : decode cX8_noons 132 = .ok (.invokevirtual 121, 3) := by decide +kernel
theorem dX8_noons_135 : decode cX8_noons 135 = .ok (.pop, 1) := by decide +kernel
theorem dX8_noons_136 : decode cX8_noons 136 = .ok (.lload_n 3, 1) := by decide +kernel
theorem dX8_noons_137 : decode cX8_noons 137 = .ok (.ldc2_w 244, 3) := by decide +kernel
theorem dX8_noons_140 : decode cX8_noons 140 = .ok (.ldiv, 1) := by decide +kernel
theorem dX8_noons_141 : decode cX8_noons 141 = .ok (.ldc2_w 246, 3) := by decide +kernel
theorem dX8_noons_144 : decode cX8_noons 144 = .ok (.lrem, 1) := by decide +kernel
theorem dX8_noons_145 : decode cX8_noons 145 = .ok (.lconst 0, 1) := by decide +kernel
theorem dX8_noons_146 : decode cX8_noons 146 = .ok (.lcmp, 1) := by decide +kernel
theorem dX8_noons_147 : decode cX8_noons 147 = .ok (.ifCond .ne 10, 3) := by decide +kernel
theorem dX8_noons_150 : decode cX8_noons 150 = .ok (.aload_n 0, 1) := by decide +kernel
theorem dX8_noons_151 : decode cX8_noons 151 = .ok (.getfield 16, 3) := by decide +kernel
theorem dX8_noons_154 : decode cX8_noons 154 = .ok (.invokevirtual 248, 3) := by decide +kernel
theorem dX8_noons_157 : decode cX8_noons 157 = .ok (.iinc 5 1, 3) := by decide +kernel
theorem dX8_noons_160 : decode cX8_noons 160 = .ok (.goto (-116), 3) := by decide +kernel
theorem dX8_noons_163 : decode cX8_noons 163 = .ok (.aload_n 0, 1) := by decide +kernel
theorem dX8_noons_164 : decode cX8_noons 164 = .ok (.getfield 16, 3) := by decide +kernel
theorem dX8_noons_167 : decode cX8_noons 167 = .ok (.invokevirtual 251, 3) := by decide +kernel
theorem dX8_noons_170 : decode cX8_noons 170 = .ok (.ireturn, 1) := by decide +kernel
theorem dX8_note_0 : decode cX8_note 0 = .ok (.aload_n 0, 1) := by decide +kernel
theorem dX8_note_1 : decode cX8_note 1 = .ok (.getfield 10, 3) := by decide +kernel
theorem dX8_note_4 : decode cX8_note 4 = .ok (.iload_n 1, 1) := by decide +kernel
theorem dX8_note_5 : decode cX8_note 5 = .ok (.invokevirtual 108, 3) := by decide +kernel
theorem dX8_note_8 : decode cX8_note 8 = .ok (.ifCond .eq 34, 3) := by decide +kernel
theorem dX8_note_11 : decode cX8_note 11 = .ok (.iload_n 2, 1) := by decide +kernel
theorem dX8_note_12 : decode cX8_note 12 = .ok (.iconst 1, 1) := by decide +kernel
theorem dX8_note_13 : decode cX8_note 13 = .ok (.bipush 9, 2) := by decide +kernel
theorem dX8_note_15 : decode cX8_note 15 = .ok (.invokestatic 55, 3) := by decide +kernel
theorem dX8_note_18 : decode cX8_note 18 = .ok (.ifCond .eq 24, 3) := by decide +kernel
theorem dX8_note_21 : decode cX8_note 21 = .ok (.iload_n 3, 1) := by decide +kernel
theorem dX8_note_22 : decode cX8_note 22 = .ok (.iconst 0, 1) := by decide +kernel
theorem dX8_note_23 : decode cX8_note 23 = .ok (.bipush 23, 2) := by decide +kernel
theorem dX8_note_25 : decode cX8_note 25 = .ok (.invokestatic 55, 3) := by decide +kernel
theorem dX8_note_28 : decode cX8_note 28 = .ok (.ifCond .eq 14, 3) := by decide +kernel
theorem dX8_note_31 : decode cX8_note 31 = .ok (.iload 4, 2) := by decide +kernel
theorem dX8_note_33 : decode cX8_note 33 = .ok (.iconst 0, 1) := by decide +kernel
theorem dX8_note_34 : decode cX8_note 34 = .ok (.bipush 40, 2) := by decide +kernel
theorem dX8_note_36 : decode cX8_note 36 = .ok (.invokestatic 55, 3) := by decide +kernel
theorem dX8_note_39 : decode cX8_note 39 = .ok (.ifCond .ne 10, 3) := by decide +kernel
theorem dX8_note_42 : decode cX8_note 42 = .ok (.aload_n 0, 1) := by decide +kernel
theorem dX8_note_43 : decode cX8_note 43 = .ok (.bipush (-2), 2) := by decide +kernel
theorem dX8_note_45 : decode cX8_note 45 = .ok (.invokevirtual 59, 3) := by decide +kernel
theorem dX8_note_48 : decode cX8_note 48 = .ok (.ireturn, 1) := by decide +kernel
theorem dX8_note_49 : decode cX8_note 49 = .ok (.aload_n 0, 1) := by decide +kernel
theorem dX8_note_50 : decode cX8_note 50 = .ok (.getfield 10, 3) := by decide +kernel
theorem dX8_note_53 : decode cX8_note 53 = .ok (.getfield 192, 3) := by decide +kernel
theorem dX8_note_56 : decode cX8_note 56 = .ok (.invokevirtual 196, 3) := by decide +kernel
theorem dX8_note_59 : decode cX8_note 59 = .ok (.ifCond .eq 10, 3) := by decide +kernel
theorem dX8_note_62 : decode cX8_note 62 = .ok (.aload_n 0, 1) := by decide +kernel
theorem dX8_note_63 : decode cX8_note 63 = .ok (.bipush (-4), 2) := by decide +kernel
theorem dX8_note_65 : decode cX8_note 65 = .ok (.invokevirtual 59, 3) := by decide +kernel
theorem dX8_note_68 : decode cX8_note 68 = .ok (.ireturn, 1) := by decide +kernel
theorem dX8_note_69 : decode cX8_note 69 = .ok (.aload_n 0, 1) := by decide +kernel
theorem dX8_note_70 : decode cX8_note 70 = .ok (.getfield 10, 3) := by decide +kernel
theorem dX8_note_73 : decode cX8_note 73 = .ok (.getfield 192, 3) := by decide +kernel
theorem dX8_note_76 : decode cX8_note 76 = .ok (.iload_n 1, 1) := by decide +kernel
theorem dX8_note_77 : decode cX8_note 77 = .ok (.iload_n 2, 1) := by decide +kernel
theorem dX8_note_78 : decode cX8_note 78 = .ok (.iload_n 3, 1) := by decide +kernel
theorem dX8_note_79 : decode cX8_note 79 = .ok (.iload 4, 2) := by decide +kernel
theorem dX8_note_81 : decode cX8_note 81 = .ok (.invokevirtual 199, 3) := by decide +kernel
theorem dX8_note_84 : decode cX8_note 84 = .ok (.ireturn, 1) := by decide +kernel
theorem dX8_of_0 : decode cX8_of 0 = .ok (.aload_n 0, 1) := by decide +kernel
theorem dX8_of_1 : decode cX8_of 1 = .ok (.getfield 10, 3) := by decide +kernel
theorem dX8_of_4 : decode cX8_of 4 = .ok (.iload_n 1, 1) := by decide +kernel
theorem dX8_of_5 : decode cX8_of 5 = .ok (.invokevirtual 108, 3) := by decide +kernel
theorem dX8_of_8 : decode cX8_of 8 = .ok (.ifCond .ne 10, 3) := by decide +kernel
theorem dX8_of_11 : decode cX8_of 11 = .ok (.aload_n 0, 1) := by decide +kernel
theorem dX8_of_12 : decode cX8_of 12 = .ok (.bipush (-2), 2) := by decide +kernel
theorem dX8_of_14 : decode cX8_of 14 = .ok (.invokevirtual 59, 3) := by decide +kernel
theorem dX8_of_17 : decode cX8_of 17 = .ok (.ireturn, 1) := by decide +kernel
theorem dX8_of_18 : decode cX8_of 18 = .ok (.iload_n 2, 1) := by decide +kernel
theorem dX8_of_19 : decode cX8_of 19 = .ok (.tableswitch 90 0 4 #[33, 43, 53, 63, 80], 33) := by decide +kernel
theorem dX8_of_52 : decode cX8_of 52 = .ok (.aload_n 0, 1) := by decide +kernel
theorem dX8_of_53 : decode cX8_of 53 = .ok (.getfield 10, 3) := by decide +kernel
theorem dX8_of_56 : decode cX8_of 56 = .ok (.getfield 145, 3) := by decide +kernel
theorem dX8_of_59 : decode cX8_of 59 = .ok (.iload_n 1, 1) := by decide +kernel
theorem dX8_of_60 : decode cX8_of 60 = .ok (.iaload, 1) := by decide +kernel
theorem dX8_of_61 : decode cX8_of 61 = .ok (.ireturn, 1) := by decide +kernel
theorem dX8_of_62 : decode cX8_of 62 = .ok (.aload_n 0, 1) := by decide +kernel
theorem dX8_of_63 : decode cX8_of 63 = .ok (.getfield 10, 3) := by decide +kernel
theorem dX8_of_66 : decode cX8_of 66 = .ok (.getfield 148, 3) := by decide +kernel
theorem dX8_of_69 : decode cX8_of 69 = .ok (.iload_n 1, 1) := by decide +kernel
theorem dX8_of_70 : decode cX8_of 70 = .ok (.iaload, 1) := by decide +kernel
theorem dX8_of_71 : decode cX8_of 71 = .ok (.ireturn, 1) := by decide +kernel
theorem dX8_of_72 : decode cX8_of 72 = .ok (.aload_n 0, 1) := by decide +kernel
theorem dX8_of_73 : decode cX8_of 73 = .ok (.getfield 10, 3) := by decide +kernel
theorem dX8_of_76 : decode cX8_of 76 = .ok (.getfield 151, 3) := by decide +kernel
theorem dX8_of_79 : decode cX8_of 79 = .ok (.iload_n 1, 1) := by decide +kernel
theorem dX8_of_80 : decode cX8_of 80 = .ok (.iaload, 1) := by decide +kernel
theorem dX8_of_81 : decode cX8_of 81 = .ok (.ireturn, 1) := by decide +kernel
theorem dX8_of_82 : decode cX8_of 82 = .ok (.aload_n 0, 1) := by decide +kernel
theorem dX8_of_83 : decode cX8_of 83 = .ok (.getfield 10, 3) := by decide +kernel
theorem dX8_of_86 : decode cX8_of 86 = .ok (.iload_n 1, 1) := by decide +kernel
theorem dX8_of_87 : decode cX8_of 87 = .ok (.invokevirtual 115, 3) := by decide +kernel
theorem dX8_of_90 : decode cX8_of 90 = .ok (.ifCond .eq 7, 3) := by decide +kernel
theorem dX8_of_93 : decode cX8_of 93 = .ok (.iconst 1, 1) := by decide +kernel
theorem dX8_of_94 : decode cX8_of 94 = .ok (.goto 4, 3) := by decide +kernel
theorem dX8_of_97 : decode cX8_of 97 = .ok (.iconst 0, 1) := by decide +kernel
theorem dX8_of_98 : decode cX8_of 98 = .ok (.ireturn, 1) := by decide +kernel
theorem dX8_of_99 : decode cX8_of 99 = .ok (.aload_n 0, 1) := by decide +kernel
theorem dX8_of_100 : decode cX8_of 100 = .ok (.getfield 10, 3) := by decide +kernel
theorem dX8_of_103 : decode cX8_of 103 = .ok (.iload_n 1, 1) := by decide +kernel
theorem dX8_of_104 : decode cX8_of 104 = .ok (.iconst 0, 1) := by decide +kernel
theorem dX8_of_105 : decode cX8_of 105 = .ok (.invokevirtual 154, 3) := by decide +kernel
theorem dX8_of_108 : decode cX8_of 108 = .ok (.ireturn, 1) := by decide +kernel
theorem dX8_of_109 : decode cX8_of 109 = .ok (.aload_n 0, 1) := by decide +kernel
theorem dX8_of_110 : decode cX8_of 110 = .ok (.bipush (-2), 2) := by decide +kernel
theorem dX8_of_112 : decode cX8_of 112 = .ok (.invokevirtual 59, 3) := by decide +kernel
theorem dX8_of_115 : decode cX8_of 115 = .ok (.ireturn, 1) := by decide +kernel
theorem dX8_part_0 : decode cX8_part 0 = .ok (.iload_n 1, 1) := by decide +kernel
theorem dX8_part_1 : decode cX8_part 1 = .ok (.lookupswitch 37 #[(0, 27), (1, 32)], 27) := by decide +kernel
theorem dX8_part_28 : decode cX8_part 28 = .ok (.aload_n 0, 1) := by decide +kernel
theorem dX8_part_29 : decode cX8_part 29 = .ok (.getfield 48, 3) := by decide +kernel
theorem dX8_part_32 : decode cX8_part 32 = .ok (.lreturn, 1) := by decide +kernel
theorem dX8_part_33 : decode cX8_part 33 = .ok (.aload_n 0, 1) := by decide +kernel
theorem dX8_part_34 : decode cX8_part 34 = .ok (.getfield 52, 3) := by decide +kernel
theorem dX8_part_37 : decode cX8_part 37 = .ok (.lreturn, 1) := by decide +kernel
theorem dX8_part_38 : decode cX8_part 38 = .ok (.aload_n 0, 1) := by decide +kernel
theorem dX8_part_39 : decode cX8_part 39 = .ok (.bipush (-2), 2) := by decide +kernel
theorem dX8_part_41 : decode cX8_part 41 = .ok (.invokevirtual 59, 3) := by decide +kernel
theorem dX8_part_44 : decode cX8_part 44 = .ok (.i2l, 1) := by decide +kernel
theorem dX8_part_45 : decode cX8_part 45 = .ok (.lreturn, 1) := by decide +kernel
theorem dX8_pouredBehind_0 : decode cX8_pouredBehind 0 = .ok (.aload_n 0, 1) := by decide +kernel
theorem dX8_pouredBehind_1 : decode cX8_pouredBehind 1 = .ok (.getfield 10, 3) := by decide +kernel
theorem dX8_pouredBehind_4 : decode cX8_pouredBehind 4 = .ok (.getfield 125, 3) := by decide +kernel
theorem dX8_pouredBehind_7 : decode cX8_pouredBehind 7 = .ok (.iload_n 1, 1) := by decide +kernel
theorem dX8_pouredBehind_8 : decode cX8_pouredBehind 8 = .ok (.iaload, 1) := by decide +kernel
theorem dX8_pouredBehind_9 : decode cX8_pouredBehind 9 = .ok (.bipush 60, 2) := by decide +kernel
theorem dX8_pouredBehind_11 : decode cX8_pouredBehind 11 = .ok (.aload_n 0, 1) := by decide +kernel
theorem dX8_pouredBehind_12 : decode cX8_pouredBehind 12 = .ok (.getfield 10, 3) := by decide +kernel
theorem dX8_pouredBehind_15 : decode cX8_pouredBehind 15 = .ok (.getfield 125, 3) := by decide +kernel
theorem dX8_pouredBehind_18 : decode cX8_pouredBehind 18 = .ok (.iload_n 2, 1) := by decide +kernel
theorem dX8_pouredBehind_19 : decode cX8_pouredBehind 19 = .ok (.iaload, 1) := by decide +kernel
theorem dX8_pouredBehind_20 : decode cX8_pouredBehind 20 = .ok (.isub, 1) := by decide +kernel
theorem dX8_pouredBehind_21 : decode cX8_pouredBehind 21 = .ok (.invokestatic 295, 3) := by decide +kernel
theorem dX8_pouredBehind_24 : decode cX8_pouredBehind 24 = .ok (.istore 4, 2) := by decide +kernel
theorem dX8_pouredBehind_26 : decode cX8_pouredBehind 26 = .ok (.aload_n 0, 1) := by decide +kernel
theorem dX8_pouredBehind_27 : decode cX8_pouredBehind 27 = .ok (.getfield 10, 3) := by decide +kernel
theorem dX8_pouredBehind_30 : decode cX8_pouredBehind 30 = .ok (.getfield 157, 3) := by decide +kernel
theorem dX8_pouredBehind_33 : decode cX8_pouredBehind 33 = .ok (.iload_n 1, 1) := by decide +kernel
theorem dX8_pouredBehind_34 : decode cX8_pouredBehind 34 = .ok (.iaload, 1) := by decide +kernel
theorem dX8_pouredBehind_35 : decode cX8_pouredBehind 35 = .ok (.aload_n 0, 1) := by decide +kernel
theorem dX8_pouredBehind_36 : decode cX8_pouredBehind 36 = .ok (.getfield 10, 3) := by decide +kernel
theorem dX8_pouredBehind_39 : decode cX8_pouredBehind 39 = .ok (.getfield 125, 3) := by decide +kernel
theorem dX8_pouredBehind_42 : decode cX8_pouredBehind 42 = .ok (.iload_n 1, 1) := by decide +kernel
theorem dX8_pouredBehind_43 : decode cX8_pouredBehind 43 = .ok (.iaload, 1) := by decide +kernel
theorem dX8_pouredBehind_44 : decode cX8_pouredBehind 44 = .ok (.iload 4, 2) := by decide +kernel
theorem dX8_pouredBehind_46 : decode cX8_pouredBehind 46 = .ok (.isub, 1) := by decide +kernel
theorem dX8_pouredBehind_47 : decode cX8_pouredBehind 47 = .ok (.aload_n 0, 1) := by decide +kernel
theorem dX8_pouredBehind_48 : decode cX8_pouredBehind 48 = .ok (.getfield 10, 3) := by decide +kernel
theorem dX8_pouredBehind_51 : decode cX8_pouredBehind 51 = .ok (.getfield 135, 3) := by decide +kernel
theorem dX8_pouredBehind_54 : decode cX8_pouredBehind 54 = .ok (.iload_n 3, 1) := by decide +kernel
theorem dX8_pouredBehind_55 : decode cX8_pouredBehind 55 = .ok (.invokestatic 300, 3) := by decide +kernel
theorem dX8_pouredBehind_58 : decode cX8_pouredBehind 58 = .ok (.aload_n 0, 1) := by decide +kernel
theorem dX8_pouredBehind_59 : decode cX8_pouredBehind 59 = .ok (.getfield 10, 3) := by decide +kernel
theorem dX8_pouredBehind_62 : decode cX8_pouredBehind 62 = .ok (.getfield 157, 3) := by decide +kernel
theorem dX8_pouredBehind_65 : decode cX8_pouredBehind 65 = .ok (.iload_n 2, 1) := by decide +kernel
theorem dX8_pouredBehind_66 : decode cX8_pouredBehind 66 = .ok (.iaload, 1) := by decide +kernel
theorem dX8_pouredBehind_67 : decode cX8_pouredBehind 67 = .ok (.aload_n 0, 1) := by decide +kernel
theorem dX8_pouredBehind_68 : decode cX8_pouredBehind 68 = .ok (.getfield 10, 3) := by decide +kernel
theorem dX8_pouredBehind_71 : decode cX8_pouredBehind 71 = .ok (.getfield 125, 3) := by decide +kernel
theorem dX8_pouredBehind_74 : decode cX8_pouredBehind 74 = .ok (.iload_n 2, 1) := by decide +kernel
theorem dX8_pouredBehind_75 : decode cX8_pouredBehind 75 = .ok (.iaload, 1) := by decide +kernel
theorem dX8_pouredBehind_76 : decode cX8_pouredBehind 76 = .ok (.iload 4, 2) := by decide +kernel
theorem dX8_pouredBehind_78 : decode cX8_pouredBehind 78 = .ok (.iadd, 1) := by decide +kernel
theorem dX8_pouredBehind_79 : decode cX8_pouredBehind 79 = .ok (.aload_n 0, 1) := by decide +kernel
theorem dX8_pouredBehind_80 : decode cX8_pouredBehind 80 = .ok (.getfield 10, 3) := by decide +kernel
theorem dX8_pouredBehind_83 : decode cX8_pouredBehind 83 = .ok (.getfield 135, 3) := by decide +kernel
theorem dX8_pouredBehind_86 : decode cX8_pouredBehind 86 = .ok (.iload_n 3, 1) := by decide +kernel
theorem dX8_pouredBehind_87 : decode cX8_pouredBehind 87 = .ok (.invokestatic 300, 3) := by decide +kernel
theorem dX8_pouredBehind_90 : decode cX8_pouredBehind 90 = .ok (.iadd, 1) := by decide +kernel
theorem dX8_pouredBehind_91 : decode cX8_pouredBehind 91 = .ok (.ireturn, 1) := by decide +kernel
theorem dX8_pours_0 : decode cX8_pours 0 = .ok (.aload_n 0, 1) := by decide +kernel
theorem dX8_pours_1 : decode cX8_pours 1 = .ok (.getfield 10, 3) := by decide +kernel
theorem dX8_pours_4 : decode cX8_pours 4 = .ok (.iload_n 1, 1) := by decide +kernel
theorem dX8_pours_5 : decode cX8_pours 5 = .ok (.invokevirtual 112, 3) := by decide +kernel
theorem dX8_pours_8 : decode cX8_pours 8 = .ok (.ifCond .eq 19, 3) := by decide +kernel
theorem dX8_pours_11 : decode cX8_pours 11 = .ok (.aload_n 0, 1) := by decide +kernel
theorem dX8_pours_12 : decode cX8_pours 12 = .ok (.getfield 10, 3) := by decide +kernel
theorem dX8_pours_15 : decode cX8_pours 15 = .ok (.iload_n 2, 1) := by decide +kernel
theorem dX8_pours_16 : decode cX8_pours 16 = .ok (.invokevirtual 112, 3) := by decide +kernel
theorem dX8_pours_19 : decode cX8_pours 19 = .ok (.ifCond .eq 8, 3) := by decide +kernel
theorem dX8_pours_22 : decode cX8_pours 22 = .ok (.iload_n 1, 1) := by decide +kernel
theorem dX8_pours_23 : decode cX8_pours 23 = .ok (.iload_n 2, 1) := by decide +kernel
theorem dX8_pours_24 : decode cX8_pours 24 = .ok (.if_icmp .ne 10, 3) := by decide +kernel
theorem dX8_pours_27 : decode cX8_pours 27 = .ok (.aload_n 0, 1) := by decide +kernel
theorem dX8_pours_28 : decode cX8_pours 28 = .ok (.bipush (-2), 2) := by decide +kernel
theorem dX8_pours_30 : decode cX8_pours 30 = .ok (.invokevirtual 59, 3) := by decide +kernel
theorem dX8_pours_33 : decode cX8_pours 33 = .ok (.ireturn, 1) := by decide +kernel
theorem dX8_pours_34 : decode cX8_pours 34 = .ok (.aload_n 0, 1) := by decide +kernel
theorem dX8_pours_35 : decode cX8_pours 35 = .ok (.getfield 10, 3) := by decide +kernel
theorem dX8_pours_38 : decode cX8_pours 38 = .ok (.getfield 125, 3) := by decide +kernel
theorem dX8_pours_41 : decode cX8_pours 41 = .ok (.iload_n 1, 1) := by decide +kernel
theorem dX8_pours_42 : decode cX8_pours 42 = .ok (.iaload, 1) := by decide +kernel
theorem dX8_pours_43 : decode cX8_pours 43 = .ok (.ifCond .ne 10, 3) := by decide +kernel
theorem dX8_pours_46 : decode cX8_pours 46 = .ok (.aload_n 0, 1) := by decide +kernel
theorem dX8_pours_47 : decode cX8_pours 47 = .ok (.bipush (-3), 2) := by decide +kernel
theorem dX8_pours_49 : decode cX8_pours 49 = .ok (.invokevirtual 59, 3) := by decide +kernel
theorem dX8_pours_52 : decode cX8_pours 52 = .ok (.ireturn, 1) := by decide +kernel
theorem dX8_pours_53 : decode cX8_pours 53 = .ok (.aload_n 0, 1) := by decide +kernel
theorem dX8_pours_54 : decode cX8_pours 54 = .ok (.getfield 10, 3) := by decide +kernel
theorem dX8_pours_57 : decode cX8_pours 57 = .ok (.getfield 71, 3) := by decide +kernel
theorem dX8_pours_60 : decode cX8_pours 60 = .ok (.aload_n 0, 1) := by decide +kernel
theorem dX8_pours_61 : decode cX8_pours 61 = .ok (.getfield 10, 3) := by decide +kernel
theorem dX8_pours_64 : decode cX8_pours 64 = .ok (.invokevirtual 118, 3) := by decide +kernel
theorem dX8_pours_67 : decode cX8_pours 67 = .ok (.aload_n 0, 1) := by decide +kernel
theorem dX8_pours_68 : decode cX8_pours 68 = .ok (.getfield 10, 3) := by decide +kernel
theorem dX8_pours_71 : decode cX8_pours 71 = .ok (.iload_n 1, 1) := by decide +kernel
theorem dX8_pours_72 : decode cX8_pours 72 = .ok (.iload_n 2, 1) := by decide +kernel
theorem dX8_pours_73 : decode cX8_pours 73 = .ok (.invokevirtual 129, 3) := by decide +kernel
theorem dX8_pours_76 : decode cX8_pours 76 = .ok (.ireturn, 1) := by decide +kernel
theorem dX8_refused_0 : decode cX8_refused 0 = .ok (.iload_n 1, 1) := by decide +kernel
theorem dX8_refused_1 : decode cX8_refused 1 = .ok (.bipush (-2), 2) := by decide +kernel
theorem dX8_refused_3 : decode cX8_refused 3 = .ok (.if_icmp .ne 16, 3) := by decide +kernel
theorem dX8_refused_6 : decode cX8_refused 6 = .ok (.aload_n 0, 1) := by decide +kernel
theorem dX8_refused_7 : decode cX8_refused 7 = .ok (.dup, 1) := by decide +kernel
theorem dX8_refused_8 : decode cX8_refused 8 = .ok (.getfield 254, 3) := by decide +kernel
theorem dX8_refused_11 : decode cX8_refused 11 = .ok (.iconst 1, 1) := by decide +kernel
theorem dX8_refused_12 : decode cX8_refused 12 = .ok (.iadd, 1) := by decide +kernel
theorem dX8_refused_13 : decode cX8_refused 13 = .ok (.putfield 254, 3) := by decide +kernel
theorem dX8_refused_16 : decode cX8_refused 16 = .ok (.goto 32, 3) := by decide +kernel
theorem dX8_refused_19 : decode cX8_refused 19 = .ok (.iload_n 1, 1) := by decide +kernel
theorem dX8_refused_20 : decode cX8_refused 20 = .ok (.bipush (-3), 2) := by decide +kernel
theorem dX8_refused_22 : decode cX8_refused 22 = .ok (.if_icmp .ne 16, 3) := by decide +kernel
theorem dX8_refused_25 : decode cX8_refused 25 = .ok (.aload_n 0, 1) := by decide +kernel
theorem dX8_refused_26 : decode cX8_refused 26 = .ok (.dup, 1) := by decide +kernel
theorem dX8_refused_27 : decode cX8_refused 27 = .ok (.getfield 257, 3) := by decide +kernel
theorem dX8_refused_30 : decode cX8_refused 30 = .ok (.iconst 1, 1) := by decide +kernel
theorem dX8_refused_31 : decode cX8_refused 31 = .ok (.iadd, 1) := by decide +kernel
theorem dX8_refused_32 : decode cX8_refused 32 = .ok (.putfield 257, 3) := by decide +kernel
theorem dX8_refused_35 : decode cX8_refused 35 = .ok (.goto 13, 3) := by decide +kernel
theorem dX8_refused_38 : decode cX8_refused 38 = .ok (.aload_n 0, 1) := by decide +kernel
theorem dX8_refused_39 : decode cX8_refused 39 = .ok (.dup, 1) := by decide +kernel
theorem dX8_refused_40 : decode cX8_refused 40 = .ok (.getfield 260, 3) := by decide +kernel
theorem dX8_refused_43 : decode cX8_refused 43 = .ok (.iconst 1, 1) := by decide +kernel
theorem dX8_refused_44 : decode cX8_refused 44 = .ok (.iadd, 1) := by decide +kernel
theorem dX8_refused_45 : decode cX8_refused 45 = .ok (.putfield 260, 3) := by decide +kernel
theorem dX8_refused_48 : decode cX8_refused 48 = .ok (.iload_n 1, 1) := by decide +kernel
theorem dX8_refused_49 : decode cX8_refused 49 = .ok (.ireturn, 1) := by decide +kernel
theorem dX8_rests_0 : decode cX8_rests 0 = .ok (.aload_n 0, 1) := by decide +kernel
theorem dX8_rests_1 : decode cX8_rests 1 = .ok (.getfield 10, 3) := by decide +kernel
theorem dX8_rests_4 : decode cX8_rests 4 = .ok (.iload_n 1, 1) := by decide +kernel
theorem dX8_rests_5 : decode cX8_rests 5 = .ok (.invokevirtual 115, 3) := by decide +kernel
theorem dX8_rests_8 : decode cX8_rests 8 = .ok (.ifCond .ne 14, 3) := by decide +kernel
theorem dX8_rests_11 : decode cX8_rests 11 = .ok (.aload_n 0, 1) := by decide +kernel
theorem dX8_rests_12 : decode cX8_rests 12 = .ok (.getfield 10, 3) := by decide +kernel
theorem dX8_rests_15 : decode cX8_rests 15 = .ok (.iload_n 2, 1) := by decide +kernel
theorem dX8_rests_16 : decode cX8_rests 16 = .ok (.invokevirtual 115, 3) := by decide +kernel
theorem dX8_rests_19 : decode cX8_rests 19 = .ok (.ifCond .eq 5, 3) := by decide +kernel
theorem dX8_rests_22 : decode cX8_rests 22 = .ok (.iconst 0, 1) := by decide +kernel
theorem dX8_rests_23 : decode cX8_rests 23 = .ok (.ireturn, 1) := by decide +kernel
theorem dX8_rests_24 : decode cX8_rests 24 = .ok (.aload_n 0, 1) := by decide +kernel
theorem dX8_rests_25 : decode cX8_rests 25 = .ok (.iload_n 1, 1) := by decide +kernel
theorem dX8_rests_26 : decode cX8_rests 26 = .ok (.iload_n 2, 1) := by decide +kernel
theorem dX8_rests_27 : decode cX8_rests 27 = .ok (.invokevirtual 303, 3) := by decide +kernel
theorem dX8_rests_30 : decode cX8_rests 30 = .ok (.istore_n 3, 1) := by decide +kernel
theorem dX8_rests_31 : decode cX8_rests 31 = .ok (.aload_n 0, 1) := by decide +kernel
theorem dX8_rests_32 : decode cX8_rests 32 = .ok (.iload_n 2, 1) := by decide +kernel
theorem dX8_rests_33 : decode cX8_rests 33 = .ok (.iload_n 1, 1) := by decide +kernel
theorem dX8_rests_34 : decode cX8_rests 34 = .ok (.invokevirtual 303, 3) := by decide +kernel
theorem dX8_rests_37 : decode cX8_rests 37 = .ok (.istore 4, 2) := by decide +kernel
theorem dX8_rests_39 : decode cX8_rests 39 = .ok (.iconst 0, 1) := by decide +kernel
theorem dX8_rests_40 : decode cX8_rests 40 = .ok (.istore 5, 2) := by decide +kernel
theorem dX8_rests_42 : decode cX8_rests 42 = .ok (.iload 5, 2) := by decide +kernel
theorem dX8_rests_44 : decode cX8_rests 44 = .ok (.aload_n 0, 1) := by decide +kernel
theorem dX8_rests_45 : decode cX8_rests 45 = .ok (.getfield 10, 3) := by decide +kernel
theorem dX8_rests_48 : decode cX8_rests 48 = .ok (.getfield 63, 3) := by decide +kernel
theorem dX8_rests_51 : decode cX8_rests 51 = .ok (.if_icmp .ge 46, 3) := by decide +kernel
theorem dX8_rests_54 : decode cX8_rests 54 = .ok (.aload_n 0, 1) := by decide +kernel
theorem dX8_rests_55 : decode cX8_rests 55 = .ok (.getfield 10, 3) := by decide +kernel
theorem dX8_rests_58 : decode cX8_rests 58 = .ok (.iload 5, 2) := by decide +kernel
theorem dX8_rests_60 : decode cX8_rests 60 = .ok (.invokevirtual 115, 3) := by decide +kernel
theorem dX8_rests_63 : decode cX8_rests 63 = .ok (.ifCond .ne 28, 3) := by decide +kernel
theorem dX8_rests_66 : decode cX8_rests 66 = .ok (.aload_n 0, 1) := by decide +kernel
theorem dX8_rests_67 : decode cX8_rests 67 = .ok (.iload 5, 2) := by decide +kernel
theorem dX8_rests_69 : decode cX8_rests 69 = .ok (.iload_n 2, 1) := by decide +kernel
theorem dX8_rests_70 : decode cX8_rests 70 = .ok (.invokevirtual 303, 3) := by decide +kernel
theorem dX8_rests_73 : decode cX8_rests 73 = .ok (.iload_n 3, 1) := by decide +kernel
theorem dX8_rests_74 : decode cX8_rests 74 = .ok (.if_icmp .gt 15, 3) := by decide +kernel
theorem dX8_rests_77 : decode cX8_rests 77 = .ok (.aload_n 0, 1) := by decide +kernel
theorem dX8_rests_78 : decode cX8_rests 78 = .ok (.iload 5, 2) := by decide +kernel
theorem dX8_rests_80 : decode cX8_rests 80 = .ok (.iload_n 1, 1) := by decide +kernel
theorem dX8_rests_81 : decode cX8_rests 81 = .ok (.invokevirtual 303, 3) := by decide +kernel
theorem dX8_rests_84 : decode cX8_rests 84 = .ok (.iload 4, 2) := by decide +kernel
theorem dX8_rests_86 : decode cX8_rests 86 = .ok (.if_icmp .le 5, 3) := by decide +kernel
theorem dX8_rests_89 : decode cX8_rests 89 = .ok (.iconst 0, 1) := by decide +kernel
theorem dX8_rests_90 : decode cX8_rests 90 = .ok (.ireturn, 1) := by decide +kernel
theorem dX8_rests_91 : decode cX8_rests 91 = .ok (.iinc 5 1, 3) := by decide +kernel
theorem dX8_rests_94 : decode cX8_rests 94 = .ok (.goto (-52), 3) := by decide +kernel
theorem dX8_rests_97 : decode cX8_rests 97 = .ok (.iconst 1, 1) := by decide +kernel
theorem dX8_rests_98 : decode cX8_rests 98 = .ok (.ireturn, 1) := by decide +kernel
theorem dX8_round_0 : decode cX8_round 0 = .ok (.aload_n 0, 1) := by decide +kernel
theorem dX8_round_1 : decode cX8_round 1 = .ok (.getfield 10, 3) := by decide +kernel
theorem dX8_round_4 : decode cX8_round 4 = .ok (.iload_n 1, 1) := by decide +kernel
theorem dX8_round_5 : decode cX8_round 5 = .ok (.invokevirtual 112, 3) := by decide +kernel
theorem dX8_round_8 : decode cX8_round 8 = .ok (.ifCond .eq 22, 3) := by decide +kernel
theorem dX8_round_11 : decode cX8_round 11 = .ok (.iload_n 2, 1) := by decide +kernel
theorem dX8_round_12 : decode cX8_round 12 = .ok (.iconst 1, 1) := by decide +kernel
theorem dX8_round_13 : decode cX8_round 13 = .ok (.iconst 4, 1) := by decide +kernel
theorem dX8_round_14 : decode cX8_round 14 = .ok (.invokestatic 55, 3) := by decide +kernel
theorem dX8_round_17 : decode cX8_round 17 = .ok (.ifCond .eq 13, 3) := by decide +kernel
theorem dX8_round_20 : decode cX8_round 20 = .ok (.iload_n 3, 1) := by decide +kernel
theorem dX8_round_21 : decode cX8_round 21 = .ok (.ifCond .ge 19, 3) := by decide +kernel
theorem dX8_round_24 : decode cX8_round 24 = .ok (.iload_n 3, 1) := by decide +kernel
theorem dX8_round_25 : decode cX8_round 25 = .ok (.bipush (-2), 2) := by decide +kernel
theorem dX8_round_27 : decode cX8_round 27 = .ok (.if_icmp .eq 13, 3) := by decide +kernel
theorem dX8_round_30 : decode cX8_round 30 = .ok (.aload_n 0, 1) := by decide +kernel
theorem dX8_round_31 : decode cX8_round 31 = .ok (.bipush (-2), 2) := by decide +kernel
theorem dX8_round_33 : decode cX8_round 33 = .ok (.invokevirtual 59, 3) := by decide +kernel
theorem dX8_round_36 : decode cX8_round 36 = .ok (.pop, 1) := by decide +kernel
theorem dX8_round_37 : decode cX8_round 37 = .ok (.bipush (-10), 2) := by decide +kernel
theorem dX8_round_39 : decode cX8_round 39 = .ok (.ireturn, 1) := by decide +kernel
theorem dX8_round_40 : decode cX8_round 40 = .ok (.iload_n 3, 1) := by decide +kernel
theorem dX8_round_41 : decode cX8_round 41 = .ok (.iload_n 2, 1) := by decide +kernel
theorem dX8_round_42 : decode cX8_round 42 = .ok (.if_icmp .lt 6, 3) := by decide +kernel
theorem dX8_round_45 : decode cX8_round 45 = .ok (.bipush (-5), 2) := by decide +kernel
theorem dX8_round_47 : decode cX8_round 47 = .ok (.ireturn, 1) := by decide +kernel
theorem dX8_round_48 : decode cX8_round 48 = .ok (.aload_n 0, 1) := by decide +kernel
theorem dX8_round_49 : decode cX8_round 49 = .ok (.getfield 37, 3) := by decide +kernel
theorem dX8_round_52 : decode cX8_round 52 = .ok (.aload_n 0, 1) := by decide +kernel
theorem dX8_round_53 : decode cX8_round 53 = .ok (.getfield 10, 3) := by decide +kernel
theorem dX8_round_56 : decode cX8_round 56 = .ok (.iload_n 1, 1) := by decide +kernel
theorem dX8_round_57 : decode cX8_round 57 = .ok (.iload_n 2, 1) := by decide +kernel
theorem dX8_round_58 : decode cX8_round 58 = .ok (.invokevirtual 171, 3) := by decide +kernel
theorem dX8_round_61 : decode cX8_round 61 = .ok (.iload_n 3, 1) := by decide +kernel
theorem dX8_round_62 : decode cX8_round 62 = .ok (.bipush (-2), 2) := by decide +kernel
theorem dX8_round_64 : decode cX8_round 64 = .ok (.if_icmp .ne 13, 3) := by decide +kernel
theorem dX8_round_67 : decode cX8_round 67 = .ok (.aload_n 0, 1) := by decide +kernel
theorem dX8_round_68 : decode cX8_round 68 = .ok (.getfield 37, 3) := by decide +kernel
theorem dX8_round_71 : decode cX8_round 71 = .ok (.getfield 175, 3) := by decide +kernel
theorem dX8_round_74 : decode cX8_round 74 = .ok (.goto 12, 3) := by decide +kernel
theorem dX8_round_77 : decode cX8_round 77 = .ok (.aload_n 0, 1) := by decide +kernel
theorem dX8_round_78 : decode cX8_round 78 = .ok (.getfield 37, 3) := by decide +kernel
theorem dX8_round_81 : decode cX8_round 81 = .ok (.getfield 178, 3) := by decide +kernel
theorem dX8_round_84 : decode cX8_round 84 = .ok (.iload_n 3, 1) := by decide +kernel
theorem dX8_round_85 : decode cX8_round 85 = .ok (.iaload, 1) := by decide +kernel
theorem dX8_round_86 : decode cX8_round 86 = .ok (.ireturn, 1) := by decide +kernel
theorem dX8_sells_0 : decode cX8_sells 0 = .ok (.aload_n 0, 1) := by decide +kernel
theorem dX8_sells_1 : decode cX8_sells 1 = .ok (.getfield 10, 3) := by decide +kernel
theorem dX8_sells_4 : decode cX8_sells 4 = .ok (.iload_n 1, 1) := by decide +kernel
theorem dX8_sells_5 : decode cX8_sells 5 = .ok (.invokevirtual 112, 3) := by decide +kernel
theorem dX8_sells_8 : decode cX8_sells 8 = .ok (.ifCond .ne 10, 3) := by decide +kernel
theorem dX8_sells_11 : decode cX8_sells 11 = .ok (.aload_n 0, 1) := by decide +kernel
theorem dX8_sells_12 : decode cX8_sells 12 = .ok (.bipush (-2), 2) := by decide +kernel
theorem dX8_sells_14 : decode cX8_sells 14 = .ok (.invokevirtual 59, 3) := by decide +kernel
theorem dX8_sells_17 : decode cX8_sells 17 = .ok (.ireturn, 1) := by decide +kernel
theorem dX8_sells_18 : decode cX8_sells 18 = .ok (.aload_n 0, 1) := by decide +kernel
theorem dX8_sells_19 : decode cX8_sells 19 = .ok (.getfield 10, 3) := by decide +kernel
theorem dX8_sells_22 : decode cX8_sells 22 = .ok (.getfield 125, 3) := by decide +kernel
theorem dX8_sells_25 : decode cX8_sells 25 = .ok (.iload_n 1, 1) := by decide +kernel
theorem dX8_sells_26 : decode cX8_sells 26 = .ok (.iaload, 1) := by decide +kernel
theorem dX8_sells_27 : decode cX8_sells 27 = .ok (.ifCond .ne 10, 3) := by decide +kernel
theorem dX8_sells_30 : decode cX8_sells 30 = .ok (.aload_n 0, 1) := by decide +kernel
theorem dX8_sells_31 : decode cX8_sells 31 = .ok (.bipush (-3), 2) := by decide +kernel
theorem dX8_sells_33 : decode cX8_sells 33 = .ok (.invokevirtual 59, 3) := by decide +kernel
theorem dX8_sells_36 : decode cX8_sells 36 = .ok (.ireturn, 1) := by decide +kernel
theorem dX8_sells_37 : decode cX8_sells 37 = .ok (.aload_n 0, 1) := by decide +kernel
theorem dX8_sells_38 : decode cX8_sells 38 = .ok (.getfield 10, 3) := by decide +kernel
theorem dX8_sells_41 : decode cX8_sells 41 = .ok (.getfield 71, 3) := by decide +kernel
theorem dX8_sells_44 : decode cX8_sells 44 = .ok (.aload_n 0, 1) := by decide +kernel
theorem dX8_sells_45 : decode cX8_sells 45 = .ok (.getfield 10, 3) := by decide +kernel
theorem dX8_sells_48 : decode cX8_sells 48 = .ok (.invokevirtual 118, 3) := by decide +kernel
theorem dX8_sells_51 : decode cX8_sells 51 = .ok (.aload_n 0, 1) := by decide +kernel
theorem dX8_sells_52 : decode cX8_sells 52 = .ok (.getfield 10, 3) := by decide +kernel
theorem dX8_sells_55 : decode cX8_sells 55 = .ok (.iload_n 1, 1) := by decide +kernel
theorem dX8_sells_56 : decode cX8_sells 56 = .ok (.invokevirtual 132, 3) := by decide +kernel
theorem dX8_sells_59 : decode cX8_sells 59 = .ok (.ireturn, 1) := by decide +kernel
theorem dX8_setFraction_0 : decode cX8_setFraction 0 = .ok (.lload_n 1, 1) := by decide +kernel
theorem dX8_setFraction_1 : decode cX8_setFraction 1 = .ok (.lload_n 3, 1) := by decide +kernel
theorem dX8_setFraction_2 : decode cX8_setFraction 2 = .ok (.invokestatic 306, 3) := by decide +kernel
theorem dX8_setFraction_5 : decode cX8_setFraction 5 = .ok (.lstore 5, 2) := by decide +kernel
theorem dX8_setFraction_7 : decode cX8_setFraction 7 = .ok (.lload 5, 2) := by decide +kernel
theorem dX8_setFraction_9 : decode cX8_setFraction 9 = .ok (.lconst 0, 1) := by decide +kernel
theorem dX8_setFraction_10 : decode cX8_setFraction 10 = .ok (.lcmp, 1) := by decide +kernel
theorem dX8_setFraction_11 : decode cX8_setFraction 11 = .ok (.ifCond .le 19, 3) := by decide +kernel
theorem dX8_setFraction_14 : decode cX8_setFraction 14 = .ok (.aload_n 0, 1) := by decide +kernel
theorem dX8_setFraction_15 : decode cX8_setFraction 15 = .ok (.lload_n 1, 1) := by decide +kernel
theorem dX8_setFraction_16 : decode cX8_setFraction 16 = .ok (.lload 5, 2) := by decide +kernel
theorem dX8_setFraction_18 : decode cX8_setFraction 18 = .ok (.ldiv, 1) := by decide +kernel
theorem dX8_setFraction_19 : decode cX8_setFraction 19 = .ok (.putfield 48, 3) := by decide +kernel
theorem dX8_setFraction_22 : decode cX8_setFraction 22 = .ok (.aload_n 0, 1) := by decide +kernel
theorem dX8_setFraction_23 : decode cX8_setFraction 23 = .ok (.lload_n 3, 1) := by decide +kernel
theorem dX8_setFraction_24 : decode cX8_setFraction 24 = .ok (.lload 5, 2) := by decide +kernel
theorem dX8_setFraction_26 : decode cX8_setFraction 26 = .ok (.ldiv, 1) := by decide +kernel
theorem dX8_setFraction_27 : decode cX8_setFraction 27 = .ok (.putfield 52, 3) := by decide +kernel
theorem dX8_setFraction_30 : decode cX8_setFraction 30 = .ok (.return_, 1) := by decide +kernel
theorem dX8_share_0 : decode cX8_share 0 = .ok (.aload_n 0, 1) := by decide +kernel
theorem dX8_share_1 : decode cX8_share 1 = .ok (.getfield 10, 3) := by decide +kernel
theorem dX8_share_4 : decode cX8_share 4 = .ok (.iload_n 1, 1) := by decide +kernel
theorem dX8_share_5 : decode cX8_share 5 = .ok (.iconst 0, 1) := by decide +kernel
theorem dX8_share_6 : decode cX8_share 6 = .ok (.invokevirtual 154, 3) := by decide +kernel
theorem dX8_share_9 : decode cX8_share 9 = .ok (.istore_n 3, 1) := by decide +kernel
theorem dX8_share_10 : decode cX8_share 10 = .ok (.iload_n 1, 1) := by decide +kernel
theorem dX8_share_11 : decode cX8_share 11 = .ok (.iload_n 2, 1) := by decide +kernel
theorem dX8_share_12 : decode cX8_share 12 = .ok (.if_icmp .ne 9, 3) := by decide +kernel
theorem dX8_share_15 : decode cX8_share 15 = .ok (.iload_n 3, 1) := by decide +kernel
theorem dX8_share_16 : decode cX8_share 16 = .ok (.iconst 2, 1) := by decide +kernel
theorem dX8_share_17 : decode cX8_share 17 = .ok (.idiv, 1) := by decide +kernel
theorem dX8_share_18 : decode cX8_share 18 = .ok (.iconst 1, 1) := by decide +kernel
theorem dX8_share_19 : decode cX8_share 19 = .ok (.isub, 1) := by decide +kernel
theorem dX8_share_20 : decode cX8_share 20 = .ok (.ireturn, 1) := by decide +kernel
theorem dX8_share_21 : decode cX8_share 21 = .ok (.aload_n 0, 1) := by decide +kernel
theorem dX8_share_22 : decode cX8_share 22 = .ok (.getfield 10, 3) := by decide +kernel
theorem dX8_share_25 : decode cX8_share 25 = .ok (.getfield 151, 3) := by decide +kernel
theorem dX8_share_28 : decode cX8_share 28 = .ok (.iload_n 1, 1) := by decide +kernel
theorem dX8_share_29 : decode cX8_share 29 = .ok (.iaload, 1) := by decide +kernel
theorem dX8_share_30 : decode cX8_share 30 = .ok (.aload_n 0, 1) := by decide +kernel
theorem dX8_share_31 : decode cX8_share 31 = .ok (.getfield 10, 3) := by decide +kernel
theorem dX8_share_34 : decode cX8_share 34 = .ok (.getfield 151, 3) := by decide +kernel
theorem dX8_share_37 : decode cX8_share 37 = .ok (.iload_n 2, 1) := by decide +kernel
theorem dX8_share_38 : decode cX8_share 38 = .ok (.iaload, 1) := by decide +kernel
theorem dX8_share_39 : decode cX8_share 39 = .ok (.if_icmp .ne 7, 3) := by decide +kernel
theorem dX8_share_42 : decode cX8_share 42 = .ok (.iload_n 3, 1) := by decide +kernel
theorem dX8_share_43 : decode cX8_share 43 = .ok (.goto 6, 3) := by decide +kernel
theorem dX8_share_46 : decode cX8_share 46 = .ok (.iload_n 3, 1) := by decide +kernel
theorem dX8_share_47 : decode cX8_share 47 = .ok (.iconst 2, 1) := by decide +kernel
theorem dX8_share_48 : decode cX8_share 48 = .ok (.iadd, 1) := by decide +kernel
theorem dX8_share_49 : decode cX8_share 49 = .ok (.ireturn, 1) := by decide +kernel
theorem dX8_spilt_0 : decode cX8_spilt 0 = .ok (.aload_n 0, 1) := by decide +kernel
theorem dX8_spilt_1 : decode cX8_spilt 1 = .ok (.getfield 10, 3) := by decide +kernel
theorem dX8_spilt_4 : decode cX8_spilt 4 = .ok (.iload_n 1, 1) := by decide +kernel
theorem dX8_spilt_5 : decode cX8_spilt 5 = .ok (.invokevirtual 112, 3) := by decide +kernel
theorem dX8_spilt_8 : decode cX8_spilt 8 = .ok (.ifCond .eq 33, 3) := by decide +kernel
theorem dX8_spilt_11 : decode cX8_spilt 11 = .ok (.iload_n 2, 1) := by decide +kernel
theorem dX8_spilt_12 : decode cX8_spilt 12 = .ok (.iconst 0, 1) := by decide +kernel
theorem dX8_spilt_13 : decode cX8_spilt 13 = .ok (.iconst 4, 1) := by decide +kernel
theorem dX8_spilt_14 : decode cX8_spilt 14 = .ok (.invokestatic 55, 3) := by decide +kernel
theorem dX8_spilt_17 : decode cX8_spilt 17 = .ok (.ifCond .eq 24, 3) := by decide +kernel
theorem dX8_spilt_20 : decode cX8_spilt 20 = .ok (.iload_n 3, 1) := by decide +kernel
theorem dX8_spilt_21 : decode cX8_spilt 21 = .ok (.iconst 0, 1) := by decide +kernel
theorem dX8_spilt_22 : decode cX8_spilt 22 = .ok (.bipush 60, 2) := by decide +kernel
theorem dX8_spilt_24 : decode cX8_spilt 24 = .ok (.invokestatic 55, 3) := by decide +kernel
theorem dX8_spilt_27 : decode cX8_spilt 27 = .ok (.ifCond .eq 14, 3) := by decide +kernel
theorem dX8_spilt_30 : decode cX8_spilt 30 = .ok (.iload 4, 2) := by decide +kernel
theorem dX8_spilt_32 : decode cX8_spilt 32 = .ok (.iconst 0, 1) := by decide +kernel
theorem dX8_spilt_33 : decode cX8_spilt 33 = .ok (.bipush 10, 2) := by decide +kernel
theorem dX8_spilt_35 : decode cX8_spilt 35 = .ok (.invokestatic 55, 3) := by decide +kernel
theorem dX8_spilt_38 : decode cX8_spilt 38 = .ok (.ifCond .ne 10, 3) := by decide +kernel
theorem dX8_spilt_41 : decode cX8_spilt 41 = .ok (.aload_n 0, 1) := by decide +kernel
theorem dX8_spilt_42 : decode cX8_spilt 42 = .ok (.bipush (-2), 2) := by decide +kernel
theorem dX8_spilt_44 : decode cX8_spilt 44 = .ok (.invokevirtual 59, 3) := by decide +kernel
theorem dX8_spilt_47 : decode cX8_spilt 47 = .ok (.ireturn, 1) := by decide +kernel
theorem dX8_spilt_48 : decode cX8_spilt 48 = .ok (.aload_n 0, 1) := by decide +kernel
theorem dX8_spilt_49 : decode cX8_spilt 49 = .ok (.getfield 37, 3) := by decide +kernel
theorem dX8_spilt_52 : decode cX8_spilt 52 = .ok (.aload_n 0, 1) := by decide +kernel
theorem dX8_spilt_53 : decode cX8_spilt 53 = .ok (.getfield 10, 3) := by decide +kernel
theorem dX8_spilt_56 : decode cX8_spilt 56 = .ok (.iload_n 1, 1) := by decide +kernel
theorem dX8_spilt_57 : decode cX8_spilt 57 = .ok (.iload_n 2, 1) := by decide +kernel
theorem dX8_spilt_58 : decode cX8_spilt 58 = .ok (.invokevirtual 171, 3) := by decide +kernel
theorem dX8_spilt_61 : decode cX8_spilt 61 = .ok (.aload_n 0, 1) := by decide +kernel
theorem dX8_spilt_62 : decode cX8_spilt 62 = .ok (.aload_n 0, 1) := by decide +kernel
theorem dX8_spilt_63 : decode cX8_spilt 63 = .ok (.getfield 37, 3) := by decide +kernel
theorem dX8_spilt_66 : decode cX8_spilt 66 = .ok (.aload_n 0, 1) := by decide +kernel
theorem dX8_spilt_67 : decode cX8_spilt 67 = .ok (.getfield 10, 3) := by decide +kernel
theorem dX8_spilt_70 : decode cX8_spilt 70 = .ok (.iload_n 1, 1) := by decide +kernel
theorem dX8_spilt_71 : decode cX8_spilt 71 = .ok (.iload_n 3, 1) := by decide +kernel
theorem dX8_spilt_72 : decode cX8_spilt 72 = .ok (.iload 4, 2) := by decide +kernel
theorem dX8_spilt_74 : decode cX8_spilt 74 = .ok (.invokevirtual 217, 3) := by decide +kernel
theorem dX8_spilt_77 : decode cX8_spilt 77 = .ok (.aload_n 0, 1) := by decide +kernel
theorem dX8_spilt_78 : decode cX8_spilt 78 = .ok (.getfield 37, 3) := by decide +kernel
theorem dX8_spilt_81 : decode cX8_spilt 81 = .ok (.invokevirtual 221, 3) := by decide +kernel
theorem dX8_spilt_84 : decode cX8_spilt 84 = .ok (.invokevirtual 225, 3) := by decide +kernel
theorem dX8_spilt_87 : decode cX8_spilt 87 = .ok (.iconst 1, 1) := by decide +kernel
theorem dX8_spilt_88 : decode cX8_spilt 88 = .ok (.ireturn, 1) := by decide +kernel
theorem dX8_status_0 : decode cX8_status 0 = .ok (.iload_n 1, 1) := by decide +kernel
theorem dX8_status_1 : decode cX8_status 1 = .ok (.tableswitch 42 0 2 #[27, 32, 37], 27) := by decide +kernel
theorem dX8_status_28 : decode cX8_status 28 = .ok (.aload_n 0, 1) := by decide +kernel
theorem dX8_status_29 : decode cX8_status 29 = .ok (.getfield 254, 3) := by decide +kernel
theorem dX8_status_32 : decode cX8_status 32 = .ok (.ireturn, 1) := by decide +kernel
theorem dX8_status_33 : decode cX8_status 33 = .ok (.aload_n 0, 1) := by decide +kernel
theorem dX8_status_34 : decode cX8_status 34 = .ok (.getfield 257, 3) := by decide +kernel
theorem dX8_status_37 : decode cX8_status 37 = .ok (.ireturn, 1) := by decide +kernel
theorem dX8_status_38 : decode cX8_status 38 = .ok (.aload_n 0, 1) := by decide +kernel
theorem dX8_status_39 : decode cX8_status 39 = .ok (.getfield 260, 3) := by decide +kernel
theorem dX8_status_42 : decode cX8_status 42 = .ok (.ireturn, 1) := by decide +kernel
theorem dX8_status_43 : decode cX8_status 43 = .ok (.aload_n 0, 1) := by decide +kernel
theorem dX8_status_44 : decode cX8_status 44 = .ok (.bipush (-2), 2) := by decide +kernel
theorem dX8_status_46 : decode cX8_status 46 = .ok (.invokevirtual 59, 3) := by decide +kernel
theorem dX8_status_49 : decode cX8_status 49 = .ok (.pop, 1) := by decide +kernel
theorem dX8_status_50 : decode cX8_status 50 = .ok (.iconst (-1), 1) := by decide +kernel
theorem dX8_status_51 : decode cX8_status 51 = .ok (.ireturn, 1) := by decide +kernel
theorem dX8_two_0 : decode cX8_two 0 = .ok (.iload_n 1, 1) := by decide +kernel
theorem dX8_two_1 : decode cX8_two 1 = .ok (.iconst (-1), 1) := by decide +kernel
theorem dX8_two_2 : decode cX8_two 2 = .ok (.if_icmp .ge 13, 3) := by decide +kernel
theorem dX8_two_5 : decode cX8_two 5 = .ok (.aload_n 0, 1) := by decide +kernel
theorem dX8_two_6 : decode cX8_two 6 = .ok (.bipush (-2), 2) := by decide +kernel
theorem dX8_two_8 : decode cX8_two 8 = .ok (.invokevirtual 59, 3) := by decide +kernel
theorem dX8_two_11 : decode cX8_two 11 = .ok (.pop, 1) := by decide +kernel
theorem dX8_two_12 : decode cX8_two 12 = .ok (.bipush (-10), 2) := by decide +kernel
theorem dX8_two_14 : decode cX8_two 14 = .ok (.ireturn, 1) := by decide +kernel
theorem dX8_two_15 : decode cX8_two 15 = .ok (.iconst 0, 1) := by decide +kernel
theorem dX8_two_16 : decode cX8_two 16 = .ok (.istore_n 2, 1) := by decide +kernel
theorem dX8_two_17 : decode cX8_two 17 = .ok (.iconst 0, 1) := by decide +kernel
theorem dX8_two_18 : decode cX8_two 18 = .ok (.istore_n 3, 1) := by decide +kernel
theorem dX8_two_19 : decode cX8_two 19 = .ok (.iload_n 3, 1) := by decide +kernel
theorem dX8_two_20 : decode cX8_two 20 = .ok (.aload_n 0, 1) := by decide +kernel
theorem dX8_two_21 : decode cX8_two 21 = .ok (.getfield 10, 3) := by decide +kernel
theorem dX8_two_24 : decode cX8_two 24 = .ok (.getfield 63, 3) := by decide +kernel
theorem dX8_two_27 : decode cX8_two 27 = .ok (.if_icmp .ge 56, 3) := by decide +kernel
theorem dX8_two_30 : decode cX8_two 30 = .ok (.iconst 0, 1) := by decide +kernel
theorem dX8_two_31 : decode cX8_two 31 = .ok (.istore 4, 2) := by decide +kernel
theorem dX8_two_33 : decode cX8_two 33 = .ok (.iload 4, 2) := by decide +kernel
theorem dX8_two_35 : decode cX8_two 35 = .ok (.aload_n 0, 1) := by decide +kernel
theorem dX8_two_36 : decode cX8_two 36 = .ok (.getfield 10, 3) := by decide +kernel
theorem dX8_two_39 : decode cX8_two 39 = .ok (.getfield 63, 3) := by decide +kernel
theorem dX8_two_42 : decode cX8_two 42 = .ok (.if_icmp .ge 35, 3) := by decide +kernel
theorem dX8_two_45 : decode cX8_two 45 = .ok (.aload_n 0, 1) := by decide +kernel
theorem dX8_two_46 : decode cX8_two 46 = .ok (.iload_n 3, 1) := by decide +kernel
theorem dX8_two_47 : decode cX8_two 47 = .ok (.iload 4, 2) := by decide +kernel
theorem dX8_two_49 : decode cX8_two 49 = .ok (.invokevirtual 213, 3) := by decide +kernel
theorem dX8_two_52 : decode cX8_two 52 = .ok (.ifCond .eq 19, 3) := by decide +kernel
theorem dX8_two_55 : decode cX8_two 55 = .ok (.iload_n 2, 1) := by decide +kernel
theorem dX8_two_56 : decode cX8_two 56 = .ok (.iload_n 1, 1) := by decide +kernel
theorem dX8_two_57 : decode cX8_two 57 = .ok (.if_icmp .ne 11, 3) := by decide +kernel
theorem dX8_two_60 : decode cX8_two 60 = .ok (.bipush 10, 2) := by decide +kernel
theorem dX8_two_62 : decode cX8_two 62 = .ok (.iload_n 3, 1) := by decide +kernel
theorem dX8_two_63 : decode cX8_two 63 = .ok (.imul, 1) := by decide +kernel
theorem dX8_two_64 : decode cX8_two 64 = .ok (.iload 4, 2) := by decide +kernel
theorem dX8_two_66 : decode cX8_two 66 = .ok (.iadd, 1) := by decide +kernel
theorem dX8_two_67 : decode cX8_two 67 = .ok (.ireturn, 1) := by decide +kernel
theorem dX8_two_68 : decode cX8_two 68 = .ok (.iinc 2 1, 3) := by decide +kernel
theorem dX8_two_71 : decode cX8_two 71 = .ok (.iinc 4 1, 3) := by decide +kernel
theorem dX8_two_74 : decode cX8_two 74 = .ok (.goto (-41), 3) := by decide +kernel
theorem dX8_two_77 : decode cX8_two 77 = .ok (.iinc 3 1, 3) := by decide +kernel
theorem dX8_two_80 : decode cX8_two 80 = .ok (.goto (-61), 3) := by decide +kernel
theorem dX8_two_83 : decode cX8_two 83 = .ok (.iload_n 1, 1) := by decide +kernel
theorem dX8_two_84 : decode cX8_two 84 = .ok (.iconst (-1), 1) := by decide +kernel
theorem dX8_two_85 : decode cX8_two 85 = .ok (.if_icmp .ne 7, 3) := by decide +kernel
theorem dX8_two_88 : decode cX8_two 88 = .ok (.iload_n 2, 1) := by decide +kernel
theorem dX8_two_89 : decode cX8_two 89 = .ok (.goto 5, 3) := by decide +kernel
theorem dX8_two_92 : decode cX8_two 92 = .ok (.bipush (-5), 2) := by decide +kernel
theorem dX8_two_94 : decode cX8_two 94 = .ok (.ireturn, 1) := by decide +kernel
theorem dX8_undo_0 : decode cX8_undo 0 = .ok (.aload_n 0, 1) := by decide +kernel
theorem dX8_undo_1 : decode cX8_undo 1 = .ok (.getfield 10, 3) := by decide +kernel
theorem dX8_undo_4 : decode cX8_undo 4 = .ok (.getfield 71, 3) := by decide +kernel
theorem dX8_undo_7 : decode cX8_undo 7 = .ok (.aload_n 0, 1) := by decide +kernel
theorem dX8_undo_8 : decode cX8_undo 8 = .ok (.getfield 10, 3) := by decide +kernel
theorem dX8_undo_11 : decode cX8_undo 11 = .ok (.invokevirtual 141, 3) := by decide +kernel
theorem dX8_undo_14 : decode cX8_undo 14 = .ok (.ifCond .ne 10, 3) := by decide +kernel
theorem dX8_undo_17 : decode cX8_undo 17 = .ok (.aload_n 0, 1) := by decide +kernel
theorem dX8_undo_18 : decode cX8_undo 18 = .ok (.bipush (-3), 2) := by decide +kernel
theorem dX8_undo_20 : decode cX8_undo 20 = .ok (.invokevirtual 59, 3) := by decide +kernel
theorem dX8_undo_23 : decode cX8_undo 23 = .ok (.ireturn, 1) := by decide +kernel
theorem dX8_undo_24 : decode cX8_undo 24 = .ok (.aload_n 0, 1) := by decide +kernel
theorem dX8_undo_25 : decode cX8_undo 25 = .ok (.getfield 10, 3) := by decide +kernel
theorem dX8_undo_28 : decode cX8_undo 28 = .ok (.getfield 135, 3) := by decide +kernel
theorem dX8_undo_31 : decode cX8_undo 31 = .ok (.ireturn, 1) := by decide +kernel
theorem dX8_when_0 : decode cX8_when 0 = .ok (.aload_n 0, 1) := by decide +kernel
theorem dX8_when_1 : decode cX8_when 1 = .ok (.getfield 10, 3) := by decide +kernel
theorem dX8_when_4 : decode cX8_when 4 = .ok (.iload_n 1, 1) := by decide +kernel
theorem dX8_when_5 : decode cX8_when 5 = .ok (.invokevirtual 108, 3) := by decide +kernel
theorem dX8_when_8 : decode cX8_when 8 = .ok (.ifCond .ne 10, 3) := by decide +kernel
theorem dX8_when_11 : decode cX8_when 11 = .ok (.aload_n 0, 1) := by decide +kernel
theorem dX8_when_12 : decode cX8_when 12 = .ok (.bipush (-2), 2) := by decide +kernel
theorem dX8_when_14 : decode cX8_when 14 = .ok (.invokevirtual 59, 3) := by decide +kernel
theorem dX8_when_17 : decode cX8_when 17 = .ok (.ireturn, 1) := by decide +kernel
theorem dX8_when_18 : decode cX8_when 18 = .ok (.iconst 0, 1) := by decide +kernel
theorem dX8_when_19 : decode cX8_when 19 = .ok (.istore_n 2, 1) := by decide +kernel
theorem dX8_when_20 : decode cX8_when 20 = .ok (.iconst 1, 1) := by decide +kernel
theorem dX8_when_21 : decode cX8_when 21 = .ok (.istore_n 3, 1) := by decide +kernel
theorem dX8_when_22 : decode cX8_when 22 = .ok (.iload_n 3, 1) := by decide +kernel
theorem dX8_when_23 : decode cX8_when 23 = .ok (.bipush 24, 2) := by decide +kernel
theorem dX8_when_25 : decode cX8_when 25 = .ok (.if_icmp .ge 32, 3) := by decide +kernel
theorem dX8_when_28 : decode cX8_when 28 = .ok (.aload_n 0, 1) := by decide +kernel
theorem dX8_when_29 : decode cX8_when 29 = .ok (.getfield 10, 3) := by decide +kernel
theorem dX8_when_32 : decode cX8_when 32 = .ok (.iload_n 1, 1) := by decide +kernel
theorem dX8_when_33 : decode cX8_when 33 = .ok (.iload_n 3, 1) := by decide +kernel
theorem dX8_when_34 : decode cX8_when 34 = .ok (.invokevirtual 154, 3) := by decide +kernel
theorem dX8_when_37 : decode cX8_when 37 = .ok (.aload_n 0, 1) := by decide +kernel
theorem dX8_when_38 : decode cX8_when 38 = .ok (.getfield 10, 3) := by decide +kernel
theorem dX8_when_41 : decode cX8_when 41 = .ok (.iload_n 1, 1) := by decide +kernel
theorem dX8_when_42 : decode cX8_when 42 = .ok (.iload_n 2, 1) := by decide +kernel
theorem dX8_when_43 : decode cX8_when 43 = .ok (.invokevirtual 154, 3) := by decide +kernel
theorem dX8_when_46 : decode cX8_when 46 = .ok (.if_icmp .le 5, 3) := by decide +kernel
theorem dX8_when_49 : decode cX8_when 49 = .ok (.iload_n 3, 1) := by decide +kernel
theorem dX8_when_50 : decode cX8_when 50 = .ok (.istore_n 2, 1) := by decide +kernel
theorem dX8_when_51 : decode cX8_when 51 = .ok (.iinc 3 1, 3) := by decide +kernel
theorem dX8_when_54 : decode cX8_when 54 = .ok (.goto (-32), 3) := by decide +kernel
theorem dX8_when_57 : decode cX8_when 57 = .ok (.iload_n 2, 1) := by decide +kernel
theorem dX8_when_58 : decode cX8_when 58 = .ok (.ireturn, 1) := by decide +kernel
theorem dX8_within_0 : decode cX8_within 0 = .ok (.iload_n 0, 1) := by decide +kernel
theorem dX8_within_1 : decode cX8_within 1 = .ok (.iload_n 1, 1) := by decide +kernel
theorem dX8_within_2 : decode cX8_within 2 = .ok (.if_icmp .lt 12, 3) := by decide +kernel
theorem dX8_within_5 : decode cX8_within 5 = .ok (.iload_n 0, 1) := by decide +kernel
theorem dX8_within_6 : decode cX8_within 6 = .ok (.iload_n 2, 1) := by decide +kernel
theorem dX8_within_7 : decode cX8_within 7 = .ok (.if_icmp .gt 7, 3) := by decide +kernel
theorem dX8_within_10 : decode cX8_within 10 = .ok (.iconst 1, 1) := by decide +kernel
theorem dX8_within_11 : decode cX8_within 11 = .ok (.goto 4, 3) := by decide +kernel
theorem dX8_within_14 : decode cX8_within 14 = .ok (.iconst 0, 1) := by decide +kernel
theorem dX8_within_15 : decode cX8_within 15 = .ok (.ireturn, 1) := by decide +kernel
