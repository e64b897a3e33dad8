theorem dJ6_bitCount_0f7a4_0 : decode cJ6_bitCount_0f7a4 0 = .ok (.iload_n 0, 1) := by decide +kernel
theorem dJ6_bitCount_0f7a4_1 : decode cJ6_bitCount_0f7a4 1 = .ok (.iload_n 0, 1) := by decide +kernel
theorem dJ6_bitCount_0f7a4_2 : decode cJ6_bitCount_0f7a4 2 = .ok (.iconst 1, 1) := by decide +kernel
theorem dJ6_bitCount_0f7a4_3 : decode cJ6_bitCount_0f7a4 3 = .ok (.iushr, 1) := by decide +kernel
theorem dJ6_bitCount_0f7a4_4 : decode cJ6_bitCount_0f7a4 4 = .ok (.ldc_w 265, 3) := by decide +kernel
theorem dJ6_bitCount_0f7a4_7 : decode cJ6_bitCount_0f7a4 7 = .ok (.iand, 1) := by decide +kernel
theorem dJ6_bitCount_0f7a4_8 : decode cJ6_bitCount_0f7a4 8 = .ok (.isub, 1) := by decide +kernel
theorem dJ6_bitCount_0f7a4_9 : decode cJ6_bitCount_0f7a4 9 = .ok (.istore_n 0, 1) := by decide +kernel
theorem dJ6_bitCount_0f7a4_10 : decode cJ6_bitCount_0f7a4 10 = .ok (.iload_n 0, 1) := by decide +kernel
theorem dJ6_bitCount_0f7a4_11 : decode cJ6_bitCount_0f7a4 11 = .ok (.ldc_w 266, 3) := by decide +kernel
theorem dJ6_bitCount_0f7a4_14 : decode cJ6_bitCount_0f7a4 14 = .ok (.iand, 1) := by decide +kernel
theorem dJ6_bitCount_0f7a4_15 : decode cJ6_bitCount_0f7a4 15 = .ok (.iload_n 0, 1) := by decide +kernel
theorem dJ6_bitCount_0f7a4_16 : decode cJ6_bitCount_0f7a4 16 = .ok (.iconst 2, 1) := by decide +kernel
theorem dJ6_bitCount_0f7a4_17 : decode cJ6_bitCount_0f7a4 17 = .ok (.iushr, 1) := by decide +kernel
theorem dJ6_bitCount_0f7a4_18 : decode cJ6_bitCount_0f7a4 18 = .ok (.ldc_w 266, 3) := by decide +kernel
theorem dJ6_bitCount_0f7a4_21 : decode cJ6_bitCount_0f7a4 21 = .ok (.iand, 1) := by decide +kernel
theorem dJ6_bitCount_0f7a4_22 : decode cJ6_bitCount_0f7a4 22 = .ok (.iadd, 1) := by decide +kernel
theorem dJ6_bitCount_0f7a4_23 : decode cJ6_bitCount_0f7a4 23 = .ok (.istore_n 0, 1) := by decide +kernel
theorem dJ6_bitCount_0f7a4_24 : decode cJ6_bitCount_0f7a4 24 = .ok (.iload_n 0, 1) := by decide +kernel
theorem dJ6_bitCount_0f7a4_25 : decode cJ6_bitCount_0f7a4 25 = .ok (.iload_n 0, 1) := by decide +kernel
theorem dJ6_bitCount_0f7a4_26 : decode cJ6_bitCount_0f7a4 26 = .ok (.iconst 4, 1) := by decide +kernel
theorem dJ6_bitCount_0f7a4_27 : decode cJ6_bitCount_0f7a4 27 = .ok (.iushr, 1) := by decide +kernel
theorem dJ6_bitCount_0f7a4_28 : decode cJ6_bitCount_0f7a4 28 = .ok (.iadd, 1) := by decide +kernel
theorem dJ6_bitCount_0f7a4_29 : decode cJ6_bitCount_0f7a4 29 = .ok (.ldc_w 267, 3) := by decide +kernel
theorem dJ6_bitCount_0f7a4_32 : decode cJ6_bitCount_0f7a4 32 = .ok (.iand, 1) := by decide +kernel
theorem dJ6_bitCount_0f7a4_33 : decode cJ6_bitCount_0f7a4 33 = .ok (.istore_n 0, 1) := by decide +kernel
theorem dJ6_bitCount_0f7a4_34 : decode cJ6_bitCount_0f7a4 34 = .ok (.iload_n 0, 1) := by decide +kernel
theorem dJ6_bitCount_0f7a4_35 : decode cJ6_bitCount_0f7a4 35 = .ok (.iload_n 0, 1) := by decide +kernel
theorem dJ6_bitCount_0f7a4_36 : decode cJ6_bitCount_0f7a4 36 = .ok (.bipush 8, 2) := by decide +kernel
theorem dJ6_bitCount_0f7a4_38 : decode cJ6_bitCount_0f7a4 38 = .ok (.iushr, 1) := by decide +kernel
theorem dJ6_bitCount_0f7a4_39 : decode cJ6_bitCount_0f7a4 39 = .ok (.iadd, 1) := by decide +kernel
theorem dJ6_bitCount_0f7a4_40 : decode cJ6_bitCount_0f7a4 40 = .ok (.istore_n 0, 1) := by decide +kernel
theorem dJ6_bitCount_0f7a4_41 : decode cJ6_bitCount_0f7a4 41 = .ok (.iload_n 0, 1) := by decide +kernel
theorem dJ6_bitCount_0f7a4_42 : decode cJ6_bitCount_0f7a4 42 = .ok (.iload_n 0, 1) := by decide +kernel
theorem dJ6_bitCount_0f7a4_43 : decode cJ6_bitCount_0f7a4 43 = .ok (.bipush 16, 2) := by decide +kernel
theorem dJ6_bitCount_0f7a4_45 : decode cJ6_bitCount_0f7a4 45 = .ok (.iushr, 1) := by decide +kernel
theorem dJ6_bitCount_0f7a4_46 : decode cJ6_bitCount_0f7a4 46 = .ok (.iadd, 1) := by decide +kernel
theorem dJ6_bitCount_0f7a4_47 : decode cJ6_bitCount_0f7a4 47 = .ok (.istore_n 0, 1) := by decide +kernel
theorem dJ6_bitCount_0f7a4_48 : decode cJ6_bitCount_0f7a4 48 = .ok (.iload_n 0, 1) := by decide +kernel
theorem dJ6_bitCount_0f7a4_49 : decode cJ6_bitCount_0f7a4 49 = .ok (.bipush 63, 2) := by decide +kernel
theorem dJ6_bitCount_0f7a4_51 : decode cJ6_bitCount_0f7a4 51 = .ok (.iand, 1) := by decide +kernel
theorem dJ6_bitCount_0f7a4_52 : decode cJ6_bitCount_0f7a4 52 = .ok (.ireturn, 1) := by decide +kernel
theorem dX2_addCaster_0 : decode cX2_addCaster 0 = .ok (.aload_n 0, 1) := by decide +kernel
theorem dX2_addCaster_1 : decode cX2_addCaster 1 = .ok (.getfield 57, 3) := by decide +kernel
theorem dX2_addCaster_4 : decode cX2_addCaster 4 = .ok (.bipush 7, 2) := by decide +kernel
theorem dX2_addCaster_6 : decode cX2_addCaster 6 = .ok (.if_icmp .lt 6, 3) := by decide +kernel
theorem dX2_addCaster_12 : decode cX2_addCaster 12 = .ok (.aload_n 0, 1) := by decide +kernel
theorem dX2_addCaster_13 : decode cX2_addCaster 13 = .ok (.getfield 9, 3) := by decide +kernel
theorem dX2_addCaster_16 : decode cX2_addCaster 16 = .ok (.aload_n 0, 1) := by decide +kernel
theorem dX2_addCaster_17 : decode cX2_addCaster 17 = .ok (.getfield 57, 3) := by decide +kernel
theorem dX2_addCaster_20 : decode cX2_addCaster 20 = .ok (.iload_n 1, 1) := by decide +kernel
theorem dX2_addCaster_21 : decode cX2_addCaster 21 = .ok (.iastore, 1) := by decide +kernel
theorem dX2_addCaster_22 : decode cX2_addCaster 22 = .ok (.aload_n 0, 1) := by decide +kernel
theorem dX2_addCaster_23 : decode cX2_addCaster 23 = .ok (.getfield 15, 3) := by decide +kernel
theorem dX2_addCaster_26 : decode cX2_addCaster 26 = .ok (.aload_n 0, 1) := by decide +kernel
theorem dX2_addCaster_27 : decode cX2_addCaster 27 = .ok (.getfield 57, 3) := by decide +kernel
theorem dX2_addCaster_30 : decode cX2_addCaster 30 = .ok (.iload_n 2, 1) := by decide +kernel
theorem dX2_addCaster_31 : decode cX2_addCaster 31 = .ok (.iastore, 1) := by decide +kernel
theorem dX2_addCaster_32 : decode cX2_addCaster 32 = .ok (.aload_n 0, 1) := by decide +kernel
theorem dX2_addCaster_33 : decode cX2_addCaster 33 = .ok (.getfield 18, 3) := by decide +kernel
theorem dX2_addCaster_36 : decode cX2_addCaster 36 = .ok (.aload_n 0, 1) := by decide +kernel
theorem dX2_addCaster_37 : decode cX2_addCaster 37 = .ok (.getfield 57, 3) := by decide +kernel
theorem dX2_addCaster_40 : decode cX2_addCaster 40 = .ok (.iload_n 3, 1) := by decide +kernel
theorem dX2_addCaster_41 : decode cX2_addCaster 41 = .ok (.iastore, 1) := by decide +kernel
theorem dX2_addCaster_42 : decode cX2_addCaster 42 = .ok (.aload_n 0, 1) := by decide +kernel
theorem dX2_addCaster_43 : decode cX2_addCaster 43 = .ok (.dup, 1) := by decide +kernel
theorem dX2_addCaster_44 : decode cX2_addCaster 44 = .ok (.getfield 57, 3) := by decide +kernel
theorem dX2_addCaster_47 : decode cX2_addCaster 47 = .ok (.iconst 1, 1) := by decide +kernel
theorem dX2_addCaster_48 : decode cX2_addCaster 48 = .ok (.iadd, 1) := by decide +kernel
theorem dX2_addCaster_49 : decode cX2_addCaster 49 = .ok (.putfield 57, 3) := by decide +kernel
theorem dX2_addCaster_52 : decode cX2_addCaster 52 = .ok (.aload_n 0, 1) := by decide +kernel
theorem dX2_addCaster_53 : decode cX2_addCaster 53 = .ok (.getfield 57, 3) := by decide +kernel
theorem dX2_addCaster_56 : decode cX2_addCaster 56 = .ok (.iconst 1, 1) := by decide +kernel
theorem dX2_addCaster_57 : decode cX2_addCaster 57 = .ok (.isub, 1) := by decide +kernel
theorem dX2_addCaster_58 : decode cX2_addCaster 58 = .ok (.ireturn, 1) := by decide +kernel
theorem dX2_addJar_0 : decode cX2_addJar 0 = .ok (.aload_n 0, 1) := by decide +kernel
theorem dX2_addJar_1 : decode cX2_addJar 1 = .ok (.getfield 60, 3) := by decide +kernel
theorem dX2_addJar_4 : decode cX2_addJar 4 = .ok (.iconst 4, 1) := by decide +kernel
theorem dX2_addJar_5 : decode cX2_addJar 5 = .ok (.if_icmp .lt 6, 3) := by decide +kernel
theorem dX2_addJar_11 : decode cX2_addJar 11 = .ok (.aload_n 0, 1) := by decide +kernel
theorem dX2_addJar_12 : decode cX2_addJar 12 = .ok (.getfield 21, 3) := by decide +kernel
theorem dX2_addJar_15 : decode cX2_addJar 15 = .ok (.aload_n 0, 1) := by decide +kernel
theorem dX2_addJar_16 : decode cX2_addJar 16 = .ok (.getfield 60, 3) := by decide +kernel
theorem dX2_addJar_19 : decode cX2_addJar 19 = .ok (.iload_n 1, 1) := by decide +kernel
theorem dX2_addJar_20 : decode cX2_addJar 20 = .ok (.iastore, 1) := by decide +kernel
theorem dX2_addJar_21 : decode cX2_addJar 21 = .ok (.aload_n 0, 1) := by decide +kernel
theorem dX2_addJar_22 : decode cX2_addJar 22 = .ok (.getfield 24, 3) := by decide +kernel
theorem dX2_addJar_25 : decode cX2_addJar 25 = .ok (.aload_n 0, 1) := by decide +kernel
theorem dX2_addJar_26 : decode cX2_addJar 26 = .ok (.getfield 60, 3) := by decide +kernel
theorem dX2_addJar_29 : decode cX2_addJar 29 = .ok (.iconst 0, 1) := by decide +kernel
theorem dX2_addJar_30 : decode cX2_addJar 30 = .ok (.iastore, 1) := by decide +kernel
theorem dX2_addJar_31 : decode cX2_addJar 31 = .ok (.aload_n 0, 1) := by decide +kernel
theorem dX2_addJar_32 : decode cX2_addJar 32 = .ok (.getfield 27, 3) := by decide +kernel
theorem dX2_addJar_35 : decode cX2_addJar 35 = .ok (.aload_n 0, 1) := by decide +kernel
theorem dX2_addJar_36 : decode cX2_addJar 36 = .ok (.getfield 60, 3) := by decide +kernel
theorem dX2_addJar_39 : decode cX2_addJar 39 = .ok (.iconst (-1), 1) := by decide +kernel
theorem dX2_addJar_40 : decode cX2_addJar 40 = .ok (.iastore, 1) := by decide +kernel
theorem dX2_addJar_41 : decode cX2_addJar 41 = .ok (.aload_n 0, 1) := by decide +kernel
theorem dX2_addJar_42 : decode cX2_addJar 42 = .ok (.dup, 1) := by decide +kernel
theorem dX2_addJar_43 : decode cX2_addJar 43 = .ok (.getfield 60, 3) := by decide +kernel
theorem dX2_addJar_46 : decode cX2_addJar 46 = .ok (.iconst 1, 1) := by decide +kernel
theorem dX2_addJar_47 : decode cX2_addJar 47 = .ok (.iadd, 1) := by decide +kernel
theorem dX2_addJar_48 : decode cX2_addJar 48 = .ok (.putfield 60, 3) := by decide +kernel
theorem dX2_addJar_51 : decode cX2_addJar 51 = .ok (.aload_n 0, 1) := by decide +kernel
theorem dX2_addJar_52 : decode cX2_addJar 52 = .ok (.getfield 60, 3) := by decide +kernel
theorem dX2_addJar_55 : decode cX2_addJar 55 = .ok (.iconst 1, 1) := by decide +kernel
theorem dX2_addJar_56 : decode cX2_addJar 56 = .ok (.isub, 1) := by decide +kernel
theorem dX2_addJar_57 : decode cX2_addJar 57 = .ok (.ireturn, 1) := by decide +kernel
theorem dX2_become_0 : decode cX2_become 0 = .ok (.aload_n 0, 1) := by decide +kernel
theorem dX2_become_1 : decode cX2_become 1 = .ok (.aload_n 1, 1) := by decide +kernel
theorem dX2_become_2 : decode cX2_become 2 = .ok (.getfield 47, 3) := by decide +kernel
theorem dX2_become_5 : decode cX2_become 5 = .ok (.putfield 47, 3) := by decide +kernel
theorem dX2_become_8 : decode cX2_become 8 = .ok (.aload_n 0, 1) := by decide +kernel
theorem dX2_become_9 : decode cX2_become 9 = .ok (.aload_n 1, 1) := by decide +kernel
theorem dX2_become_10 : decode cX2_become 10 = .ok (.getfield 51, 3) := by decide +kernel
theorem dX2_become_13 : decode cX2_become 13 = .ok (.putfield 51, 3) := by decide +kernel
theorem dX2_become_16 : decode cX2_become 16 = .ok (.aload_n 0, 1) := by decide +kernel
theorem dX2_become_17 : decode cX2_become 17 = .ok (.aload_n 1, 1) := by decide +kernel
theorem dX2_become_18 : decode cX2_become 18 = .ok (.getfield 54, 3) := by decide +kernel
theorem dX2_become_21 : decode cX2_become 21 = .ok (.putfield 54, 3) := by decide +kernel
theorem dX2_become_24 : decode cX2_become 24 = .ok (.aload_n 0, 1) := by decide +kernel
theorem dX2_become_25 : decode cX2_become 25 = .ok (.aload_n 1, 1) := by decide +kernel
theorem dX2_become_26 : decode cX2_become 26 = .ok (.getfield 57, 3) := by decide +kernel
theorem dX2_become_29 : decode cX2_become 29 = .ok (.putfield 57, 3) := by decide +kernel
theorem dX2_become_32 : decode cX2_become 32 = .ok (.aload_n 0, 1) := by decide +kernel
theorem dX2_become_33 : decode cX2_become 33 = .ok (.aload_n 1, 1) := by decide +kernel
theorem dX2_become_34 : decode cX2_become 34 = .ok (.getfield 60, 3) := by decide +kernel
theorem dX2_become_37 : decode cX2_become 37 = .ok (.putfield 60, 3) := by decide +kernel
theorem dX2_become_40 : decode cX2_become 40 = .ok (.aload_n 1, 1) := by decide +kernel
theorem dX2_become_41 : decode cX2_become 41 = .ok (.getfield 9, 3) := by decide +kernel
theorem dX2_become_44 : decode cX2_become 44 = .ok (.iconst 0, 1) := by decide +kernel
theorem dX2_become_45 : decode cX2_become 45 = .ok (.aload_n 0, 1) := by decide +kernel
theorem dX2_become_46 : decode cX2_become 46 = .ok (.getfield 9, 3) := by decide +kernel
theorem dX2_become_49 : decode cX2_become 49 = .ok (.iconst 0, 1) := by decide +kernel
theorem dX2_become_50 : decode cX2_become 50 = .ok (.bipush 7, 2) := by decide +kernel
theorem dX2_become_52 : decode cX2_become 52 = .ok (.invokestatic 69, 3) := by decide +kernel
theorem dX2_become_55 : decode cX2_become 55 = .ok (.aload_n 1, 1) := by decide +kernel
theorem dX2_become_56 : decode cX2_become 56 = .ok (.getfield 15, 3) := by decide +kernel
theorem dX2_become_59 : decode cX2_become 59 = .ok (.iconst 0, 1) := by decide +kernel
theorem dX2_become_60 : decode cX2_become 60 = .ok (.aload_n 0, 1) := by decide +kernel
theorem dX2_become_61 : decode cX2_become 61 = .ok (.getfield 15, 3) := by decide +kernel
theorem dX2_become_64 : decode cX2_become 64 = .ok (.iconst 0, 1) := by decide +kernel
theorem dX2_become_65 : decode cX2_become 65 = .ok (.bipush 7, 2) := by decide +kernel
theorem dX2_become_67 : decode cX2_become 67 = .ok (.invokestatic 69, 3) := by decide +kernel
theorem dX2_become_70 : decode cX2_become 70 = .ok (.aload_n 1, 1) := by decide +kernel
theorem dX2_become_71 : decode cX2_become 71 = .ok (.getfield 18, 3) := by decide +kernel
theorem dX2_become_74 : decode cX2_become 74 = .ok (.iconst 0, 1) := by decide +kernel
theorem dX2_become_75 : decode cX2_become 75 = .ok (.aload_n 0, 1) := by decide +kernel
theorem dX2_become_76 : decode cX2_become 76 = .ok (.getfield 18, 3) := by decide +kernel
theorem dX2_become_79 : decode cX2_become 79 = .ok (.iconst 0, 1) := by decide +kernel
theorem dX2_become_80 : decode cX2_become 80 = .ok (.bipush 7, 2) := by decide +kernel
theorem dX2_become_82 : decode cX2_become 82 = .ok (.invokestatic 69, 3) := by decide +kernel
theorem dX2_become_85 : decode cX2_become 85 = .ok (.aload_n 1, 1) := by decide +kernel
theorem dX2_become_86 : decode cX2_become 86 = .ok (.getfield 21, 3) := by decide +kernel
theorem dX2_become_89 : decode cX2_become 89 = .ok (.iconst 0, 1) := by decide +kernel
theorem dX2_become_90 : decode cX2_become 90 = .ok (.aload_n 0, 1) := by decide +kernel
theorem dX2_become_91 : decode cX2_become 91 = .ok (.getfield 21, 3) := by decide +kernel
theorem dX2_become_94 : decode cX2_become 94 = .ok (.iconst 0, 1) := by decide +kernel
theorem dX2_become_95 : decode cX2_become 95 = .ok (.iconst 4, 1) := by decide +kernel
theorem dX2_become_96 : decode cX2_become 96 = .ok (.invokestatic 69, 3) := by decide +kernel
theorem dX2_become_99 : decode cX2_become 99 = .ok (.aload_n 1, 1) := by decide +kernel
theorem dX2_become_100 : decode cX2_become 100 = .ok (.getfield 24, 3) := by decide +kernel
theorem dX2_become_103 : decode cX2_become 103 = .ok (.iconst 0, 1) := by decide +kernel
theorem dX2_become_104 : decode cX2_become 104 = .ok (.aload_n 0, 1) := by decide +kernel
theorem dX2_become_105 : decode cX2_become 105 = .ok (.getfield 24, 3) := by decide +kernel
theorem dX2_become_108 : decode cX2_become 108 = .ok (.iconst 0, 1) := by decide +kernel
theorem dX2_become_109 : decode cX2_become 109 = .ok (.iconst 4, 1) := by decide +kernel
theorem dX2_become_110 : decode cX2_become 110 = .ok (.invokestatic 69, 3) := by decide +kernel
theorem dX2_become_113 : decode cX2_become 113 = .ok (.aload_n 1, 1) := by decide +kernel
theorem dX2_become_114 : decode cX2_become 114 = .ok (.getfield 27, 3) := by decide +kernel
theorem dX2_become_117 : decode cX2_become 117 = .ok (.iconst 0, 1) := by decide +kernel
theorem dX2_become_118 : decode cX2_become 118 = .ok (.aload_n 0, 1) := by decide +kernel
theorem dX2_become_119 : decode cX2_become 119 = .ok (.getfield 27, 3) := by decide +kernel
theorem dX2_become_122 : decode cX2_become 122 = .ok (.iconst 0, 1) := by decide +kernel
theorem dX2_become_123 : decode cX2_become 123 = .ok (.iconst 4, 1) := by decide +kernel
theorem dX2_become_124 : decode cX2_become 124 = .ok (.invokestatic 69, 3) := by decide +kernel
theorem dX2_become_127 : decode cX2_become 127 = .ok (.aload_n 0, 1) := by decide +kernel
theorem dX2_become_128 : decode cX2_become 128 = .ok (.getfield 33, 3) := by decide +kernel
theorem dX2_become_131 : decode cX2_become 131 = .ok (.aload_n 1, 1) := by decide +kernel
theorem dX2_become_132 : decode cX2_become 132 = .ok (.getfield 33, 3) := by decide +kernel
theorem dX2_become_135 : decode cX2_become 135 = .ok (.invokevirtual 75, 3) := by decide +kernel
theorem dX2_become_138 : decode cX2_become 138 = .ok (.aload_n 0, 1) := by decide +kernel
theorem dX2_become_139 : decode cX2_become 139 = .ok (.getfield 37, 3) := by decide +kernel
theorem dX2_become_142 : decode cX2_become 142 = .ok (.aload_n 1, 1) := by decide +kernel
theorem dX2_become_143 : decode cX2_become 143 = .ok (.getfield 37, 3) := by decide +kernel
theorem dX2_become_146 : decode cX2_become 146 = .ok (.invokevirtual 75, 3) := by decide +kernel
theorem dX2_become_149 : decode cX2_become 149 = .ok (.aload_n 0, 1) := by decide +kernel
theorem dX2_become_150 : decode cX2_become 150 = .ok (.getfield 43, 3) := by decide +kernel
theorem dX2_become_153 : decode cX2_become 153 = .ok (.aload_n 1, 1) := by decide +kernel
theorem dX2_become_154 : decode cX2_become 154 = .ok (.getfield 43, 3) := by decide +kernel
theorem dX2_become_157 : decode cX2_become 157 = .ok (.invokevirtual 79, 3) := by decide +kernel
theorem dX2_become_160 : decode cX2_become 160 = .ok (.return_, 1) := by decide +kernel
theorem dX2_begin_0 : decode cX2_begin 0 = .ok (.aload_n 0, 1) := by decide +kernel
theorem dX2_begin_1 : decode cX2_begin 1 = .ok (.iload_n 1, 1) := by decide +kernel
theorem dX2_begin_2 : decode cX2_begin 2 = .ok (.putfield 47, 3) := by decide +kernel
theorem dX2_begin_5 : decode cX2_begin 5 = .ok (.aload_n 0, 1) := by decide +kernel
theorem dX2_begin_6 : decode cX2_begin 6 = .ok (.iconst 0, 1) := by decide +kernel
theorem dX2_begin_7 : decode cX2_begin 7 = .ok (.putfield 51, 3) := by decide +kernel
theorem dX2_begin_10 : decode cX2_begin 10 = .ok (.aload_n 0, 1) := by decide +kernel
theorem dX2_begin_11 : decode cX2_begin 11 = .ok (.iconst 0, 1) := by decide +kernel
theorem dX2_begin_12 : decode cX2_begin 12 = .ok (.putfield 54, 3) := by decide +kernel
theorem dX2_begin_15 : decode cX2_begin 15 = .ok (.aload_n 0, 1) := by decide +kernel
theorem dX2_begin_16 : decode cX2_begin 16 = .ok (.iconst 0, 1) := by decide +kernel
theorem dX2_begin_17 : decode cX2_begin 17 = .ok (.putfield 57, 3) := by decide +kernel
theorem dX2_begin_20 : decode cX2_begin 20 = .ok (.aload_n 0, 1) := by decide +kernel
theorem dX2_begin_21 : decode cX2_begin 21 = .ok (.iconst 0, 1) := by decide +kernel
theorem dX2_begin_22 : decode cX2_begin 22 = .ok (.putfield 60, 3) := by decide +kernel
theorem dX2_begin_25 : decode cX2_begin 25 = .ok (.aload_n 0, 1) := by decide +kernel
theorem dX2_begin_26 : decode cX2_begin 26 = .ok (.getfield 33, 3) := by decide +kernel
theorem dX2_begin_29 : decode cX2_begin 29 = .ok (.invokevirtual 63, 3) := by decide +kernel
theorem dX2_begin_32 : decode cX2_begin 32 = .ok (.pop, 1) := by decide +kernel
theorem dX2_begin_33 : decode cX2_begin 33 = .ok (.aload_n 0, 1) := by decide +kernel
theorem dX2_begin_34 : decode cX2_begin 34 = .ok (.getfield 37, 3) := by decide +kernel
theorem dX2_begin_37 : decode cX2_begin 37 = .ok (.invokevirtual 63, 3) := by decide +kernel
theorem dX2_begin_40 : decode cX2_begin 40 = .ok (.pop, 1) := by decide +kernel
theorem dX2_begin_41 : decode cX2_begin 41 = .ok (.aload_n 0, 1) := by decide +kernel
theorem dX2_begin_42 : decode cX2_begin 42 = .ok (.getfield 43, 3) := by decide +kernel
theorem dX2_begin_45 : decode cX2_begin 45 = .ok (.invokevirtual 67, 3) := by decide +kernel
theorem dX2_begin_48 : decode cX2_begin 48 = .ok (.return_, 1) := by decide +kernel
theorem dX2_coolInAll_0 : decode cX2_coolInAll 0 = .ok (.iconst 0, 1) := by decide +kernel
theorem dX2_coolInAll_1 : decode cX2_coolInAll 1 = .ok (.istore_n 1, 1) := by decide +kernel
theorem dX2_coolInAll_2 : decode cX2_coolInAll 2 = .ok (.iconst 0, 1) := by decide +kernel
theorem dX2_coolInAll_3 : decode cX2_coolInAll 3 = .ok (.istore_n 2, 1) := by decide +kernel
theorem dX2_coolInAll_4 : decode cX2_coolInAll 4 = .ok (.iload_n 2, 1) := by decide +kernel
theorem dX2_coolInAll_5 : decode cX2_coolInAll 5 = .ok (.aload_n 0, 1) := by decide +kernel
theorem dX2_coolInAll_6 : decode cX2_coolInAll 6 = .ok (.getfield 60, 3) := by decide +kernel
theorem dX2_coolInAll_9 : decode cX2_coolInAll 9 = .ok (.if_icmp .ge 18, 3) := by decide +kernel
theorem dX2_coolInAll_27 : decode cX2_coolInAll 27 = .ok (.iload_n 1, 1) := by decide +kernel
theorem dX2_coolInAll_28 : decode cX2_coolInAll 28 = .ok (.ireturn, 1) := by decide +kernel
theorem dX2_hasCaster_0 : decode cX2_hasCaster 0 = .ok (.iload_n 1, 1) := by decide +kernel
theorem dX2_hasCaster_1 : decode cX2_hasCaster 1 = .ok (.ifCond .lt 15, 3) := by decide +kernel
theorem dX2_hasCaster_4 : decode cX2_hasCaster 4 = .ok (.iload_n 1, 1) := by decide +kernel
theorem dX2_hasCaster_5 : decode cX2_hasCaster 5 = .ok (.aload_n 0, 1) := by decide +kernel
theorem dX2_hasCaster_6 : decode cX2_hasCaster 6 = .ok (.getfield 57, 3) := by decide +kernel
theorem dX2_hasCaster_9 : decode cX2_hasCaster 9 = .ok (.if_icmp .ge 7, 3) := by decide +kernel
theorem dX2_hasCaster_12 : decode cX2_hasCaster 12 = .ok (.iconst 1, 1) := by decide +kernel
theorem dX2_hasCaster_13 : decode cX2_hasCaster 13 = .ok (.goto 4, 3) := by decide +kernel
theorem dX2_hasCaster_16 : decode cX2_hasCaster 16 = .ok (.iconst 0, 1) := by decide +kernel
theorem dX2_hasCaster_17 : decode cX2_hasCaster 17 = .ok (.ireturn, 1) := by decide +kernel
theorem dX2_hasJar_0 : decode cX2_hasJar 0 = .ok (.iload_n 1, 1) := by decide +kernel
theorem dX2_hasJar_1 : decode cX2_hasJar 1 = .ok (.ifCond .lt 15, 3) := by decide +kernel
theorem dX2_hasJar_4 : decode cX2_hasJar 4 = .ok (.iload_n 1, 1) := by decide +kernel
theorem dX2_hasJar_5 : decode cX2_hasJar 5 = .ok (.aload_n 0, 1) := by decide +kernel
theorem dX2_hasJar_6 : decode cX2_hasJar 6 = .ok (.getfield 60, 3) := by decide +kernel
theorem dX2_hasJar_9 : decode cX2_hasJar 9 = .ok (.if_icmp .ge 7, 3) := by decide +kernel
theorem dX2_hasJar_12 : decode cX2_hasJar 12 = .ok (.iconst 1, 1) := by decide +kernel
theorem dX2_hasJar_13 : decode cX2_hasJar 13 = .ok (.goto 4, 3) := by decide +kernel
theorem dX2_hasJar_16 : decode cX2_hasJar 16 = .ok (.iconst 0, 1) := by decide +kernel
theorem dX2_hasJar_17 : decode cX2_hasJar 17 = .ok (.ireturn, 1) := by decide +kernel
theorem dX2_mixed_0 : decode cX2_mixed 0 = .ok (.lload_n 1, 1) := by decide +kernel
theorem dX2_mixed_1 : decode cX2_mixed 1 = .ok (.lstore_n 3, 1) := by decide +kernel
theorem dX2_mixed_2 : decode cX2_mixed 2 = .ok (.iconst 0, 1) := by decide +kernel
theorem dX2_mixed_3 : decode cX2_mixed 3 = .ok (.istore 5, 2) := by decide +kernel
theorem dX2_mixed_5 : decode cX2_mixed 5 = .ok (.iload 5, 2) := by decide +kernel
theorem dX2_mixed_7 : decode cX2_mixed 7 = .ok (.aload_n 0, 1) := by decide +kernel
theorem dX2_mixed_8 : decode cX2_mixed 8 = .ok (.getfield 57, 3) := by decide +kernel
theorem dX2_mixed_11 : decode cX2_mixed 11 = .ok (.if_icmp .ge 76, 3) := by decide +kernel
theorem dX2_mixed_87 : decode cX2_mixed 87 = .ok (.iconst 0, 1) := by decide +kernel
theorem dX2_mixed_88 : decode cX2_mixed 88 = .ok (.istore 5, 2) := by decide +kernel
theorem dX2_mixed_90 : decode cX2_mixed 90 = .ok (.iload 5, 2) := by decide +kernel
theorem dX2_mixed_92 : decode cX2_mixed 92 = .ok (.aload_n 0, 1) := by decide +kernel
theorem dX2_mixed_93 : decode cX2_mixed 93 = .ok (.getfield 60, 3) := by decide +kernel
theorem dX2_mixed_96 : decode cX2_mixed 96 = .ok (.if_icmp .ge 54, 3) := by decide +kernel
theorem dX2_mixed_150 : decode cX2_mixed 150 = .ok (.aload_n 0, 1) := by decide +kernel
theorem dX2_mixed_151 : decode cX2_mixed 151 = .ok (.getfield 37, 3) := by decide +kernel
theorem dX2_mixed_154 : decode cX2_mixed 154 = .ok (.aload_n 0, 1) := by decide +kernel
theorem dX2_mixed_155 : decode cX2_mixed 155 = .ok (.getfield 33, 3) := by decide +kernel
theorem dX2_mixed_158 : decode cX2_mixed 158 = .ok (.lload_n 3, 1) := by decide +kernel
theorem dX2_mixed_159 : decode cX2_mixed 159 = .ok (.invokevirtual 122, 3) := by decide +kernel
theorem dX2_mixed_162 : decode cX2_mixed 162 = .ok (.invokevirtual 122, 3) := by decide +kernel
theorem dX2_mixed_165 : decode cX2_mixed 165 = .ok (.lreturn, 1) := by decide +kernel
theorem dX2_passHour_0 : decode cX2_passHour 0 = .ok (.iconst 0, 1) := by decide +kernel
theorem dX2_passHour_1 : decode cX2_passHour 1 = .ok (.istore_n 1, 1) := by decide +kernel
theorem dX2_passHour_2 : decode cX2_passHour 2 = .ok (.iload_n 1, 1) := by decide +kernel
theorem dX2_passHour_3 : decode cX2_passHour 3 = .ok (.aload_n 0, 1) := by decide +kernel
theorem dX2_passHour_4 : decode cX2_passHour 4 = .ok (.getfield 60, 3) := by decide +kernel
theorem dX2_passHour_7 : decode cX2_passHour 7 = .ok (.if_icmp .ge 40, 3) := by decide +kernel
theorem dX2_passHour_47 : decode cX2_passHour 47 = .ok (.aload_n 0, 1) := by decide +kernel
theorem dX2_passHour_48 : decode cX2_passHour 48 = .ok (.dup, 1) := by decide +kernel
theorem dX2_passHour_49 : decode cX2_passHour 49 = .ok (.getfield 47, 3) := by decide +kernel
theorem dX2_passHour_52 : decode cX2_passHour 52 = .ok (.iconst 1, 1) := by decide +kernel
theorem dX2_passHour_53 : decode cX2_passHour 53 = .ok (.iadd, 1) := by decide +kernel
theorem dX2_passHour_54 : decode cX2_passHour 54 = .ok (.putfield 47, 3) := by decide +kernel
theorem dX2_passHour_57 : decode cX2_passHour 57 = .ok (.aload_n 0, 1) := by decide +kernel
theorem dX2_passHour_58 : decode cX2_passHour 58 = .ok (.iconst 0, 1) := by decide +kernel
theorem dX2_passHour_59 : decode cX2_passHour 59 = .ok (.putfield 54, 3) := by decide +kernel
theorem dX2_passHour_62 : decode cX2_passHour 62 = .ok (.return_, 1) := by decide +kernel
theorem dX2_passHours_0 : decode cX2_passHours 0 = .ok (.iconst 0, 1) := by decide +kernel
theorem dX2_passHours_1 : decode cX2_passHours 1 = .ok (.istore_n 2, 1) := by decide +kernel
theorem dX2_passHours_2 : decode cX2_passHours 2 = .ok (.iload_n 2, 1) := by decide +kernel
theorem dX2_passHours_3 : decode cX2_passHours 3 = .ok (.iload_n 1, 1) := by decide +kernel
theorem dX2_passHours_4 : decode cX2_passHours 4 = .ok (.if_icmp .ge 23, 3) := by decide +kernel
theorem dX2_passHours_7 : decode cX2_passHours 7 = .ok (.aload_n 0, 1) := by decide +kernel
theorem dX2_passHours_8 : decode cX2_passHours 8 = .ok (.getfield 47, 3) := by decide +kernel
theorem dX2_passHours_11 : decode cX2_passHours 11 = .ok (.sipush 9999, 3) := by decide +kernel
theorem dX2_passHours_14 : decode cX2_passHours 14 = .ok (.if_icmp .ge 13, 3) := by decide +kernel
theorem dX2_passHours_17 : decode cX2_passHours 17 = .ok (.aload_n 0, 1) := by decide +kernel
theorem dX2_passHours_18 : decode cX2_passHours 18 = .ok (.invokevirtual 114, 3) := by decide +kernel
theorem dX2_passHours_21 : decode cX2_passHours 21 = .ok (.iinc 2 1, 3) := by decide +kernel
theorem dX2_passHours_24 : decode cX2_passHours 24 = .ok (.goto (-22), 3) := by decide +kernel
theorem dX2_passHours_27 : decode cX2_passHours 27 = .ok (.return_, 1) := by decide +kernel
theorem dX4_become_0 : decode cX4_become 0 = .ok (.aload_n 1, 1) := by decide +kernel
theorem dX4_become_1 : decode cX4_become 1 = .ok (.getfield 11, 3) := by decide +kernel
theorem dX4_become_4 : decode cX4_become 4 = .ok (.iconst 0, 1) := by decide +kernel
theorem dX4_become_5 : decode cX4_become 5 = .ok (.aload_n 0, 1) := by decide +kernel
theorem dX4_become_6 : decode cX4_become 6 = .ok (.getfield 11, 3) := by decide +kernel
theorem dX4_become_9 : decode cX4_become 9 = .ok (.iconst 0, 1) := by decide +kernel
theorem dX4_become_10 : decode cX4_become 10 = .ok (.bipush 88, 2) := by decide +kernel
theorem dX4_become_12 : decode cX4_become 12 = .ok (.invokestatic 19, 3) := by decide +kernel
theorem dX4_become_15 : decode cX4_become 15 = .ok (.aload_n 0, 1) := by decide +kernel
theorem dX4_become_16 : decode cX4_become 16 = .ok (.aload_n 1, 1) := by decide +kernel
theorem dX4_become_17 : decode cX4_become 17 = .ok (.getfield 15, 3) := by decide +kernel
theorem dX4_become_20 : decode cX4_become 20 = .ok (.putfield 15, 3) := by decide +kernel
theorem dX4_become_23 : decode cX4_become 23 = .ok (.return_, 1) := by decide +kernel
theorem dX4_bringBack_0 : decode cX4_bringBack 0 = .ok (.aload_n 0, 1) := by decide +kernel
theorem dX4_bringBack_1 : decode cX4_bringBack 1 = .ok (.getfield 15, 3) := by decide +kernel
theorem dX4_bringBack_4 : decode cX4_bringBack 4 = .ok (.ifCond .gt 5, 3) := by decide +kernel
theorem dX4_bringBack_7 : decode cX4_bringBack 7 = .ok (.iconst 0, 1) := by decide +kernel
theorem dX4_bringBack_8 : decode cX4_bringBack 8 = .ok (.ireturn, 1) := by decide +kernel
theorem dX4_empty_0 : decode cX4_empty 0 = .ok (.aload_n 0, 1) := by decide +kernel
theorem dX4_empty_1 : decode cX4_empty 1 = .ok (.iconst 0, 1) := by decide +kernel
theorem dX4_empty_2 : decode cX4_empty 2 = .ok (.putfield 15, 3) := by decide +kernel
theorem dX4_empty_5 : decode cX4_empty 5 = .ok (.return_, 1) := by decide +kernel
theorem dX4_remember_0 : decode cX4_remember 0 = .ok (.aload_n 0, 1) := by decide +kernel
theorem dX4_remember_1 : decode cX4_remember 1 = .ok (.getfield 15, 3) := by decide +kernel
theorem dX4_remember_4 : decode cX4_remember 4 = .ok (.bipush 8, 2) := by decide +kernel
theorem dX4_remember_6 : decode cX4_remember 6 = .ok (.if_icmp .lt 25, 3) := by decide +kernel
theorem dX4_remember_31 : decode cX4_remember 31 = .ok (.aload_n 0, 1) := by decide +kernel
theorem dX4_remember_32 : decode cX4_remember 32 = .ok (.getfield 15, 3) := by decide +kernel
theorem dX4_remember_35 : decode cX4_remember 35 = .ok (.bipush 11, 2) := by decide +kernel
theorem dX4_remember_37 : decode cX4_remember 37 = .ok (.imul, 1) := by decide +kernel
theorem dX4_remember_38 : decode cX4_remember 38 = .ok (.istore_n 2, 1) := by decide +kernel
theorem dX4_remember_39 : decode cX4_remember 39 = .ok (.aload_n 1, 1) := by decide +kernel
theorem dX4_remember_40 : decode cX4_remember 40 = .ok (.getfield 25, 3) := by decide +kernel
theorem dX4_remember_43 : decode cX4_remember 43 = .ok (.iconst 0, 1) := by decide +kernel
theorem dX4_remember_44 : decode cX4_remember 44 = .ok (.aload_n 0, 1) := by decide +kernel
theorem dX4_remember_45 : decode cX4_remember 45 = .ok (.getfield 11, 3) := by decide +kernel
theorem dX4_remember_48 : decode cX4_remember 48 = .ok (.iload_n 2, 1) := by decide +kernel
theorem dX4_remember_49 : decode cX4_remember 49 = .ok (.iconst 4, 1) := by decide +kernel
theorem dX4_remember_50 : decode cX4_remember 50 = .ok (.invokestatic 19, 3) := by decide +kernel
theorem dX4_remember_53 : decode cX4_remember 53 = .ok (.aload_n 1, 1) := by decide +kernel
theorem dX4_remember_54 : decode cX4_remember 54 = .ok (.getfield 30, 3) := by decide +kernel
theorem dX4_remember_57 : decode cX4_remember 57 = .ok (.iconst 0, 1) := by decide +kernel
theorem dX4_remember_58 : decode cX4_remember 58 = .ok (.aload_n 0, 1) := by decide +kernel
theorem dX4_remember_59 : decode cX4_remember 59 = .ok (.getfield 11, 3) := by decide +kernel
theorem dX4_remember_62 : decode cX4_remember 62 = .ok (.iload_n 2, 1) := by decide +kernel
theorem dX4_remember_63 : decode cX4_remember 63 = .ok (.iconst 4, 1) := by decide +kernel
theorem dX4_remember_64 : decode cX4_remember 64 = .ok (.iadd, 1) := by decide +kernel
theorem dX4_remember_65 : decode cX4_remember 65 = .ok (.iconst 4, 1) := by decide +kernel
theorem dX4_remember_66 : decode cX4_remember 66 = .ok (.invokestatic 19, 3) := by decide +kernel
theorem dX4_remember_69 : decode cX4_remember 69 = .ok (.aload_n 0, 1) := by decide +kernel
theorem dX4_remember_70 : decode cX4_remember 70 = .ok (.getfield 11, 3) := by decide +kernel
theorem dX4_remember_73 : decode cX4_remember 73 = .ok (.iload_n 2, 1) := by decide +kernel
theorem dX4_remember_74 : decode cX4_remember 74 = .ok (.bipush 8, 2) := by decide +kernel
theorem dX4_remember_76 : decode cX4_remember 76 = .ok (.iadd, 1) := by decide +kernel
theorem dX4_remember_77 : decode cX4_remember 77 = .ok (.aload_n 1, 1) := by decide +kernel
theorem dX4_remember_78 : decode cX4_remember 78 = .ok (.getfield 33, 3) := by decide +kernel
theorem dX4_remember_81 : decode cX4_remember 81 = .ok (.iastore, 1) := by decide +kernel
theorem dX4_remember_82 : decode cX4_remember 82 = .ok (.aload_n 0, 1) := by decide +kernel
theorem dX4_remember_83 : decode cX4_remember 83 = .ok (.getfield 11, 3) := by decide +kernel
theorem dX4_remember_86 : decode cX4_remember 86 = .ok (.iload_n 2, 1) := by decide +kernel
theorem dX4_remember_87 : decode cX4_remember 87 = .ok (.bipush 8, 2) := by decide +kernel
theorem dX4_remember_89 : decode cX4_remember 89 = .ok (.iadd, 1) := by decide +kernel
theorem dX4_remember_90 : decode cX4_remember 90 = .ok (.iconst 1, 1) := by decide +kernel
theorem dX4_remember_91 : decode cX4_remember 91 = .ok (.iadd, 1) := by decide +kernel
theorem dX4_remember_92 : decode cX4_remember 92 = .ok (.aload_n 1, 1) := by decide +kernel
theorem dX4_remember_93 : decode cX4_remember 93 = .ok (.getfield 36, 3) := by decide +kernel
theorem dX4_remember_96 : decode cX4_remember 96 = .ok (.iastore, 1) := by decide +kernel
theorem dX4_remember_97 : decode cX4_remember 97 = .ok (.aload_n 0, 1) := by decide +kernel
theorem dX4_remember_98 : decode cX4_remember 98 = .ok (.getfield 11, 3) := by decide +kernel
theorem dX4_remember_101 : decode cX4_remember 101 = .ok (.iload_n 2, 1) := by decide +kernel
theorem dX4_remember_102 : decode cX4_remember 102 = .ok (.bipush 8, 2) := by decide +kernel
theorem dX4_remember_104 : decode cX4_remember 104 = .ok (.iadd, 1) := by decide +kernel
theorem dX4_remember_105 : decode cX4_remember 105 = .ok (.iconst 2, 1) := by decide +kernel
theorem dX4_remember_106 : decode cX4_remember 106 = .ok (.iadd, 1) := by decide +kernel
theorem dX4_remember_107 : decode cX4_remember 107 = .ok (.aload_n 1, 1) := by decide +kernel
theorem dX4_remember_108 : decode cX4_remember 108 = .ok (.getfield 39, 3) := by decide +kernel
theorem dX4_remember_111 : decode cX4_remember 111 = .ok (.iastore, 1) := by decide +kernel
theorem dX4_remember_112 : decode cX4_remember 112 = .ok (.aload_n 0, 1) := by decide +kernel
theorem dX4_remember_113 : decode cX4_remember 113 = .ok (.dup, 1) := by decide +kernel
theorem dX4_remember_114 : decode cX4_remember 114 = .ok (.getfield 15, 3) := by decide +kernel
theorem dX4_remember_117 : decode cX4_remember 117 = .ok (.iconst 1, 1) := by decide +kernel
theorem dX4_remember_118 : decode cX4_remember 118 = .ok (.iadd, 1) := by decide +kernel
theorem dX4_remember_119 : decode cX4_remember 119 = .ok (.putfield 15, 3) := by decide +kernel
theorem dX4_remember_122 : decode cX4_remember 122 = .ok (.return_, 1) := by decide +kernel
theorem dX6_become_0 : decode cX6_become 0 = .ok (.aload_n 1, 1) := by decide +kernel
theorem dX6_become_1 : decode cX6_become 1 = .ok (.getfield 11, 3) := by decide +kernel
theorem dX6_become_4 : decode cX6_become 4 = .ok (.iconst 0, 1) := by decide +kernel
theorem dX6_become_5 : decode cX6_become 5 = .ok (.aload_n 0, 1) := by decide +kernel
theorem dX6_become_6 : decode cX6_become 6 = .ok (.getfield 11, 3) := by decide +kernel
theorem dX6_become_9 : decode cX6_become 9 = .ok (.iconst 0, 1) := by decide +kernel
theorem dX6_become_10 : decode cX6_become 10 = .ok (.bipush 24, 2) := by decide +kernel
theorem dX6_become_12 : decode cX6_become 12 = .ok (.invokestatic 23, 3) := by decide +kernel
theorem dX6_become_15 : decode cX6_become 15 = .ok (.aload_n 0, 1) := by decide +kernel
theorem dX6_become_16 : decode cX6_become 16 = .ok (.aload_n 1, 1) := by decide +kernel
theorem dX6_become_17 : decode cX6_become 17 = .ok (.getfield 15, 3) := by decide +kernel
theorem dX6_become_20 : decode cX6_become 20 = .ok (.putfield 15, 3) := by decide +kernel
theorem dX6_become_23 : decode cX6_become 23 = .ok (.return_, 1) := by decide +kernel
theorem dX6_empty_0 : decode cX6_empty 0 = .ok (.aload_n 0, 1) := by decide +kernel
theorem dX6_empty_1 : decode cX6_empty 1 = .ok (.getfield 15, 3) := by decide +kernel
theorem dX6_empty_4 : decode cX6_empty 4 = .ok (.istore_n 1, 1) := by decide +kernel
theorem dX6_empty_5 : decode cX6_empty 5 = .ok (.aload_n 0, 1) := by decide +kernel
theorem dX6_empty_6 : decode cX6_empty 6 = .ok (.iconst 0, 1) := by decide +kernel
theorem dX6_empty_7 : decode cX6_empty 7 = .ok (.putfield 15, 3) := by decide +kernel
theorem dX6_empty_10 : decode cX6_empty 10 = .ok (.iload_n 1, 1) := by decide +kernel
theorem dX6_empty_11 : decode cX6_empty 11 = .ok (.ireturn, 1) := by decide +kernel
theorem dX6_mixed_0 : decode cX6_mixed 0 = .ok (.lload_n 1, 1) := by decide +kernel
theorem dX6_mixed_1 : decode cX6_mixed 1 = .ok (.lstore_n 3, 1) := by decide +kernel
theorem dX6_mixed_2 : decode cX6_mixed 2 = .ok (.iconst 0, 1) := by decide +kernel
theorem dX6_mixed_3 : decode cX6_mixed 3 = .ok (.istore 5, 2) := by decide +kernel
theorem dX6_mixed_5 : decode cX6_mixed 5 = .ok (.iload 5, 2) := by decide +kernel
theorem dX6_mixed_7 : decode cX6_mixed 7 = .ok (.aload_n 0, 1) := by decide +kernel
theorem dX6_mixed_8 : decode cX6_mixed 8 = .ok (.getfield 15, 3) := by decide +kernel
theorem dX6_mixed_11 : decode cX6_mixed 11 = .ok (.iconst 4, 1) := by decide +kernel
theorem dX6_mixed_12 : decode cX6_mixed 12 = .ok (.imul, 1) := by decide +kernel
theorem dX6_mixed_13 : decode cX6_mixed 13 = .ok (.if_icmp .ge 24, 3) := by decide +kernel
theorem dX6_mixed_37 : decode cX6_mixed 37 = .ok (.lload_n 3, 1) := by decide +kernel
theorem dX6_mixed_38 : decode cX6_mixed 38 = .ok (.lreturn, 1) := by decide +kernel
theorem dX7_add_0 : decode cX7_add 0 = .ok (.aload_n 0, 1) := by decide +kernel
theorem dX7_add_1 : decode cX7_add 1 = .ok (.invokevirtual 23, 3) := by decide +kernel
theorem dX7_add_4 : decode cX7_add 4 = .ok (.ifCond .eq 6, 3) := by decide +kernel
theorem dX7_add_10 : decode cX7_add 10 = .ok (.aload_n 0, 1) := by decide +kernel
theorem dX7_add_11 : decode cX7_add 11 = .ok (.getfield 11, 3) := by decide +kernel
theorem dX7_add_14 : decode cX7_add 14 = .ok (.aload_n 0, 1) := by decide +kernel
theorem dX7_add_15 : decode cX7_add 15 = .ok (.getfield 19, 3) := by decide +kernel
theorem dX7_add_18 : decode cX7_add 18 = .ok (.iload_n 1, 1) := by decide +kernel
theorem dX7_add_19 : decode cX7_add 19 = .ok (.i2b, 1) := by decide +kernel
theorem dX7_add_20 : decode cX7_add 20 = .ok (.bastore, 1) := by decide +kernel
theorem dX7_add_21 : decode cX7_add 21 = .ok (.aload_n 0, 1) := by decide +kernel
theorem dX7_add_22 : decode cX7_add 22 = .ok (.dup, 1) := by decide +kernel
theorem dX7_add_23 : decode cX7_add 23 = .ok (.getfield 19, 3) := by decide +kernel
theorem dX7_add_26 : decode cX7_add 26 = .ok (.iconst 1, 1) := by decide +kernel
theorem dX7_add_27 : decode cX7_add 27 = .ok (.iadd, 1) := by decide +kernel
theorem dX7_add_28 : decode cX7_add 28 = .ok (.putfield 19, 3) := by decide +kernel
theorem dX7_add_31 : decode cX7_add 31 = .ok (.aload_n 0, 1) := by decide +kernel
theorem dX7_add_32 : decode cX7_add 32 = .ok (.getfield 19, 3) := by decide +kernel
theorem dX7_add_35 : decode cX7_add 35 = .ok (.ireturn, 1) := by decide +kernel
theorem dX7_empty_0 : decode cX7_empty 0 = .ok (.aload_n 0, 1) := by decide +kernel
theorem dX7_empty_1 : decode cX7_empty 1 = .ok (.getfield 19, 3) := by decide +kernel
theorem dX7_empty_4 : decode cX7_empty 4 = .ok (.istore_n 1, 1) := by decide +kernel
theorem dX7_empty_5 : decode cX7_empty 5 = .ok (.aload_n 0, 1) := by decide +kernel
theorem dX7_empty_6 : decode cX7_empty 6 = .ok (.iconst 0, 1) := by decide +kernel
theorem dX7_empty_7 : decode cX7_empty 7 = .ok (.putfield 19, 3) := by decide +kernel
theorem dX7_empty_10 : decode cX7_empty 10 = .ok (.iload_n 1, 1) := by decide +kernel
theorem dX7_empty_11 : decode cX7_empty 11 = .ok (.ireturn, 1) := by decide +kernel
theorem dX7_isFull_0 : decode cX7_isFull 0 = .ok (.aload_n 0, 1) := by decide +kernel
theorem dX7_isFull_1 : decode cX7_isFull 1 = .ok (.getfield 19, 3) := by decide +kernel
theorem dX7_isFull_4 : decode cX7_isFull 4 = .ok (.sipush 150, 3) := by decide +kernel
theorem dX7_isFull_7 : decode cX7_isFull 7 = .ok (.if_icmp .lt 7, 3) := by decide +kernel
theorem dX7_isFull_14 : decode cX7_isFull 14 = .ok (.iconst 0, 1) := by decide +kernel
theorem dX7_isFull_15 : decode cX7_isFull 15 = .ok (.ireturn, 1) := by decide +kernel
theorem dX7_mayBegin_0 : decode cX7_mayBegin 0 = .ok (.iload_n 1, 1) := by decide +kernel
theorem dX7_mayBegin_1 : decode cX7_mayBegin 1 = .ok (.tableswitch 72 (-1) 2 #[31, 33, 35, 54], 31) := by decide +kernel
theorem dX7_mayBegin_32 : decode cX7_mayBegin 32 = .ok (.iconst 0, 1) := by decide +kernel
theorem dX7_mayBegin_33 : decode cX7_mayBegin 33 = .ok (.ireturn, 1) := by decide +kernel
theorem dX7_step_0 : decode cX7_step 0 = .ok (.aload_n 0, 1) := by decide +kernel
theorem dX7_step_1 : decode cX7_step 1 = .ok (.getfield 33, 3) := by decide +kernel
theorem dX7_step_4 : decode cX7_step 4 = .ok (.aload_n 0, 1) := by decide +kernel
theorem dX7_step_5 : decode cX7_step 5 = .ok (.getfield 19, 3) := by decide +kernel
theorem dX7_step_8 : decode cX7_step 8 = .ok (.if_icmp .ge 30, 3) := by decide +kernel
theorem dX7_step_38 : decode cX7_step 38 = .ok (.aload_n 0, 1) := by decide +kernel
theorem dX7_step_39 : decode cX7_step 39 = .ok (.aload_n 0, 1) := by decide +kernel
theorem dX7_step_40 : decode cX7_step 40 = .ok (.getfield 33, 3) := by decide +kernel
theorem dX7_step_43 : decode cX7_step 43 = .ok (.putfield 58, 3) := by decide +kernel
theorem dX7_step_46 : decode cX7_step 46 = .ok (.aload_n 0, 1) := by decide +kernel
theorem dX7_step_47 : decode cX7_step 47 = .ok (.getfield 33, 3) := by decide +kernel
theorem dX7_step_50 : decode cX7_step 50 = .ok (.aload_n 0, 1) := by decide +kernel
theorem dX7_step_51 : decode cX7_step 51 = .ok (.getfield 19, 3) := by decide +kernel
theorem dX7_step_54 : decode cX7_step 54 = .ok (.if_icmp .lt 11, 3) := by decide +kernel
theorem dX7_step_57 : decode cX7_step 57 = .ok (.aload_n 0, 1) := by decide +kernel
theorem dX7_step_58 : decode cX7_step 58 = .ok (.iconst 0, 1) := by decide +kernel
theorem dX7_step_59 : decode cX7_step 59 = .ok (.putfield 39, 3) := by decide +kernel
theorem dX7_step_62 : decode cX7_step 62 = .ok (.goto 117, 3) := by decide +kernel
theorem dX7_step_179 : decode cX7_step 179 = .ok (.return_, 1) := by decide +kernel
theorem dX7_tell_0 : decode cX7_tell 0 = .ok (.aload_n 1, 1) := by decide +kernel
theorem dX7_tell_1 : decode cX7_tell 1 = .ok (.iconst 0, 1) := by decide +kernel
theorem dX7_tell_2 : decode cX7_tell 2 = .ok (.invokevirtual 27, 3) := by decide +kernel
theorem dX7_tell_5 : decode cX7_tell 5 = .ok (.aload_n 0, 1) := by decide +kernel
theorem dX7_tell_6 : decode cX7_tell 6 = .ok (.iconst 0, 1) := by decide +kernel
theorem dX7_tell_7 : decode cX7_tell 7 = .ok (.putfield 33, 3) := by decide +kernel
theorem dX7_tell_10 : decode cX7_tell 10 = .ok (.iconst 0, 1) := by decide +kernel
theorem dX7_tell_11 : decode cX7_tell 11 = .ok (.istore_n 2, 1) := by decide +kernel
theorem dX7_tell_12 : decode cX7_tell 12 = .ok (.iload_n 2, 1) := by decide +kernel
theorem dX7_tell_13 : decode cX7_tell 13 = .ok (.sipush 150, 3) := by decide +kernel
theorem dX7_tell_16 : decode cX7_tell 16 = .ok (.if_icmp .gt 78, 3) := by decide +kernel
theorem dX7_tell_19 : decode cX7_tell 19 = .ok (.aload_n 0, 1) := by decide +kernel
theorem dX7_tell_20 : decode cX7_tell 20 = .ok (.invokevirtual 36, 3) := by decide +kernel
theorem dX7_tell_23 : decode cX7_tell 23 = .ok (.aload_n 0, 1) := by decide +kernel
theorem dX7_tell_24 : decode cX7_tell 24 = .ok (.getfield 39, 3) := by decide +kernel
theorem dX7_tell_27 : decode cX7_tell 27 = .ok (.ifCond .ne 9, 3) := by decide +kernel
theorem dX7_tell_30 : decode cX7_tell 30 = .ok (.iload_n 2, 1) := by decide +kernel
theorem dX7_tell_31 : decode cX7_tell 31 = .ok (.ifCond .le 5, 3) := by decide +kernel
theorem dX7_tell_36 : decode cX7_tell 36 = .ok (.aload_n 0, 1) := by decide +kernel
theorem dX7_tell_37 : decode cX7_tell 37 = .ok (.getfield 39, 3) := by decide +kernel
theorem dX7_tell_40 : decode cX7_tell 40 = .ok (.iconst 1, 1) := by decide +kernel
theorem dX7_tell_41 : decode cX7_tell 41 = .ok (.if_icmp .ne 10, 3) := by decide +kernel
theorem dX7_tell_51 : decode cX7_tell 51 = .ok (.iconst (-1), 1) := by decide +kernel
theorem dX7_tell_52 : decode cX7_tell 52 = .ok (.istore_n 3, 1) := by decide +kernel
theorem dX7_tell_53 : decode cX7_tell 53 = .ok (.aload_n 1, 1) := by decide +kernel
theorem dX7_tell_54 : decode cX7_tell 54 = .ok (.iload_n 3, 1) := by decide +kernel
theorem dX7_tell_55 : decode cX7_tell 55 = .ok (.iload_n 2, 1) := by decide +kernel
theorem dX7_tell_56 : decode cX7_tell 56 = .ok (.ifCond .ne 7, 3) := by decide +kernel
theorem dX7_tell_59 : decode cX7_tell 59 = .ok (.iconst 1, 1) := by decide +kernel
theorem dX7_tell_60 : decode cX7_tell 60 = .ok (.goto 4, 3) := by decide +kernel
theorem dX7_tell_64 : decode cX7_tell 64 = .ok (.invokestatic 46, 3) := by decide +kernel
theorem dX7_tell_67 : decode cX7_tell 67 = .ok (.ifCond .eq 27, 3) := by decide +kernel
theorem dX7_tell_94 : decode cX7_tell 94 = .ok (.bipush (-10), 2) := by decide +kernel
theorem dX7_tell_96 : decode cX7_tell 96 = .ok (.aload_n 0, 1) := by decide +kernel
theorem dX7_tell_97 : decode cX7_tell 97 = .ok (.getfield 58, 3) := by decide +kernel
theorem dX7_tell_100 : decode cX7_tell 100 = .ok (.isub, 1) := by decide +kernel
theorem dX7_tell_101 : decode cX7_tell 101 = .ok (.ireturn, 1) := by decide +kernel
theorem dX8_about_0 : decode cX8_about 0 = .ok (.aload_n 0, 1) := by decide +kernel
theorem dX8_about_1 : decode cX8_about 1 = .ok (.getfield 10, 3) := by decide +kernel
theorem dX8_about_4 : decode cX8_about 4 = .ok (.iload_n 1, 1) := by decide +kernel
theorem dX8_about_5 : decode cX8_about 5 = .ok (.invokevirtual 112, 3) := by decide +kernel
theorem dX8_about_8 : decode cX8_about 8 = .ok (.ifCond .ne 10, 3) := by decide +kernel
theorem dX8_about_11 : decode cX8_about 11 = .ok (.aload_n 0, 1) := by decide +kernel
theorem dX8_about_12 : decode cX8_about 12 = .ok (.bipush (-2), 2) := by decide +kernel
theorem dX8_about_14 : decode cX8_about 14 = .ok (.invokevirtual 59, 3) := by decide +kernel
theorem dX8_about_17 : decode cX8_about 17 = .ok (.ireturn, 1) := by decide +kernel
theorem dX8_ask_0 : decode cX8_ask 0 = .ok (.aload_n 0, 1) := by decide +kernel
theorem dX8_ask_1 : decode cX8_ask 1 = .ok (.getfield 10, 3) := by decide +kernel
theorem dX8_ask_4 : decode cX8_ask 4 = .ok (.iload_n 1, 1) := by decide +kernel
theorem dX8_ask_5 : decode cX8_ask 5 = .ok (.invokevirtual 112, 3) := by decide +kernel
theorem dX8_ask_8 : decode cX8_ask 8 = .ok (.ifCond .ne 10, 3) := by decide +kernel
theorem dX8_ask_11 : decode cX8_ask 11 = .ok (.aload_n 0, 1) := by decide +kernel
theorem dX8_ask_12 : decode cX8_ask 12 = .ok (.bipush (-2), 2) := by decide +kernel
theorem dX8_ask_14 : decode cX8_ask 14 = .ok (.invokevirtual 59, 3) := by decide +kernel
theorem dX8_ask_17 : decode cX8_ask 17 = .ok (.ireturn, 1) := by decide +kernel
theorem dX8_caster_0 : decode cX8_caster 0 = .ok (.iload_n 1, 1) := by decide +kernel
theorem dX8_caster_1 : decode cX8_caster 1 = .ok (.iconst 0, 1) := by decide +kernel
theorem dX8_caster_2 : decode cX8_caster 2 = .ok (.iconst 5, 1) := by decide +kernel
theorem dX8_caster_3 : decode cX8_caster 3 = .ok (.invokestatic 55, 3) := by decide +kernel
theorem dX8_caster_6 : decode cX8_caster 6 = .ok (.ifCond .eq 22, 3) := by decide +kernel
theorem dX8_caster_9 : decode cX8_caster 9 = .ok (.iload_n 2, 1) := by decide +kernel
theorem dX8_caster_10 : decode cX8_caster 10 = .ok (.iconst 1, 1) := by decide +kernel
theorem dX8_caster_11 : decode cX8_caster 11 = .ok (.bipush 9, 2) := by decide +kernel
theorem dX8_caster_13 : decode cX8_caster 13 = .ok (.invokestatic 55, 3) := by decide +kernel
theorem dX8_caster_16 : decode cX8_caster 16 = .ok (.ifCond .eq 12, 3) := by decide +kernel
theorem dX8_caster_19 : decode cX8_caster 19 = .ok (.iload_n 3, 1) := by decide +kernel
theorem dX8_caster_20 : decode cX8_caster 20 = .ok (.iconst 0, 1) := by decide +kernel
theorem dX8_caster_21 : decode cX8_caster 21 = .ok (.iconst 3, 1) := by decide +kernel
theorem dX8_caster_22 : decode cX8_caster 22 = .ok (.invokestatic 55, 3) := by decide +kernel
theorem dX8_caster_25 : decode cX8_caster 25 = .ok (.ifCond .ne 10, 3) := by decide +kernel
theorem dX8_caster_28 : decode cX8_caster 28 = .ok (.aload_n 0, 1) := by decide +kernel
theorem dX8_caster_29 : decode cX8_caster 29 = .ok (.bipush (-2), 2) := by decide +kernel
theorem dX8_caster_31 : decode cX8_caster 31 = .ok (.invokevirtual 59, 3) := by decide +kernel
theorem dX8_caster_34 : decode cX8_caster 34 = .ok (.ireturn, 1) := by decide +kernel
theorem dX8_caster_35 : decode cX8_caster 35 = .ok (.aload_n 0, 1) := by decide +kernel
theorem dX8_caster_36 : decode cX8_caster 36 = .ok (.getfield 10, 3) := by decide +kernel
theorem dX8_caster_39 : decode cX8_caster 39 = .ok (.getfield 63, 3) := by decide +kernel
theorem dX8_caster_42 : decode cX8_caster 42 = .ok (.bipush 7, 2) := by decide +kernel
theorem dX8_caster_44 : decode cX8_caster 44 = .ok (.if_icmp .lt 10, 3) := by decide +kernel
theorem dX8_caster_54 : decode cX8_caster 54 = .ok (.aload_n 0, 1) := by decide +kernel
theorem dX8_caster_55 : decode cX8_caster 55 = .ok (.getfield 10, 3) := by decide +kernel
theorem dX8_caster_58 : decode cX8_caster 58 = .ok (.getfield 71, 3) := by decide +kernel
theorem dX8_caster_61 : decode cX8_caster 61 = .ok (.invokevirtual 75, 3) := by decide +kernel
theorem dX8_caster_64 : decode cX8_caster 64 = .ok (.aload_n 0, 1) := by decide +kernel
theorem dX8_caster_65 : decode cX8_caster 65 = .ok (.getfield 10, 3) := by decide +kernel
theorem dX8_caster_68 : decode cX8_caster 68 = .ok (.iload_n 1, 1) := by decide +kernel
theorem dX8_caster_69 : decode cX8_caster 69 = .ok (.iload_n 2, 1) := by decide +kernel
theorem dX8_caster_70 : decode cX8_caster 70 = .ok (.iload_n 3, 1) := by decide +kernel
theorem dX8_caster_71 : decode cX8_caster 71 = .ok (.invokevirtual 80, 3) := by decide +kernel
theorem dX8_caster_74 : decode cX8_caster 74 = .ok (.ireturn, 1) := by decide +kernel
theorem dX8_clear_0 : decode cX8_clear 0 = .ok (.aload_n 0, 1) := by decide +kernel
theorem dX8_clear_1 : decode cX8_clear 1 = .ok (.getfield 30, 3) := by decide +kernel
theorem dX8_clear_4 : decode cX8_clear 4 = .ok (.invokevirtual 97, 3) := by decide +kernel
theorem dX8_clear_7 : decode cX8_clear 7 = .ok (.ireturn, 1) := by decide +kernel
theorem dX8_count_0 : decode cX8_count 0 = .ok (.iload_n 1, 1) := by decide +kernel
theorem dX8_count_1 : decode cX8_count 1 = .ok (.iconst 0, 1) := by decide +kernel
theorem dX8_count_2 : decode cX8_count 2 = .ok (.bipush 9, 2) := by decide +kernel
theorem dX8_count_4 : decode cX8_count 4 = .ok (.invokestatic 55, 3) := by decide +kernel
theorem dX8_count_7 : decode cX8_count 7 = .ok (.ifCond .ne 10, 3) := by decide +kernel
theorem dX8_count_10 : decode cX8_count 10 = .ok (.aload_n 0, 1) := by decide +kernel
theorem dX8_count_11 : decode cX8_count 11 = .ok (.bipush (-2), 2) := by decide +kernel
theorem dX8_count_13 : decode cX8_count 13 = .ok (.invokevirtual 59, 3) := by decide +kernel
theorem dX8_count_16 : decode cX8_count 16 = .ok (.ireturn, 1) := by decide +kernel
theorem dX8_count_17 : decode cX8_count 17 = .ok (.aload_n 0, 1) := by decide +kernel
theorem dX8_count_18 : decode cX8_count 18 = .ok (.iload_n 1, 1) := by decide +kernel
theorem dX8_count_19 : decode cX8_count 19 = .ok (.invokevirtual 263, 3) := by decide +kernel
theorem dX8_count_22 : decode cX8_count 22 = .ok (.ireturn, 1) := by decide +kernel
theorem dX8_counted_0 : decode cX8_counted 0 = .ok (.iload_n 1, 1) := by decide +kernel
theorem dX8_counted_1 : decode cX8_counted 1 = .ok (.tableswitch 135 0 8 #[51, 59, 67, 75, 83, 94, 102, 113, 124], 51) := by decide +kernel
theorem dX8_counted_52 : decode cX8_counted 52 = .ok (.aload_n 0, 1) := by decide +kernel
theorem dX8_counted_53 : decode cX8_counted 53 = .ok (.getfield 10, 3) := by decide +kernel
theorem dX8_counted_56 : decode cX8_counted 56 = .ok (.getfield 63, 3) := by decide +kernel
theorem dX8_counted_59 : decode cX8_counted 59 = .ok (.ireturn, 1) := by decide +kernel
theorem dX8_counted_60 : decode cX8_counted 60 = .ok (.aload_n 0, 1) := by decide +kernel
theorem dX8_counted_61 : decode cX8_counted 61 = .ok (.getfield 10, 3) := by decide +kernel
theorem dX8_counted_64 : decode cX8_counted 64 = .ok (.getfield 84, 3) := by decide +kernel
theorem dX8_counted_67 : decode cX8_counted 67 = .ok (.ireturn, 1) := by decide +kernel
theorem dX8_counted_68 : decode cX8_counted 68 = .ok (.aload_n 0, 1) := by decide +kernel
theorem dX8_counted_69 : decode cX8_counted 69 = .ok (.getfield 10, 3) := by decide +kernel
theorem dX8_counted_72 : decode cX8_counted 72 = .ok (.invokevirtual 251, 3) := by decide +kernel
theorem dX8_counted_75 : decode cX8_counted 75 = .ok (.ireturn, 1) := by decide +kernel
theorem dX8_counted_76 : decode cX8_counted 76 = .ok (.aload_n 0, 1) := by decide +kernel
theorem dX8_counted_77 : decode cX8_counted 77 = .ok (.getfield 10, 3) := by decide +kernel
theorem dX8_counted_80 : decode cX8_counted 80 = .ok (.getfield 135, 3) := by decide +kernel
theorem dX8_counted_83 : decode cX8_counted 83 = .ok (.ireturn, 1) := by decide +kernel
theorem dX8_counted_84 : decode cX8_counted 84 = .ok (.aload_n 0, 1) := by decide +kernel
theorem dX8_counted_85 : decode cX8_counted 85 = .ok (.getfield 10, 3) := by decide +kernel
theorem dX8_counted_88 : decode cX8_counted 88 = .ok (.getfield 274, 3) := by decide +kernel
theorem dX8_counted_91 : decode cX8_counted 91 = .ok (.invokestatic 184, 3) := by decide +kernel
theorem dX8_counted_94 : decode cX8_counted 94 = .ok (.ireturn, 1) := by decide +kernel
theorem dX8_counted_95 : decode cX8_counted 95 = .ok (.aload_n 0, 1) := by decide +kernel
theorem dX8_counted_96 : decode cX8_counted 96 = .ok (.getfield 10, 3) := by decide +kernel
theorem dX8_counted_99 : decode cX8_counted 99 = .ok (.getfield 277, 3) := by decide +kernel
theorem dX8_counted_102 : decode cX8_counted 102 = .ok (.ireturn, 1) := by decide +kernel
theorem dX8_counted_103 : decode cX8_counted 103 = .ok (.aload_n 0, 1) := by decide +kernel
theorem dX8_counted_104 : decode cX8_counted 104 = .ok (.getfield 10, 3) := by decide +kernel
theorem dX8_counted_107 : decode cX8_counted 107 = .ok (.getfield 192, 3) := by decide +kernel
theorem dX8_counted_110 : decode cX8_counted 110 = .ok (.getfield 280, 3) := by decide +kernel
theorem dX8_counted_113 : decode cX8_counted 113 = .ok (.ireturn, 1) := by decide +kernel
theorem dX8_counted_114 : decode cX8_counted 114 = .ok (.aload_n 0, 1) := by decide +kernel
theorem dX8_counted_115 : decode cX8_counted 115 = .ok (.getfield 10, 3) := by decide +kernel
theorem dX8_counted_118 : decode cX8_counted 118 = .ok (.getfield 202, 3) := by decide +kernel
theorem dX8_counted_121 : decode cX8_counted 121 = .ok (.getfield 280, 3) := by decide +kernel
theorem dX8_counted_124 : decode cX8_counted 124 = .ok (.ireturn, 1) := by decide +kernel
theorem dX8_counted_125 : decode cX8_counted 125 = .ok (.aload_n 0, 1) := by decide +kernel
theorem dX8_counted_126 : decode cX8_counted 126 = .ok (.getfield 10, 3) := by decide +kernel
theorem dX8_counted_129 : decode cX8_counted 129 = .ok (.getfield 71, 3) := by decide +kernel
theorem dX8_counted_132 : decode cX8_counted 132 = .ok (.getfield 283, 3) := by decide +kernel
theorem dX8_counted_135 : decode cX8_counted 135 = .ok (.ireturn, 1) := by decide +kernel
theorem dX8_counted_136 : decode cX8_counted 136 = .ok (.aload_n 0, 1) := by decide +kernel
theorem dX8_counted_137 : decode cX8_counted 137 = .ok (.getfield 30, 3) := by decide +kernel
theorem dX8_counted_140 : decode cX8_counted 140 = .ok (.getfield 286, 3) := by decide +kernel
theorem dX8_counted_143 : decode cX8_counted 143 = .ok (.ireturn, 1) := by decide +kernel
theorem dX8_digest_0 : decode cX8_digest 0 = .ok (.ldc2_w 266, 3) := by decide +kernel
theorem dX8_digest_3 : decode cX8_digest 3 = .ok (.lstore_n 1, 1) := by decide +kernel
theorem dX8_digest_4 : decode cX8_digest 4 = .ok (.iconst 0, 1) := by decide +kernel
theorem dX8_digest_5 : decode cX8_digest 5 = .ok (.istore_n 3, 1) := by decide +kernel
theorem dX8_digest_6 : decode cX8_digest 6 = .ok (.iload_n 3, 1) := by decide +kernel
theorem dX8_digest_7 : decode cX8_digest 7 = .ok (.bipush 9, 2) := by decide +kernel
theorem dX8_digest_9 : decode cX8_digest 9 = .ok (.if_icmp .gt 22, 3) := by decide +kernel
theorem dX8_digest_12 : decode cX8_digest 12 = .ok (.ldc2_w 268, 3) := by decide +kernel
theorem dX8_digest_15 : decode cX8_digest 15 = .ok (.lload_n 1, 1) := by decide +kernel
theorem dX8_digest_16 : decode cX8_digest 16 = .ok (.lmul, 1) := by decide +kernel
theorem dX8_digest_17 : decode cX8_digest 17 = .ok (.aload_n 0, 1) := by decide +kernel
theorem dX8_digest_18 : decode cX8_digest 18 = .ok (.iload_n 3, 1) := by decide +kernel
theorem dX8_digest_19 : decode cX8_digest 19 = .ok (.invokevirtual 263, 3) := by decide +kernel
theorem dX8_digest_22 : decode cX8_digest 22 = .ok (.i2l, 1) := by decide +kernel
theorem dX8_digest_23 : decode cX8_digest 23 = .ok (.ladd, 1) := by decide +kernel
theorem dX8_digest_24 : decode cX8_digest 24 = .ok (.lstore_n 1, 1) := by decide +kernel
theorem dX8_digest_25 : decode cX8_digest 25 = .ok (.iinc 3 1, 3) := by decide +kernel
theorem dX8_digest_28 : decode cX8_digest 28 = .ok (.goto (-22), 3) := by decide +kernel
theorem dX8_digest_31 : decode cX8_digest 31 = .ok (.aload_n 0, 1) := by decide +kernel
theorem dX8_digest_32 : decode cX8_digest 32 = .ok (.getfield 10, 3) := by decide +kernel
theorem dX8_digest_35 : decode cX8_digest 35 = .ok (.lload_n 1, 1) := by decide +kernel
theorem dX8_digest_36 : decode cX8_digest 36 = .ok (.invokevirtual 270, 3) := by decide +kernel
theorem dX8_digest_39 : decode cX8_digest 39 = .ok (.lstore_n 1, 1) := by decide +kernel
theorem dX8_digest_40 : decode cX8_digest 40 = .ok (.ldc2_w 268, 3) := by decide +kernel
theorem dX8_digest_43 : decode cX8_digest 43 = .ok (.lload_n 1, 1) := by decide +kernel
theorem dX8_digest_44 : decode cX8_digest 44 = .ok (.lmul, 1) := by decide +kernel
theorem dX8_digest_45 : decode cX8_digest 45 = .ok (.aload_n 0, 1) := by decide +kernel
theorem dX8_digest_46 : decode cX8_digest 46 = .ok (.getfield 48, 3) := by decide +kernel
theorem dX8_digest_49 : decode cX8_digest 49 = .ok (.ladd, 1) := by decide +kernel
theorem dX8_digest_50 : decode cX8_digest 50 = .ok (.lstore_n 1, 1) := by decide +kernel
theorem dX8_digest_51 : decode cX8_digest 51 = .ok (.ldc2_w 268, 3) := by decide +kernel
theorem dX8_digest_54 : decode cX8_digest 54 = .ok (.lload_n 1, 1) := by decide +kernel
theorem dX8_digest_55 : decode cX8_digest 55 = .ok (.lmul, 1) := by decide +kernel
theorem dX8_digest_56 : decode cX8_digest 56 = .ok (.aload_n 0, 1) := by decide +kernel
theorem dX8_digest_57 : decode cX8_digest 57 = .ok (.getfield 52, 3) := by decide +kernel
theorem dX8_digest_60 : decode cX8_digest 60 = .ok (.ladd, 1) := by decide +kernel
theorem dX8_digest_61 : decode cX8_digest 61 = .ok (.lreturn, 1) := by decide +kernel
theorem dX8_few_0 : decode cX8_few 0 = .ok (.aload_n 0, 1) := by decide +kernel
theorem dX8_few_1 : decode cX8_few 1 = .ok (.getfield 10, 3) := by decide +kernel
theorem dX8_few_4 : decode cX8_few 4 = .ok (.iload_n 1, 1) := by decide +kernel
theorem dX8_few_5 : decode cX8_few 5 = .ok (.invokevirtual 112, 3) := by decide +kernel
theorem dX8_few_8 : decode cX8_few 8 = .ok (.ifCond .eq 32, 3) := by decide +kernel
theorem dX8_few_40 : decode cX8_few 40 = .ok (.aload_n 0, 1) := by decide +kernel
theorem dX8_few_41 : decode cX8_few 41 = .ok (.bipush (-2), 2) := by decide +kernel
theorem dX8_few_43 : decode cX8_few 43 = .ok (.invokevirtual 59, 3) := by decide +kernel
theorem dX8_few_46 : decode cX8_few 46 = .ok (.ireturn, 1) := by decide +kernel
theorem dX8_forget_0 : decode cX8_forget 0 = .ok (.iload_n 1, 1) := by decide +kernel
theorem dX8_forget_1 : decode cX8_forget 1 = .ok (.lookupswitch 49 #[(0, 27), (1, 38)], 27) := by decide +kernel
theorem dX8_forget_28 : decode cX8_forget 28 = .ok (.aload_n 0, 1) := by decide +kernel
theorem dX8_forget_29 : decode cX8_forget 29 = .ok (.getfield 10, 3) := by decide +kernel
theorem dX8_forget_32 : decode cX8_forget 32 = .ok (.getfield 192, 3) := by decide +kernel
theorem dX8_forget_35 : decode cX8_forget 35 = .ok (.invokevirtual 205, 3) := by decide +kernel
theorem dX8_forget_38 : decode cX8_forget 38 = .ok (.ireturn, 1) := by decide +kernel
theorem dX8_forget_39 : decode cX8_forget 39 = .ok (.aload_n 0, 1) := by decide +kernel
theorem dX8_forget_40 : decode cX8_forget 40 = .ok (.getfield 10, 3) := by decide +kernel
theorem dX8_forget_43 : decode cX8_forget 43 = .ok (.getfield 202, 3) := by decide +kernel
theorem dX8_forget_46 : decode cX8_forget 46 = .ok (.invokevirtual 205, 3) := by decide +kernel
theorem dX8_forget_49 : decode cX8_forget 49 = .ok (.ireturn, 1) := by decide +kernel
theorem dX8_forget_50 : decode cX8_forget 50 = .ok (.aload_n 0, 1) := by decide +kernel
theorem dX8_forget_51 : decode cX8_forget 51 = .ok (.bipush (-2), 2) := by decide +kernel
theorem dX8_forget_53 : decode cX8_forget 53 = .ok (.invokevirtual 59, 3) := by decide +kernel
theorem dX8_forget_56 : decode cX8_forget 56 = .ok (.ireturn, 1) := by decide +kernel
theorem dX8_from_0 : decode cX8_from 0 = .ok (.iload_n 1, 1) := by decide +kernel
theorem dX8_from_1 : decode cX8_from 1 = .ok (.iconst 0, 1) := by decide +kernel
theorem dX8_from_2 : decode cX8_from 2 = .ok (.iconst 1, 1) := by decide +kernel
theorem dX8_from_3 : decode cX8_from 3 = .ok (.invokestatic 55, 3) := by decide +kernel
theorem dX8_from_6 : decode cX8_from 6 = .ok (.ifCond .ne 10, 3) := by decide +kernel
theorem dX8_from_9 : decode cX8_from 9 = .ok (.aload_n 0, 1) := by decide +kernel
theorem dX8_from_10 : decode cX8_from 10 = .ok (.bipush (-2), 2) := by decide +kernel
theorem dX8_from_12 : decode cX8_from 12 = .ok (.invokevirtual 59, 3) := by decide +kernel
theorem dX8_from_15 : decode cX8_from 15 = .ok (.ireturn, 1) := by decide +kernel
theorem dX8_from_16 : decode cX8_from 16 = .ok (.aload_n 0, 1) := by decide +kernel
theorem dX8_from_17 : decode cX8_from 17 = .ok (.getfield 23, 3) := by decide +kernel
theorem dX8_from_20 : decode cX8_from 20 = .ok (.iload_n 1, 1) := by decide +kernel
theorem dX8_from_21 : decode cX8_from 21 = .ok (.baload, 1) := by decide +kernel
theorem dX8_from_22 : decode cX8_from 22 = .ok (.ifCond .ne 10, 3) := by decide +kernel
theorem dX8_from_25 : decode cX8_from 25 = .ok (.aload_n 0, 1) := by decide +kernel
theorem dX8_from_26 : decode cX8_from 26 = .ok (.bipush (-3), 2) := by decide +kernel
theorem dX8_from_28 : decode cX8_from 28 = .ok (.invokevirtual 59, 3) := by decide +kernel
theorem dX8_from_31 : decode cX8_from 31 = .ok (.ireturn, 1) := by decide +kernel
theorem dX8_gives_0 : decode cX8_gives 0 = .ok (.aload_n 0, 1) := by decide +kernel
theorem dX8_gives_1 : decode cX8_gives 1 = .ok (.getfield 10, 3) := by decide +kernel
theorem dX8_gives_4 : decode cX8_gives 4 = .ok (.iload_n 1, 1) := by decide +kernel
theorem dX8_gives_5 : decode cX8_gives 5 = .ok (.invokevirtual 108, 3) := by decide +kernel
theorem dX8_gives_8 : decode cX8_gives 8 = .ok (.ifCond .eq 13, 3) := by decide +kernel
theorem dX8_gives_21 : decode cX8_gives 21 = .ok (.aload_n 0, 1) := by decide +kernel
theorem dX8_gives_22 : decode cX8_gives 22 = .ok (.bipush (-2), 2) := by decide +kernel
theorem dX8_gives_24 : decode cX8_gives 24 = .ok (.invokevirtual 59, 3) := by decide +kernel
theorem dX8_gives_27 : decode cX8_gives 27 = .ok (.ireturn, 1) := by decide +kernel
theorem dX8_gone_0 : decode cX8_gone 0 = .ok (.aload_n 0, 1) := by decide +kernel
theorem dX8_gone_1 : decode cX8_gone 1 = .ok (.getfield 10, 3) := by decide +kernel
theorem dX8_gone_4 : decode cX8_gone 4 = .ok (.iload_n 1, 1) := by decide +kernel
theorem dX8_gone_5 : decode cX8_gone 5 = .ok (.invokevirtual 112, 3) := by decide +kernel
theorem dX8_gone_8 : decode cX8_gone 8 = .ok (.ifCond .ne 10, 3) := by decide +kernel
theorem dX8_gone_11 : decode cX8_gone 11 = .ok (.aload_n 0, 1) := by decide +kernel
theorem dX8_gone_12 : decode cX8_gone 12 = .ok (.bipush (-2), 2) := by decide +kernel
theorem dX8_gone_14 : decode cX8_gone 14 = .ok (.invokevirtual 59, 3) := by decide +kernel
theorem dX8_gone_17 : decode cX8_gone 17 = .ok (.ireturn, 1) := by decide +kernel
theorem dX8_hours_0 : decode cX8_hours 0 = .ok (.iload_n 1, 1) := by decide +kernel
theorem dX8_hours_1 : decode cX8_hours 1 = .ok (.iconst 1, 1) := by decide +kernel
theorem dX8_hours_2 : decode cX8_hours 2 = .ok (.bipush 60, 2) := by decide +kernel
theorem dX8_hours_4 : decode cX8_hours 4 = .ok (.invokestatic 55, 3) := by decide +kernel
theorem dX8_hours_7 : decode cX8_hours 7 = .ok (.ifCond .ne 10, 3) := by decide +kernel
theorem dX8_hours_10 : decode cX8_hours 10 = .ok (.aload_n 0, 1) := by decide +kernel
theorem dX8_hours_11 : decode cX8_hours 11 = .ok (.bipush (-2), 2) := by decide +kernel
theorem dX8_hours_13 : decode cX8_hours 13 = .ok (.invokevirtual 59, 3) := by decide +kernel
theorem dX8_hours_16 : decode cX8_hours 16 = .ok (.ireturn, 1) := by decide +kernel
theorem dX8_hours_17 : decode cX8_hours 17 = .ok (.aload_n 0, 1) := by decide +kernel
theorem dX8_hours_18 : decode cX8_hours 18 = .ok (.getfield 10, 3) := by decide +kernel
theorem dX8_hours_21 : decode cX8_hours 21 = .ok (.getfield 135, 3) := by decide +kernel
theorem dX8_hours_24 : decode cX8_hours 24 = .ok (.sipush 9999, 3) := by decide +kernel
theorem dX8_hours_27 : decode cX8_hours 27 = .ok (.if_icmp .ge 25, 3) := by decide +kernel
theorem dX8_hours_30 : decode cX8_hours 30 = .ok (.aload_n 0, 1) := by decide +kernel
theorem dX8_hours_31 : decode cX8_hours 31 = .ok (.getfield 10, 3) := by decide +kernel
theorem dX8_hours_34 : decode cX8_hours 34 = .ok (.getfield 71, 3) := by decide +kernel
theorem dX8_hours_37 : decode cX8_hours 37 = .ok (.aload_n 0, 1) := by decide +kernel
theorem dX8_hours_38 : decode cX8_hours 38 = .ok (.getfield 10, 3) := by decide +kernel
theorem dX8_hours_41 : decode cX8_hours 41 = .ok (.invokevirtual 118, 3) := by decide +kernel
theorem dX8_hours_44 : decode cX8_hours 44 = .ok (.aload_n 0, 1) := by decide +kernel
theorem dX8_hours_45 : decode cX8_hours 45 = .ok (.getfield 10, 3) := by decide +kernel
theorem dX8_hours_48 : decode cX8_hours 48 = .ok (.iload_n 1, 1) := by decide +kernel
theorem dX8_hours_49 : decode cX8_hours 49 = .ok (.invokevirtual 138, 3) := by decide +kernel
theorem dX8_hours_52 : decode cX8_hours 52 = .ok (.aload_n 0, 1) := by decide +kernel
theorem dX8_hours_53 : decode cX8_hours 53 = .ok (.getfield 10, 3) := by decide +kernel
theorem dX8_hours_56 : decode cX8_hours 56 = .ok (.getfield 135, 3) := by decide +kernel
theorem dX8_hours_59 : decode cX8_hours 59 = .ok (.ireturn, 1) := by decide +kernel
theorem dX8_image_0 : decode cX8_image 0 = .ok (.iload_n 1, 1) := by decide +kernel
theorem dX8_image_1 : decode cX8_image 1 = .ok (.iconst 0, 1) := by decide +kernel
theorem dX8_image_2 : decode cX8_image 2 = .ok (.iconst 1, 1) := by decide +kernel
theorem dX8_image_3 : decode cX8_image 3 = .ok (.invokestatic 55, 3) := by decide +kernel
theorem dX8_image_6 : decode cX8_image 6 = .ok (.ifCond .ne 10, 3) := by decide +kernel
theorem dX8_image_9 : decode cX8_image 9 = .ok (.aload_n 0, 1) := by decide +kernel
theorem dX8_image_10 : decode cX8_image 10 = .ok (.bipush (-2), 2) := by decide +kernel
theorem dX8_image_12 : decode cX8_image 12 = .ok (.invokevirtual 59, 3) := by decide +kernel
theorem dX8_image_15 : decode cX8_image 15 = .ok (.ireturn, 1) := by decide +kernel
theorem dX8_image_16 : decode cX8_image 16 = .ok (.aload_n 0, 1) := by decide +kernel
theorem dX8_image_17 : decode cX8_image 17 = .ok (.getfield 19, 3) := by decide +kernel
theorem dX8_image_20 : decode cX8_image 20 = .ok (.iload_n 1, 1) := by decide +kernel
theorem dX8_image_21 : decode cX8_image 21 = .ok (.aaload, 1) := by decide +kernel
theorem dX8_image_22 : decode cX8_image 22 = .ok (.aload_n 0, 1) := by decide +kernel
theorem dX8_image_23 : decode cX8_image 23 = .ok (.getfield 10, 3) := by decide +kernel
theorem dX8_image_26 : decode cX8_image 26 = .ok (.invokevirtual 104, 3) := by decide +kernel
theorem dX8_image_29 : decode cX8_image 29 = .ok (.aload_n 0, 1) := by decide +kernel
theorem dX8_image_30 : decode cX8_image 30 = .ok (.getfield 23, 3) := by decide +kernel
theorem dX8_image_33 : decode cX8_image 33 = .ok (.iload_n 1, 1) := by decide +kernel
theorem dX8_image_34 : decode cX8_image 34 = .ok (.iconst 1, 1) := by decide +kernel
theorem dX8_image_35 : decode cX8_image 35 = .ok (.bastore, 1) := by decide +kernel
theorem dX8_image_36 : decode cX8_image 36 = .ok (.iconst 1, 1) := by decide +kernel
theorem dX8_image_37 : decode cX8_image 37 = .ok (.ireturn, 1) := by decide +kernel
theorem dX8_into_0 : decode cX8_into 0 = .ok (.aload_n 0, 1) := by decide +kernel
theorem dX8_into_1 : decode cX8_into 1 = .ok (.getfield 10, 3) := by decide +kernel
theorem dX8_into_4 : decode cX8_into 4 = .ok (.iload_n 1, 1) := by decide +kernel
theorem dX8_into_5 : decode cX8_into 5 = .ok (.invokevirtual 112, 3) := by decide +kernel
theorem dX8_into_8 : decode cX8_into 8 = .ok (.ifCond .eq 22, 3) := by decide +kernel
theorem dX8_into_30 : decode cX8_into 30 = .ok (.aload_n 0, 1) := by decide +kernel
theorem dX8_into_31 : decode cX8_into 31 = .ok (.bipush (-2), 2) := by decide +kernel
theorem dX8_into_33 : decode cX8_into 33 = .ok (.invokevirtual 59, 3) := by decide +kernel
theorem dX8_into_36 : decode cX8_into 36 = .ok (.ireturn, 1) := by decide +kernel
theorem dX8_is_0 : decode cX8_is 0 = .ok (.aload_n 0, 1) := by decide +kernel
theorem dX8_is_1 : decode cX8_is 1 = .ok (.getfield 10, 3) := by decide +kernel
theorem dX8_is_4 : decode cX8_is 4 = .ok (.iload_n 1, 1) := by decide +kernel
theorem dX8_is_5 : decode cX8_is 5 = .ok (.invokevirtual 108, 3) := by decide +kernel
theorem dX8_is_8 : decode cX8_is 8 = .ok (.ifCond .ne 10, 3) := by decide +kernel
theorem dX8_is_11 : decode cX8_is 11 = .ok (.aload_n 0, 1) := by decide +kernel
theorem dX8_is_12 : decode cX8_is 12 = .ok (.bipush (-2), 2) := by decide +kernel
theorem dX8_is_14 : decode cX8_is 14 = .ok (.invokevirtual 59, 3) := by decide +kernel
theorem dX8_is_17 : decode cX8_is 17 = .ok (.ireturn, 1) := by decide +kernel
theorem dX8_island_0 : decode cX8_island 0 = .ok (.iload_n 1, 1) := by decide +kernel
theorem dX8_island_1 : decode cX8_island 1 = .ok (.iconst 0, 1) := by decide +kernel
theorem dX8_island_2 : decode cX8_island 2 = .ok (.bipush 99, 2) := by decide +kernel
theorem dX8_island_4 : decode cX8_island 4 = .ok (.invokestatic 55, 3) := by decide +kernel
theorem dX8_island_7 : decode cX8_island 7 = .ok (.ifCond .ne 10, 3) := by decide +kernel
theorem dX8_island_10 : decode cX8_island 10 = .ok (.aload_n 0, 1) := by decide +kernel
theorem dX8_island_11 : decode cX8_island 11 = .ok (.bipush (-2), 2) := by decide +kernel
theorem dX8_island_13 : decode cX8_island 13 = .ok (.invokevirtual 59, 3) := by decide +kernel
theorem dX8_island_16 : decode cX8_island 16 = .ok (.ireturn, 1) := by decide +kernel
theorem dX8_island_17 : decode cX8_island 17 = .ok (.aload_n 0, 1) := by decide +kernel
theorem dX8_island_18 : decode cX8_island 18 = .ok (.getfield 10, 3) := by decide +kernel
theorem dX8_island_21 : decode cX8_island 21 = .ok (.getfield 63, 3) := by decide +kernel
theorem dX8_island_24 : decode cX8_island 24 = .ok (.istore_n 2, 1) := by decide +kernel
theorem dX8_island_25 : decode cX8_island 25 = .ok (.aload_n 0, 1) := by decide +kernel
theorem dX8_island_26 : decode cX8_island 26 = .ok (.getfield 10, 3) := by decide +kernel
theorem dX8_island_29 : decode cX8_island 29 = .ok (.iload_n 1, 1) := by decide +kernel
theorem dX8_island_30 : decode cX8_island 30 = .ok (.invokevirtual 67, 3) := by decide +kernel
theorem dX8_island_33 : decode cX8_island 33 = .ok (.iload_n 2, 1) := by decide +kernel
theorem dX8_island_34 : decode cX8_island 34 = .ok (.ireturn, 1) := by decide +kernel
theorem dX8_jar_0 : decode cX8_jar 0 = .ok (.iload_n 1, 1) := by decide +kernel
theorem dX8_jar_1 : decode cX8_jar 1 = .ok (.iconst 0, 1) := by decide +kernel
theorem dX8_jar_2 : decode cX8_jar 2 = .ok (.iconst 5, 1) := by decide +kernel
theorem dX8_jar_3 : decode cX8_jar 3 = .ok (.invokestatic 55, 3) := by decide +kernel
theorem dX8_jar_6 : decode cX8_jar 6 = .ok (.ifCond .ne 10, 3) := by decide +kernel
theorem dX8_jar_9 : decode cX8_jar 9 = .ok (.aload_n 0, 1) := by decide +kernel
theorem dX8_jar_10 : decode cX8_jar 10 = .ok (.bipush (-2), 2) := by decide +kernel
theorem dX8_jar_12 : decode cX8_jar 12 = .ok (.invokevirtual 59, 3) := by decide +kernel
theorem dX8_jar_15 : decode cX8_jar 15 = .ok (.ireturn, 1) := by decide +kernel
theorem dX8_jar_16 : decode cX8_jar 16 = .ok (.aload_n 0, 1) := by decide +kernel
theorem dX8_jar_17 : decode cX8_jar 17 = .ok (.getfield 10, 3) := by decide +kernel
theorem dX8_jar_20 : decode cX8_jar 20 = .ok (.getfield 84, 3) := by decide +kernel
theorem dX8_jar_23 : decode cX8_jar 23 = .ok (.iconst 4, 1) := by decide +kernel
theorem dX8_jar_24 : decode cX8_jar 24 = .ok (.if_icmp .lt 10, 3) := by decide +kernel
theorem dX8_jar_34 : decode cX8_jar 34 = .ok (.aload_n 0, 1) := by decide +kernel
theorem dX8_jar_35 : decode cX8_jar 35 = .ok (.getfield 10, 3) := by decide +kernel
theorem dX8_jar_38 : decode cX8_jar 38 = .ok (.getfield 71, 3) := by decide +kernel
theorem dX8_jar_41 : decode cX8_jar 41 = .ok (.invokevirtual 75, 3) := by decide +kernel
theorem dX8_jar_44 : decode cX8_jar 44 = .ok (.aload_n 0, 1) := by decide +kernel
theorem dX8_jar_45 : decode cX8_jar 45 = .ok (.getfield 10, 3) := by decide +kernel
theorem dX8_jar_48 : decode cX8_jar 48 = .ok (.iload_n 1, 1) := by decide +kernel
theorem dX8_jar_49 : decode cX8_jar 49 = .ok (.invokevirtual 87, 3) := by decide +kernel
theorem dX8_jar_52 : decode cX8_jar 52 = .ok (.ireturn, 1) := by decide +kernel
theorem dX8_keeps_0 : decode cX8_keeps 0 = .ok (.aload_n 0, 1) := by decide +kernel
theorem dX8_keeps_1 : decode cX8_keeps 1 = .ok (.getfield 10, 3) := by decide +kernel
theorem dX8_keeps_4 : decode cX8_keeps 4 = .ok (.iload_n 1, 1) := by decide +kernel
theorem dX8_keeps_5 : decode cX8_keeps 5 = .ok (.invokevirtual 112, 3) := by decide +kernel
theorem dX8_keeps_8 : decode cX8_keeps 8 = .ok (.ifCond .eq 13, 3) := by decide +kernel
theorem dX8_keeps_21 : decode cX8_keeps 21 = .ok (.aload_n 0, 1) := by decide +kernel
theorem dX8_keeps_22 : decode cX8_keeps 22 = .ok (.bipush (-2), 2) := by decide +kernel
theorem dX8_keeps_24 : decode cX8_keeps 24 = .ok (.invokevirtual 59, 3) := by decide +kernel
theorem dX8_keeps_27 : decode cX8_keeps 27 = .ok (.ireturn, 1) := by decide +kernel
theorem dX8_kinds_0 : decode cX8_kinds 0 = .ok (.aload_n 0, 1) := by decide +kernel
theorem dX8_kinds_1 : decode cX8_kinds 1 = .ok (.getfield 10, 3) := by decide +kernel
theorem dX8_kinds_4 : decode cX8_kinds 4 = .ok (.iload_n 1, 1) := by decide +kernel
theorem dX8_kinds_5 : decode cX8_kinds 5 = .ok (.invokevirtual 112, 3) := by decide +kernel
theorem dX8_kinds_8 : decode cX8_kinds 8 = .ok (.ifCond .ne 10, 3) := by decide +kernel
theorem dX8_kinds_11 : decode cX8_kinds 11 = .ok (.aload_n 0, 1) := by decide +kernel
theorem dX8_kinds_12 : decode cX8_kinds 12 = .ok (.bipush (-2), 2) := by decide +kernel
theorem dX8_kinds_14 : decode cX8_kinds 14 = .ok (.invokevirtual 59, 3) := by decide +kernel
theorem dX8_kinds_17 : decode cX8_kinds 17 = .ok (.ireturn, 1) := by decide +kernel
theorem dX8_ladle_0 : decode cX8_ladle 0 = .ok (.aload_n 0, 1) := by decide +kernel
theorem dX8_ladle_1 : decode cX8_ladle 1 = .ok (.getfield 10, 3) := by decide +kernel
theorem dX8_ladle_4 : decode cX8_ladle 4 = .ok (.iload_n 1, 1) := by decide +kernel
theorem dX8_ladle_5 : decode cX8_ladle 5 = .ok (.invokevirtual 108, 3) := by decide +kernel
theorem dX8_ladle_8 : decode cX8_ladle 8 = .ok (.ifCond .eq 14, 3) := by decide +kernel
theorem dX8_ladle_22 : decode cX8_ladle 22 = .ok (.aload_n 0, 1) := by decide +kernel
theorem dX8_ladle_23 : decode cX8_ladle 23 = .ok (.bipush (-2), 2) := by decide +kernel
theorem dX8_ladle_25 : decode cX8_ladle 25 = .ok (.invokevirtual 59, 3) := by decide +kernel
theorem dX8_ladle_28 : decode cX8_ladle 28 = .ok (.ireturn, 1) := by decide +kernel
theorem dX8_look_0 : decode cX8_look 0 = .ok (.aload_n 0, 1) := by decide +kernel
theorem dX8_look_1 : decode cX8_look 1 = .ok (.getfield 10, 3) := by decide +kernel
theorem dX8_look_4 : decode cX8_look 4 = .ok (.iload_n 1, 1) := by decide +kernel
theorem dX8_look_5 : decode cX8_look 5 = .ok (.invokevirtual 108, 3) := by decide +kernel
theorem dX8_look_8 : decode cX8_look 8 = .ok (.ifCond .ne 10, 3) := by decide +kernel
theorem dX8_look_11 : decode cX8_look 11 = .ok (.aload_n 0, 1) := by decide +kernel
theorem dX8_look_12 : decode cX8_look 12 = .ok (.bipush (-2), 2) := by decide +kernel
theorem dX8_look_14 : decode cX8_look 14 = .ok (.invokevirtual 59, 3) := by decide +kernel
theorem dX8_look_17 : decode cX8_look 17 = .ok (.ireturn, 1) := by decide +kernel
theorem dX8_mark_0 : decode cX8_mark 0 = .ok (.aload_n 0, 1) := by decide +kernel
theorem dX8_mark_1 : decode cX8_mark 1 = .ok (.getfield 10, 3) := by decide +kernel
theorem dX8_mark_4 : decode cX8_mark 4 = .ok (.iload_n 1, 1) := by decide +kernel
theorem dX8_mark_5 : decode cX8_mark 5 = .ok (.invokevirtual 112, 3) := by decide +kernel
theorem dX8_mark_8 : decode cX8_mark 8 = .ok (.ifCond .eq 34, 3) := by decide +kernel
theorem dX8_mark_42 : decode cX8_mark 42 = .ok (.aload_n 0, 1) := by decide +kernel
theorem dX8_mark_43 : decode cX8_mark 43 = .ok (.bipush (-2), 2) := by decide +kernel
theorem dX8_mark_45 : decode cX8_mark 45 = .ok (.invokevirtual 59, 3) := by decide +kernel
theorem dX8_mark_48 : decode cX8_mark 48 = .ok (.ireturn, 1) := by decide +kernel
theorem dX8_noons_0 : decode cX8_noons 0 = .ok (.iload_n 1, 1) := by decide +kernel
theorem dX8_noons_1 : decode cX8_noons 1 = .ok (.iconst 0, 1) := by decide +kernel
theorem dX8_noons_2 : decode cX8_noons 2 = .ok (.ldc 229, 2) := by decide +kernel
theorem dX8_noons_4 : decode cX8_noons 4 = .ok (.invokestatic 55, 3) := by decide +kernel
theorem dX8_noons_7 : decode cX8_noons 7 = .ok (.ifCond .eq 13, 3) := by decide +kernel
theorem dX8_noons_10 : decode cX8_noons 10 = .ok (.iload_n 2, 1) := by decide +kernel
theorem dX8_noons_11 : decode cX8_noons 11 = .ok (.iconst 0, 1) := by decide +kernel
theorem dX8_noons_12 : decode cX8_noons 12 = .ok (.bipush 60, 2) := by decide +kernel
theorem dX8_noons_14 : decode cX8_noons 14 = .ok (.invokestatic 55, 3) := by decide +kernel
theorem dX8_noons_17 : decode cX8_noons 17 = .ok (.ifCond .ne 10, 3) := by decide +kernel
theorem dX8_noons_20 : decode cX8_noons 20 = .ok (.aload_n 0, 1) := by decide +kernel
theorem dX8_noons_21 : decode cX8_noons 21 = .ok (.bipush (-2), 2) := by decide +kernel
theorem dX8_noons_23 : decode cX8_noons 23 = .ok (.invokevirtual 59, 3) := by decide +kernel
theorem dX8_noons_26 : decode cX8_noons 26 = .ok (.ireturn, 1) := by decide +kernel
theorem dX8_noons_27 : decode cX8_noons 27 = .ok (.aload_n 0, 1) := by decide +kernel
theorem dX8_noons_28 : decode cX8_noons 28 = .ok (.getfield 16, 3) := by decide +kernel
theorem dX8_noons_31 : decode cX8_noons 31 = .ok (.aload_n 0, 1) := by decide +kernel
theorem dX8_noons_32 : decode cX8_noons 32 = .ok (.getfield 10, 3) := by decide +kernel
theorem dX8_noons_35 : decode cX8_noons 35 = .ok (.invokevirtual 104, 3) := by decide +kernel
theorem dX8_noons_38 : decode cX8_noons 38 = .ok (.iload_n 1, 1) := by decide +kernel
theorem dX8_noons_39 : decode cX8_noons 39 = .ok (.i2l, 1) := by decide +kernel
theorem dX8_noons_40 : decode cX8_noons 40 = .ok (.lstore_n 3, 1) := by decide +kernel
theorem dX8_noons_41 : decode cX8_noons 41 = .ok (.iconst 0, 1) := by decide +kernel
theorem dX8_noons_42 : decode cX8_noons 42 = .ok (.istore 5, 2) := by decide +kernel
theorem dX8_noons_44 : decode cX8_noons 44 = .ok (.iload 5, 2) := by decide +kernel
theorem dX8_noons_46 : decode cX8_noons 46 = .ok (.iload_n 2, 1) := by decide +kernel
theorem dX8_noons_47 : decode cX8_noons 47 = .ok (.if_icmp .ge 116, 3) := by decide +kernel
theorem dX8_noons_50 : decode cX8_noons 50 = .ok (.lload_n 3, 1) := by decide +kernel
theorem dX8_noons_51 : decode cX8_noons 51 = .ok (.ldc2_w 230, 3) := by decide +kernel
theorem dX8_noons_54 : decode cX8_noons 54 = .ok (.lmul, 1) := by decide +kernel
theorem dX8_noons_55 : decode cX8_noons 55 = .ok (.ldc2_w 232, 3) := by decide +kernel
theorem dX8_noons_58 : decode cX8_noons 58 = .ok (.ladd, 1) := by decide +kernel
theorem dX8_noons_59 : decode cX8_noons 59 = .ok (.ldc2_w 234, 3) := by decide +kernel
theorem dX8_noons_62 : decode cX8_noons 62 = .ok (.lrem, 1) := by decide +kernel
theorem dX8_noons_63 : decode cX8_noons 63 = .ok (.lstore_n 3, 1) := by decide +kernel
theorem dX8_noons_64 : decode cX8_noons 64 = .ok (.lload_n 3, 1) := by decide +kernel
theorem dX8_noons_65 : decode cX8_noons 65 = .ok (.ldc2_w 236, 3) := by decide +kernel
theorem dX8_noons_68 : decode cX8_noons 68 = .ok (.ldiv, 1) := by decide +kernel
theorem dX8_noons_69 : decode cX8_noons 69 = .ok (.ldc2_w 238, 3) := by decide +kernel
theorem dX8_noons_72 : decode cX8_noons 72 = .ok (.lrem, 1) := by decide +kernel
theorem dX8_noons_73 : decode cX8_noons 73 = .ok (.l2i, 1) := by decide +kernel
theorem dX8_noons_74 : decode cX8_noons 74 = .ok (.istore 6, 2) := by decide +kernel
theorem dX8_noons_76 : decode cX8_noons 76 = .ok (.lload_n 3, 1) := by decide +kernel
theorem dX8_noons_77 : decode cX8_noons 77 = .ok (.ldc2_w 240, 3) := by decide +kernel
theorem dX8_noons_80 : decode cX8_noons 80 = .ok (.ldiv, 1) := by decide +kernel
theorem dX8_noons_81 : decode cX8_noons 81 = .ok (.ldc2_w 242, 3) := by decide +kernel
theorem dX8_noons_84 : decode cX8_noons 84 = .ok (.lrem, 1) := by decide +kernel
theorem dX8_noons_85 : decode cX8_noons 85 = .ok (.l2i, 1) := by decide +kernel
theorem dX8_noons_86 : decode cX8_noons 86 = .ok (.istore 7, 2) := by decide +kernel
theorem dX8_noons_88 : decode cX8_noons 88 = .ok (.aload_n 0, 1) := by decide +kernel
theorem dX8_noons_89 : decode cX8_noons 89 = .ok (.getfield 16, 3) := by decide +kernel
theorem dX8_noons_92 : decode cX8_noons 92 = .ok (.iload 6, 2) := by decide +kernel
theorem dX8_noons_94 : decode cX8_noons 94 = .ok (.invokevirtual 108, 3) := by decide +kernel
theorem dX8_noons_97 : decode cX8_noons 97 = .ok (.ifCond .eq 39, 3) := by decide +kernel
theorem dX8_noons_136 : decode cX8_noons 136 = .ok (.lload_n 3, 1) := by decide +kernel
theorem dX8_noons_137 : decode cX8_noons 137 = .ok (.ldc2_w 244, 3) := by decide +kernel
theorem dX8_noons_140 : decode cX8_noons 140 = .ok (.ldiv, 1) := by decide +kernel
theorem dX8_noons_141 : decode cX8_noons 141 = .ok (.ldc2_w 246, 3) := by decide +kernel
theorem dX8_noons_144 : decode cX8_noons 144 = .ok (.lrem, 1) := by decide +kernel
theorem dX8_noons_145 : decode cX8_noons 145 = .ok (.lconst 0, 1) := by decide +kernel
theorem dX8_noons_146 : decode cX8_noons 146 = .ok (.lcmp, 1) := by decide +kernel
theorem dX8_noons_147 : decode cX8_noons 147 = .ok (.ifCond .ne 10, 3) := by decide +kernel
theorem dX8_noons_150 : decode cX8_noons 150 = .ok (.aload_n 0, 1) := by decide +kernel
theorem dX8_noons_151 : decode cX8_noons 151 = .ok (.getfield 16, 3) := by decide +kernel
theorem dX8_noons_154 : decode cX8_noons 154 = .ok (.invokevirtual 248, 3) := by decide +kernel
theorem dX8_noons_157 : decode cX8_noons 157 = .ok (.iinc 5 1, 3) := by decide +kernel
theorem dX8_noons_160 : decode cX8_noons 160 = .ok (.goto (-116), 3) := by decide +kernel
theorem dX8_noons_163 : decode cX8_noons 163 = .ok (.aload_n 0, 1) := by decide +kernel
theorem dX8_noons_164 : decode cX8_noons 164 = .ok (.getfield 16, 3) := by decide +kernel
theorem dX8_noons_167 : decode cX8_noons 167 = .ok (.invokevirtual 251, 3) := by decide +kernel
theorem dX8_noons_170 : decode cX8_noons 170 = .ok (.ireturn, 1) := by decide +kernel
theorem dX8_note_0 : decode cX8_note 0 = .ok (.aload_n 0, 1) := by decide +kernel
theorem dX8_note_1 : decode cX8_note 1 = .ok (.getfield 10, 3) := by decide +kernel
theorem dX8_note_4 : decode cX8_note 4 = .ok (.iload_n 1, 1) := by decide +kernel
theorem dX8_note_5 : decode cX8_note 5 = .ok (.invokevirtual 108, 3) := by decide +kernel
theorem dX8_note_8 : decode cX8_note 8 = .ok (.ifCond .eq 34, 3) := by decide +kernel
theorem dX8_note_42 : decode cX8_note 42 = .ok (.aload_n 0, 1) := by decide +kernel
theorem dX8_note_43 : decode cX8_note 43 = .ok (.bipush (-2), 2) := by decide +kernel
theorem dX8_note_45 : decode cX8_note 45 = .ok (.invokevirtual 59, 3) := by decide +kernel
theorem dX8_note_48 : decode cX8_note 48 = .ok (.ireturn, 1) := by decide +kernel
theorem dX8_of_0 : decode cX8_of 0 = .ok (.aload_n 0, 1) := by decide +kernel
theorem dX8_of_1 : decode cX8_of 1 = .ok (.getfield 10, 3) := by decide +kernel
theorem dX8_of_4 : decode cX8_of 4 = .ok (.iload_n 1, 1) := by decide +kernel
theorem dX8_of_5 : decode cX8_of 5 = .ok (.invokevirtual 108, 3) := by decide +kernel
theorem dX8_of_8 : decode cX8_of 8 = .ok (.ifCond .ne 10, 3) := by decide +kernel
theorem dX8_of_11 : decode cX8_of 11 = .ok (.aload_n 0, 1) := by decide +kernel
theorem dX8_of_12 : decode cX8_of 12 = .ok (.bipush (-2), 2) := by decide +kernel
theorem dX8_of_14 : decode cX8_of 14 = .ok (.invokevirtual 59, 3) := by decide +kernel
theorem dX8_of_17 : decode cX8_of 17 = .ok (.ireturn, 1) := by decide +kernel
theorem dX8_part_0 : decode cX8_part 0 = .ok (.iload_n 1, 1) := by decide +kernel
theorem dX8_part_1 : decode cX8_part 1 = .ok (.lookupswitch 37 #[(0, 27), (1, 32)], 27) := by decide +kernel
theorem dX8_part_28 : decode cX8_part 28 = .ok (.aload_n 0, 1) := by decide +kernel
theorem dX8_part_29 : decode cX8_part 29 = .ok (.getfield 48, 3) := by decide +kernel
theorem dX8_part_32 : decode cX8_part 32 = .ok (.lreturn, 1) := by decide +kernel
theorem dX8_part_33 : decode cX8_part 33 = .ok (.aload_n 0, 1) := by decide +kernel
theorem dX8_part_34 : decode cX8_part 34 = .ok (.getfield 52, 3) := by decide +kernel
theorem dX8_part_37 : decode cX8_part 37 = .ok (.lreturn, 1) := by decide +kernel
theorem dX8_part_38 : decode cX8_part 38 = .ok (.aload_n 0, 1) := by decide +kernel
theorem dX8_part_39 : decode cX8_part 39 = .ok (.bipush (-2), 2) := by decide +kernel
theorem dX8_part_41 : decode cX8_part 41 = .ok (.invokevirtual 59, 3) := by decide +kernel
theorem dX8_part_44 : decode cX8_part 44 = .ok (.i2l, 1) := by decide +kernel
theorem dX8_part_45 : decode cX8_part 45 = .ok (.lreturn, 1) := by decide +kernel
theorem dX8_pours_0 : decode cX8_pours 0 = .ok (.aload_n 0, 1) := by decide +kernel
theorem dX8_pours_1 : decode cX8_pours 1 = .ok (.getfield 10, 3) := by decide +kernel
theorem dX8_pours_4 : decode cX8_pours 4 = .ok (.iload_n 1, 1) := by decide +kernel
theorem dX8_pours_5 : decode cX8_pours 5 = .ok (.invokevirtual 112, 3) := by decide +kernel
theorem dX8_pours_8 : decode cX8_pours 8 = .ok (.ifCond .eq 19, 3) := by decide +kernel
theorem dX8_pours_27 : decode cX8_pours 27 = .ok (.aload_n 0, 1) := by decide +kernel
theorem dX8_pours_28 : decode cX8_pours 28 = .ok (.bipush (-2), 2) := by decide +kernel
theorem dX8_pours_30 : decode cX8_pours 30 = .ok (.invokevirtual 59, 3) := by decide +kernel
theorem dX8_pours_33 : decode cX8_pours 33 = .ok (.ireturn, 1) := by decide +kernel
theorem dX8_read_0 : decode cX8_read 0 = .ok (.aload_n 0, 1) := by decide +kernel
theorem dX8_read_1 : decode cX8_read 1 = .ok (.getfield 30, 3) := by decide +kernel
theorem dX8_read_4 : decode cX8_read 4 = .ok (.aload_n 0, 1) := by decide +kernel
theorem dX8_read_5 : decode cX8_read 5 = .ok (.getfield 16, 3) := by decide +kernel
theorem dX8_read_8 : decode cX8_read 8 = .ok (.invokevirtual 100, 3) := by decide +kernel
theorem dX8_read_11 : decode cX8_read 11 = .ok (.istore_n 1, 1) := by decide +kernel
theorem dX8_read_12 : decode cX8_read 12 = .ok (.iload_n 1, 1) := by decide +kernel
theorem dX8_read_13 : decode cX8_read 13 = .ok (.ifCond .le 14, 3) := by decide +kernel
theorem dX8_read_27 : decode cX8_read 27 = .ok (.iload_n 1, 1) := by decide +kernel
theorem dX8_read_28 : decode cX8_read 28 = .ok (.ireturn, 1) := by decide +kernel
theorem dX8_refused_0 : decode cX8_refused 0 = .ok (.iload_n 1, 1) := by decide +kernel
theorem dX8_refused_1 : decode cX8_refused 1 = .ok (.bipush (-2), 2) := by decide +kernel
theorem dX8_refused_3 : decode cX8_refused 3 = .ok (.if_icmp .ne 16, 3) := by decide +kernel
theorem dX8_refused_6 : decode cX8_refused 6 = .ok (.aload_n 0, 1) := by decide +kernel
theorem dX8_refused_7 : decode cX8_refused 7 = .ok (.dup, 1) := by decide +kernel
theorem dX8_refused_8 : decode cX8_refused 8 = .ok (.getfield 254, 3) := by decide +kernel
theorem dX8_refused_11 : decode cX8_refused 11 = .ok (.iconst 1, 1) := by decide +kernel
theorem dX8_refused_12 : decode cX8_refused 12 = .ok (.iadd, 1) := by decide +kernel
theorem dX8_refused_13 : decode cX8_refused 13 = .ok (.putfield 254, 3) := by decide +kernel
theorem dX8_refused_16 : decode cX8_refused 16 = .ok (.goto 32, 3) := by decide +kernel
theorem dX8_refused_19 : decode cX8_refused 19 = .ok (.iload_n 1, 1) := by decide +kernel
theorem dX8_refused_20 : decode cX8_refused 20 = .ok (.bipush (-3), 2) := by decide +kernel
theorem dX8_refused_22 : decode cX8_refused 22 = .ok (.if_icmp .ne 16, 3) := by decide +kernel
theorem dX8_refused_25 : decode cX8_refused 25 = .ok (.aload_n 0, 1) := by decide +kernel
theorem dX8_refused_26 : decode cX8_refused 26 = .ok (.dup, 1) := by decide +kernel
theorem dX8_refused_27 : decode cX8_refused 27 = .ok (.getfield 257, 3) := by decide +kernel
theorem dX8_refused_30 : decode cX8_refused 30 = .ok (.iconst 1, 1) := by decide +kernel
theorem dX8_refused_31 : decode cX8_refused 31 = .ok (.iadd, 1) := by decide +kernel
theorem dX8_refused_32 : decode cX8_refused 32 = .ok (.putfield 257, 3) := by decide +kernel
theorem dX8_refused_35 : decode cX8_refused 35 = .ok (.goto 13, 3) := by decide +kernel
theorem dX8_refused_38 : decode cX8_refused 38 = .ok (.aload_n 0, 1) := by decide +kernel
theorem dX8_refused_39 : decode cX8_refused 39 = .ok (.dup, 1) := by decide +kernel
theorem dX8_refused_40 : decode cX8_refused 40 = .ok (.getfield 260, 3) := by decide +kernel
theorem dX8_refused_43 : decode cX8_refused 43 = .ok (.iconst 1, 1) := by decide +kernel
theorem dX8_refused_44 : decode cX8_refused 44 = .ok (.iadd, 1) := by decide +kernel
theorem dX8_refused_45 : decode cX8_refused 45 = .ok (.putfield 260, 3) := by decide +kernel
theorem dX8_refused_48 : decode cX8_refused 48 = .ok (.iload_n 1, 1) := by decide +kernel
theorem dX8_refused_49 : decode cX8_refused 49 = .ok (.ireturn, 1) := by decide +kernel
theorem dX8_round_0 : decode cX8_round 0 = .ok (.aload_n 0, 1) := by decide +kernel
theorem dX8_round_1 : decode cX8_round 1 = .ok (.getfield 10, 3) := by decide +kernel
theorem dX8_round_4 : decode cX8_round 4 = .ok (.iload_n 1, 1) := by decide +kernel
theorem dX8_round_5 : decode cX8_round 5 = .ok (.invokevirtual 112, 3) := by decide +kernel
theorem dX8_round_8 : decode cX8_round 8 = .ok (.ifCond .eq 22, 3) := by decide +kernel
theorem dX8_round_30 : decode cX8_round 30 = .ok (.aload_n 0, 1) := by decide +kernel
theorem dX8_round_31 : decode cX8_round 31 = .ok (.bipush (-2), 2) := by decide +kernel
theorem dX8_round_33 : decode cX8_round 33 = .ok (.invokevirtual 59, 3) := by decide +kernel
theorem dX8_round_36 : decode cX8_round 36 = .ok (.pop, 1) := by decide +kernel
theorem dX8_round_37 : decode cX8_round 37 = .ok (.bipush (-10), 2) := by decide +kernel
theorem dX8_round_39 : decode cX8_round 39 = .ok (.ireturn, 1) := by decide +kernel
theorem dX8_sells_0 : decode cX8_sells 0 = .ok (.aload_n 0, 1) := by decide +kernel
theorem dX8_sells_1 : decode cX8_sells 1 = .ok (.getfield 10, 3) := by decide +kernel
theorem dX8_sells_4 : decode cX8_sells 4 = .ok (.iload_n 1, 1) := by decide +kernel
theorem dX8_sells_5 : decode cX8_sells 5 = .ok (.invokevirtual 112, 3) := by decide +kernel
theorem dX8_sells_8 : decode cX8_sells 8 = .ok (.ifCond .ne 10, 3) := by decide +kernel
theorem dX8_sells_11 : decode cX8_sells 11 = .ok (.aload_n 0, 1) := by decide +kernel
theorem dX8_sells_12 : decode cX8_sells 12 = .ok (.bipush (-2), 2) := by decide +kernel
theorem dX8_sells_14 : decode cX8_sells 14 = .ok (.invokevirtual 59, 3) := by decide +kernel
theorem dX8_sells_17 : decode cX8_sells 17 = .ok (.ireturn, 1) := by decide +kernel
theorem dX8_spilt_0 : decode cX8_spilt 0 = .ok (.aload_n 0, 1) := by decide +kernel
theorem dX8_spilt_1 : decode cX8_spilt 1 = .ok (.getfield 10, 3) := by decide +kernel
theorem dX8_spilt_4 : decode cX8_spilt 4 = .ok (.iload_n 1, 1) := by decide +kernel
theorem dX8_spilt_5 : decode cX8_spilt 5 = .ok (.invokevirtual 112, 3) := by decide +kernel
theorem dX8_spilt_8 : decode cX8_spilt 8 = .ok (.ifCond .eq 33, 3) := by decide +kernel
theorem dX8_spilt_41 : decode cX8_spilt 41 = .ok (.aload_n 0, 1) := by decide +kernel
theorem dX8_spilt_42 : decode cX8_spilt 42 = .ok (.bipush (-2), 2) := by decide +kernel
theorem dX8_spilt_44 : decode cX8_spilt 44 = .ok (.invokevirtual 59, 3) := by decide +kernel
theorem dX8_spilt_47 : decode cX8_spilt 47 = .ok (.ireturn, 1) := by decide +kernel
theorem dX8_status_0 : decode cX8_status 0 = .ok (.iload_n 1, 1) := by decide +kernel
theorem dX8_status_1 : decode cX8_status 1 = .ok (.tableswitch 42 0 2 #[27, 32, 37], 27) := by decide +kernel
theorem dX8_status_28 : decode cX8_status 28 = .ok (.aload_n 0, 1) := by decide +kernel
theorem dX8_status_29 : decode cX8_status 29 = .ok (.getfield 254, 3) := by decide +kernel
theorem dX8_status_32 : decode cX8_status 32 = .ok (.ireturn, 1) := by decide +kernel
theorem dX8_status_33 : decode cX8_status 33 = .ok (.aload_n 0, 1) := by decide +kernel
theorem dX8_status_34 : decode cX8_status 34 = .ok (.getfield 257, 3) := by decide +kernel
theorem dX8_status_37 : decode cX8_status 37 = .ok (.ireturn, 1) := by decide +kernel
theorem dX8_status_38 : decode cX8_status 38 = .ok (.aload_n 0, 1) := by decide +kernel
theorem dX8_status_39 : decode cX8_status 39 = .ok (.getfield 260, 3) := by decide +kernel
theorem dX8_status_42 : decode cX8_status 42 = .ok (.ireturn, 1) := by decide +kernel
theorem dX8_status_43 : decode cX8_status 43 = .ok (.aload_n 0, 1) := by decide +kernel
theorem dX8_status_44 : decode cX8_status 44 = .ok (.bipush (-2), 2) := by decide +kernel
theorem dX8_status_46 : decode cX8_status 46 = .ok (.invokevirtual 59, 3) := by decide +kernel
theorem dX8_status_49 : decode cX8_status 49 = .ok (.pop, 1) := by decide +kernel
theorem dX8_status_50 : decode cX8_status 50 = .ok (.iconst (-1), 1) := by decide +kernel
theorem dX8_status_51 : decode cX8_status 51 = .ok (.ireturn, 1) := by decide +kernel
theorem dX8_two_0 : decode cX8_two 0 = .ok (.iload_n 1, 1) := by decide +kernel
theorem dX8_two_1 : decode cX8_two 1 = .ok (.iconst (-1), 1) := by decide +kernel
theorem dX8_two_2 : decode cX8_two 2 = .ok (.if_icmp .ge 13, 3) := by decide +kernel
theorem dX8_two_5 : decode cX8_two 5 = .ok (.aload_n 0, 1) := by decide +kernel
theorem dX8_two_6 : decode cX8_two 6 = .ok (.bipush (-2), 2) := by decide +kernel
theorem dX8_two_8 : decode cX8_two 8 = .ok (.invokevirtual 59, 3) := by decide +kernel
theorem dX8_two_11 : decode cX8_two 11 = .ok (.pop, 1) := by decide +kernel
theorem dX8_two_12 : decode cX8_two 12 = .ok (.bipush (-10), 2) := by decide +kernel
theorem dX8_two_14 : decode cX8_two 14 = .ok (.ireturn, 1) := by decide +kernel
theorem dX8_two_15 : decode cX8_two 15 = .ok (.iconst 0, 1) := by decide +kernel
theorem dX8_two_16 : decode cX8_two 16 = .ok (.istore_n 2, 1) := by decide +kernel
theorem dX8_two_17 : decode cX8_two 17 = .ok (.iconst 0, 1) := by decide +kernel
theorem dX8_two_18 : decode cX8_two 18 = .ok (.istore_n 3, 1) := by decide +kernel
theorem dX8_two_19 : decode cX8_two 19 = .ok (.iload_n 3, 1) := by decide +kernel
theorem dX8_two_20 : decode cX8_two 20 = .ok (.aload_n 0, 1) := by decide +kernel
theorem dX8_two_21 : decode cX8_two 21 = .ok (.getfield 10, 3) := by decide +kernel
theorem dX8_two_24 : decode cX8_two 24 = .ok (.getfield 63, 3) := by decide +kernel
theorem dX8_two_27 : decode cX8_two 27 = .ok (.if_icmp .ge 56, 3) := by decide +kernel
theorem dX8_two_83 : decode cX8_two 83 = .ok (.iload_n 1, 1) := by decide +kernel
theorem dX8_two_84 : decode cX8_two 84 = .ok (.iconst (-1), 1) := by decide +kernel
theorem dX8_two_85 : decode cX8_two 85 = .ok (.if_icmp .ne 7, 3) := by decide +kernel
theorem dX8_two_88 : decode cX8_two 88 = .ok (.iload_n 2, 1) := by decide +kernel
theorem dX8_two_89 : decode cX8_two 89 = .ok (.goto 5, 3) := by decide +kernel
theorem dX8_two_92 : decode cX8_two 92 = .ok (.bipush (-5), 2) := by decide +kernel
theorem dX8_two_94 : decode cX8_two 94 = .ok (.ireturn, 1) := by decide +kernel
theorem dX8_type_0 : decode cX8_type 0 = .ok (.iload_n 1, 1) := by decide +kernel
theorem dX8_type_1 : decode cX8_type 1 = .ok (.iconst 0, 1) := by decide +kernel
theorem dX8_type_2 : decode cX8_type 2 = .ok (.bipush 127, 2) := by decide +kernel
theorem dX8_type_4 : decode cX8_type 4 = .ok (.invokestatic 55, 3) := by decide +kernel
theorem dX8_type_7 : decode cX8_type 7 = .ok (.ifCond .ne 10, 3) := by decide +kernel
theorem dX8_type_10 : decode cX8_type 10 = .ok (.aload_n 0, 1) := by decide +kernel
theorem dX8_type_11 : decode cX8_type 11 = .ok (.bipush (-2), 2) := by decide +kernel
theorem dX8_type_13 : decode cX8_type 13 = .ok (.invokevirtual 59, 3) := by decide +kernel
theorem dX8_type_16 : decode cX8_type 16 = .ok (.ireturn, 1) := by decide +kernel
theorem dX8_type_17 : decode cX8_type 17 = .ok (.aload_n 0, 1) := by decide +kernel
theorem dX8_type_18 : decode cX8_type 18 = .ok (.getfield 30, 3) := by decide +kernel
theorem dX8_type_21 : decode cX8_type 21 = .ok (.invokevirtual 90, 3) := by decide +kernel
theorem dX8_type_24 : decode cX8_type 24 = .ok (.ifCond .eq 10, 3) := by decide +kernel
theorem dX8_type_34 : decode cX8_type 34 = .ok (.aload_n 0, 1) := by decide +kernel
theorem dX8_type_35 : decode cX8_type 35 = .ok (.getfield 30, 3) := by decide +kernel
theorem dX8_type_38 : decode cX8_type 38 = .ok (.iload_n 1, 1) := by decide +kernel
theorem dX8_type_39 : decode cX8_type 39 = .ok (.invokevirtual 94, 3) := by decide +kernel
theorem dX8_type_42 : decode cX8_type 42 = .ok (.ireturn, 1) := by decide +kernel
theorem dX8_undo_0 : decode cX8_undo 0 = .ok (.aload_n 0, 1) := by decide +kernel
theorem dX8_undo_1 : decode cX8_undo 1 = .ok (.getfield 10, 3) := by decide +kernel
theorem dX8_undo_4 : decode cX8_undo 4 = .ok (.getfield 71, 3) := by decide +kernel
theorem dX8_undo_7 : decode cX8_undo 7 = .ok (.aload_n 0, 1) := by decide +kernel
theorem dX8_undo_8 : decode cX8_undo 8 = .ok (.getfield 10, 3) := by decide +kernel
theorem dX8_undo_11 : decode cX8_undo 11 = .ok (.invokevirtual 141, 3) := by decide +kernel
theorem dX8_undo_14 : decode cX8_undo 14 = .ok (.ifCond .ne 10, 3) := by decide +kernel
theorem dX8_undo_17 : decode cX8_undo 17 = .ok (.aload_n 0, 1) := by decide +kernel
theorem dX8_undo_18 : decode cX8_undo 18 = .ok (.bipush (-3), 2) := by decide +kernel
theorem dX8_undo_20 : decode cX8_undo 20 = .ok (.invokevirtual 59, 3) := by decide +kernel
theorem dX8_undo_23 : decode cX8_undo 23 = .ok (.ireturn, 1) := by decide +kernel
theorem dX8_when_0 : decode cX8_when 0 = .ok (.aload_n 0, 1) := by decide +kernel
theorem dX8_when_1 : decode cX8_when 1 = .ok (.getfield 10, 3) := by decide +kernel
theorem dX8_when_4 : decode cX8_when 4 = .ok (.iload_n 1, 1) := by decide +kernel
theorem dX8_when_5 : decode cX8_when 5 = .ok (.invokevirtual 108, 3) := by decide +kernel
theorem dX8_when_8 : decode cX8_when 8 = .ok (.ifCond .ne 10, 3) := by decide +kernel
theorem dX8_when_11 : decode cX8_when 11 = .ok (.aload_n 0, 1) := by decide +kernel
theorem dX8_when_12 : decode cX8_when 12 = .ok (.bipush (-2), 2) := by decide +kernel
theorem dX8_when_14 : decode cX8_when 14 = .ok (.invokevirtual 59, 3) := by decide +kernel
theorem dX8_when_17 : decode cX8_when 17 = .ok (.ireturn, 1) := by decide +kernel
theorem dX8_within_0 : decode cX8_within 0 = .ok (.iload_n 0, 1) := by decide +kernel
theorem dX8_within_1 : decode cX8_within 1 = .ok (.iload_n 1, 1) := by decide +kernel
theorem dX8_within_2 : decode cX8_within 2 = .ok (.if_icmp .lt 12, 3) := by decide +kernel
theorem dX8_within_5 : decode cX8_within 5 = .ok (.iload_n 0, 1) := by decide +kernel
theorem dX8_within_6 : decode cX8_within 6 = .ok (.iload_n 2, 1) := by decide +kernel
theorem dX8_within_7 : decode cX8_within 7 = .ok (.if_icmp .gt 7, 3) := by decide +kernel
theorem dX8_within_10 : decode cX8_within 10 = .ok (.iconst 1, 1) := by decide +kernel
theorem dX8_within_11 : decode cX8_within 11 = .ok (.goto 4, 3) := by decide +kernel
theorem dX8_within_14 : decode cX8_within 14 = .ok (.iconst 0, 1) := by decide +kernel
theorem dX8_within_15 : decode cX8_within 15 = .ok (.ireturn, 1) := by decide +kernel
theorem dX9_about_0 : decode cX9_about 0 = .ok (.aload_n 0, 1) := by decide +kernel
theorem dX9_about_1 : decode cX9_about 1 = .ok (.iload_n 1, 1) := by decide +kernel
theorem dX9_about_2 : decode cX9_about 2 = .ok (.invokevirtual 113, 3) := by decide +kernel
theorem dX9_about_5 : decode cX9_about 5 = .ok (.ifCond .eq 24, 3) := by decide +kernel
theorem dX9_about_29 : decode cX9_about 29 = .ok (.aload_n 0, 1) := by decide +kernel
theorem dX9_about_30 : decode cX9_about 30 = .ok (.bipush (-2), 2) := by decide +kernel
theorem dX9_about_32 : decode cX9_about 32 = .ok (.invokevirtual 62, 3) := by decide +kernel
theorem dX9_about_35 : decode cX9_about 35 = .ok (.ireturn, 1) := by decide +kernel
theorem dX9_ask_0 : decode cX9_ask 0 = .ok (.aload_n 0, 1) := by decide +kernel
theorem dX9_ask_1 : decode cX9_ask 1 = .ok (.iload_n 1, 1) := by decide +kernel
theorem dX9_ask_2 : decode cX9_ask 2 = .ok (.invokevirtual 113, 3) := by decide +kernel
theorem dX9_ask_5 : decode cX9_ask 5 = .ok (.ifCond .ne 10, 3) := by decide +kernel
theorem dX9_ask_8 : decode cX9_ask 8 = .ok (.aload_n 0, 1) := by decide +kernel
theorem dX9_ask_9 : decode cX9_ask 9 = .ok (.bipush (-2), 2) := by decide +kernel
theorem dX9_ask_11 : decode cX9_ask 11 = .ok (.invokevirtual 62, 3) := by decide +kernel
theorem dX9_ask_14 : decode cX9_ask 14 = .ok (.ireturn, 1) := by decide +kernel
theorem dX9_bad_0 : decode cX9_bad 0 = .ok (.aload_n 0, 1) := by decide +kernel
theorem dX9_bad_1 : decode cX9_bad 1 = .ok (.getfield 20, 3) := by decide +kernel
theorem dX9_bad_4 : decode cX9_bad 4 = .ok (.iconst 0, 1) := by decide +kernel
theorem dX9_bad_5 : decode cX9_bad 5 = .ok (.dup2, 1) := by decide +kernel
theorem dX9_bad_6 : decode cX9_bad 6 = .ok (.iaload, 1) := by decide +kernel
theorem dX9_bad_7 : decode cX9_bad 7 = .ok (.iconst 1, 1) := by decide +kernel
theorem dX9_bad_8 : decode cX9_bad 8 = .ok (.iadd, 1) := by decide +kernel
theorem dX9_bad_9 : decode cX9_bad 9 = .ok (.iastore, 1) := by decide +kernel
theorem dX9_bad_10 : decode cX9_bad 10 = .ok (.iload_n 1, 1) := by decide +kernel
theorem dX9_bad_11 : decode cX9_bad 11 = .ok (.ireturn, 1) := by decide +kernel
theorem dX9_begin_0 : decode cX9_begin 0 = .ok (.iconst 0, 1) := by decide +kernel
theorem dX9_begin_1 : decode cX9_begin 1 = .ok (.istore_n 2, 1) := by decide +kernel
theorem dX9_begin_2 : decode cX9_begin 2 = .ok (.iload_n 2, 1) := by decide +kernel
theorem dX9_begin_3 : decode cX9_begin 3 = .ok (.bipush 89, 2) := by decide +kernel
theorem dX9_begin_5 : decode cX9_begin 5 = .ok (.if_icmp .ge 13, 3) := by decide +kernel
theorem dX9_begin_8 : decode cX9_begin 8 = .ok (.aload_n 0, 1) := by decide +kernel
theorem dX9_begin_9 : decode cX9_begin 9 = .ok (.iload_n 2, 1) := by decide +kernel
theorem dX9_begin_10 : decode cX9_begin 10 = .ok (.iconst 0, 1) := by decide +kernel
theorem dX9_begin_11 : decode cX9_begin 11 = .ok (.iastore, 1) := by decide +kernel
theorem dX9_begin_12 : decode cX9_begin 12 = .ok (.iinc 2 1, 3) := by decide +kernel
theorem dX9_begin_15 : decode cX9_begin 15 = .ok (.goto (-13), 3) := by decide +kernel
theorem dX9_begin_18 : decode cX9_begin 18 = .ok (.aload_n 0, 1) := by decide +kernel
theorem dX9_begin_19 : decode cX9_begin 19 = .ok (.iconst 5, 1) := by decide +kernel
theorem dX9_begin_20 : decode cX9_begin 20 = .ok (.iload_n 1, 1) := by decide +kernel
theorem dX9_begin_21 : decode cX9_begin 21 = .ok (.iastore, 1) := by decide +kernel
theorem dX9_begin_22 : decode cX9_begin 22 = .ok (.return_, 1) := by decide +kernel
theorem dX9_bits_0 : decode cX9_bits 0 = .ok (.iconst 0, 1) := by decide +kernel
theorem dX9_bits_1 : decode cX9_bits 1 = .ok (.istore_n 1, 1) := by decide +kernel
theorem dX9_bits_2 : decode cX9_bits 2 = .ok (.iload_n 0, 1) := by decide +kernel
theorem dX9_bits_3 : decode cX9_bits 3 = .ok (.istore_n 2, 1) := by decide +kernel
theorem dX9_bits_4 : decode cX9_bits 4 = .ok (.iload_n 2, 1) := by decide +kernel
theorem dX9_bits_5 : decode cX9_bits 5 = .ok (.ifCond .le 16, 3) := by decide +kernel
theorem dX9_bits_21 : decode cX9_bits 21 = .ok (.iload_n 1, 1) := by decide +kernel
theorem dX9_bits_22 : decode cX9_bits 22 = .ok (.ireturn, 1) := by decide +kernel
theorem dX9_caster_0 : decode cX9_caster 0 = .ok (.iload_n 1, 1) := by decide +kernel
theorem dX9_caster_1 : decode cX9_caster 1 = .ok (.invokestatic 66, 3) := by decide +kernel
theorem dX9_caster_4 : decode cX9_caster 4 = .ok (.ifCond .eq 17, 3) := by decide +kernel
theorem dX9_caster_7 : decode cX9_caster 7 = .ok (.iload_n 2, 1) := by decide +kernel
theorem dX9_caster_8 : decode cX9_caster 8 = .ok (.invokestatic 70, 3) := by decide +kernel
theorem dX9_caster_11 : decode cX9_caster 11 = .ok (.ifCond .eq 10, 3) := by decide +kernel
theorem dX9_caster_14 : decode cX9_caster 14 = .ok (.iload_n 3, 1) := by decide +kernel
theorem dX9_caster_15 : decode cX9_caster 15 = .ok (.invokestatic 73, 3) := by decide +kernel
theorem dX9_caster_18 : decode cX9_caster 18 = .ok (.ifCond .ne 10, 3) := by decide +kernel
theorem dX9_caster_21 : decode cX9_caster 21 = .ok (.aload_n 0, 1) := by decide +kernel
theorem dX9_caster_22 : decode cX9_caster 22 = .ok (.bipush (-2), 2) := by decide +kernel
theorem dX9_caster_24 : decode cX9_caster 24 = .ok (.invokevirtual 62, 3) := by decide +kernel
theorem dX9_caster_27 : decode cX9_caster 27 = .ok (.ireturn, 1) := by decide +kernel
theorem dX9_caster_28 : decode cX9_caster 28 = .ok (.aload_n 0, 1) := by decide +kernel
theorem dX9_caster_29 : decode cX9_caster 29 = .ok (.getfield 7, 3) := by decide +kernel
theorem dX9_caster_32 : decode cX9_caster 32 = .ok (.iconst 0, 1) := by decide +kernel
theorem dX9_caster_33 : decode cX9_caster 33 = .ok (.iaload, 1) := by decide +kernel
theorem dX9_caster_34 : decode cX9_caster 34 = .ok (.bipush 7, 2) := by decide +kernel
theorem dX9_caster_36 : decode cX9_caster 36 = .ok (.if_icmp .ne 8, 3) := by decide +kernel
theorem dX9_caster_44 : decode cX9_caster 44 = .ok (.aload_n 0, 1) := by decide +kernel
theorem dX9_caster_45 : decode cX9_caster 45 = .ok (.getfield 7, 3) := by decide +kernel
theorem dX9_caster_48 : decode cX9_caster 48 = .ok (.iload_n 1, 1) := by decide +kernel
theorem dX9_caster_49 : decode cX9_caster 49 = .ok (.iload_n 2, 1) := by decide +kernel
theorem dX9_caster_50 : decode cX9_caster 50 = .ok (.iload_n 3, 1) := by decide +kernel
theorem dX9_caster_51 : decode cX9_caster 51 = .ok (.invokestatic 80, 3) := by decide +kernel
theorem dX9_caster_54 : decode cX9_caster 54 = .ok (.aload_n 0, 1) := by decide +kernel
theorem dX9_caster_55 : decode cX9_caster 55 = .ok (.getfield 7, 3) := by decide +kernel
theorem dX9_caster_58 : decode cX9_caster 58 = .ok (.iconst 4, 1) := by decide +kernel
theorem dX9_caster_59 : decode cX9_caster 59 = .ok (.iconst 0, 1) := by decide +kernel
theorem dX9_caster_60 : decode cX9_caster 60 = .ok (.iastore, 1) := by decide +kernel
theorem dX9_caster_61 : decode cX9_caster 61 = .ok (.aload_n 0, 1) := by decide +kernel
theorem dX9_caster_62 : decode cX9_caster 62 = .ok (.getfield 7, 3) := by decide +kernel
theorem dX9_caster_65 : decode cX9_caster 65 = .ok (.iconst 0, 1) := by decide +kernel
theorem dX9_caster_66 : decode cX9_caster 66 = .ok (.iaload, 1) := by decide +kernel
theorem dX9_caster_67 : decode cX9_caster 67 = .ok (.iconst 1, 1) := by decide +kernel
theorem dX9_caster_68 : decode cX9_caster 68 = .ok (.isub, 1) := by decide +kernel
theorem dX9_caster_69 : decode cX9_caster 69 = .ok (.ireturn, 1) := by decide +kernel
theorem dX9_clear_0 : decode cX9_clear 0 = .ok (.aload_n 0, 1) := by decide +kernel
theorem dX9_clear_1 : decode cX9_clear 1 = .ok (.getfield 239, 3) := by decide +kernel
theorem dX9_clear_4 : decode cX9_clear 4 = .ok (.istore_n 1, 1) := by decide +kernel
theorem dX9_clear_5 : decode cX9_clear 5 = .ok (.aload_n 0, 1) := by decide +kernel
theorem dX9_clear_6 : decode cX9_clear 6 = .ok (.iconst 0, 1) := by decide +kernel
theorem dX9_clear_7 : decode cX9_clear 7 = .ok (.putfield 239, 3) := by decide +kernel
theorem dX9_clear_10 : decode cX9_clear 10 = .ok (.iload_n 1, 1) := by decide +kernel
theorem dX9_clear_11 : decode cX9_clear 11 = .ok (.ireturn, 1) := by decide +kernel
theorem dX9_coolOf_0 : decode cX9_coolOf 0 = .ok (.iconst 0, 1) := by decide +kernel
theorem dX9_coolOf_1 : decode cX9_coolOf 1 = .ok (.istore_n 1, 1) := by decide +kernel
theorem dX9_coolOf_2 : decode cX9_coolOf 2 = .ok (.iconst 0, 1) := by decide +kernel
theorem dX9_coolOf_3 : decode cX9_coolOf 3 = .ok (.istore_n 2, 1) := by decide +kernel
theorem dX9_coolOf_4 : decode cX9_coolOf 4 = .ok (.iload_n 2, 1) := by decide +kernel
theorem dX9_coolOf_5 : decode cX9_coolOf 5 = .ok (.aload_n 0, 1) := by decide +kernel
theorem dX9_coolOf_6 : decode cX9_coolOf 6 = .ok (.iconst 1, 1) := by decide +kernel
theorem dX9_coolOf_7 : decode cX9_coolOf 7 = .ok (.iaload, 1) := by decide +kernel
theorem dX9_coolOf_8 : decode cX9_coolOf 8 = .ok (.if_icmp .ge 18, 3) := by decide +kernel
theorem dX9_coolOf_26 : decode cX9_coolOf 26 = .ok (.iload_n 1, 1) := by decide +kernel
theorem dX9_coolOf_27 : decode cX9_coolOf 27 = .ok (.ireturn, 1) := by decide +kernel
theorem dX9_count_0 : decode cX9_count 0 = .ok (.iload_n 1, 1) := by decide +kernel
theorem dX9_count_1 : decode cX9_count 1 = .ok (.i2l, 1) := by decide +kernel
theorem dX9_count_2 : decode cX9_count 2 = .ok (.lconst 0, 1) := by decide +kernel
theorem dX9_count_3 : decode cX9_count 3 = .ok (.ldc2_w 52, 3) := by decide +kernel
theorem dX9_count_6 : decode cX9_count 6 = .ok (.invokestatic 46, 3) := by decide +kernel
theorem dX9_count_9 : decode cX9_count 9 = .ok (.ifCond .eq 11, 3) := by decide +kernel
theorem dX9_count_12 : decode cX9_count 12 = .ok (.aload_n 0, 1) := by decide +kernel
theorem dX9_count_13 : decode cX9_count 13 = .ok (.iload_n 1, 1) := by decide +kernel
theorem dX9_count_14 : decode cX9_count 14 = .ok (.invokevirtual 302, 3) := by decide +kernel
theorem dX9_count_17 : decode cX9_count 17 = .ok (.goto 9, 3) := by decide +kernel
theorem dX9_count_20 : decode cX9_count 20 = .ok (.aload_n 0, 1) := by decide +kernel
theorem dX9_count_21 : decode cX9_count 21 = .ok (.bipush (-2), 2) := by decide +kernel
theorem dX9_count_23 : decode cX9_count 23 = .ok (.invokevirtual 62, 3) := by decide +kernel
theorem dX9_count_26 : decode cX9_count 26 = .ok (.ireturn, 1) := by decide +kernel
theorem dX9_counted_0 : decode cX9_counted 0 = .ok (.iload_n 1, 1) := by decide +kernel
theorem dX9_counted_1 : decode cX9_counted 1 = .ok (.tableswitch 120 0 8 #[51, 58, 65, 73, 80, 91, 99, 106, 113], 51) := by decide +kernel
theorem dX9_counted_52 : decode cX9_counted 52 = .ok (.aload_n 0, 1) := by decide +kernel
theorem dX9_counted_53 : decode cX9_counted 53 = .ok (.getfield 7, 3) := by decide +kernel
theorem dX9_counted_56 : decode cX9_counted 56 = .ok (.iconst 0, 1) := by decide +kernel
theorem dX9_counted_57 : decode cX9_counted 57 = .ok (.iaload, 1) := by decide +kernel
theorem dX9_counted_58 : decode cX9_counted 58 = .ok (.ireturn, 1) := by decide +kernel
theorem dX9_counted_59 : decode cX9_counted 59 = .ok (.aload_n 0, 1) := by decide +kernel
theorem dX9_counted_60 : decode cX9_counted 60 = .ok (.getfield 7, 3) := by decide +kernel
theorem dX9_counted_63 : decode cX9_counted 63 = .ok (.iconst 1, 1) := by decide +kernel
theorem dX9_counted_64 : decode cX9_counted 64 = .ok (.iaload, 1) := by decide +kernel
theorem dX9_counted_65 : decode cX9_counted 65 = .ok (.ireturn, 1) := by decide +kernel
theorem dX9_counted_66 : decode cX9_counted 66 = .ok (.aload_n 0, 1) := by decide +kernel
theorem dX9_counted_67 : decode cX9_counted 67 = .ok (.getfield 7, 3) := by decide +kernel
theorem dX9_counted_70 : decode cX9_counted 70 = .ok (.invokestatic 233, 3) := by decide +kernel
theorem dX9_counted_73 : decode cX9_counted 73 = .ok (.ireturn, 1) := by decide +kernel
theorem dX9_counted_74 : decode cX9_counted 74 = .ok (.aload_n 0, 1) := by decide +kernel
theorem dX9_counted_75 : decode cX9_counted 75 = .ok (.getfield 7, 3) := by decide +kernel
theorem dX9_counted_78 : decode cX9_counted 78 = .ok (.iconst 5, 1) := by decide +kernel
theorem dX9_counted_79 : decode cX9_counted 79 = .ok (.iaload, 1) := by decide +kernel
theorem dX9_counted_80 : decode cX9_counted 80 = .ok (.ireturn, 1) := by decide +kernel
theorem dX9_counted_81 : decode cX9_counted 81 = .ok (.aload_n 0, 1) := by decide +kernel
theorem dX9_counted_82 : decode cX9_counted 82 = .ok (.getfield 7, 3) := by decide +kernel
theorem dX9_counted_85 : decode cX9_counted 85 = .ok (.bipush 7, 2) := by decide +kernel
theorem dX9_counted_87 : decode cX9_counted 87 = .ok (.iaload, 1) := by decide +kernel
theorem dX9_counted_88 : decode cX9_counted 88 = .ok (.invokestatic 166, 3) := by decide +kernel
theorem dX9_counted_91 : decode cX9_counted 91 = .ok (.ireturn, 1) := by decide +kernel
theorem dX9_counted_92 : decode cX9_counted 92 = .ok (.aload_n 0, 1) := by decide +kernel
theorem dX9_counted_93 : decode cX9_counted 93 = .ok (.getfield 7, 3) := by decide +kernel
theorem dX9_counted_96 : decode cX9_counted 96 = .ok (.bipush 6, 2) := by decide +kernel
theorem dX9_counted_98 : decode cX9_counted 98 = .ok (.iaload, 1) := by decide +kernel
theorem dX9_counted_99 : decode cX9_counted 99 = .ok (.ireturn, 1) := by decide +kernel
theorem dX9_counted_100 : decode cX9_counted 100 = .ok (.aload_n 0, 1) := by decide +kernel
theorem dX9_counted_101 : decode cX9_counted 101 = .ok (.getfield 7, 3) := by decide +kernel
theorem dX9_counted_104 : decode cX9_counted 104 = .ok (.iconst 2, 1) := by decide +kernel
theorem dX9_counted_105 : decode cX9_counted 105 = .ok (.iaload, 1) := by decide +kernel
theorem dX9_counted_106 : decode cX9_counted 106 = .ok (.ireturn, 1) := by decide +kernel
theorem dX9_counted_107 : decode cX9_counted 107 = .ok (.aload_n 0, 1) := by decide +kernel
theorem dX9_counted_108 : decode cX9_counted 108 = .ok (.getfield 7, 3) := by decide +kernel
theorem dX9_counted_111 : decode cX9_counted 111 = .ok (.iconst 3, 1) := by decide +kernel
theorem dX9_counted_112 : decode cX9_counted 112 = .ok (.iaload, 1) := by decide +kernel
theorem dX9_counted_113 : decode cX9_counted 113 = .ok (.ireturn, 1) := by decide +kernel
theorem dX9_counted_114 : decode cX9_counted 114 = .ok (.aload_n 0, 1) := by decide +kernel
theorem dX9_counted_115 : decode cX9_counted 115 = .ok (.getfield 7, 3) := by decide +kernel
theorem dX9_counted_118 : decode cX9_counted 118 = .ok (.iconst 4, 1) := by decide +kernel
theorem dX9_counted_119 : decode cX9_counted 119 = .ok (.iaload, 1) := by decide +kernel
theorem dX9_counted_120 : decode cX9_counted 120 = .ok (.ireturn, 1) := by decide +kernel
theorem dX9_counted_121 : decode cX9_counted 121 = .ok (.aload_n 0, 1) := by decide +kernel
theorem dX9_counted_122 : decode cX9_counted 122 = .ok (.getfield 239, 3) := by decide +kernel
theorem dX9_counted_125 : decode cX9_counted 125 = .ok (.ireturn, 1) := by decide +kernel
theorem dX9_digest_0 : decode cX9_digest 0 = .ok (.ldc2_w 307, 3) := by decide +kernel
theorem dX9_digest_3 : decode cX9_digest 3 = .ok (.lstore_n 1, 1) := by decide +kernel
theorem dX9_digest_4 : decode cX9_digest 4 = .ok (.iconst 0, 1) := by decide +kernel
theorem dX9_digest_5 : decode cX9_digest 5 = .ok (.istore_n 3, 1) := by decide +kernel
theorem dX9_digest_6 : decode cX9_digest 6 = .ok (.iload_n 3, 1) := by decide +kernel
theorem dX9_digest_7 : decode cX9_digest 7 = .ok (.bipush 10, 2) := by decide +kernel
theorem dX9_digest_9 : decode cX9_digest 9 = .ok (.if_icmp .ge 22, 3) := by decide +kernel
theorem dX9_digest_12 : decode cX9_digest 12 = .ok (.ldc2_w 305, 3) := by decide +kernel
theorem dX9_digest_15 : decode cX9_digest 15 = .ok (.lload_n 1, 1) := by decide +kernel
theorem dX9_digest_16 : decode cX9_digest 16 = .ok (.lmul, 1) := by decide +kernel
theorem dX9_digest_17 : decode cX9_digest 17 = .ok (.aload_n 0, 1) := by decide +kernel
theorem dX9_digest_18 : decode cX9_digest 18 = .ok (.iload_n 3, 1) := by decide +kernel
theorem dX9_digest_19 : decode cX9_digest 19 = .ok (.invokevirtual 302, 3) := by decide +kernel
theorem dX9_digest_22 : decode cX9_digest 22 = .ok (.i2l, 1) := by decide +kernel
theorem dX9_digest_23 : decode cX9_digest 23 = .ok (.ladd, 1) := by decide +kernel
theorem dX9_digest_24 : decode cX9_digest 24 = .ok (.lstore_n 1, 1) := by decide +kernel
theorem dX9_digest_25 : decode cX9_digest 25 = .ok (.iinc 3 1, 3) := by decide +kernel
theorem dX9_digest_28 : decode cX9_digest 28 = .ok (.goto (-22), 3) := by decide +kernel
theorem dX9_digest_31 : decode cX9_digest 31 = .ok (.iconst 0, 1) := by decide +kernel
theorem dX9_digest_32 : decode cX9_digest 32 = .ok (.istore_n 3, 1) := by decide +kernel
theorem dX9_digest_33 : decode cX9_digest 33 = .ok (.iload_n 3, 1) := by decide +kernel
theorem dX9_digest_34 : decode cX9_digest 34 = .ok (.aload_n 0, 1) := by decide +kernel
theorem dX9_digest_35 : decode cX9_digest 35 = .ok (.getfield 7, 3) := by decide +kernel
theorem dX9_digest_38 : decode cX9_digest 38 = .ok (.iconst 0, 1) := by decide +kernel
theorem dX9_digest_39 : decode cX9_digest 39 = .ok (.iaload, 1) := by decide +kernel
theorem dX9_digest_40 : decode cX9_digest 40 = .ok (.if_icmp .ge 39, 3) := by decide +kernel
theorem dX9_digest_79 : decode cX9_digest 79 = .ok (.iconst 0, 1) := by decide +kernel
theorem dX9_digest_80 : decode cX9_digest 80 = .ok (.istore_n 3, 1) := by decide +kernel
theorem dX9_digest_81 : decode cX9_digest 81 = .ok (.iload_n 3, 1) := by decide +kernel
theorem dX9_digest_82 : decode cX9_digest 82 = .ok (.aload_n 0, 1) := by decide +kernel
theorem dX9_digest_83 : decode cX9_digest 83 = .ok (.getfield 7, 3) := by decide +kernel
theorem dX9_digest_86 : decode cX9_digest 86 = .ok (.iconst 1, 1) := by decide +kernel
theorem dX9_digest_87 : decode cX9_digest 87 = .ok (.iaload, 1) := by decide +kernel
theorem dX9_digest_88 : decode cX9_digest 88 = .ok (.if_icmp .ge 39, 3) := by decide +kernel
theorem dX9_digest_127 : decode cX9_digest 127 = .ok (.aload_n 0, 1) := by decide +kernel
theorem dX9_digest_128 : decode cX9_digest 128 = .ok (.lload_n 1, 1) := by decide +kernel
theorem dX9_digest_129 : decode cX9_digest 129 = .ok (.bipush 41, 2) := by decide +kernel
theorem dX9_digest_131 : decode cX9_digest 131 = .ok (.iconst 4, 1) := by decide +kernel
theorem dX9_digest_132 : decode cX9_digest 132 = .ok (.aload_n 0, 1) := by decide +kernel
theorem dX9_digest_133 : decode cX9_digest 133 = .ok (.getfield 7, 3) := by decide +kernel
theorem dX9_digest_136 : decode cX9_digest 136 = .ok (.iconst 2, 1) := by decide +kernel
theorem dX9_digest_137 : decode cX9_digest 137 = .ok (.iaload, 1) := by decide +kernel
theorem dX9_digest_138 : decode cX9_digest 138 = .ok (.imul, 1) := by decide +kernel
theorem dX9_digest_139 : decode cX9_digest 139 = .ok (.invokevirtual 309, 3) := by decide +kernel
theorem dX9_digest_142 : decode cX9_digest 142 = .ok (.lstore_n 1, 1) := by decide +kernel
theorem dX9_digest_143 : decode cX9_digest 143 = .ok (.aload_n 0, 1) := by decide +kernel
theorem dX9_digest_144 : decode cX9_digest 144 = .ok (.lload_n 1, 1) := by decide +kernel
theorem dX9_digest_145 : decode cX9_digest 145 = .ok (.bipush 65, 2) := by decide +kernel
theorem dX9_digest_147 : decode cX9_digest 147 = .ok (.iconst 4, 1) := by decide +kernel
theorem dX9_digest_148 : decode cX9_digest 148 = .ok (.aload_n 0, 1) := by decide +kernel
theorem dX9_digest_149 : decode cX9_digest 149 = .ok (.getfield 7, 3) := by decide +kernel
theorem dX9_digest_152 : decode cX9_digest 152 = .ok (.iconst 3, 1) := by decide +kernel
theorem dX9_digest_153 : decode cX9_digest 153 = .ok (.iaload, 1) := by decide +kernel
theorem dX9_digest_154 : decode cX9_digest 154 = .ok (.imul, 1) := by decide +kernel
theorem dX9_digest_155 : decode cX9_digest 155 = .ok (.invokevirtual 309, 3) := by decide +kernel
theorem dX9_digest_158 : decode cX9_digest 158 = .ok (.lstore_n 1, 1) := by decide +kernel
theorem dX9_digest_159 : decode cX9_digest 159 = .ok (.ldc2_w 305, 3) := by decide +kernel
theorem dX9_digest_162 : decode cX9_digest 162 = .ok (.ldc2_w 305, 3) := by decide +kernel
theorem dX9_digest_165 : decode cX9_digest 165 = .ok (.lload_n 1, 1) := by decide +kernel
theorem dX9_digest_166 : decode cX9_digest 166 = .ok (.lmul, 1) := by decide +kernel
theorem dX9_digest_167 : decode cX9_digest 167 = .ok (.aload_n 0, 1) := by decide +kernel
theorem dX9_digest_168 : decode cX9_digest 168 = .ok (.getfield 206, 3) := by decide +kernel
theorem dX9_digest_171 : decode cX9_digest 171 = .ok (.ladd, 1) := by decide +kernel
theorem dX9_digest_172 : decode cX9_digest 172 = .ok (.lmul, 1) := by decide +kernel
theorem dX9_digest_173 : decode cX9_digest 173 = .ok (.aload_n 0, 1) := by decide +kernel
theorem dX9_digest_174 : decode cX9_digest 174 = .ok (.getfield 23, 3) := by decide +kernel
theorem dX9_digest_177 : decode cX9_digest 177 = .ok (.ladd, 1) := by decide +kernel
theorem dX9_digest_178 : decode cX9_digest 178 = .ok (.lreturn, 1) := by decide +kernel
theorem dX9_few_0 : decode cX9_few 0 = .ok (.aload_n 0, 1) := by decide +kernel
theorem dX9_few_1 : decode cX9_few 1 = .ok (.iload_n 1, 1) := by decide +kernel
theorem dX9_few_2 : decode cX9_few 2 = .ok (.invokevirtual 113, 3) := by decide +kernel
theorem dX9_few_5 : decode cX9_few 5 = .ok (.ifCond .eq 33, 3) := by decide +kernel
theorem dX9_few_38 : decode cX9_few 38 = .ok (.aload_n 0, 1) := by decide +kernel
theorem dX9_few_39 : decode cX9_few 39 = .ok (.bipush (-2), 2) := by decide +kernel
theorem dX9_few_41 : decode cX9_few 41 = .ok (.invokevirtual 62, 3) := by decide +kernel
theorem dX9_few_44 : decode cX9_few 44 = .ok (.ireturn, 1) := by decide +kernel
theorem dX9_forget_0 : decode cX9_forget 0 = .ok (.iload_n 1, 1) := by decide +kernel
theorem dX9_forget_1 : decode cX9_forget 1 = .ok (.i2l, 1) := by decide +kernel
theorem dX9_forget_2 : decode cX9_forget 2 = .ok (.lconst 0, 1) := by decide +kernel
theorem dX9_forget_3 : decode cX9_forget 3 = .ok (.lconst 1, 1) := by decide +kernel
theorem dX9_forget_4 : decode cX9_forget 4 = .ok (.invokestatic 46, 3) := by decide +kernel
theorem dX9_forget_7 : decode cX9_forget 7 = .ok (.ifCond .ne 10, 3) := by decide +kernel
theorem dX9_forget_10 : decode cX9_forget 10 = .ok (.aload_n 0, 1) := by decide +kernel
theorem dX9_forget_11 : decode cX9_forget 11 = .ok (.bipush (-2), 2) := by decide +kernel
theorem dX9_forget_13 : decode cX9_forget 13 = .ok (.invokevirtual 62, 3) := by decide +kernel
theorem dX9_forget_16 : decode cX9_forget 16 = .ok (.ireturn, 1) := by decide +kernel
theorem dX9_forget_17 : decode cX9_forget 17 = .ok (.aload_n 0, 1) := by decide +kernel
theorem dX9_forget_18 : decode cX9_forget 18 = .ok (.getfield 7, 3) := by decide +kernel
theorem dX9_forget_21 : decode cX9_forget 21 = .ok (.iconst 2, 1) := by decide +kernel
theorem dX9_forget_22 : decode cX9_forget 22 = .ok (.iload_n 1, 1) := by decide +kernel
theorem dX9_forget_23 : decode cX9_forget 23 = .ok (.iadd, 1) := by decide +kernel
theorem dX9_forget_24 : decode cX9_forget 24 = .ok (.iaload, 1) := by decide +kernel
theorem dX9_forget_25 : decode cX9_forget 25 = .ok (.istore_n 2, 1) := by decide +kernel
theorem dX9_forget_26 : decode cX9_forget 26 = .ok (.aload_n 0, 1) := by decide +kernel
theorem dX9_forget_27 : decode cX9_forget 27 = .ok (.getfield 7, 3) := by decide +kernel
theorem dX9_forget_30 : decode cX9_forget 30 = .ok (.iconst 2, 1) := by decide +kernel
theorem dX9_forget_31 : decode cX9_forget 31 = .ok (.iload_n 1, 1) := by decide +kernel
theorem dX9_forget_32 : decode cX9_forget 32 = .ok (.iadd, 1) := by decide +kernel
theorem dX9_forget_33 : decode cX9_forget 33 = .ok (.iconst 0, 1) := by decide +kernel
theorem dX9_forget_34 : decode cX9_forget 34 = .ok (.iastore, 1) := by decide +kernel
theorem dX9_forget_35 : decode cX9_forget 35 = .ok (.iload_n 2, 1) := by decide +kernel
theorem dX9_forget_36 : decode cX9_forget 36 = .ok (.ireturn, 1) := by decide +kernel
theorem dX9_from_0 : decode cX9_from 0 = .ok (.iload_n 1, 1) := by decide +kernel
theorem dX9_from_1 : decode cX9_from 1 = .ok (.i2l, 1) := by decide +kernel
theorem dX9_from_2 : decode cX9_from 2 = .ok (.lconst 0, 1) := by decide +kernel
theorem dX9_from_3 : decode cX9_from 3 = .ok (.lconst 1, 1) := by decide +kernel
theorem dX9_from_4 : decode cX9_from 4 = .ok (.invokestatic 46, 3) := by decide +kernel
theorem dX9_from_7 : decode cX9_from 7 = .ok (.ifCond .ne 10, 3) := by decide +kernel
theorem dX9_from_10 : decode cX9_from 10 = .ok (.aload_n 0, 1) := by decide +kernel
theorem dX9_from_11 : decode cX9_from 11 = .ok (.bipush (-2), 2) := by decide +kernel
theorem dX9_from_13 : decode cX9_from 13 = .ok (.invokevirtual 62, 3) := by decide +kernel
theorem dX9_from_16 : decode cX9_from 16 = .ok (.ireturn, 1) := by decide +kernel
theorem dX9_from_17 : decode cX9_from 17 = .ok (.aload_n 0, 1) := by decide +kernel
theorem dX9_from_18 : decode cX9_from 18 = .ok (.getfield 16, 3) := by decide +kernel
theorem dX9_from_21 : decode cX9_from 21 = .ok (.iload_n 1, 1) := by decide +kernel
theorem dX9_from_22 : decode cX9_from 22 = .ok (.baload, 1) := by decide +kernel
theorem dX9_from_23 : decode cX9_from 23 = .ok (.ifCond .ne 8, 3) := by decide +kernel
theorem dX9_from_26 : decode cX9_from 26 = .ok (.aload_n 0, 1) := by decide +kernel
theorem dX9_from_27 : decode cX9_from 27 = .ok (.invokevirtual 120, 3) := by decide +kernel
theorem dX9_from_30 : decode cX9_from 30 = .ok (.ireturn, 1) := by decide +kernel
theorem dX9_gives_0 : decode cX9_gives 0 = .ok (.aload_n 0, 1) := by decide +kernel
theorem dX9_gives_1 : decode cX9_gives 1 = .ok (.iload_n 1, 1) := by decide +kernel
theorem dX9_gives_2 : decode cX9_gives 2 = .ok (.invokevirtual 110, 3) := by decide +kernel
theorem dX9_gives_5 : decode cX9_gives 5 = .ok (.ifCond .eq 27, 3) := by decide +kernel
theorem dX9_gives_32 : decode cX9_gives 32 = .ok (.aload_n 0, 1) := by decide +kernel
theorem dX9_gives_33 : decode cX9_gives 33 = .ok (.bipush (-2), 2) := by decide +kernel
theorem dX9_gives_35 : decode cX9_gives 35 = .ok (.invokevirtual 62, 3) := by decide +kernel
theorem dX9_gives_38 : decode cX9_gives 38 = .ok (.ireturn, 1) := by decide +kernel
theorem dX9_goHour_0 : decode cX9_goHour 0 = .ok (.iconst 0, 1) := by decide +kernel
theorem dX9_goHour_1 : decode cX9_goHour 1 = .ok (.istore_n 1, 1) := by decide +kernel
theorem dX9_goHour_2 : decode cX9_goHour 2 = .ok (.iload_n 1, 1) := by decide +kernel
theorem dX9_goHour_3 : decode cX9_goHour 3 = .ok (.aload_n 0, 1) := by decide +kernel
theorem dX9_goHour_4 : decode cX9_goHour 4 = .ok (.iconst 1, 1) := by decide +kernel
theorem dX9_goHour_5 : decode cX9_goHour 5 = .ok (.iaload, 1) := by decide +kernel
theorem dX9_goHour_6 : decode cX9_goHour 6 = .ok (.if_icmp .ge 23, 3) := by decide +kernel
theorem dX9_goHour_29 : decode cX9_goHour 29 = .ok (.aload_n 0, 1) := by decide +kernel
theorem dX9_goHour_30 : decode cX9_goHour 30 = .ok (.iconst 5, 1) := by decide +kernel
theorem dX9_goHour_31 : decode cX9_goHour 31 = .ok (.dup2, 1) := by decide +kernel
theorem dX9_goHour_32 : decode cX9_goHour 32 = .ok (.iaload, 1) := by decide +kernel
theorem dX9_goHour_33 : decode cX9_goHour 33 = .ok (.iconst 1, 1) := by decide +kernel
theorem dX9_goHour_34 : decode cX9_goHour 34 = .ok (.iadd, 1) := by decide +kernel
theorem dX9_goHour_35 : decode cX9_goHour 35 = .ok (.iastore, 1) := by decide +kernel
theorem dX9_goHour_36 : decode cX9_goHour 36 = .ok (.aload_n 0, 1) := by decide +kernel
theorem dX9_goHour_37 : decode cX9_goHour 37 = .ok (.bipush 7, 2) := by decide +kernel
theorem dX9_goHour_39 : decode cX9_goHour 39 = .ok (.iconst 0, 1) := by decide +kernel
theorem dX9_goHour_40 : decode cX9_goHour 40 = .ok (.iastore, 1) := by decide +kernel
theorem dX9_goHour_41 : decode cX9_goHour 41 = .ok (.return_, 1) := by decide +kernel
theorem dX9_goHours_0 : decode cX9_goHours 0 = .ok (.iconst 0, 1) := by decide +kernel
theorem dX9_goHours_1 : decode cX9_goHours 1 = .ok (.istore_n 2, 1) := by decide +kernel
theorem dX9_goHours_2 : decode cX9_goHours 2 = .ok (.iload_n 2, 1) := by decide +kernel
theorem dX9_goHours_3 : decode cX9_goHours 3 = .ok (.iload_n 1, 1) := by decide +kernel
theorem dX9_goHours_4 : decode cX9_goHours 4 = .ok (.if_icmp .ge 22, 3) := by decide +kernel
theorem dX9_goHours_7 : decode cX9_goHours 7 = .ok (.aload_n 0, 1) := by decide +kernel
theorem dX9_goHours_8 : decode cX9_goHours 8 = .ok (.iconst 5, 1) := by decide +kernel
theorem dX9_goHours_9 : decode cX9_goHours 9 = .ok (.iaload, 1) := by decide +kernel
theorem dX9_goHours_10 : decode cX9_goHours 10 = .ok (.sipush 9999, 3) := by decide +kernel
theorem dX9_goHours_13 : decode cX9_goHours 13 = .ok (.if_icmp .ge 13, 3) := by decide +kernel
theorem dX9_goHours_16 : decode cX9_goHours 16 = .ok (.aload_n 0, 1) := by decide +kernel
theorem dX9_goHours_17 : decode cX9_goHours 17 = .ok (.invokestatic 106, 3) := by decide +kernel
theorem dX9_goHours_20 : decode cX9_goHours 20 = .ok (.iinc 2 1, 3) := by decide +kernel
theorem dX9_goHours_23 : decode cX9_goHours 23 = .ok (.goto (-21), 3) := by decide +kernel
theorem dX9_goHours_26 : decode cX9_goHours 26 = .ok (.return_, 1) := by decide +kernel
theorem dX9_gone_0 : decode cX9_gone 0 = .ok (.aload_n 0, 1) := by decide +kernel
theorem dX9_gone_1 : decode cX9_gone 1 = .ok (.iload_n 1, 1) := by decide +kernel
theorem dX9_gone_2 : decode cX9_gone 2 = .ok (.invokevirtual 113, 3) := by decide +kernel
theorem dX9_gone_5 : decode cX9_gone 5 = .ok (.ifCond .ne 10, 3) := by decide +kernel
theorem dX9_gone_8 : decode cX9_gone 8 = .ok (.aload_n 0, 1) := by decide +kernel
theorem dX9_gone_9 : decode cX9_gone 9 = .ok (.bipush (-2), 2) := by decide +kernel
theorem dX9_gone_11 : decode cX9_gone 11 = .ok (.invokevirtual 62, 3) := by decide +kernel
theorem dX9_gone_14 : decode cX9_gone 14 = .ok (.ireturn, 1) := by decide +kernel
theorem dX9_hours_0 : decode cX9_hours 0 = .ok (.iload_n 1, 1) := by decide +kernel
theorem dX9_hours_1 : decode cX9_hours 1 = .ok (.i2l, 1) := by decide +kernel
theorem dX9_hours_2 : decode cX9_hours 2 = .ok (.lconst 1, 1) := by decide +kernel
theorem dX9_hours_3 : decode cX9_hours 3 = .ok (.ldc2_w 58, 3) := by decide +kernel
theorem dX9_hours_6 : decode cX9_hours 6 = .ok (.invokestatic 46, 3) := by decide +kernel
theorem dX9_hours_9 : decode cX9_hours 9 = .ok (.ifCond .ne 10, 3) := by decide +kernel
theorem dX9_hours_12 : decode cX9_hours 12 = .ok (.aload_n 0, 1) := by decide +kernel
theorem dX9_hours_13 : decode cX9_hours 13 = .ok (.bipush (-2), 2) := by decide +kernel
theorem dX9_hours_15 : decode cX9_hours 15 = .ok (.invokevirtual 62, 3) := by decide +kernel
theorem dX9_hours_18 : decode cX9_hours 18 = .ok (.ireturn, 1) := by decide +kernel
theorem dX9_hours_19 : decode cX9_hours 19 = .ok (.aload_n 0, 1) := by decide +kernel
