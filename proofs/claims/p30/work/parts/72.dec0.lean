theorem dX9_clear_0 : decode cX9_clear 0 = .ok (.aload_n 0, 1) := by decide +kernel
theorem dX9_clear_1 : decode cX9_clear 1 = .ok (.getfield 239, 3) := by decide +kernel
theorem dX9_clear_4 : decode cX9_clear 4 = .ok (.istore_n 1, 1) := by decide +kernel
theorem dX9_clear_5 : decode cX9_clear 5 = .ok (.aload_n 0, 1) := by decide +kernel
theorem dX9_clear_6 : decode cX9_clear 6 = .ok (.iconst 0, 1) := by decide +kernel
theorem dX9_clear_7 : decode cX9_clear 7 = .ok (.putfield 239, 3) := by decide +kernel
theorem dX9_clear_10 : decode cX9_clear 10 = .ok (.iload_n 1, 1) := by decide +kernel
theorem dX9_clear_11 : decode cX9_clear 11 = .ok (.ireturn, 1) := by decide +kernel
theorem dX9_from_0 : decode cX9_from 0 = .ok (.iload_n 1, 1) := by decide +kernel
theorem dX9_from_1 : decode cX9_from 1 = .ok (.i2l, 1) := by decide +kernel
theorem dX9_from_2 : decode cX9_from 2 = .ok (.lconst 0, 1) := by decide +kernel
theorem dX9_from_3 : decode cX9_from 3 = .ok (.lconst 1, 1) := by decide +kernel
theorem dX9_from_4 : decode cX9_from 4 = .ok (.invokestatic 46, 3) := by decide +kernel
theorem dX9_from_7 : decode cX9_from 7 = .ok (.ifCond .ne 10, 3) := by decide +kernel
theorem dX9_from_10 : decode cX9_from 10 = .ok (.aload_n 0, 1) := by decide +kernel
theorem dX9_from_11 : decode cX9_from 11 = .ok (.bipush (-2), 2) := by decide +kernel
theorem dX9_from_13 : decode cX9_from 13 = .ok (.invokevirtual 62, 3) := by decide +kernel
theorem dX9_from_16 : decode cX9_from 16 = .ok (.ireturn, 1) := by decide +kernel
theorem dX9_from_17 : decode cX9_from 17 = .ok (.aload_n 0, 1) := by decide +kernel
theorem dX9_from_18 : decode cX9_from 18 = .ok (.getfield 16, 3) := by decide +kernel
theorem dX9_from_21 : decode cX9_from 21 = .ok (.iload_n 1, 1) := by decide +kernel
theorem dX9_from_22 : decode cX9_from 22 = .ok (.baload, 1) := by decide +kernel
theorem dX9_from_23 : decode cX9_from 23 = .ok (.ifCond .ne 8, 3) := by decide +kernel
theorem dX9_from_26 : decode cX9_from 26 = .ok (.aload_n 0, 1) := by decide +kernel
theorem dX9_from_27 : decode cX9_from 27 = .ok (.invokevirtual 120, 3) := by decide +kernel
theorem dX9_from_30 : decode cX9_from 30 = .ok (.ireturn, 1) := by decide +kernel
theorem dX9_from_31 : decode cX9_from 31 = .ok (.iconst 0, 1) := by decide +kernel
theorem dX9_from_32 : decode cX9_from 32 = .ok (.istore_n 2, 1) := by decide +kernel
theorem dX9_from_33 : decode cX9_from 33 = .ok (.iload_n 2, 1) := by decide +kernel
theorem dX9_from_34 : decode cX9_from 34 = .ok (.sipush 177, 3) := by decide +kernel
theorem dX9_from_37 : decode cX9_from 37 = .ok (.if_icmp .ge 27, 3) := by decide +kernel
theorem dX9_from_40 : decode cX9_from 40 = .ok (.aload_n 0, 1) := by decide +kernel
theorem dX9_from_41 : decode cX9_from 41 = .ok (.getfield 7, 3) := by decide +kernel
theorem dX9_from_44 : decode cX9_from 44 = .ok (.iload_n 2, 1) := by decide +kernel
theorem dX9_from_45 : decode cX9_from 45 = .ok (.aload_n 0, 1) := by decide +kernel
theorem dX9_from_46 : decode cX9_from 46 = .ok (.getfield 13, 3) := by decide +kernel
theorem dX9_from_49 : decode cX9_from 49 = .ok (.sipush 177, 3) := by decide +kernel
theorem dX9_from_52 : decode cX9_from 52 = .ok (.iload_n 1, 1) := by decide +kernel
theorem dX9_from_53 : decode cX9_from 53 = .ok (.imul, 1) := by decide +kernel
theorem dX9_from_54 : decode cX9_from 54 = .ok (.iload_n 2, 1) := by decide +kernel
theorem dX9_from_55 : decode cX9_from 55 = .ok (.iadd, 1) := by decide +kernel
theorem dX9_from_56 : decode cX9_from 56 = .ok (.iaload, 1) := by decide +kernel
theorem dX9_from_57 : decode cX9_from 57 = .ok (.iastore, 1) := by decide +kernel
theorem dX9_from_58 : decode cX9_from 58 = .ok (.iinc 2 1, 3) := by decide +kernel
theorem dX9_from_61 : decode cX9_from 61 = .ok (.goto (-28), 3) := by decide +kernel
theorem dX9_from_64 : decode cX9_from 64 = .ok (.iconst 1, 1) := by decide +kernel
theorem dX9_from_65 : decode cX9_from 65 = .ok (.ireturn, 1) := by decide +kernel
theorem dX9_goBehind_0 : decode cX9_goBehind 0 = .ok (.aload_n 0, 1) := by decide +kernel
theorem dX9_goBehind_1 : decode cX9_goBehind 1 = .ok (.aload_n 0, 1) := by decide +kernel
theorem dX9_goBehind_2 : decode cX9_goBehind 2 = .ok (.getfield 250, 3) := by decide +kernel
theorem dX9_goBehind_5 : decode cX9_goBehind 5 = .ok (.aload_n 0, 1) := by decide +kernel
theorem dX9_goBehind_6 : decode cX9_goBehind 6 = .ok (.getfield 253, 3) := by decide +kernel
theorem dX9_goBehind_9 : decode cX9_goBehind 9 = .ok (.iadd, 1) := by decide +kernel
theorem dX9_goBehind_10 : decode cX9_goBehind 10 = .ok (.invokevirtual 268, 3) := by decide +kernel
theorem dX9_goBehind_13 : decode cX9_goBehind 13 = .ok (.return_, 1) := by decide +kernel
theorem dX9_image_0 : decode cX9_image 0 = .ok (.iload_n 1, 1) := by decide +kernel
theorem dX9_image_1 : decode cX9_image 1 = .ok (.i2l, 1) := by decide +kernel
theorem dX9_image_2 : decode cX9_image 2 = .ok (.lconst 0, 1) := by decide +kernel
theorem dX9_image_3 : decode cX9_image 3 = .ok (.lconst 1, 1) := by decide +kernel
theorem dX9_image_4 : decode cX9_image 4 = .ok (.invokestatic 46, 3) := by decide +kernel
theorem dX9_image_7 : decode cX9_image 7 = .ok (.ifCond .ne 10, 3) := by decide +kernel
theorem dX9_image_10 : decode cX9_image 10 = .ok (.aload_n 0, 1) := by decide +kernel
theorem dX9_image_11 : decode cX9_image 11 = .ok (.bipush (-2), 2) := by decide +kernel
theorem dX9_image_13 : decode cX9_image 13 = .ok (.invokevirtual 62, 3) := by decide +kernel
theorem dX9_image_16 : decode cX9_image 16 = .ok (.ireturn, 1) := by decide +kernel
theorem dX9_image_17 : decode cX9_image 17 = .ok (.iconst 0, 1) := by decide +kernel
theorem dX9_image_18 : decode cX9_image 18 = .ok (.istore_n 2, 1) := by decide +kernel
theorem dX9_image_19 : decode cX9_image 19 = .ok (.iload_n 2, 1) := by decide +kernel
theorem dX9_image_20 : decode cX9_image 20 = .ok (.sipush 177, 3) := by decide +kernel
theorem dX9_image_23 : decode cX9_image 23 = .ok (.if_icmp .ge 27, 3) := by decide +kernel
theorem dX9_image_26 : decode cX9_image 26 = .ok (.aload_n 0, 1) := by decide +kernel
theorem dX9_image_27 : decode cX9_image 27 = .ok (.getfield 13, 3) := by decide +kernel
theorem dX9_image_30 : decode cX9_image 30 = .ok (.sipush 177, 3) := by decide +kernel
theorem dX9_image_33 : decode cX9_image 33 = .ok (.iload_n 1, 1) := by decide +kernel
theorem dX9_image_34 : decode cX9_image 34 = .ok (.imul, 1) := by decide +kernel
theorem dX9_image_35 : decode cX9_image 35 = .ok (.iload_n 2, 1) := by decide +kernel
theorem dX9_image_36 : decode cX9_image 36 = .ok (.iadd, 1) := by decide +kernel
theorem dX9_image_37 : decode cX9_image 37 = .ok (.aload_n 0, 1) := by decide +kernel
theorem dX9_image_38 : decode cX9_image 38 = .ok (.getfield 7, 3) := by decide +kernel
theorem dX9_image_41 : decode cX9_image 41 = .ok (.iload_n 2, 1) := by decide +kernel
theorem dX9_image_42 : decode cX9_image 42 = .ok (.iaload, 1) := by decide +kernel
theorem dX9_image_43 : decode cX9_image 43 = .ok (.iastore, 1) := by decide +kernel
theorem dX9_image_44 : decode cX9_image 44 = .ok (.iinc 2 1, 3) := by decide +kernel
theorem dX9_image_47 : decode cX9_image 47 = .ok (.goto (-28), 3) := by decide +kernel
theorem dX9_image_50 : decode cX9_image 50 = .ok (.aload_n 0, 1) := by decide +kernel
theorem dX9_image_51 : decode cX9_image 51 = .ok (.getfield 16, 3) := by decide +kernel
theorem dX9_image_54 : decode cX9_image 54 = .ok (.iload_n 1, 1) := by decide +kernel
theorem dX9_image_55 : decode cX9_image 55 = .ok (.iconst 1, 1) := by decide +kernel
theorem dX9_image_56 : decode cX9_image 56 = .ok (.bastore, 1) := by decide +kernel
theorem dX9_image_57 : decode cX9_image 57 = .ok (.iconst 1, 1) := by decide +kernel
theorem dX9_image_58 : decode cX9_image 58 = .ok (.ireturn, 1) := by decide +kernel
theorem dX9_isFigure_0 : decode cX9_isFigure 0 = .ok (.iload_n 0, 1) := by decide +kernel
theorem dX9_isFigure_1 : decode cX9_isFigure 1 = .ok (.i2l, 1) := by decide +kernel
theorem dX9_isFigure_2 : decode cX9_isFigure 2 = .ok (.ldc2_w 246, 3) := by decide +kernel
theorem dX9_isFigure_5 : decode cX9_isFigure 5 = .ok (.ldc2_w 248, 3) := by decide +kernel
theorem dX9_isFigure_8 : decode cX9_isFigure 8 = .ok (.invokestatic 46, 3) := by decide +kernel
theorem dX9_isFigure_11 : decode cX9_isFigure 11 = .ok (.ireturn, 1) := by decide +kernel
theorem dX9_isSmall_0 : decode cX9_isSmall 0 = .ok (.iload_n 0, 1) := by decide +kernel
theorem dX9_isSmall_1 : decode cX9_isSmall 1 = .ok (.i2l, 1) := by decide +kernel
theorem dX9_isSmall_2 : decode cX9_isSmall 2 = .ok (.ldc2_w 242, 3) := by decide +kernel
theorem dX9_isSmall_5 : decode cX9_isSmall 5 = .ok (.ldc2_w 244, 3) := by decide +kernel
theorem dX9_isSmall_8 : decode cX9_isSmall 8 = .ok (.invokestatic 46, 3) := by decide +kernel
theorem dX9_isSmall_11 : decode cX9_isSmall 11 = .ok (.ireturn, 1) := by decide +kernel
theorem dX9_lookAt_0 : decode cX9_lookAt 0 = .ok (.aload_n 0, 1) := by decide +kernel
theorem dX9_lookAt_1 : decode cX9_lookAt 1 = .ok (.iload_n 1, 1) := by decide +kernel
theorem dX9_lookAt_2 : decode cX9_lookAt 2 = .ok (.putfield 250, 3) := by decide +kernel
theorem dX9_lookAt_5 : decode cX9_lookAt 5 = .ok (.aload_n 0, 1) := by decide +kernel
theorem dX9_lookAt_6 : decode cX9_lookAt 6 = .ok (.getfield 250, 3) := by decide +kernel
theorem dX9_lookAt_9 : decode cX9_lookAt 9 = .ok (.aload_n 0, 1) := by decide +kernel
theorem dX9_lookAt_10 : decode cX9_lookAt 10 = .ok (.getfield 239, 3) := by decide +kernel
theorem dX9_lookAt_13 : decode cX9_lookAt 13 = .ok (.if_icmp .ge 30, 3) := by decide +kernel
theorem dX9_lookAt_16 : decode cX9_lookAt 16 = .ok (.aload_n 0, 1) := by decide +kernel
theorem dX9_lookAt_17 : decode cX9_lookAt 17 = .ok (.getfield 33, 3) := by decide +kernel
theorem dX9_lookAt_20 : decode cX9_lookAt 20 = .ok (.aload_n 0, 1) := by decide +kernel
theorem dX9_lookAt_21 : decode cX9_lookAt 21 = .ok (.getfield 250, 3) := by decide +kernel
theorem dX9_lookAt_24 : decode cX9_lookAt 24 = .ok (.iaload, 1) := by decide +kernel
theorem dX9_lookAt_25 : decode cX9_lookAt 25 = .ok (.bipush 32, 2) := by decide +kernel
theorem dX9_lookAt_27 : decode cX9_lookAt 27 = .ok (.if_icmp .ne 16, 3) := by decide +kernel
theorem dX9_lookAt_30 : decode cX9_lookAt 30 = .ok (.aload_n 0, 1) := by decide +kernel
theorem dX9_lookAt_31 : decode cX9_lookAt 31 = .ok (.dup, 1) := by decide +kernel
theorem dX9_lookAt_32 : decode cX9_lookAt 32 = .ok (.getfield 250, 3) := by decide +kernel
theorem dX9_lookAt_35 : decode cX9_lookAt 35 = .ok (.iconst 1, 1) := by decide +kernel
theorem dX9_lookAt_36 : decode cX9_lookAt 36 = .ok (.iadd, 1) := by decide +kernel
theorem dX9_lookAt_37 : decode cX9_lookAt 37 = .ok (.putfield 250, 3) := by decide +kernel
theorem dX9_lookAt_40 : decode cX9_lookAt 40 = .ok (.goto (-35), 3) := by decide +kernel
theorem dX9_lookAt_43 : decode cX9_lookAt 43 = .ok (.aload_n 0, 1) := by decide +kernel
theorem dX9_lookAt_44 : decode cX9_lookAt 44 = .ok (.iconst 0, 1) := by decide +kernel
theorem dX9_lookAt_45 : decode cX9_lookAt 45 = .ok (.putfield 253, 3) := by decide +kernel
theorem dX9_lookAt_48 : decode cX9_lookAt 48 = .ok (.aload_n 0, 1) := by decide +kernel
theorem dX9_lookAt_49 : decode cX9_lookAt 49 = .ok (.iconst 0, 1) := by decide +kernel
theorem dX9_lookAt_50 : decode cX9_lookAt 50 = .ok (.putfield 256, 3) := by decide +kernel
theorem dX9_lookAt_53 : decode cX9_lookAt 53 = .ok (.aload_n 0, 1) := by decide +kernel
theorem dX9_lookAt_54 : decode cX9_lookAt 54 = .ok (.iconst 0, 1) := by decide +kernel
theorem dX9_lookAt_55 : decode cX9_lookAt 55 = .ok (.putfield 259, 3) := by decide +kernel
theorem dX9_lookAt_58 : decode cX9_lookAt 58 = .ok (.aload_n 0, 1) := by decide +kernel
theorem dX9_lookAt_59 : decode cX9_lookAt 59 = .ok (.getfield 250, 3) := by decide +kernel
theorem dX9_lookAt_62 : decode cX9_lookAt 62 = .ok (.aload_n 0, 1) := by decide +kernel
theorem dX9_lookAt_63 : decode cX9_lookAt 63 = .ok (.getfield 239, 3) := by decide +kernel
theorem dX9_lookAt_66 : decode cX9_lookAt 66 = .ok (.if_icmp .ne 4, 3) := by decide +kernel
theorem dX9_lookAt_69 : decode cX9_lookAt 69 = .ok (.return_, 1) := by decide +kernel
theorem dX9_lookAt_70 : decode cX9_lookAt 70 = .ok (.aload_n 0, 1) := by decide +kernel
theorem dX9_lookAt_71 : decode cX9_lookAt 71 = .ok (.getfield 33, 3) := by decide +kernel
theorem dX9_lookAt_74 : decode cX9_lookAt 74 = .ok (.aload_n 0, 1) := by decide +kernel
theorem dX9_lookAt_75 : decode cX9_lookAt 75 = .ok (.getfield 250, 3) := by decide +kernel
theorem dX9_lookAt_78 : decode cX9_lookAt 78 = .ok (.iaload, 1) := by decide +kernel
theorem dX9_lookAt_79 : decode cX9_lookAt 79 = .ok (.istore_n 2, 1) := by decide +kernel
theorem dX9_lookAt_80 : decode cX9_lookAt 80 = .ok (.aload_n 0, 1) := by decide +kernel
theorem dX9_lookAt_81 : decode cX9_lookAt 81 = .ok (.iload_n 2, 1) := by decide +kernel
theorem dX9_lookAt_82 : decode cX9_lookAt 82 = .ok (.invokestatic 262, 3) := by decide +kernel
theorem dX9_lookAt_85 : decode cX9_lookAt 85 = .ok (.ifCond .eq 7, 3) := by decide +kernel
theorem dX9_lookAt_88 : decode cX9_lookAt 88 = .ok (.iconst 1, 1) := by decide +kernel
theorem dX9_lookAt_89 : decode cX9_lookAt 89 = .ok (.goto 25, 3) := by decide +kernel
theorem dX9_lookAt_92 : decode cX9_lookAt 92 = .ok (.iload_n 2, 1) := by decide +kernel
theorem dX9_lookAt_93 : decode cX9_lookAt 93 = .ok (.invokestatic 265, 3) := by decide +kernel
theorem dX9_lookAt_96 : decode cX9_lookAt 96 = .ok (.ifCond .eq 7, 3) := by decide +kernel
theorem dX9_lookAt_99 : decode cX9_lookAt 99 = .ok (.iconst 2, 1) := by decide +kernel
theorem dX9_lookAt_100 : decode cX9_lookAt 100 = .ok (.goto 14, 3) := by decide +kernel
theorem dX9_lookAt_103 : decode cX9_lookAt 103 = .ok (.iload_n 2, 1) := by decide +kernel
theorem dX9_lookAt_104 : decode cX9_lookAt 104 = .ok (.bipush 59, 2) := by decide +kernel
theorem dX9_lookAt_106 : decode cX9_lookAt 106 = .ok (.if_icmp .ne 7, 3) := by decide +kernel
theorem dX9_lookAt_109 : decode cX9_lookAt 109 = .ok (.iconst 3, 1) := by decide +kernel
theorem dX9_lookAt_110 : decode cX9_lookAt 110 = .ok (.goto 4, 3) := by decide +kernel
theorem dX9_lookAt_113 : decode cX9_lookAt 113 = .ok (.iconst 4, 1) := by decide +kernel
theorem dX9_lookAt_114 : decode cX9_lookAt 114 = .ok (.putfield 256, 3) := by decide +kernel
theorem dX9_lookAt_117 : decode cX9_lookAt 117 = .ok (.aload_n 0, 1) := by decide +kernel
theorem dX9_lookAt_118 : decode cX9_lookAt 118 = .ok (.iconst 1, 1) := by decide +kernel
theorem dX9_lookAt_119 : decode cX9_lookAt 119 = .ok (.putfield 253, 3) := by decide +kernel
theorem dX9_lookAt_122 : decode cX9_lookAt 122 = .ok (.aload_n 0, 1) := by decide +kernel
theorem dX9_lookAt_123 : decode cX9_lookAt 123 = .ok (.getfield 256, 3) := by decide +kernel
theorem dX9_lookAt_126 : decode cX9_lookAt 126 = .ok (.iconst 3, 1) := by decide +kernel
theorem dX9_lookAt_127 : decode cX9_lookAt 127 = .ok (.if_icmp .ge 7, 3) := by decide +kernel
theorem dX9_lookAt_130 : decode cX9_lookAt 130 = .ok (.iconst 1, 1) := by decide +kernel
theorem dX9_lookAt_131 : decode cX9_lookAt 131 = .ok (.goto 4, 3) := by decide +kernel
theorem dX9_lookAt_134 : decode cX9_lookAt 134 = .ok (.iconst 0, 1) := by decide +kernel
theorem dX9_lookAt_135 : decode cX9_lookAt 135 = .ok (.istore_n 3, 1) := by decide +kernel
theorem dX9_lookAt_136 : decode cX9_lookAt 136 = .ok (.iload_n 3, 1) := by decide +kernel
theorem dX9_lookAt_137 : decode cX9_lookAt 137 = .ok (.ifCond .eq 78, 3) := by decide +kernel
theorem dX9_lookAt_140 : decode cX9_lookAt 140 = .ok (.aload_n 0, 1) := by decide +kernel
theorem dX9_lookAt_141 : decode cX9_lookAt 141 = .ok (.getfield 250, 3) := by decide +kernel
theorem dX9_lookAt_144 : decode cX9_lookAt 144 = .ok (.aload_n 0, 1) := by decide +kernel
theorem dX9_lookAt_145 : decode cX9_lookAt 145 = .ok (.getfield 253, 3) := by decide +kernel
theorem dX9_lookAt_148 : decode cX9_lookAt 148 = .ok (.iadd, 1) := by decide +kernel
theorem dX9_lookAt_149 : decode cX9_lookAt 149 = .ok (.aload_n 0, 1) := by decide +kernel
theorem dX9_lookAt_150 : decode cX9_lookAt 150 = .ok (.getfield 239, 3) := by decide +kernel
theorem dX9_lookAt_153 : decode cX9_lookAt 153 = .ok (.if_icmp .ge 62, 3) := by decide +kernel
theorem dX9_lookAt_156 : decode cX9_lookAt 156 = .ok (.aload_n 0, 1) := by decide +kernel
theorem dX9_lookAt_157 : decode cX9_lookAt 157 = .ok (.getfield 33, 3) := by decide +kernel
theorem dX9_lookAt_160 : decode cX9_lookAt 160 = .ok (.aload_n 0, 1) := by decide +kernel
theorem dX9_lookAt_161 : decode cX9_lookAt 161 = .ok (.getfield 250, 3) := by decide +kernel
theorem dX9_lookAt_164 : decode cX9_lookAt 164 = .ok (.aload_n 0, 1) := by decide +kernel
theorem dX9_lookAt_165 : decode cX9_lookAt 165 = .ok (.getfield 253, 3) := by decide +kernel
theorem dX9_lookAt_168 : decode cX9_lookAt 168 = .ok (.iadd, 1) := by decide +kernel
theorem dX9_lookAt_169 : decode cX9_lookAt 169 = .ok (.iaload, 1) := by decide +kernel
theorem dX9_lookAt_170 : decode cX9_lookAt 170 = .ok (.istore 4, 2) := by decide +kernel
theorem dX9_lookAt_172 : decode cX9_lookAt 172 = .ok (.aload_n 0, 1) := by decide +kernel
theorem dX9_lookAt_173 : decode cX9_lookAt 173 = .ok (.getfield 256, 3) := by decide +kernel
theorem dX9_lookAt_176 : decode cX9_lookAt 176 = .ok (.iconst 1, 1) := by decide +kernel
theorem dX9_lookAt_177 : decode cX9_lookAt 177 = .ok (.if_icmp .ne 11, 3) := by decide +kernel
theorem dX9_lookAt_180 : decode cX9_lookAt 180 = .ok (.iload 4, 2) := by decide +kernel
theorem dX9_lookAt_182 : decode cX9_lookAt 182 = .ok (.invokestatic 262, 3) := by decide +kernel
theorem dX9_lookAt_185 : decode cX9_lookAt 185 = .ok (.goto 8, 3) := by decide +kernel
theorem dX9_lookAt_188 : decode cX9_lookAt 188 = .ok (.iload 4, 2) := by decide +kernel
theorem dX9_lookAt_190 : decode cX9_lookAt 190 = .ok (.invokestatic 265, 3) := by decide +kernel
theorem dX9_lookAt_193 : decode cX9_lookAt 193 = .ok (.istore_n 3, 1) := by decide +kernel
theorem dX9_lookAt_194 : decode cX9_lookAt 194 = .ok (.aload_n 0, 1) := by decide +kernel
theorem dX9_lookAt_195 : decode cX9_lookAt 195 = .ok (.dup, 1) := by decide +kernel
theorem dX9_lookAt_196 : decode cX9_lookAt 196 = .ok (.getfield 253, 3) := by decide +kernel
theorem dX9_lookAt_199 : decode cX9_lookAt 199 = .ok (.iload_n 3, 1) := by decide +kernel
theorem dX9_lookAt_200 : decode cX9_lookAt 200 = .ok (.ifCond .eq 7, 3) := by decide +kernel
theorem dX9_lookAt_203 : decode cX9_lookAt 203 = .ok (.iconst 1, 1) := by decide +kernel
theorem dX9_lookAt_204 : decode cX9_lookAt 204 = .ok (.goto 4, 3) := by decide +kernel
theorem dX9_lookAt_207 : decode cX9_lookAt 207 = .ok (.iconst 0, 1) := by decide +kernel
theorem dX9_lookAt_208 : decode cX9_lookAt 208 = .ok (.iadd, 1) := by decide +kernel
theorem dX9_lookAt_209 : decode cX9_lookAt 209 = .ok (.putfield 253, 3) := by decide +kernel
theorem dX9_lookAt_212 : decode cX9_lookAt 212 = .ok (.goto (-76), 3) := by decide +kernel
theorem dX9_lookAt_215 : decode cX9_lookAt 215 = .ok (.iconst 0, 1) := by decide +kernel
theorem dX9_lookAt_216 : decode cX9_lookAt 216 = .ok (.istore 4, 2) := by decide +kernel
theorem dX9_lookAt_218 : decode cX9_lookAt 218 = .ok (.iload 4, 2) := by decide +kernel
theorem dX9_lookAt_220 : decode cX9_lookAt 220 = .ok (.aload_n 0, 1) := by decide +kernel
theorem dX9_lookAt_221 : decode cX9_lookAt 221 = .ok (.getfield 253, 3) := by decide +kernel
theorem dX9_lookAt_224 : decode cX9_lookAt 224 = .ok (.if_icmp .ge 50, 3) := by decide +kernel
theorem dX9_lookAt_227 : decode cX9_lookAt 227 = .ok (.iload 4, 2) := by decide +kernel
theorem dX9_lookAt_229 : decode cX9_lookAt 229 = .ok (.iconst 2, 1) := by decide +kernel
theorem dX9_lookAt_230 : decode cX9_lookAt 230 = .ok (.if_icmp .ge 44, 3) := by decide +kernel
theorem dX9_lookAt_233 : decode cX9_lookAt 233 = .ok (.aload_n 0, 1) := by decide +kernel
theorem dX9_lookAt_234 : decode cX9_lookAt 234 = .ok (.getfield 256, 3) := by decide +kernel
theorem dX9_lookAt_237 : decode cX9_lookAt 237 = .ok (.iconst 2, 1) := by decide +kernel
theorem dX9_lookAt_238 : decode cX9_lookAt 238 = .ok (.if_icmp .ne 36, 3) := by decide +kernel
theorem dX9_lookAt_241 : decode cX9_lookAt 241 = .ok (.aload_n 0, 1) := by decide +kernel
theorem dX9_lookAt_242 : decode cX9_lookAt 242 = .ok (.bipush 10, 2) := by decide +kernel
theorem dX9_lookAt_244 : decode cX9_lookAt 244 = .ok (.aload_n 0, 1) := by decide +kernel
theorem dX9_lookAt_245 : decode cX9_lookAt 245 = .ok (.getfield 259, 3) := by decide +kernel
theorem dX9_lookAt_248 : decode cX9_lookAt 248 = .ok (.imul, 1) := by decide +kernel
theorem dX9_lookAt_249 : decode cX9_lookAt 249 = .ok (.aload_n 0, 1) := by decide +kernel
theorem dX9_lookAt_250 : decode cX9_lookAt 250 = .ok (.getfield 33, 3) := by decide +kernel
theorem dX9_lookAt_253 : decode cX9_lookAt 253 = .ok (.aload_n 0, 1) := by decide +kernel
theorem dX9_lookAt_254 : decode cX9_lookAt 254 = .ok (.getfield 250, 3) := by decide +kernel
theorem dX9_lookAt_257 : decode cX9_lookAt 257 = .ok (.iload 4, 2) := by decide +kernel
theorem dX9_lookAt_259 : decode cX9_lookAt 259 = .ok (.iadd, 1) := by decide +kernel
theorem dX9_lookAt_260 : decode cX9_lookAt 260 = .ok (.iaload, 1) := by decide +kernel
theorem dX9_lookAt_261 : decode cX9_lookAt 261 = .ok (.iadd, 1) := by decide +kernel
theorem dX9_lookAt_262 : decode cX9_lookAt 262 = .ok (.bipush 48, 2) := by decide +kernel
theorem dX9_lookAt_264 : decode cX9_lookAt 264 = .ok (.isub, 1) := by decide +kernel
theorem dX9_lookAt_265 : decode cX9_lookAt 265 = .ok (.putfield 259, 3) := by decide +kernel
theorem dX9_lookAt_268 : decode cX9_lookAt 268 = .ok (.iinc 4 1, 3) := by decide +kernel
theorem dX9_lookAt_271 : decode cX9_lookAt 271 = .ok (.goto (-53), 3) := by decide +kernel
theorem dX9_lookAt_274 : decode cX9_lookAt 274 = .ok (.aload_n 0, 1) := by decide +kernel
theorem dX9_lookAt_275 : decode cX9_lookAt 275 = .ok (.aload_n 0, 1) := by decide +kernel
theorem dX9_lookAt_276 : decode cX9_lookAt 276 = .ok (.getfield 256, 3) := by decide +kernel
theorem dX9_lookAt_279 : decode cX9_lookAt 279 = .ok (.iconst 2, 1) := by decide +kernel
theorem dX9_lookAt_280 : decode cX9_lookAt 280 = .ok (.if_icmp .ne 15, 3) := by decide +kernel
theorem dX9_lookAt_283 : decode cX9_lookAt 283 = .ok (.aload_n 0, 1) := by decide +kernel
theorem dX9_lookAt_284 : decode cX9_lookAt 284 = .ok (.getfield 253, 3) := by decide +kernel
theorem dX9_lookAt_287 : decode cX9_lookAt 287 = .ok (.iconst 2, 1) := by decide +kernel
theorem dX9_lookAt_288 : decode cX9_lookAt 288 = .ok (.if_icmp .le 7, 3) := by decide +kernel
theorem dX9_lookAt_291 : decode cX9_lookAt 291 = .ok (.iconst 4, 1) := by decide +kernel
theorem dX9_lookAt_292 : decode cX9_lookAt 292 = .ok (.goto 7, 3) := by decide +kernel
theorem dX9_lookAt_295 : decode cX9_lookAt 295 = .ok (.aload_n 0, 1) := by decide +kernel
theorem dX9_lookAt_296 : decode cX9_lookAt 296 = .ok (.getfield 256, 3) := by decide +kernel
theorem dX9_lookAt_299 : decode cX9_lookAt 299 = .ok (.putfield 256, 3) := by decide +kernel
theorem dX9_lookAt_302 : decode cX9_lookAt 302 = .ok (.return_, 1) := by decide +kernel
theorem dX9_read_0 : decode cX9_read 0 = .ok (.aload_n 0, 1) := by decide +kernel
theorem dX9_read_1 : decode cX9_read 1 = .ok (.iconst 0, 1) := by decide +kernel
theorem dX9_read_2 : decode cX9_read 2 = .ok (.invokevirtual 268, 3) := by decide +kernel
theorem dX9_read_5 : decode cX9_read 5 = .ok (.aload_n 0, 1) := by decide +kernel
theorem dX9_read_6 : decode cX9_read 6 = .ok (.bipush 6, 2) := by decide +kernel
theorem dX9_read_8 : decode cX9_read 8 = .ok (.bipush 105, 2) := by decide +kernel
theorem dX9_read_10 : decode cX9_read 10 = .ok (.bipush 115, 2) := by decide +kernel
theorem dX9_read_12 : decode cX9_read 12 = .ok (.bipush 108, 2) := by decide +kernel
theorem dX9_read_14 : decode cX9_read 14 = .ok (.bipush 97, 2) := by decide +kernel
theorem dX9_read_16 : decode cX9_read 16 = .ok (.bipush 110, 2) := by decide +kernel
theorem dX9_read_18 : decode cX9_read 18 = .ok (.bipush 100, 2) := by decide +kernel
theorem dX9_read_20 : decode cX9_read 20 = .ok (.invokevirtual 279, 3) := by decide +kernel
theorem dX9_read_23 : decode cX9_read 23 = .ok (.ifCond .ne 11, 3) := by decide +kernel
theorem dX9_read_26 : decode cX9_read 26 = .ok (.bipush (-10), 2) := by decide +kernel
theorem dX9_read_28 : decode cX9_read 28 = .ok (.aload_n 0, 1) := by decide +kernel
theorem dX9_read_29 : decode cX9_read 29 = .ok (.getfield 250, 3) := by decide +kernel
theorem dX9_read_32 : decode cX9_read 32 = .ok (.isub, 1) := by decide +kernel
theorem dX9_read_33 : decode cX9_read 33 = .ok (.ireturn, 1) := by decide +kernel
theorem dX9_read_34 : decode cX9_read 34 = .ok (.aload_n 0, 1) := by decide +kernel
theorem dX9_read_35 : decode cX9_read 35 = .ok (.invokevirtual 272, 3) := by decide +kernel
theorem dX9_read_38 : decode cX9_read 38 = .ok (.aload_n 0, 1) := by decide +kernel
theorem dX9_read_39 : decode cX9_read 39 = .ok (.iconst 0, 1) := by decide +kernel
theorem dX9_read_40 : decode cX9_read 40 = .ok (.iconst 0, 1) := by decide +kernel
theorem dX9_read_41 : decode cX9_read 41 = .ok (.bipush 99, 2) := by decide +kernel
theorem dX9_read_43 : decode cX9_read 43 = .ok (.invokevirtual 275, 3) := by decide +kernel
theorem dX9_read_46 : decode cX9_read 46 = .ok (.ifCond .eq 11, 3) := by decide +kernel
theorem dX9_read_49 : decode cX9_read 49 = .ok (.aload_n 0, 1) := by decide +kernel
theorem dX9_read_50 : decode cX9_read 50 = .ok (.getfield 256, 3) := by decide +kernel
theorem dX9_read_53 : decode cX9_read 53 = .ok (.iconst 3, 1) := by decide +kernel
theorem dX9_read_54 : decode cX9_read 54 = .ok (.if_icmp .eq 11, 3) := by decide +kernel
theorem dX9_read_57 : decode cX9_read 57 = .ok (.bipush (-10), 2) := by decide +kernel
theorem dX9_read_59 : decode cX9_read 59 = .ok (.aload_n 0, 1) := by decide +kernel
theorem dX9_read_60 : decode cX9_read 60 = .ok (.getfield 250, 3) := by decide +kernel
theorem dX9_read_63 : decode cX9_read 63 = .ok (.isub, 1) := by decide +kernel
theorem dX9_read_64 : decode cX9_read 64 = .ok (.ireturn, 1) := by decide +kernel
theorem dX9_read_65 : decode cX9_read 65 = .ok (.aload_n 0, 1) := by decide +kernel
theorem dX9_read_66 : decode cX9_read 66 = .ok (.invokevirtual 272, 3) := by decide +kernel
theorem dX9_read_69 : decode cX9_read 69 = .ok (.aload_n 0, 1) := by decide +kernel
theorem dX9_read_70 : decode cX9_read 70 = .ok (.getfield 36, 3) := by decide +kernel
theorem dX9_read_73 : decode cX9_read 73 = .ok (.aload_n 0, 1) := by decide +kernel
theorem dX9_read_74 : decode cX9_read 74 = .ok (.getfield 39, 3) := by decide +kernel
theorem dX9_read_77 : decode cX9_read 77 = .ok (.iconst 0, 1) := by decide +kernel
theorem dX9_read_78 : decode cX9_read 78 = .ok (.iaload, 1) := by decide +kernel
theorem dX9_read_79 : decode cX9_read 79 = .ok (.invokestatic 42, 3) := by decide +kernel
theorem dX9_read_82 : decode cX9_read 82 = .ok (.iconst 1, 1) := by decide +kernel
theorem dX9_read_83 : decode cX9_read 83 = .ok (.istore_n 1, 1) := by decide +kernel
theorem dX9_read_84 : decode cX9_read 84 = .ok (.aload_n 0, 1) := by decide +kernel
theorem dX9_read_85 : decode cX9_read 85 = .ok (.getfield 256, 3) := by decide +kernel
theorem dX9_read_88 : decode cX9_read 88 = .ok (.ifCond .eq 36, 3) := by decide +kernel
theorem dX9_read_91 : decode cX9_read 91 = .ok (.aload_n 0, 1) := by decide +kernel
theorem dX9_read_92 : decode cX9_read 92 = .ok (.invokevirtual 299, 3) := by decide +kernel
theorem dX9_read_95 : decode cX9_read 95 = .ok (.ifCond .eq 11, 3) := by decide +kernel
theorem dX9_read_98 : decode cX9_read 98 = .ok (.aload_n 0, 1) := by decide +kernel
theorem dX9_read_99 : decode cX9_read 99 = .ok (.getfield 256, 3) := by decide +kernel
theorem dX9_read_102 : decode cX9_read 102 = .ok (.iconst 3, 1) := by decide +kernel
theorem dX9_read_103 : decode cX9_read 103 = .ok (.if_icmp .eq 11, 3) := by decide +kernel
theorem dX9_read_106 : decode cX9_read 106 = .ok (.bipush (-10), 2) := by decide +kernel
theorem dX9_read_108 : decode cX9_read 108 = .ok (.aload_n 0, 1) := by decide +kernel
theorem dX9_read_109 : decode cX9_read 109 = .ok (.getfield 250, 3) := by decide +kernel
theorem dX9_read_112 : decode cX9_read 112 = .ok (.isub, 1) := by decide +kernel
theorem dX9_read_113 : decode cX9_read 113 = .ok (.ireturn, 1) := by decide +kernel
theorem dX9_read_114 : decode cX9_read 114 = .ok (.aload_n 0, 1) := by decide +kernel
theorem dX9_read_115 : decode cX9_read 115 = .ok (.invokevirtual 272, 3) := by decide +kernel
theorem dX9_read_118 : decode cX9_read 118 = .ok (.iinc 1 1, 3) := by decide +kernel
theorem dX9_read_121 : decode cX9_read 121 = .ok (.goto (-37), 3) := by decide +kernel
theorem dX9_read_124 : decode cX9_read 124 = .ok (.iconst 0, 1) := by decide +kernel
theorem dX9_read_125 : decode cX9_read 125 = .ok (.istore_n 2, 1) := by decide +kernel
theorem dX9_read_126 : decode cX9_read 126 = .ok (.iload_n 2, 1) := by decide +kernel
theorem dX9_read_127 : decode cX9_read 127 = .ok (.bipush 89, 2) := by decide +kernel
theorem dX9_read_129 : decode cX9_read 129 = .ok (.if_icmp .ge 21, 3) := by decide +kernel
theorem dX9_read_132 : decode cX9_read 132 = .ok (.aload_n 0, 1) := by decide +kernel
theorem dX9_read_133 : decode cX9_read 133 = .ok (.getfield 7, 3) := by decide +kernel
theorem dX9_read_136 : decode cX9_read 136 = .ok (.iload_n 2, 1) := by decide +kernel
theorem dX9_read_137 : decode cX9_read 137 = .ok (.aload_n 0, 1) := by decide +kernel
theorem dX9_read_138 : decode cX9_read 138 = .ok (.getfield 36, 3) := by decide +kernel
theorem dX9_read_141 : decode cX9_read 141 = .ok (.iload_n 2, 1) := by decide +kernel
theorem dX9_read_142 : decode cX9_read 142 = .ok (.iaload, 1) := by decide +kernel
theorem dX9_read_143 : decode cX9_read 143 = .ok (.iastore, 1) := by decide +kernel
theorem dX9_read_144 : decode cX9_read 144 = .ok (.iinc 2 1, 3) := by decide +kernel
theorem dX9_read_147 : decode cX9_read 147 = .ok (.goto (-21), 3) := by decide +kernel
theorem dX9_read_150 : decode cX9_read 150 = .ok (.iload_n 1, 1) := by decide +kernel
theorem dX9_read_151 : decode cX9_read 151 = .ok (.ireturn, 1) := by decide +kernel
theorem dX9_spells_0 : decode cX9_spells 0 = .ok (.aload_n 0, 1) := by decide +kernel
theorem dX9_spells_1 : decode cX9_spells 1 = .ok (.getfield 256, 3) := by decide +kernel
theorem dX9_spells_4 : decode cX9_spells 4 = .ok (.iconst 1, 1) := by decide +kernel
theorem dX9_spells_5 : decode cX9_spells 5 = .ok (.if_icmp .ne 15, 3) := by decide +kernel
theorem dX9_spells_8 : decode cX9_spells 8 = .ok (.aload_n 0, 1) := by decide +kernel
theorem dX9_spells_9 : decode cX9_spells 9 = .ok (.getfield 253, 3) := by decide +kernel
theorem dX9_spells_12 : decode cX9_spells 12 = .ok (.iload_n 1, 1) := by decide +kernel
theorem dX9_spells_13 : decode cX9_spells 13 = .ok (.if_icmp .ne 7, 3) := by decide +kernel
theorem dX9_spells_16 : decode cX9_spells 16 = .ok (.iconst 1, 1) := by decide +kernel
theorem dX9_spells_17 : decode cX9_spells 17 = .ok (.goto 4, 3) := by decide +kernel
theorem dX9_spells_20 : decode cX9_spells 20 = .ok (.iconst 0, 1) := by decide +kernel
theorem dX9_spells_21 : decode cX9_spells 21 = .ok (.istore 8, 2) := by decide +kernel
theorem dX9_spells_23 : decode cX9_spells 23 = .ok (.iconst 0, 1) := by decide +kernel
theorem dX9_spells_24 : decode cX9_spells 24 = .ok (.istore 9, 2) := by decide +kernel
theorem dX9_spells_26 : decode cX9_spells 26 = .ok (.iload 9, 2) := by decide +kernel
theorem dX9_spells_28 : decode cX9_spells 28 = .ok (.iload_n 1, 1) := by decide +kernel
theorem dX9_spells_29 : decode cX9_spells 29 = .ok (.if_icmp .ge 90, 3) := by decide +kernel
theorem dX9_spells_32 : decode cX9_spells 32 = .ok (.iload 8, 2) := by decide +kernel
theorem dX9_spells_34 : decode cX9_spells 34 = .ok (.ifCond .eq 85, 3) := by decide +kernel
theorem dX9_spells_37 : decode cX9_spells 37 = .ok (.aload_n 0, 1) := by decide +kernel
theorem dX9_spells_38 : decode cX9_spells 38 = .ok (.getfield 33, 3) := by decide +kernel
theorem dX9_spells_41 : decode cX9_spells 41 = .ok (.aload_n 0, 1) := by decide +kernel
theorem dX9_spells_42 : decode cX9_spells 42 = .ok (.getfield 250, 3) := by decide +kernel
theorem dX9_spells_45 : decode cX9_spells 45 = .ok (.iload 9, 2) := by decide +kernel
theorem dX9_spells_47 : decode cX9_spells 47 = .ok (.iadd, 1) := by decide +kernel
theorem dX9_spells_48 : decode cX9_spells 48 = .ok (.iaload, 1) := by decide +kernel
theorem dX9_spells_49 : decode cX9_spells 49 = .ok (.iload 9, 2) := by decide +kernel
theorem dX9_spells_51 : decode cX9_spells 51 = .ok (.ifCond .ne 7, 3) := by decide +kernel
theorem dX9_spells_54 : decode cX9_spells 54 = .ok (.iload_n 2, 1) := by decide +kernel
theorem dX9_spells_55 : decode cX9_spells 55 = .ok (.goto 48, 3) := by decide +kernel
theorem dX9_spells_58 : decode cX9_spells 58 = .ok (.iload 9, 2) := by decide +kernel
theorem dX9_spells_60 : decode cX9_spells 60 = .ok (.iconst 1, 1) := by decide +kernel
theorem dX9_spells_61 : decode cX9_spells 61 = .ok (.if_icmp .ne 7, 3) := by decide +kernel
theorem dX9_spells_64 : decode cX9_spells 64 = .ok (.iload_n 3, 1) := by decide +kernel
theorem dX9_spells_65 : decode cX9_spells 65 = .ok (.goto 38, 3) := by decide +kernel
theorem dX9_spells_68 : decode cX9_spells 68 = .ok (.iload 9, 2) := by decide +kernel
theorem dX9_spells_70 : decode cX9_spells 70 = .ok (.iconst 2, 1) := by decide +kernel
theorem dX9_spells_71 : decode cX9_spells 71 = .ok (.if_icmp .ne 8, 3) := by decide +kernel
theorem dX9_spells_74 : decode cX9_spells 74 = .ok (.iload 4, 2) := by decide +kernel
theorem dX9_spells_76 : decode cX9_spells 76 = .ok (.goto 27, 3) := by decide +kernel
theorem dX9_spells_79 : decode cX9_spells 79 = .ok (.iload 9, 2) := by decide +kernel
theorem dX9_spells_81 : decode cX9_spells 81 = .ok (.iconst 3, 1) := by decide +kernel
theorem dX9_spells_82 : decode cX9_spells 82 = .ok (.if_icmp .ne 8, 3) := by decide +kernel
theorem dX9_spells_85 : decode cX9_spells 85 = .ok (.iload 5, 2) := by decide +kernel
theorem dX9_spells_87 : decode cX9_spells 87 = .ok (.goto 16, 3) := by decide +kernel
theorem dX9_spells_90 : decode cX9_spells 90 = .ok (.iload 9, 2) := by decide +kernel
theorem dX9_spells_92 : decode cX9_spells 92 = .ok (.iconst 4, 1) := by decide +kernel
theorem dX9_spells_93 : decode cX9_spells 93 = .ok (.if_icmp .ne 8, 3) := by decide +kernel
theorem dX9_spells_96 : decode cX9_spells 96 = .ok (.iload 6, 2) := by decide +kernel
theorem dX9_spells_98 : decode cX9_spells 98 = .ok (.goto 5, 3) := by decide +kernel
theorem dX9_spells_101 : decode cX9_spells 101 = .ok (.iload 7, 2) := by decide +kernel
theorem dX9_spells_103 : decode cX9_spells 103 = .ok (.if_icmp .ne 7, 3) := by decide +kernel
theorem dX9_spells_106 : decode cX9_spells 106 = .ok (.iconst 1, 1) := by decide +kernel
theorem dX9_spells_107 : decode cX9_spells 107 = .ok (.goto 4, 3) := by decide +kernel
theorem dX9_spells_110 : decode cX9_spells 110 = .ok (.iconst 0, 1) := by decide +kernel
theorem dX9_spells_111 : decode cX9_spells 111 = .ok (.istore 8, 2) := by decide +kernel
theorem dX9_spells_113 : decode cX9_spells 113 = .ok (.iinc 9 1, 3) := by decide +kernel
theorem dX9_spells_116 : decode cX9_spells 116 = .ok (.goto (-90), 3) := by decide +kernel
theorem dX9_spells_119 : decode cX9_spells 119 = .ok (.iload 8, 2) := by decide +kernel
theorem dX9_spells_121 : decode cX9_spells 121 = .ok (.ireturn, 1) := by decide +kernel
theorem dX9_takes_0 : decode cX9_takes 0 = .ok (.aload_n 0, 1) := by decide +kernel
theorem dX9_takes_1 : decode cX9_takes 1 = .ok (.getfield 256, 3) := by decide +kernel
theorem dX9_takes_4 : decode cX9_takes 4 = .ok (.iconst 2, 1) := by decide +kernel
theorem dX9_takes_5 : decode cX9_takes 5 = .ok (.if_icmp .ne 18, 3) := by decide +kernel
theorem dX9_takes_8 : decode cX9_takes 8 = .ok (.aload_n 0, 1) := by decide +kernel
theorem dX9_takes_9 : decode cX9_takes 9 = .ok (.getfield 259, 3) := by decide +kernel
theorem dX9_takes_12 : decode cX9_takes 12 = .ok (.i2l, 1) := by decide +kernel
theorem dX9_takes_13 : decode cX9_takes 13 = .ok (.iload_n 2, 1) := by decide +kernel
theorem dX9_takes_14 : decode cX9_takes 14 = .ok (.i2l, 1) := by decide +kernel
theorem dX9_takes_15 : decode cX9_takes 15 = .ok (.iload_n 3, 1) := by decide +kernel
theorem dX9_takes_16 : decode cX9_takes 16 = .ok (.i2l, 1) := by decide +kernel
theorem dX9_takes_17 : decode cX9_takes 17 = .ok (.invokestatic 46, 3) := by decide +kernel
theorem dX9_takes_20 : decode cX9_takes 20 = .ok (.ifCond .ne 5, 3) := by decide +kernel
theorem dX9_takes_23 : decode cX9_takes 23 = .ok (.iconst 0, 1) := by decide +kernel
theorem dX9_takes_24 : decode cX9_takes 24 = .ok (.ireturn, 1) := by decide +kernel
theorem dX9_takes_25 : decode cX9_takes 25 = .ok (.aload_n 0, 1) := by decide +kernel
theorem dX9_takes_26 : decode cX9_takes 26 = .ok (.getfield 39, 3) := by decide +kernel
theorem dX9_takes_29 : decode cX9_takes 29 = .ok (.iload_n 1, 1) := by decide +kernel
theorem dX9_takes_30 : decode cX9_takes 30 = .ok (.aload_n 0, 1) := by decide +kernel
theorem dX9_takes_31 : decode cX9_takes 31 = .ok (.getfield 259, 3) := by decide +kernel
theorem dX9_takes_34 : decode cX9_takes 34 = .ok (.iastore, 1) := by decide +kernel
theorem dX9_takes_35 : decode cX9_takes 35 = .ok (.aload_n 0, 1) := by decide +kernel
theorem dX9_takes_36 : decode cX9_takes 36 = .ok (.invokevirtual 272, 3) := by decide +kernel
theorem dX9_takes_39 : decode cX9_takes 39 = .ok (.iconst 1, 1) := by decide +kernel
theorem dX9_takes_40 : decode cX9_takes 40 = .ok (.ireturn, 1) := by decide +kernel
theorem dX9_takesCaster_0 : decode cX9_takesCaster 0 = .ok (.aload_n 0, 1) := by decide +kernel
theorem dX9_takesCaster_1 : decode cX9_takesCaster 1 = .ok (.getfield 36, 3) := by decide +kernel
theorem dX9_takesCaster_4 : decode cX9_takesCaster 4 = .ok (.iconst 0, 1) := by decide +kernel
theorem dX9_takesCaster_5 : decode cX9_takesCaster 5 = .ok (.iaload, 1) := by decide +kernel
theorem dX9_takesCaster_6 : decode cX9_takesCaster 6 = .ok (.bipush 7, 2) := by decide +kernel
theorem dX9_takesCaster_8 : decode cX9_takesCaster 8 = .ok (.if_icmp .ne 5, 3) := by decide +kernel
theorem dX9_takesCaster_11 : decode cX9_takesCaster 11 = .ok (.iconst 0, 1) := by decide +kernel
theorem dX9_takesCaster_12 : decode cX9_takesCaster 12 = .ok (.ireturn, 1) := by decide +kernel
theorem dX9_takesCaster_13 : decode cX9_takesCaster 13 = .ok (.aload_n 0, 1) := by decide +kernel
theorem dX9_takesCaster_14 : decode cX9_takesCaster 14 = .ok (.invokevirtual 272, 3) := by decide +kernel
theorem dX9_takesCaster_17 : decode cX9_takesCaster 17 = .ok (.aload_n 0, 1) := by decide +kernel
theorem dX9_takesCaster_18 : decode cX9_takesCaster 18 = .ok (.iconst 0, 1) := by decide +kernel
theorem dX9_takesCaster_19 : decode cX9_takesCaster 19 = .ok (.iconst 0, 1) := by decide +kernel
theorem dX9_takesCaster_20 : decode cX9_takesCaster 20 = .ok (.iconst 5, 1) := by decide +kernel
theorem dX9_takesCaster_21 : decode cX9_takesCaster 21 = .ok (.invokevirtual 275, 3) := by decide +kernel
theorem dX9_takesCaster_24 : decode cX9_takesCaster 24 = .ok (.ifCond .eq 24, 3) := by decide +kernel
theorem dX9_takesCaster_27 : decode cX9_takesCaster 27 = .ok (.aload_n 0, 1) := by decide +kernel
theorem dX9_takesCaster_28 : decode cX9_takesCaster 28 = .ok (.iconst 1, 1) := by decide +kernel
theorem dX9_takesCaster_29 : decode cX9_takesCaster 29 = .ok (.iconst 1, 1) := by decide +kernel
theorem dX9_takesCaster_30 : decode cX9_takesCaster 30 = .ok (.bipush 9, 2) := by decide +kernel
theorem dX9_takesCaster_32 : decode cX9_takesCaster 32 = .ok (.invokevirtual 275, 3) := by decide +kernel
theorem dX9_takesCaster_35 : decode cX9_takesCaster 35 = .ok (.ifCond .eq 13, 3) := by decide +kernel
theorem dX9_takesCaster_38 : decode cX9_takesCaster 38 = .ok (.aload_n 0, 1) := by decide +kernel
theorem dX9_takesCaster_39 : decode cX9_takesCaster 39 = .ok (.iconst 2, 1) := by decide +kernel
theorem dX9_takesCaster_40 : decode cX9_takesCaster 40 = .ok (.iconst 0, 1) := by decide +kernel
theorem dX9_takesCaster_41 : decode cX9_takesCaster 41 = .ok (.iconst 3, 1) := by decide +kernel
theorem dX9_takesCaster_42 : decode cX9_takesCaster 42 = .ok (.invokevirtual 275, 3) := by decide +kernel
theorem dX9_takesCaster_45 : decode cX9_takesCaster 45 = .ok (.ifCond .ne 5, 3) := by decide +kernel
theorem dX9_takesCaster_48 : decode cX9_takesCaster 48 = .ok (.iconst 0, 1) := by decide +kernel
theorem dX9_takesCaster_49 : decode cX9_takesCaster 49 = .ok (.ireturn, 1) := by decide +kernel
theorem dX9_takesCaster_50 : decode cX9_takesCaster 50 = .ok (.aload_n 0, 1) := by decide +kernel
theorem dX9_takesCaster_51 : decode cX9_takesCaster 51 = .ok (.getfield 36, 3) := by decide +kernel
theorem dX9_takesCaster_54 : decode cX9_takesCaster 54 = .ok (.aload_n 0, 1) := by decide +kernel
theorem dX9_takesCaster_55 : decode cX9_takesCaster 55 = .ok (.getfield 39, 3) := by decide +kernel
theorem dX9_takesCaster_58 : decode cX9_takesCaster 58 = .ok (.iconst 0, 1) := by decide +kernel
theorem dX9_takesCaster_59 : decode cX9_takesCaster 59 = .ok (.iaload, 1) := by decide +kernel
theorem dX9_takesCaster_60 : decode cX9_takesCaster 60 = .ok (.aload_n 0, 1) := by decide +kernel
theorem dX9_takesCaster_61 : decode cX9_takesCaster 61 = .ok (.getfield 39, 3) := by decide +kernel
theorem dX9_takesCaster_64 : decode cX9_takesCaster 64 = .ok (.iconst 1, 1) := by decide +kernel
theorem dX9_takesCaster_65 : decode cX9_takesCaster 65 = .ok (.iaload, 1) := by decide +kernel
theorem dX9_takesCaster_66 : decode cX9_takesCaster 66 = .ok (.aload_n 0, 1) := by decide +kernel
theorem dX9_takesCaster_67 : decode cX9_takesCaster 67 = .ok (.getfield 39, 3) := by decide +kernel
theorem dX9_takesCaster_70 : decode cX9_takesCaster 70 = .ok (.iconst 2, 1) := by decide +kernel
theorem dX9_takesCaster_71 : decode cX9_takesCaster 71 = .ok (.iaload, 1) := by decide +kernel
theorem dX9_takesCaster_72 : decode cX9_takesCaster 72 = .ok (.invokestatic 80, 3) := by decide +kernel
theorem dX9_takesCaster_75 : decode cX9_takesCaster 75 = .ok (.iconst 1, 1) := by decide +kernel
theorem dX9_takesCaster_76 : decode cX9_takesCaster 76 = .ok (.ireturn, 1) := by decide +kernel
theorem dX9_takesHours_0 : decode cX9_takesHours 0 = .ok (.aload_n 0, 1) := by decide +kernel
theorem dX9_takesHours_1 : decode cX9_takesHours 1 = .ok (.invokevirtual 272, 3) := by decide +kernel
theorem dX9_takesHours_4 : decode cX9_takesHours 4 = .ok (.aload_n 0, 1) := by decide +kernel
theorem dX9_takesHours_5 : decode cX9_takesHours 5 = .ok (.iconst 0, 1) := by decide +kernel
theorem dX9_takesHours_6 : decode cX9_takesHours 6 = .ok (.iconst 1, 1) := by decide +kernel
theorem dX9_takesHours_7 : decode cX9_takesHours 7 = .ok (.bipush 99, 2) := by decide +kernel
theorem dX9_takesHours_9 : decode cX9_takesHours 9 = .ok (.invokevirtual 275, 3) := by decide +kernel
theorem dX9_takesHours_12 : decode cX9_takesHours 12 = .ok (.ifCond .ne 5, 3) := by decide +kernel
theorem dX9_takesHours_15 : decode cX9_takesHours 15 = .ok (.iconst 0, 1) := by decide +kernel
theorem dX9_takesHours_16 : decode cX9_takesHours 16 = .ok (.ireturn, 1) := by decide +kernel
theorem dX9_takesHours_17 : decode cX9_takesHours 17 = .ok (.aload_n 0, 1) := by decide +kernel
theorem dX9_takesHours_18 : decode cX9_takesHours 18 = .ok (.getfield 36, 3) := by decide +kernel
theorem dX9_takesHours_21 : decode cX9_takesHours 21 = .ok (.aload_n 0, 1) := by decide +kernel
theorem dX9_takesHours_22 : decode cX9_takesHours 22 = .ok (.getfield 39, 3) := by decide +kernel
theorem dX9_takesHours_25 : decode cX9_takesHours 25 = .ok (.iconst 0, 1) := by decide +kernel
theorem dX9_takesHours_26 : decode cX9_takesHours 26 = .ok (.iaload, 1) := by decide +kernel
theorem dX9_takesHours_27 : decode cX9_takesHours 27 = .ok (.invokestatic 132, 3) := by decide +kernel
theorem dX9_takesHours_30 : decode cX9_takesHours 30 = .ok (.iconst 1, 1) := by decide +kernel
theorem dX9_takesHours_31 : decode cX9_takesHours 31 = .ok (.ireturn, 1) := by decide +kernel
theorem dX9_takesItem_0 : decode cX9_takesItem 0 = .ok (.aload_n 0, 1) := by decide +kernel
theorem dX9_takesItem_1 : decode cX9_takesItem 1 = .ok (.bipush 6, 2) := by decide +kernel
theorem dX9_takesItem_3 : decode cX9_takesItem 3 = .ok (.bipush 99, 2) := by decide +kernel
theorem dX9_takesItem_5 : decode cX9_takesItem 5 = .ok (.bipush 97, 2) := by decide +kernel
theorem dX9_takesItem_7 : decode cX9_takesItem 7 = .ok (.bipush 115, 2) := by decide +kernel
theorem dX9_takesItem_9 : decode cX9_takesItem 9 = .ok (.bipush 116, 2) := by decide +kernel
theorem dX9_takesItem_11 : decode cX9_takesItem 11 = .ok (.bipush 101, 2) := by decide +kernel
theorem dX9_takesItem_13 : decode cX9_takesItem 13 = .ok (.bipush 114, 2) := by decide +kernel
theorem dX9_takesItem_15 : decode cX9_takesItem 15 = .ok (.invokevirtual 279, 3) := by decide +kernel
theorem dX9_takesItem_18 : decode cX9_takesItem 18 = .ok (.ifCond .eq 8, 3) := by decide +kernel
theorem dX9_takesItem_21 : decode cX9_takesItem 21 = .ok (.aload_n 0, 1) := by decide +kernel
theorem dX9_takesItem_22 : decode cX9_takesItem 22 = .ok (.invokevirtual 283, 3) := by decide +kernel
theorem dX9_takesItem_25 : decode cX9_takesItem 25 = .ok (.ireturn, 1) := by decide +kernel
theorem dX9_takesItem_26 : decode cX9_takesItem 26 = .ok (.aload_n 0, 1) := by decide +kernel
theorem dX9_takesItem_27 : decode cX9_takesItem 27 = .ok (.iconst 3, 1) := by decide +kernel
theorem dX9_takesItem_28 : decode cX9_takesItem 28 = .ok (.bipush 106, 2) := by decide +kernel
theorem dX9_takesItem_30 : decode cX9_takesItem 30 = .ok (.bipush 97, 2) := by decide +kernel
theorem dX9_takesItem_32 : decode cX9_takesItem 32 = .ok (.bipush 114, 2) := by decide +kernel
theorem dX9_takesItem_34 : decode cX9_takesItem 34 = .ok (.iconst 0, 1) := by decide +kernel
theorem dX9_takesItem_35 : decode cX9_takesItem 35 = .ok (.iconst 0, 1) := by decide +kernel
theorem dX9_takesItem_36 : decode cX9_takesItem 36 = .ok (.iconst 0, 1) := by decide +kernel
theorem dX9_takesItem_37 : decode cX9_takesItem 37 = .ok (.invokevirtual 279, 3) := by decide +kernel
theorem dX9_takesItem_40 : decode cX9_takesItem 40 = .ok (.ifCond .eq 8, 3) := by decide +kernel
theorem dX9_takesItem_43 : decode cX9_takesItem 43 = .ok (.aload_n 0, 1) := by decide +kernel
theorem dX9_takesItem_44 : decode cX9_takesItem 44 = .ok (.invokevirtual 287, 3) := by decide +kernel
theorem dX9_takesItem_47 : decode cX9_takesItem 47 = .ok (.ireturn, 1) := by decide +kernel
theorem dX9_takesItem_48 : decode cX9_takesItem 48 = .ok (.aload_n 0, 1) := by decide +kernel
theorem dX9_takesItem_49 : decode cX9_takesItem 49 = .ok (.iconst 5, 1) := by decide +kernel
theorem dX9_takesItem_50 : decode cX9_takesItem 50 = .ok (.bipush 108, 2) := by decide +kernel
theorem dX9_takesItem_52 : decode cX9_takesItem 52 = .ok (.bipush 97, 2) := by decide +kernel
theorem dX9_takesItem_54 : decode cX9_takesItem 54 = .ok (.bipush 100, 2) := by decide +kernel
theorem dX9_takesItem_56 : decode cX9_takesItem 56 = .ok (.bipush 108, 2) := by decide +kernel
theorem dX9_takesItem_58 : decode cX9_takesItem 58 = .ok (.bipush 101, 2) := by decide +kernel
theorem dX9_takesItem_60 : decode cX9_takesItem 60 = .ok (.iconst 0, 1) := by decide +kernel
theorem dX9_takesItem_61 : decode cX9_takesItem 61 = .ok (.invokevirtual 279, 3) := by decide +kernel
theorem dX9_takesItem_64 : decode cX9_takesItem 64 = .ok (.ifCond .eq 8, 3) := by decide +kernel
theorem dX9_takesItem_67 : decode cX9_takesItem 67 = .ok (.aload_n 0, 1) := by decide +kernel
theorem dX9_takesItem_68 : decode cX9_takesItem 68 = .ok (.invokevirtual 290, 3) := by decide +kernel
theorem dX9_takesItem_71 : decode cX9_takesItem 71 = .ok (.ireturn, 1) := by decide +kernel
theorem dX9_takesItem_72 : decode cX9_takesItem 72 = .ok (.aload_n 0, 1) := by decide +kernel
theorem dX9_takesItem_73 : decode cX9_takesItem 73 = .ok (.iconst 4, 1) := by decide +kernel
theorem dX9_takesItem_74 : decode cX9_takesItem 74 = .ok (.bipush 112, 2) := by decide +kernel
theorem dX9_takesItem_76 : decode cX9_takesItem 76 = .ok (.bipush 111, 2) := by decide +kernel
theorem dX9_takesItem_78 : decode cX9_takesItem 78 = .ok (.bipush 117, 2) := by decide +kernel
theorem dX9_takesItem_80 : decode cX9_takesItem 80 = .ok (.bipush 114, 2) := by decide +kernel
theorem dX9_takesItem_82 : decode cX9_takesItem 82 = .ok (.iconst 0, 1) := by decide +kernel
theorem dX9_takesItem_83 : decode cX9_takesItem 83 = .ok (.iconst 0, 1) := by decide +kernel
theorem dX9_takesItem_84 : decode cX9_takesItem 84 = .ok (.invokevirtual 279, 3) := by decide +kernel
theorem dX9_takesItem_87 : decode cX9_takesItem 87 = .ok (.ifCond .eq 8, 3) := by decide +kernel
theorem dX9_takesItem_90 : decode cX9_takesItem 90 = .ok (.aload_n 0, 1) := by decide +kernel
theorem dX9_takesItem_91 : decode cX9_takesItem 91 = .ok (.invokevirtual 293, 3) := by decide +kernel
theorem dX9_takesItem_94 : decode cX9_takesItem 94 = .ok (.ireturn, 1) := by decide +kernel
theorem dX9_takesItem_95 : decode cX9_takesItem 95 = .ok (.aload_n 0, 1) := by decide +kernel
theorem dX9_takesItem_96 : decode cX9_takesItem 96 = .ok (.iconst 5, 1) := by decide +kernel
theorem dX9_takesItem_97 : decode cX9_takesItem 97 = .ok (.bipush 104, 2) := by decide +kernel
theorem dX9_takesItem_99 : decode cX9_takesItem 99 = .ok (.bipush 111, 2) := by decide +kernel
theorem dX9_takesItem_101 : decode cX9_takesItem 101 = .ok (.bipush 117, 2) := by decide +kernel
theorem dX9_takesItem_103 : decode cX9_takesItem 103 = .ok (.bipush 114, 2) := by decide +kernel
theorem dX9_takesItem_105 : decode cX9_takesItem 105 = .ok (.bipush 115, 2) := by decide +kernel
theorem dX9_takesItem_107 : decode cX9_takesItem 107 = .ok (.iconst 0, 1) := by decide +kernel
theorem dX9_takesItem_108 : decode cX9_takesItem 108 = .ok (.invokevirtual 279, 3) := by decide +kernel
theorem dX9_takesItem_111 : decode cX9_takesItem 111 = .ok (.ifCond .eq 14, 3) := by decide +kernel
theorem dX9_takesItem_114 : decode cX9_takesItem 114 = .ok (.aload_n 0, 1) := by decide +kernel
theorem dX9_takesItem_115 : decode cX9_takesItem 115 = .ok (.invokevirtual 296, 3) := by decide +kernel
theorem dX9_takesItem_118 : decode cX9_takesItem 118 = .ok (.ifCond .eq 7, 3) := by decide +kernel
theorem dX9_takesItem_121 : decode cX9_takesItem 121 = .ok (.iconst 1, 1) := by decide +kernel
theorem dX9_takesItem_122 : decode cX9_takesItem 122 = .ok (.goto 4, 3) := by decide +kernel
theorem dX9_takesItem_125 : decode cX9_takesItem 125 = .ok (.iconst 0, 1) := by decide +kernel
theorem dX9_takesItem_126 : decode cX9_takesItem 126 = .ok (.ireturn, 1) := by decide +kernel
theorem dX9_takesJar_0 : decode cX9_takesJar 0 = .ok (.aload_n 0, 1) := by decide +kernel
theorem dX9_takesJar_1 : decode cX9_takesJar 1 = .ok (.getfield 36, 3) := by decide +kernel
theorem dX9_takesJar_4 : decode cX9_takesJar 4 = .ok (.iconst 1, 1) := by decide +kernel
theorem dX9_takesJar_5 : decode cX9_takesJar 5 = .ok (.iaload, 1) := by decide +kernel
theorem dX9_takesJar_6 : decode cX9_takesJar 6 = .ok (.iconst 4, 1) := by decide +kernel
theorem dX9_takesJar_7 : decode cX9_takesJar 7 = .ok (.if_icmp .ne 5, 3) := by decide +kernel
theorem dX9_takesJar_10 : decode cX9_takesJar 10 = .ok (.iconst 0, 1) := by decide +kernel
theorem dX9_takesJar_11 : decode cX9_takesJar 11 = .ok (.ireturn, 1) := by decide +kernel
theorem dX9_takesJar_12 : decode cX9_takesJar 12 = .ok (.aload_n 0, 1) := by decide +kernel
theorem dX9_takesJar_13 : decode cX9_takesJar 13 = .ok (.invokevirtual 272, 3) := by decide +kernel
theorem dX9_takesJar_16 : decode cX9_takesJar 16 = .ok (.aload_n 0, 1) := by decide +kernel
theorem dX9_takesJar_17 : decode cX9_takesJar 17 = .ok (.iconst 0, 1) := by decide +kernel
theorem dX9_takesJar_18 : decode cX9_takesJar 18 = .ok (.iconst 0, 1) := by decide +kernel
theorem dX9_takesJar_19 : decode cX9_takesJar 19 = .ok (.iconst 5, 1) := by decide +kernel
theorem dX9_takesJar_20 : decode cX9_takesJar 20 = .ok (.invokevirtual 275, 3) := by decide +kernel
theorem dX9_takesJar_23 : decode cX9_takesJar 23 = .ok (.ifCond .ne 5, 3) := by decide +kernel
theorem dX9_takesJar_26 : decode cX9_takesJar 26 = .ok (.iconst 0, 1) := by decide +kernel
theorem dX9_takesJar_27 : decode cX9_takesJar 27 = .ok (.ireturn, 1) := by decide +kernel
theorem dX9_takesJar_28 : decode cX9_takesJar 28 = .ok (.aload_n 0, 1) := by decide +kernel
theorem dX9_takesJar_29 : decode cX9_takesJar 29 = .ok (.getfield 36, 3) := by decide +kernel
theorem dX9_takesJar_32 : decode cX9_takesJar 32 = .ok (.aload_n 0, 1) := by decide +kernel
theorem dX9_takesJar_33 : decode cX9_takesJar 33 = .ok (.getfield 39, 3) := by decide +kernel
theorem dX9_takesJar_36 : decode cX9_takesJar 36 = .ok (.iconst 0, 1) := by decide +kernel
theorem dX9_takesJar_37 : decode cX9_takesJar 37 = .ok (.iaload, 1) := by decide +kernel
theorem dX9_takesJar_38 : decode cX9_takesJar 38 = .ok (.invokestatic 84, 3) := by decide +kernel
theorem dX9_takesJar_41 : decode cX9_takesJar 41 = .ok (.iconst 1, 1) := by decide +kernel
theorem dX9_takesJar_42 : decode cX9_takesJar 42 = .ok (.ireturn, 1) := by decide +kernel
theorem dX9_takesLadle_0 : decode cX9_takesLadle 0 = .ok (.aload_n 0, 1) := by decide +kernel
theorem dX9_takesLadle_1 : decode cX9_takesLadle 1 = .ok (.invokevirtual 272, 3) := by decide +kernel
theorem dX9_takesLadle_4 : decode cX9_takesLadle 4 = .ok (.aload_n 0, 1) := by decide +kernel
theorem dX9_takesLadle_5 : decode cX9_takesLadle 5 = .ok (.getfield 256, 3) := by decide +kernel
theorem dX9_takesLadle_8 : decode cX9_takesLadle 8 = .ok (.iconst 2, 1) := by decide +kernel
theorem dX9_takesLadle_9 : decode cX9_takesLadle 9 = .ok (.if_icmp .ne 69, 3) := by decide +kernel
theorem dX9_takesLadle_12 : decode cX9_takesLadle 12 = .ok (.aload_n 0, 1) := by decide +kernel
theorem dX9_takesLadle_13 : decode cX9_takesLadle 13 = .ok (.getfield 259, 3) := by decide +kernel
theorem dX9_takesLadle_16 : decode cX9_takesLadle 16 = .ok (.i2l, 1) := by decide +kernel
theorem dX9_takesLadle_17 : decode cX9_takesLadle 17 = .ok (.lconst 0, 1) := by decide +kernel
theorem dX9_takesLadle_18 : decode cX9_takesLadle 18 = .ok (.aload_n 0, 1) := by decide +kernel
theorem dX9_takesLadle_19 : decode cX9_takesLadle 19 = .ok (.getfield 36, 3) := by decide +kernel
theorem dX9_takesLadle_22 : decode cX9_takesLadle 22 = .ok (.iconst 0, 1) := by decide +kernel
theorem dX9_takesLadle_23 : decode cX9_takesLadle 23 = .ok (.iaload, 1) := by decide +kernel
theorem dX9_takesLadle_24 : decode cX9_takesLadle 24 = .ok (.iconst 1, 1) := by decide +kernel
theorem dX9_takesLadle_25 : decode cX9_takesLadle 25 = .ok (.isub, 1) := by decide +kernel
theorem dX9_takesLadle_26 : decode cX9_takesLadle 26 = .ok (.i2l, 1) := by decide +kernel
theorem dX9_takesLadle_27 : decode cX9_takesLadle 27 = .ok (.invokestatic 46, 3) := by decide +kernel
theorem dX9_takesLadle_30 : decode cX9_takesLadle 30 = .ok (.ifCond .eq 48, 3) := by decide +kernel
theorem dX9_takesLadle_33 : decode cX9_takesLadle 33 = .ok (.aload_n 0, 1) := by decide +kernel
theorem dX9_takesLadle_34 : decode cX9_takesLadle 34 = .ok (.getfield 36, 3) := by decide +kernel
theorem dX9_takesLadle_37 : decode cX9_takesLadle 37 = .ok (.bipush 7, 2) := by decide +kernel
theorem dX9_takesLadle_39 : decode cX9_takesLadle 39 = .ok (.iaload, 1) := by decide +kernel
theorem dX9_takesLadle_40 : decode cX9_takesLadle 40 = .ok (.aload_n 0, 1) := by decide +kernel
theorem dX9_takesLadle_41 : decode cX9_takesLadle 41 = .ok (.getfield 259, 3) := by decide +kernel
theorem dX9_takesLadle_44 : decode cX9_takesLadle 44 = .ok (.invokestatic 116, 3) := by decide +kernel
theorem dX9_takesLadle_47 : decode cX9_takesLadle 47 = .ok (.ifCond .ne 31, 3) := by decide +kernel
theorem dX9_takesLadle_50 : decode cX9_takesLadle 50 = .ok (.aload_n 0, 1) := by decide +kernel
theorem dX9_takesLadle_51 : decode cX9_takesLadle 51 = .ok (.iconst 0, 1) := by decide +kernel
theorem dX9_takesLadle_52 : decode cX9_takesLadle 52 = .ok (.iconst 0, 1) := by decide +kernel
theorem dX9_takesLadle_53 : decode cX9_takesLadle 53 = .ok (.bipush 6, 2) := by decide +kernel
theorem dX9_takesLadle_55 : decode cX9_takesLadle 55 = .ok (.invokevirtual 275, 3) := by decide +kernel
theorem dX9_takesLadle_58 : decode cX9_takesLadle 58 = .ok (.ifCond .eq 20, 3) := by decide +kernel
theorem dX9_takesLadle_61 : decode cX9_takesLadle 61 = .ok (.aload_n 0, 1) := by decide +kernel
theorem dX9_takesLadle_62 : decode cX9_takesLadle 62 = .ok (.iconst 1, 1) := by decide +kernel
theorem dX9_takesLadle_63 : decode cX9_takesLadle 63 = .ok (.iconst 0, 1) := by decide +kernel
theorem dX9_takesLadle_64 : decode cX9_takesLadle 64 = .ok (.aload_n 0, 1) := by decide +kernel
theorem dX9_takesLadle_65 : decode cX9_takesLadle 65 = .ok (.getfield 36, 3) := by decide +kernel
theorem dX9_takesLadle_68 : decode cX9_takesLadle 68 = .ok (.iconst 1, 1) := by decide +kernel
theorem dX9_takesLadle_69 : decode cX9_takesLadle 69 = .ok (.iaload, 1) := by decide +kernel
theorem dX9_takesLadle_70 : decode cX9_takesLadle 70 = .ok (.iconst 1, 1) := by decide +kernel
theorem dX9_takesLadle_71 : decode cX9_takesLadle 71 = .ok (.isub, 1) := by decide +kernel
theorem dX9_takesLadle_72 : decode cX9_takesLadle 72 = .ok (.invokevirtual 275, 3) := by decide +kernel
theorem dX9_takesLadle_75 : decode cX9_takesLadle 75 = .ok (.ifCond .ne 5, 3) := by decide +kernel
theorem dX9_takesLadle_78 : decode cX9_takesLadle 78 = .ok (.iconst 0, 1) := by decide +kernel
theorem dX9_takesLadle_79 : decode cX9_takesLadle 79 = .ok (.ireturn, 1) := by decide +kernel
theorem dX9_takesLadle_80 : decode cX9_takesLadle 80 = .ok (.aload_n 0, 1) := by decide +kernel
theorem dX9_takesLadle_81 : decode cX9_takesLadle 81 = .ok (.getfield 36, 3) := by decide +kernel
theorem dX9_takesLadle_84 : decode cX9_takesLadle 84 = .ok (.aload_n 0, 1) := by decide +kernel
theorem dX9_takesLadle_85 : decode cX9_takesLadle 85 = .ok (.getfield 39, 3) := by decide +kernel
theorem dX9_takesLadle_88 : decode cX9_takesLadle 88 = .ok (.iconst 0, 1) := by decide +kernel
theorem dX9_takesLadle_89 : decode cX9_takesLadle 89 = .ok (.iaload, 1) := by decide +kernel
theorem dX9_takesLadle_90 : decode cX9_takesLadle 90 = .ok (.aload_n 0, 1) := by decide +kernel
theorem dX9_takesLadle_91 : decode cX9_takesLadle 91 = .ok (.getfield 39, 3) := by decide +kernel
theorem dX9_takesLadle_94 : decode cX9_takesLadle 94 = .ok (.iconst 1, 1) := by decide +kernel
theorem dX9_takesLadle_95 : decode cX9_takesLadle 95 = .ok (.iaload, 1) := by decide +kernel
theorem dX9_takesLadle_96 : decode cX9_takesLadle 96 = .ok (.invokestatic 126, 3) := by decide +kernel
theorem dX9_takesLadle_99 : decode cX9_takesLadle 99 = .ok (.istore_n 1, 1) := by decide +kernel
theorem dX9_takesLadle_100 : decode cX9_takesLadle 100 = .ok (.iconst 1, 1) := by decide +kernel
theorem dX9_takesLadle_101 : decode cX9_takesLadle 101 = .ok (.ireturn, 1) := by decide +kernel
theorem dX9_takesPour_0 : decode cX9_takesPour 0 = .ok (.aload_n 0, 1) := by decide +kernel
theorem dX9_takesPour_1 : decode cX9_takesPour 1 = .ok (.invokevirtual 272, 3) := by decide +kernel
theorem dX9_takesPour_4 : decode cX9_takesPour 4 = .ok (.aload_n 0, 1) := by decide +kernel
theorem dX9_takesPour_5 : decode cX9_takesPour 5 = .ok (.getfield 256, 3) := by decide +kernel
theorem dX9_takesPour_8 : decode cX9_takesPour 8 = .ok (.iconst 2, 1) := by decide +kernel
theorem dX9_takesPour_9 : decode cX9_takesPour 9 = .ok (.if_icmp .ne 87, 3) := by decide +kernel
theorem dX9_takesPour_12 : decode cX9_takesPour 12 = .ok (.aload_n 0, 1) := by decide +kernel
theorem dX9_takesPour_13 : decode cX9_takesPour 13 = .ok (.getfield 259, 3) := by decide +kernel
theorem dX9_takesPour_16 : decode cX9_takesPour 16 = .ok (.i2l, 1) := by decide +kernel
theorem dX9_takesPour_17 : decode cX9_takesPour 17 = .ok (.lconst 0, 1) := by decide +kernel
theorem dX9_takesPour_18 : decode cX9_takesPour 18 = .ok (.aload_n 0, 1) := by decide +kernel
theorem dX9_takesPour_19 : decode cX9_takesPour 19 = .ok (.getfield 36, 3) := by decide +kernel
theorem dX9_takesPour_22 : decode cX9_takesPour 22 = .ok (.iconst 1, 1) := by decide +kernel
theorem dX9_takesPour_23 : decode cX9_takesPour 23 = .ok (.iaload, 1) := by decide +kernel
theorem dX9_takesPour_24 : decode cX9_takesPour 24 = .ok (.iconst 1, 1) := by decide +kernel
theorem dX9_takesPour_25 : decode cX9_takesPour 25 = .ok (.isub, 1) := by decide +kernel
theorem dX9_takesPour_26 : decode cX9_takesPour 26 = .ok (.i2l, 1) := by decide +kernel
theorem dX9_takesPour_27 : decode cX9_takesPour 27 = .ok (.invokestatic 46, 3) := by decide +kernel
theorem dX9_takesPour_30 : decode cX9_takesPour 30 = .ok (.ifCond .eq 66, 3) := by decide +kernel
theorem dX9_takesPour_33 : decode cX9_takesPour 33 = .ok (.aload_n 0, 1) := by decide +kernel
theorem dX9_takesPour_34 : decode cX9_takesPour 34 = .ok (.getfield 36, 3) := by decide +kernel
theorem dX9_takesPour_37 : decode cX9_takesPour 37 = .ok (.bipush 8, 2) := by decide +kernel
theorem dX9_takesPour_39 : decode cX9_takesPour 39 = .ok (.aload_n 0, 1) := by decide +kernel
theorem dX9_takesPour_40 : decode cX9_takesPour 40 = .ok (.getfield 259, 3) := by decide +kernel
theorem dX9_takesPour_43 : decode cX9_takesPour 43 = .ok (.iadd, 1) := by decide +kernel
theorem dX9_takesPour_44 : decode cX9_takesPour 44 = .ok (.iaload, 1) := by decide +kernel
theorem dX9_takesPour_45 : decode cX9_takesPour 45 = .ok (.ifCond .eq 51, 3) := by decide +kernel
theorem dX9_takesPour_48 : decode cX9_takesPour 48 = .ok (.aload_n 0, 1) := by decide +kernel
theorem dX9_takesPour_49 : decode cX9_takesPour 49 = .ok (.iconst 0, 1) := by decide +kernel
theorem dX9_takesPour_50 : decode cX9_takesPour 50 = .ok (.iconst 0, 1) := by decide +kernel
theorem dX9_takesPour_51 : decode cX9_takesPour 51 = .ok (.iconst 3, 1) := by decide +kernel
theorem dX9_takesPour_52 : decode cX9_takesPour 52 = .ok (.invokevirtual 275, 3) := by decide +kernel
theorem dX9_takesPour_55 : decode cX9_takesPour 55 = .ok (.ifCond .eq 41, 3) := by decide +kernel
theorem dX9_takesPour_58 : decode cX9_takesPour 58 = .ok (.aload_n 0, 1) := by decide +kernel
theorem dX9_takesPour_59 : decode cX9_takesPour 59 = .ok (.getfield 256, 3) := by decide +kernel
theorem dX9_takesPour_62 : decode cX9_takesPour 62 = .ok (.iconst 2, 1) := by decide +kernel
theorem dX9_takesPour_63 : decode cX9_takesPour 63 = .ok (.if_icmp .ne 33, 3) := by decide +kernel
theorem dX9_takesPour_66 : decode cX9_takesPour 66 = .ok (.aload_n 0, 1) := by decide +kernel
theorem dX9_takesPour_67 : decode cX9_takesPour 67 = .ok (.getfield 259, 3) := by decide +kernel
theorem dX9_takesPour_70 : decode cX9_takesPour 70 = .ok (.aload_n 0, 1) := by decide +kernel
theorem dX9_takesPour_71 : decode cX9_takesPour 71 = .ok (.getfield 39, 3) := by decide +kernel
theorem dX9_takesPour_74 : decode cX9_takesPour 74 = .ok (.iconst 0, 1) := by decide +kernel
theorem dX9_takesPour_75 : decode cX9_takesPour 75 = .ok (.iaload, 1) := by decide +kernel
theorem dX9_takesPour_76 : decode cX9_takesPour 76 = .ok (.if_icmp .eq 20, 3) := by decide +kernel
theorem dX9_takesPour_79 : decode cX9_takesPour 79 = .ok (.aload_n 0, 1) := by decide +kernel
theorem dX9_takesPour_80 : decode cX9_takesPour 80 = .ok (.iconst 1, 1) := by decide +kernel
theorem dX9_takesPour_81 : decode cX9_takesPour 81 = .ok (.iconst 0, 1) := by decide +kernel
theorem dX9_takesPour_82 : decode cX9_takesPour 82 = .ok (.aload_n 0, 1) := by decide +kernel
theorem dX9_takesPour_83 : decode cX9_takesPour 83 = .ok (.getfield 36, 3) := by decide +kernel
theorem dX9_takesPour_86 : decode cX9_takesPour 86 = .ok (.iconst 1, 1) := by decide +kernel
theorem dX9_takesPour_87 : decode cX9_takesPour 87 = .ok (.iaload, 1) := by decide +kernel
theorem dX9_takesPour_88 : decode cX9_takesPour 88 = .ok (.iconst 1, 1) := by decide +kernel
theorem dX9_takesPour_89 : decode cX9_takesPour 89 = .ok (.isub, 1) := by decide +kernel
theorem dX9_takesPour_90 : decode cX9_takesPour 90 = .ok (.invokevirtual 275, 3) := by decide +kernel
theorem dX9_takesPour_93 : decode cX9_takesPour 93 = .ok (.ifCond .ne 5, 3) := by decide +kernel
theorem dX9_takesPour_96 : decode cX9_takesPour 96 = .ok (.iconst 0, 1) := by decide +kernel
theorem dX9_takesPour_97 : decode cX9_takesPour 97 = .ok (.ireturn, 1) := by decide +kernel
theorem dX9_takesPour_98 : decode cX9_takesPour 98 = .ok (.aload_n 0, 1) := by decide +kernel
theorem dX9_takesPour_99 : decode cX9_takesPour 99 = .ok (.getfield 36, 3) := by decide +kernel
theorem dX9_takesPour_102 : decode cX9_takesPour 102 = .ok (.aload_n 0, 1) := by decide +kernel
theorem dX9_takesPour_103 : decode cX9_takesPour 103 = .ok (.getfield 39, 3) := by decide +kernel
theorem dX9_takesPour_106 : decode cX9_takesPour 106 = .ok (.iconst 0, 1) := by decide +kernel
theorem dX9_takesPour_107 : decode cX9_takesPour 107 = .ok (.iaload, 1) := by decide +kernel
theorem dX9_takesPour_108 : decode cX9_takesPour 108 = .ok (.aload_n 0, 1) := by decide +kernel
theorem dX9_takesPour_109 : decode cX9_takesPour 109 = .ok (.getfield 39, 3) := by decide +kernel
theorem dX9_takesPour_112 : decode cX9_takesPour 112 = .ok (.iconst 1, 1) := by decide +kernel
theorem dX9_takesPour_113 : decode cX9_takesPour 113 = .ok (.iaload, 1) := by decide +kernel
theorem dX9_takesPour_114 : decode cX9_takesPour 114 = .ok (.invokestatic 129, 3) := by decide +kernel
theorem dX9_takesPour_117 : decode cX9_takesPour 117 = .ok (.istore_n 1, 1) := by decide +kernel
theorem dX9_takesPour_118 : decode cX9_takesPour 118 = .ok (.iconst 1, 1) := by decide +kernel
theorem dX9_takesPour_119 : decode cX9_takesPour 119 = .ok (.ireturn, 1) := by decide +kernel
theorem dX9_type_0 : decode cX9_type 0 = .ok (.iload_n 1, 1) := by decide +kernel
theorem dX9_type_1 : decode cX9_type 1 = .ok (.i2l, 1) := by decide +kernel
theorem dX9_type_2 : decode cX9_type 2 = .ok (.lconst 0, 1) := by decide +kernel
theorem dX9_type_3 : decode cX9_type 3 = .ok (.ldc2_w 237, 3) := by decide +kernel
theorem dX9_type_6 : decode cX9_type 6 = .ok (.invokestatic 46, 3) := by decide +kernel
theorem dX9_type_9 : decode cX9_type 9 = .ok (.ifCond .ne 10, 3) := by decide +kernel
theorem dX9_type_12 : decode cX9_type 12 = .ok (.aload_n 0, 1) := by decide +kernel
theorem dX9_type_13 : decode cX9_type 13 = .ok (.bipush (-2), 2) := by decide +kernel
theorem dX9_type_15 : decode cX9_type 15 = .ok (.invokevirtual 62, 3) := by decide +kernel
theorem dX9_type_18 : decode cX9_type 18 = .ok (.ireturn, 1) := by decide +kernel
theorem dX9_type_19 : decode cX9_type 19 = .ok (.aload_n 0, 1) := by decide +kernel
theorem dX9_type_20 : decode cX9_type 20 = .ok (.getfield 239, 3) := by decide +kernel
theorem dX9_type_23 : decode cX9_type 23 = .ok (.sipush 150, 3) := by decide +kernel
theorem dX9_type_26 : decode cX9_type 26 = .ok (.if_icmp .ne 8, 3) := by decide +kernel
theorem dX9_type_29 : decode cX9_type 29 = .ok (.aload_n 0, 1) := by decide +kernel
theorem dX9_type_30 : decode cX9_type 30 = .ok (.invokevirtual 76, 3) := by decide +kernel
theorem dX9_type_33 : decode cX9_type 33 = .ok (.ireturn, 1) := by decide +kernel
theorem dX9_type_34 : decode cX9_type 34 = .ok (.aload_n 0, 1) := by decide +kernel
theorem dX9_type_35 : decode cX9_type 35 = .ok (.getfield 33, 3) := by decide +kernel
theorem dX9_type_38 : decode cX9_type 38 = .ok (.aload_n 0, 1) := by decide +kernel
theorem dX9_type_39 : decode cX9_type 39 = .ok (.getfield 239, 3) := by decide +kernel
theorem dX9_type_42 : decode cX9_type 42 = .ok (.iload_n 1, 1) := by decide +kernel
theorem dX9_type_43 : decode cX9_type 43 = .ok (.iastore, 1) := by decide +kernel
theorem dX9_type_44 : decode cX9_type 44 = .ok (.aload_n 0, 1) := by decide +kernel
theorem dX9_type_45 : decode cX9_type 45 = .ok (.dup, 1) := by decide +kernel
theorem dX9_type_46 : decode cX9_type 46 = .ok (.getfield 239, 3) := by decide +kernel
theorem dX9_type_49 : decode cX9_type 49 = .ok (.iconst 1, 1) := by decide +kernel
theorem dX9_type_50 : decode cX9_type 50 = .ok (.iadd, 1) := by decide +kernel
theorem dX9_type_51 : decode cX9_type 51 = .ok (.putfield 239, 3) := by decide +kernel
theorem dX9_type_54 : decode cX9_type 54 = .ok (.aload_n 0, 1) := by decide +kernel
theorem dX9_type_55 : decode cX9_type 55 = .ok (.getfield 239, 3) := by decide +kernel
theorem dX9_type_58 : decode cX9_type 58 = .ok (.ireturn, 1) := by decide +kernel
