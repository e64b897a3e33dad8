theorem dX9_about_0 : decode cX9_about 0 = .ok (.aload_n 0, 1) := by decide +kernel
theorem dX9_about_1 : decode cX9_about 1 = .ok (.iload_n 1, 1) := by decide +kernel
theorem dX9_about_2 : decode cX9_about 2 = .ok (.invokevirtual 113, 3) := by decide +kernel
theorem dX9_about_5 : decode cX9_about 5 = .ok (.ifCond .eq 24, 3) := by decide +kernel
theorem dX9_about_8 : decode cX9_about 8 = .ok (.iload_n 2, 1) := by decide +kernel
theorem dX9_about_9 : decode cX9_about 9 = .ok (.i2l, 1) := by decide +kernel
theorem dX9_about_10 : decode cX9_about 10 = .ok (.lconst 0, 1) := by decide +kernel
theorem dX9_about_11 : decode cX9_about 11 = .ok (.ldc2_w 54, 3) := by decide +kernel
theorem dX9_about_14 : decode cX9_about 14 = .ok (.invokestatic 46, 3) := by decide +kernel
theorem dX9_about_17 : decode cX9_about 17 = .ok (.ifCond .eq 12, 3) := by decide +kernel
theorem dX9_about_20 : decode cX9_about 20 = .ok (.aload_n 0, 1) := by decide +kernel
theorem dX9_about_21 : decode cX9_about 21 = .ok (.iload_n 1, 1) := by decide +kernel
theorem dX9_about_22 : decode cX9_about 22 = .ok (.iload_n 2, 1) := by decide +kernel
theorem dX9_about_23 : decode cX9_about 23 = .ok (.invokevirtual 141, 3) := by decide +kernel
theorem dX9_about_26 : decode cX9_about 26 = .ok (.goto 9, 3) := by decide +kernel
theorem dX9_about_29 : decode cX9_about 29 = .ok (.aload_n 0, 1) := by decide +kernel
theorem dX9_about_30 : decode cX9_about 30 = .ok (.bipush (-2), 2) := by decide +kernel
theorem dX9_about_32 : decode cX9_about 32 = .ok (.invokevirtual 62, 3) := by decide +kernel
theorem dX9_about_35 : decode cX9_about 35 = .ok (.ireturn, 1) := by decide +kernel
theorem dX9_ask_0 : decode cX9_ask 0 = .ok (.aload_n 0, 1) := by decide +kernel
theorem dX9_ask_1 : decode cX9_ask 1 = .ok (.iload_n 1, 1) := by decide +kernel
theorem dX9_ask_2 : decode cX9_ask 2 = .ok (.invokevirtual 113, 3) := by decide +kernel
theorem dX9_ask_5 : decode cX9_ask 5 = .ok (.ifCond .ne 10, 3) := by decide +kernel
theorem dX9_ask_8 : decode cX9_ask 8 = .ok (.aload_n 0, 1) := by decide +kernel
theorem dX9_ask_9 : decode cX9_ask 9 = .ok (.bipush (-2), 2) := by decide +kernel
theorem dX9_ask_11 : decode cX9_ask 11 = .ok (.invokevirtual 62, 3) := by decide +kernel
theorem dX9_ask_14 : decode cX9_ask 14 = .ok (.ireturn, 1) := by decide +kernel
theorem dX9_ask_15 : decode cX9_ask 15 = .ok (.aload_n 0, 1) := by decide +kernel
theorem dX9_ask_16 : decode cX9_ask 16 = .ok (.iload_n 1, 1) := by decide +kernel
theorem dX9_ask_17 : decode cX9_ask 17 = .ok (.invokevirtual 194, 3) := by decide +kernel
theorem dX9_ask_20 : decode cX9_ask 20 = .ok (.istore_n 2, 1) := by decide +kernel
theorem dX9_ask_21 : decode cX9_ask 21 = .ok (.iconst (-1), 1) := by decide +kernel
theorem dX9_ask_22 : decode cX9_ask 22 = .ok (.istore_n 3, 1) := by decide +kernel
theorem dX9_ask_23 : decode cX9_ask 23 = .ok (.ldc 190, 2) := by decide +kernel
theorem dX9_ask_25 : decode cX9_ask 25 = .ok (.istore 4, 2) := by decide +kernel
theorem dX9_ask_27 : decode cX9_ask 27 = .ok (.iconst 0, 1) := by decide +kernel
theorem dX9_ask_28 : decode cX9_ask 28 = .ok (.istore 5, 2) := by decide +kernel
theorem dX9_ask_30 : decode cX9_ask 30 = .ok (.iload 5, 2) := by decide +kernel
theorem dX9_ask_32 : decode cX9_ask 32 = .ok (.bipush 60, 2) := by decide +kernel
theorem dX9_ask_34 : decode cX9_ask 34 = .ok (.if_icmp .gt 104, 3) := by decide +kernel
theorem dX9_ask_37 : decode cX9_ask 37 = .ok (.iload_n 2, 1) := by decide +kernel
theorem dX9_ask_38 : decode cX9_ask 38 = .ok (.ifCond .le 100, 3) := by decide +kernel
theorem dX9_ask_41 : decode cX9_ask 41 = .ok (.iconst 0, 1) := by decide +kernel
theorem dX9_ask_42 : decode cX9_ask 42 = .ok (.istore 6, 2) := by decide +kernel
theorem dX9_ask_44 : decode cX9_ask 44 = .ok (.iload 6, 2) := by decide +kernel
theorem dX9_ask_46 : decode cX9_ask 46 = .ok (.bipush 24, 2) := by decide +kernel
theorem dX9_ask_48 : decode cX9_ask 48 = .ok (.if_icmp .ge 84, 3) := by decide +kernel
theorem dX9_ask_51 : decode cX9_ask 51 = .ok (.iconst 0, 1) := by decide +kernel
theorem dX9_ask_52 : decode cX9_ask 52 = .ok (.istore 7, 2) := by decide +kernel
theorem dX9_ask_54 : decode cX9_ask 54 = .ok (.iload 7, 2) := by decide +kernel
theorem dX9_ask_56 : decode cX9_ask 56 = .ok (.bipush 6, 2) := by decide +kernel
theorem dX9_ask_58 : decode cX9_ask 58 = .ok (.if_icmp .ge 25, 3) := by decide +kernel
theorem dX9_ask_61 : decode cX9_ask 61 = .ok (.aload_n 0, 1) := by decide +kernel
theorem dX9_ask_62 : decode cX9_ask 62 = .ok (.getfield 30, 3) := by decide +kernel
theorem dX9_ask_65 : decode cX9_ask 65 = .ok (.iload 7, 2) := by decide +kernel
theorem dX9_ask_67 : decode cX9_ask 67 = .ok (.iload 7, 2) := by decide +kernel
theorem dX9_ask_69 : decode cX9_ask 69 = .ok (.iload 5, 2) := by decide +kernel
theorem dX9_ask_71 : decode cX9_ask 71 = .ok (.iload 6, 2) := by decide +kernel
theorem dX9_ask_73 : decode cX9_ask 73 = .ok (.invokestatic 91, 3) := by decide +kernel
theorem dX9_ask_76 : decode cX9_ask 76 = .ok (.iastore, 1) := by decide +kernel
theorem dX9_ask_77 : decode cX9_ask 77 = .ok (.iinc 7 1, 3) := by decide +kernel
theorem dX9_ask_80 : decode cX9_ask 80 = .ok (.goto (-26), 3) := by decide +kernel
theorem dX9_ask_83 : decode cX9_ask 83 = .ok (.aload_n 0, 1) := by decide +kernel
theorem dX9_ask_84 : decode cX9_ask 84 = .ok (.iload_n 2, 1) := by decide +kernel
theorem dX9_ask_85 : decode cX9_ask 85 = .ok (.invokevirtual 191, 3) := by decide +kernel
theorem dX9_ask_88 : decode cX9_ask 88 = .ok (.istore 7, 2) := by decide +kernel
theorem dX9_ask_90 : decode cX9_ask 90 = .ok (.iload 7, 2) := by decide +kernel
theorem dX9_ask_92 : decode cX9_ask 92 = .ok (.iload 4, 2) := by decide +kernel
theorem dX9_ask_94 : decode cX9_ask 94 = .ok (.if_icmp .ge 14, 3) := by decide +kernel
theorem dX9_ask_97 : decode cX9_ask 97 = .ok (.bipush 100, 2) := by decide +kernel
theorem dX9_ask_99 : decode cX9_ask 99 = .ok (.iload 5, 2) := by decide +kernel
theorem dX9_ask_101 : decode cX9_ask 101 = .ok (.imul, 1) := by decide +kernel
theorem dX9_ask_102 : decode cX9_ask 102 = .ok (.iload 6, 2) := by decide +kernel
theorem dX9_ask_104 : decode cX9_ask 104 = .ok (.iadd, 1) := by decide +kernel
theorem dX9_ask_105 : decode cX9_ask 105 = .ok (.goto 4, 3) := by decide +kernel
theorem dX9_ask_108 : decode cX9_ask 108 = .ok (.iload_n 3, 1) := by decide +kernel
theorem dX9_ask_109 : decode cX9_ask 109 = .ok (.istore_n 3, 1) := by decide +kernel
theorem dX9_ask_110 : decode cX9_ask 110 = .ok (.iload 7, 2) := by decide +kernel
theorem dX9_ask_112 : decode cX9_ask 112 = .ok (.iload 4, 2) := by decide +kernel
theorem dX9_ask_114 : decode cX9_ask 114 = .ok (.if_icmp .ge 8, 3) := by decide +kernel
theorem dX9_ask_117 : decode cX9_ask 117 = .ok (.iload 7, 2) := by decide +kernel
theorem dX9_ask_119 : decode cX9_ask 119 = .ok (.goto 5, 3) := by decide +kernel
theorem dX9_ask_122 : decode cX9_ask 122 = .ok (.iload 4, 2) := by decide +kernel
theorem dX9_ask_124 : decode cX9_ask 124 = .ok (.istore 4, 2) := by decide +kernel
theorem dX9_ask_126 : decode cX9_ask 126 = .ok (.iinc 6 1, 3) := by decide +kernel
theorem dX9_ask_129 : decode cX9_ask 129 = .ok (.goto (-85), 3) := by decide +kernel
theorem dX9_ask_132 : decode cX9_ask 132 = .ok (.iinc 5 1, 3) := by decide +kernel
theorem dX9_ask_135 : decode cX9_ask 135 = .ok (.goto (-105), 3) := by decide +kernel
theorem dX9_ask_138 : decode cX9_ask 138 = .ok (.iload_n 3, 1) := by decide +kernel
theorem dX9_ask_139 : decode cX9_ask 139 = .ok (.ireturn, 1) := by decide +kernel
theorem dX9_bestRow_0 : decode cX9_bestRow 0 = .ok (.iconst 0, 1) := by decide +kernel
theorem dX9_bestRow_1 : decode cX9_bestRow 1 = .ok (.istore_n 3, 1) := by decide +kernel
theorem dX9_bestRow_2 : decode cX9_bestRow 2 = .ok (.aload_n 0, 1) := by decide +kernel
theorem dX9_bestRow_3 : decode cX9_bestRow 3 = .ok (.iconst (-1), 1) := by decide +kernel
theorem dX9_bestRow_4 : decode cX9_bestRow 4 = .ok (.putfield 150, 3) := by decide +kernel
theorem dX9_bestRow_7 : decode cX9_bestRow 7 = .ok (.iconst 0, 1) := by decide +kernel
theorem dX9_bestRow_8 : decode cX9_bestRow 8 = .ok (.istore 4, 2) := by decide +kernel
theorem dX9_bestRow_10 : decode cX9_bestRow 10 = .ok (.iload 4, 2) := by decide +kernel
theorem dX9_bestRow_12 : decode cX9_bestRow 12 = .ok (.aload_n 0, 1) := by decide +kernel
theorem dX9_bestRow_13 : decode cX9_bestRow 13 = .ok (.getfield 7, 3) := by decide +kernel
theorem dX9_bestRow_16 : decode cX9_bestRow 16 = .ok (.iconst 0, 1) := by decide +kernel
theorem dX9_bestRow_17 : decode cX9_bestRow 17 = .ok (.iaload, 1) := by decide +kernel
theorem dX9_bestRow_18 : decode cX9_bestRow 18 = .ok (.iconst 1, 1) := by decide +kernel
theorem dX9_bestRow_19 : decode cX9_bestRow 19 = .ok (.iadd, 1) := by decide +kernel
theorem dX9_bestRow_20 : decode cX9_bestRow 20 = .ok (.iload_n 2, 1) := by decide +kernel
theorem dX9_bestRow_21 : decode cX9_bestRow 21 = .ok (.invokestatic 147, 3) := by decide +kernel
theorem dX9_bestRow_24 : decode cX9_bestRow 24 = .ok (.if_icmp .ge 152, 3) := by decide +kernel
theorem dX9_bestRow_27 : decode cX9_bestRow 27 = .ok (.iconst 1, 1) := by decide +kernel
theorem dX9_bestRow_28 : decode cX9_bestRow 28 = .ok (.istore 5, 2) := by decide +kernel
theorem dX9_bestRow_30 : decode cX9_bestRow 30 = .ok (.aload_n 0, 1) := by decide +kernel
theorem dX9_bestRow_31 : decode cX9_bestRow 31 = .ok (.invokevirtual 144, 3) := by decide +kernel
theorem dX9_bestRow_34 : decode cX9_bestRow 34 = .ok (.iconst 0, 1) := by decide +kernel
theorem dX9_bestRow_35 : decode cX9_bestRow 35 = .ok (.istore 6, 2) := by decide +kernel
theorem dX9_bestRow_37 : decode cX9_bestRow 37 = .ok (.iload 6, 2) := by decide +kernel
theorem dX9_bestRow_39 : decode cX9_bestRow 39 = .ok (.iload_n 2, 1) := by decide +kernel
theorem dX9_bestRow_40 : decode cX9_bestRow 40 = .ok (.if_icmp .ge 93, 3) := by decide +kernel
theorem dX9_bestRow_43 : decode cX9_bestRow 43 = .ok (.aload_n 0, 1) := by decide +kernel
theorem dX9_bestRow_44 : decode cX9_bestRow 44 = .ok (.iload 4, 2) := by decide +kernel
theorem dX9_bestRow_46 : decode cX9_bestRow 46 = .ok (.iload_n 2, 1) := by decide +kernel
theorem dX9_bestRow_47 : decode cX9_bestRow 47 = .ok (.iload 6, 2) := by decide +kernel
theorem dX9_bestRow_49 : decode cX9_bestRow 49 = .ok (.invokevirtual 154, 3) := by decide +kernel
theorem dX9_bestRow_52 : decode cX9_bestRow 52 = .ok (.istore 7, 2) := by decide +kernel
theorem dX9_bestRow_54 : decode cX9_bestRow 54 = .ok (.iload 5, 2) := by decide +kernel
theorem dX9_bestRow_56 : decode cX9_bestRow 56 = .ok (.ifCond .eq 33, 3) := by decide +kernel
theorem dX9_bestRow_59 : decode cX9_bestRow 59 = .ok (.iload 7, 2) := by decide +kernel
theorem dX9_bestRow_61 : decode cX9_bestRow 61 = .ok (.aload_n 0, 1) := by decide +kernel
theorem dX9_bestRow_62 : decode cX9_bestRow 62 = .ok (.getfield 7, 3) := by decide +kernel
theorem dX9_bestRow_65 : decode cX9_bestRow 65 = .ok (.iconst 0, 1) := by decide +kernel
theorem dX9_bestRow_66 : decode cX9_bestRow 66 = .ok (.iaload, 1) := by decide +kernel
theorem dX9_bestRow_67 : decode cX9_bestRow 67 = .ok (.if_icmp .eq 18, 3) := by decide +kernel
theorem dX9_bestRow_70 : decode cX9_bestRow 70 = .ok (.aload_n 0, 1) := by decide +kernel
theorem dX9_bestRow_71 : decode cX9_bestRow 71 = .ok (.getfield 27, 3) := by decide +kernel
theorem dX9_bestRow_74 : decode cX9_bestRow 74 = .ok (.bipush 7, 2) := by decide +kernel
theorem dX9_bestRow_76 : decode cX9_bestRow 76 = .ok (.iaload, 1) := by decide +kernel
theorem dX9_bestRow_77 : decode cX9_bestRow 77 = .ok (.iload 7, 2) := by decide +kernel
theorem dX9_bestRow_79 : decode cX9_bestRow 79 = .ok (.invokestatic 116, 3) := by decide +kernel
theorem dX9_bestRow_82 : decode cX9_bestRow 82 = .ok (.ifCond .ne 7, 3) := by decide +kernel
theorem dX9_bestRow_85 : decode cX9_bestRow 85 = .ok (.iconst 1, 1) := by decide +kernel
theorem dX9_bestRow_86 : decode cX9_bestRow 86 = .ok (.goto 4, 3) := by decide +kernel
theorem dX9_bestRow_89 : decode cX9_bestRow 89 = .ok (.iconst 0, 1) := by decide +kernel
theorem dX9_bestRow_90 : decode cX9_bestRow 90 = .ok (.istore 5, 2) := by decide +kernel
theorem dX9_bestRow_92 : decode cX9_bestRow 92 = .ok (.iload 5, 2) := by decide +kernel
theorem dX9_bestRow_94 : decode cX9_bestRow 94 = .ok (.ifCond .eq 26, 3) := by decide +kernel
theorem dX9_bestRow_97 : decode cX9_bestRow 97 = .ok (.iload 7, 2) := by decide +kernel
theorem dX9_bestRow_99 : decode cX9_bestRow 99 = .ok (.aload_n 0, 1) := by decide +kernel
theorem dX9_bestRow_100 : decode cX9_bestRow 100 = .ok (.getfield 7, 3) := by decide +kernel
theorem dX9_bestRow_103 : decode cX9_bestRow 103 = .ok (.iconst 0, 1) := by decide +kernel
theorem dX9_bestRow_104 : decode cX9_bestRow 104 = .ok (.iaload, 1) := by decide +kernel
theorem dX9_bestRow_105 : decode cX9_bestRow 105 = .ok (.if_icmp .ge 15, 3) := by decide +kernel
theorem dX9_bestRow_108 : decode cX9_bestRow 108 = .ok (.aload_n 0, 1) := by decide +kernel
theorem dX9_bestRow_109 : decode cX9_bestRow 109 = .ok (.getfield 27, 3) := by decide +kernel
theorem dX9_bestRow_112 : decode cX9_bestRow 112 = .ok (.iload 7, 2) := by decide +kernel
theorem dX9_bestRow_114 : decode cX9_bestRow 114 = .ok (.iload_n 1, 1) := by decide +kernel
theorem dX9_bestRow_115 : decode cX9_bestRow 115 = .ok (.invokestatic 126, 3) := by decide +kernel
theorem dX9_bestRow_118 : decode cX9_bestRow 118 = .ok (.istore 8, 2) := by decide +kernel
theorem dX9_bestRow_120 : decode cX9_bestRow 120 = .ok (.aload_n 0, 1) := by decide +kernel
theorem dX9_bestRow_121 : decode cX9_bestRow 121 = .ok (.getfield 27, 3) := by decide +kernel
theorem dX9_bestRow_124 : decode cX9_bestRow 124 = .ok (.invokestatic 106, 3) := by decide +kernel
theorem dX9_bestRow_127 : decode cX9_bestRow 127 = .ok (.iinc 6 1, 3) := by decide +kernel
theorem dX9_bestRow_130 : decode cX9_bestRow 130 = .ok (.goto (-93), 3) := by decide +kernel
theorem dX9_bestRow_133 : decode cX9_bestRow 133 = .ok (.iload 5, 2) := by decide +kernel
theorem dX9_bestRow_135 : decode cX9_bestRow 135 = .ok (.ifCond .eq 35, 3) := by decide +kernel
theorem dX9_bestRow_138 : decode cX9_bestRow 138 = .ok (.aload_n 0, 1) := by decide +kernel
theorem dX9_bestRow_139 : decode cX9_bestRow 139 = .ok (.getfield 27, 3) := by decide +kernel
theorem dX9_bestRow_142 : decode cX9_bestRow 142 = .ok (.bipush 8, 2) := by decide +kernel
theorem dX9_bestRow_144 : decode cX9_bestRow 144 = .ok (.iload_n 1, 1) := by decide +kernel
theorem dX9_bestRow_145 : decode cX9_bestRow 145 = .ok (.iadd, 1) := by decide +kernel
theorem dX9_bestRow_146 : decode cX9_bestRow 146 = .ok (.iaload, 1) := by decide +kernel
theorem dX9_bestRow_147 : decode cX9_bestRow 147 = .ok (.aload_n 0, 1) := by decide +kernel
theorem dX9_bestRow_148 : decode cX9_bestRow 148 = .ok (.getfield 150, 3) := by decide +kernel
theorem dX9_bestRow_151 : decode cX9_bestRow 151 = .ok (.if_icmp .le 19, 3) := by decide +kernel
theorem dX9_bestRow_154 : decode cX9_bestRow 154 = .ok (.iload 4, 2) := by decide +kernel
theorem dX9_bestRow_156 : decode cX9_bestRow 156 = .ok (.istore_n 3, 1) := by decide +kernel
theorem dX9_bestRow_157 : decode cX9_bestRow 157 = .ok (.aload_n 0, 1) := by decide +kernel
theorem dX9_bestRow_158 : decode cX9_bestRow 158 = .ok (.aload_n 0, 1) := by decide +kernel
theorem dX9_bestRow_159 : decode cX9_bestRow 159 = .ok (.getfield 27, 3) := by decide +kernel
theorem dX9_bestRow_162 : decode cX9_bestRow 162 = .ok (.bipush 8, 2) := by decide +kernel
theorem dX9_bestRow_164 : decode cX9_bestRow 164 = .ok (.iload_n 1, 1) := by decide +kernel
theorem dX9_bestRow_165 : decode cX9_bestRow 165 = .ok (.iadd, 1) := by decide +kernel
theorem dX9_bestRow_166 : decode cX9_bestRow 166 = .ok (.iaload, 1) := by decide +kernel
theorem dX9_bestRow_167 : decode cX9_bestRow 167 = .ok (.putfield 150, 3) := by decide +kernel
theorem dX9_bestRow_170 : decode cX9_bestRow 170 = .ok (.iinc 4 1, 3) := by decide +kernel
theorem dX9_bestRow_173 : decode cX9_bestRow 173 = .ok (.goto (-163), 3) := by decide +kernel
theorem dX9_bestRow_176 : decode cX9_bestRow 176 = .ok (.iload_n 3, 1) := by decide +kernel
theorem dX9_bestRow_177 : decode cX9_bestRow 177 = .ok (.ireturn, 1) := by decide +kernel
theorem dX9_caster_0 : decode cX9_caster 0 = .ok (.iload_n 1, 1) := by decide +kernel
theorem dX9_caster_1 : decode cX9_caster 1 = .ok (.invokestatic 66, 3) := by decide +kernel
theorem dX9_caster_4 : decode cX9_caster 4 = .ok (.ifCond .eq 17, 3) := by decide +kernel
theorem dX9_caster_7 : decode cX9_caster 7 = .ok (.iload_n 2, 1) := by decide +kernel
theorem dX9_caster_8 : decode cX9_caster 8 = .ok (.invokestatic 70, 3) := by decide +kernel
theorem dX9_caster_11 : decode cX9_caster 11 = .ok (.ifCond .eq 10, 3) := by decide +kernel
theorem dX9_caster_14 : decode cX9_caster 14 = .ok (.iload_n 3, 1) := by decide +kernel
theorem dX9_caster_15 : decode cX9_caster 15 = .ok (.invokestatic 73, 3) := by decide +kernel
theorem dX9_caster_18 : decode cX9_caster 18 = .ok (.ifCond .ne 10, 3) := by decide +kernel
theorem dX9_caster_21 : decode cX9_caster 21 = .ok (.aload_n 0, 1) := by decide +kernel
theorem dX9_caster_22 : decode cX9_caster 22 = .ok (.bipush (-2), 2) := by decide +kernel
theorem dX9_caster_24 : decode cX9_caster 24 = .ok (.invokevirtual 62, 3) := by decide +kernel
theorem dX9_caster_27 : decode cX9_caster 27 = .ok (.ireturn, 1) := by decide +kernel
theorem dX9_caster_28 : decode cX9_caster 28 = .ok (.aload_n 0, 1) := by decide +kernel
theorem dX9_caster_29 : decode cX9_caster 29 = .ok (.getfield 7, 3) := by decide +kernel
theorem dX9_caster_32 : decode cX9_caster 32 = .ok (.iconst 0, 1) := by decide +kernel
theorem dX9_caster_33 : decode cX9_caster 33 = .ok (.iaload, 1) := by decide +kernel
theorem dX9_caster_34 : decode cX9_caster 34 = .ok (.bipush 7, 2) := by decide +kernel
theorem dX9_caster_36 : decode cX9_caster 36 = .ok (.if_icmp .ne 8, 3) := by decide +kernel
theorem dX9_caster_39 : decode cX9_caster 39 = .ok (.aload_n 0, 1) := by decide +kernel
theorem dX9_caster_40 : decode cX9_caster 40 = .ok (.invokevirtual 76, 3) := by decide +kernel
theorem dX9_caster_43 : decode cX9_caster 43 = .ok (.ireturn, 1) := by decide +kernel
theorem dX9_caster_44 : decode cX9_caster 44 = .ok (.aload_n 0, 1) := by decide +kernel
theorem dX9_caster_45 : decode cX9_caster 45 = .ok (.getfield 7, 3) := by decide +kernel
theorem dX9_caster_48 : decode cX9_caster 48 = .ok (.iload_n 1, 1) := by decide +kernel
theorem dX9_caster_49 : decode cX9_caster 49 = .ok (.iload_n 2, 1) := by decide +kernel
theorem dX9_caster_50 : decode cX9_caster 50 = .ok (.iload_n 3, 1) := by decide +kernel
theorem dX9_caster_51 : decode cX9_caster 51 = .ok (.invokestatic 80, 3) := by decide +kernel
theorem dX9_caster_54 : decode cX9_caster 54 = .ok (.aload_n 0, 1) := by decide +kernel
theorem dX9_caster_55 : decode cX9_caster 55 = .ok (.getfield 7, 3) := by decide +kernel
theorem dX9_caster_58 : decode cX9_caster 58 = .ok (.iconst 4, 1) := by decide +kernel
theorem dX9_caster_59 : decode cX9_caster 59 = .ok (.iconst 0, 1) := by decide +kernel
theorem dX9_caster_60 : decode cX9_caster 60 = .ok (.iastore, 1) := by decide +kernel
theorem dX9_caster_61 : decode cX9_caster 61 = .ok (.aload_n 0, 1) := by decide +kernel
theorem dX9_caster_62 : decode cX9_caster 62 = .ok (.getfield 7, 3) := by decide +kernel
theorem dX9_caster_65 : decode cX9_caster 65 = .ok (.iconst 0, 1) := by decide +kernel
theorem dX9_caster_66 : decode cX9_caster 66 = .ok (.iaload, 1) := by decide +kernel
theorem dX9_caster_67 : decode cX9_caster 67 = .ok (.iconst 1, 1) := by decide +kernel
theorem dX9_caster_68 : decode cX9_caster 68 = .ok (.isub, 1) := by decide +kernel
theorem dX9_caster_69 : decode cX9_caster 69 = .ok (.ireturn, 1) := by decide +kernel
theorem dX9_casterBy_0 : decode cX9_casterBy 0 = .ok (.iload_n 1, 1) := by decide +kernel
theorem dX9_casterBy_1 : decode cX9_casterBy 1 = .ok (.aload_n 0, 1) := by decide +kernel
theorem dX9_casterBy_2 : decode cX9_casterBy 2 = .ok (.getfield 7, 3) := by decide +kernel
theorem dX9_casterBy_5 : decode cX9_casterBy 5 = .ok (.iconst 0, 1) := by decide +kernel
theorem dX9_casterBy_6 : decode cX9_casterBy 6 = .ok (.iaload, 1) := by decide +kernel
theorem dX9_casterBy_7 : decode cX9_casterBy 7 = .ok (.iconst 1, 1) := by decide +kernel
theorem dX9_casterBy_8 : decode cX9_casterBy 8 = .ok (.iadd, 1) := by decide +kernel
theorem dX9_casterBy_9 : decode cX9_casterBy 9 = .ok (.iload_n 2, 1) := by decide +kernel
theorem dX9_casterBy_10 : decode cX9_casterBy 10 = .ok (.iconst 1, 1) := by decide +kernel
theorem dX9_casterBy_11 : decode cX9_casterBy 11 = .ok (.isub, 1) := by decide +kernel
theorem dX9_casterBy_12 : decode cX9_casterBy 12 = .ok (.iload_n 3, 1) := by decide +kernel
theorem dX9_casterBy_13 : decode cX9_casterBy 13 = .ok (.isub, 1) := by decide +kernel
theorem dX9_casterBy_14 : decode cX9_casterBy 14 = .ok (.invokestatic 147, 3) := by decide +kernel
theorem dX9_casterBy_17 : decode cX9_casterBy 17 = .ok (.idiv, 1) := by decide +kernel
theorem dX9_casterBy_18 : decode cX9_casterBy 18 = .ok (.aload_n 0, 1) := by decide +kernel
theorem dX9_casterBy_19 : decode cX9_casterBy 19 = .ok (.getfield 7, 3) := by decide +kernel
theorem dX9_casterBy_22 : decode cX9_casterBy 22 = .ok (.iconst 0, 1) := by decide +kernel
theorem dX9_casterBy_23 : decode cX9_casterBy 23 = .ok (.iaload, 1) := by decide +kernel
theorem dX9_casterBy_24 : decode cX9_casterBy 24 = .ok (.iconst 1, 1) := by decide +kernel
theorem dX9_casterBy_25 : decode cX9_casterBy 25 = .ok (.iadd, 1) := by decide +kernel
theorem dX9_casterBy_26 : decode cX9_casterBy 26 = .ok (.irem, 1) := by decide +kernel
theorem dX9_casterBy_27 : decode cX9_casterBy 27 = .ok (.ireturn, 1) := by decide +kernel
theorem dX9_coolOf_0 : decode cX9_coolOf 0 = .ok (.iconst 0, 1) := by decide +kernel
theorem dX9_coolOf_1 : decode cX9_coolOf 1 = .ok (.istore_n 1, 1) := by decide +kernel
theorem dX9_coolOf_2 : decode cX9_coolOf 2 = .ok (.iconst 0, 1) := by decide +kernel
theorem dX9_coolOf_3 : decode cX9_coolOf 3 = .ok (.istore_n 2, 1) := by decide +kernel
theorem dX9_coolOf_4 : decode cX9_coolOf 4 = .ok (.iload_n 2, 1) := by decide +kernel
theorem dX9_coolOf_5 : decode cX9_coolOf 5 = .ok (.aload_n 0, 1) := by decide +kernel
theorem dX9_coolOf_6 : decode cX9_coolOf 6 = .ok (.iconst 1, 1) := by decide +kernel
theorem dX9_coolOf_7 : decode cX9_coolOf 7 = .ok (.iaload, 1) := by decide +kernel
theorem dX9_coolOf_8 : decode cX9_coolOf 8 = .ok (.if_icmp .ge 18, 3) := by decide +kernel
theorem dX9_coolOf_11 : decode cX9_coolOf 11 = .ok (.iload_n 1, 1) := by decide +kernel
theorem dX9_coolOf_12 : decode cX9_coolOf 12 = .ok (.aload_n 0, 1) := by decide +kernel
theorem dX9_coolOf_13 : decode cX9_coolOf 13 = .ok (.bipush 8, 2) := by decide +kernel
theorem dX9_coolOf_15 : decode cX9_coolOf 15 = .ok (.iload_n 2, 1) := by decide +kernel
theorem dX9_coolOf_16 : decode cX9_coolOf 16 = .ok (.iadd, 1) := by decide +kernel
theorem dX9_coolOf_17 : decode cX9_coolOf 17 = .ok (.iaload, 1) := by decide +kernel
theorem dX9_coolOf_18 : decode cX9_coolOf 18 = .ok (.iadd, 1) := by decide +kernel
theorem dX9_coolOf_19 : decode cX9_coolOf 19 = .ok (.istore_n 1, 1) := by decide +kernel
theorem dX9_coolOf_20 : decode cX9_coolOf 20 = .ok (.iinc 2 1, 3) := by decide +kernel
theorem dX9_coolOf_23 : decode cX9_coolOf 23 = .ok (.goto (-19), 3) := by decide +kernel
theorem dX9_coolOf_26 : decode cX9_coolOf 26 = .ok (.iload_n 1, 1) := by decide +kernel
theorem dX9_coolOf_27 : decode cX9_coolOf 27 = .ok (.ireturn, 1) := by decide +kernel
theorem dX9_count_0 : decode cX9_count 0 = .ok (.iload_n 1, 1) := by decide +kernel
theorem dX9_count_1 : decode cX9_count 1 = .ok (.i2l, 1) := by decide +kernel
theorem dX9_count_2 : decode cX9_count 2 = .ok (.lconst 0, 1) := by decide +kernel
theorem dX9_count_3 : decode cX9_count 3 = .ok (.ldc2_w 52, 3) := by decide +kernel
theorem dX9_count_6 : decode cX9_count 6 = .ok (.invokestatic 46, 3) := by decide +kernel
theorem dX9_count_9 : decode cX9_count 9 = .ok (.ifCond .eq 11, 3) := by decide +kernel
theorem dX9_count_12 : decode cX9_count 12 = .ok (.aload_n 0, 1) := by decide +kernel
theorem dX9_count_13 : decode cX9_count 13 = .ok (.iload_n 1, 1) := by decide +kernel
theorem dX9_count_14 : decode cX9_count 14 = .ok (.invokevirtual 302, 3) := by decide +kernel
theorem dX9_count_17 : decode cX9_count 17 = .ok (.goto 9, 3) := by decide +kernel
theorem dX9_count_20 : decode cX9_count 20 = .ok (.aload_n 0, 1) := by decide +kernel
theorem dX9_count_21 : decode cX9_count 21 = .ok (.bipush (-2), 2) := by decide +kernel
theorem dX9_count_23 : decode cX9_count 23 = .ok (.invokevirtual 62, 3) := by decide +kernel
theorem dX9_count_26 : decode cX9_count 26 = .ok (.ireturn, 1) := by decide +kernel
theorem dX9_counted_0 : decode cX9_counted 0 = .ok (.iload_n 1, 1) := by decide +kernel
theorem dX9_counted_1 : decode cX9_counted 1 = .ok (.tableswitch 120 0 8 #[51, 58, 65, 73, 80, 91, 99, 106, 113], 51) := by decide +kernel
theorem dX9_counted_52 : decode cX9_counted 52 = .ok (.aload_n 0, 1) := by decide +kernel
theorem dX9_counted_53 : decode cX9_counted 53 = .ok (.getfield 7, 3) := by decide +kernel
theorem dX9_counted_56 : decode cX9_counted 56 = .ok (.iconst 0, 1) := by decide +kernel
theorem dX9_counted_57 : decode cX9_counted 57 = .ok (.iaload, 1) := by decide +kernel
theorem dX9_counted_58 : decode cX9_counted 58 = .ok (.ireturn, 1) := by decide +kernel
theorem dX9_counted_59 : decode cX9_counted 59 = .ok (.aload_n 0, 1) := by decide +kernel
theorem dX9_counted_60 : decode cX9_counted 60 = .ok (.getfield 7, 3) := by decide +kernel
theorem dX9_counted_63 : decode cX9_counted 63 = .ok (.iconst 1, 1) := by decide +kernel
theorem dX9_counted_64 : decode cX9_counted 64 = .ok (.iaload, 1) := by decide +kernel
theorem dX9_counted_65 : decode cX9_counted 65 = .ok (.ireturn, 1) := by decide +kernel
theorem dX9_counted_66 : decode cX9_counted 66 = .ok (.aload_n 0, 1) := by decide +kernel
theorem dX9_counted_67 : decode cX9_counted 67 = .ok (.getfield 7, 3) := by decide +kernel
theorem dX9_counted_70 : decode cX9_counted 70 = .ok (.invokestatic 233, 3) := by decide +kernel
theorem dX9_counted_73 : decode cX9_counted 73 = .ok (.ireturn, 1) := by decide +kernel
theorem dX9_counted_74 : decode cX9_counted 74 = .ok (.aload_n 0, 1) := by decide +kernel
theorem dX9_counted_75 : decode cX9_counted 75 = .ok (.getfield 7, 3) := by decide +kernel
theorem dX9_counted_78 : decode cX9_counted 78 = .ok (.iconst 5, 1) := by decide +kernel
theorem dX9_counted_79 : decode cX9_counted 79 = .ok (.iaload, 1) := by decide +kernel
theorem dX9_counted_80 : decode cX9_counted 80 = .ok (.ireturn, 1) := by decide +kernel
theorem dX9_counted_81 : decode cX9_counted 81 = .ok (.aload_n 0, 1) := by decide +kernel
theorem dX9_counted_82 : decode cX9_counted 82 = .ok (.getfield 7, 3) := by decide +kernel
theorem dX9_counted_85 : decode cX9_counted 85 = .ok (.bipush 7, 2) := by decide +kernel
theorem dX9_counted_87 : decode cX9_counted 87 = .ok (.iaload, 1) := by decide +kernel
theorem dX9_counted_88 : decode cX9_counted 88 = .ok (.invokestatic 166, 3) := by decide +kernel
theorem dX9_counted_91 : decode cX9_counted 91 = .ok (.ireturn, 1) := by decide +kernel
theorem dX9_counted_92 : decode cX9_counted 92 = .ok (.aload_n 0, 1) := by decide +kernel
theorem dX9_counted_93 : decode cX9_counted 93 = .ok (.getfield 7, 3) := by decide +kernel
theorem dX9_counted_96 : decode cX9_counted 96 = .ok (.bipush 6, 2) := by decide +kernel
theorem dX9_counted_98 : decode cX9_counted 98 = .ok (.iaload, 1) := by decide +kernel
theorem dX9_counted_99 : decode cX9_counted 99 = .ok (.ireturn, 1) := by decide +kernel
theorem dX9_counted_100 : decode cX9_counted 100 = .ok (.aload_n 0, 1) := by decide +kernel
theorem dX9_counted_101 : decode cX9_counted 101 = .ok (.getfield 7, 3) := by decide +kernel
theorem dX9_counted_104 : decode cX9_counted 104 = .ok (.iconst 2, 1) := by decide +kernel
theorem dX9_counted_105 : decode cX9_counted 105 = .ok (.iaload, 1) := by decide +kernel
theorem dX9_counted_106 : decode cX9_counted 106 = .ok (.ireturn, 1) := by decide +kernel
theorem dX9_counted_107 : decode cX9_counted 107 = .ok (.aload_n 0, 1) := by decide +kernel
theorem dX9_counted_108 : decode cX9_counted 108 = .ok (.getfield 7, 3) := by decide +kernel
theorem dX9_counted_111 : decode cX9_counted 111 = .ok (.iconst 3, 1) := by decide +kernel
theorem dX9_counted_112 : decode cX9_counted 112 = .ok (.iaload, 1) := by decide +kernel
theorem dX9_counted_113 : decode cX9_counted 113 = .ok (.ireturn, 1) := by decide +kernel
theorem dX9_counted_114 : decode cX9_counted 114 = .ok (.aload_n 0, 1) := by decide +kernel
theorem dX9_counted_115 : decode cX9_counted 115 = .ok (.getfield 7, 3) := by decide +kernel
theorem dX9_counted_118 : decode cX9_counted 118 = .ok (.iconst 4, 1) := by decide +kernel
theorem dX9_counted_119 : decode cX9_counted 119 = .ok (.iaload, 1) := by decide +kernel
theorem dX9_counted_120 : decode cX9_counted 120 = .ok (.ireturn, 1) := by decide +kernel
theorem dX9_counted_121 : decode cX9_counted 121 = .ok (.aload_n 0, 1) := by decide +kernel
theorem dX9_counted_122 : decode cX9_counted 122 = .ok (.getfield 239, 3) := by decide +kernel
theorem dX9_counted_125 : decode cX9_counted 125 = .ok (.ireturn, 1) := by decide +kernel
theorem dX9_digest_0 : decode cX9_digest 0 = .ok (.ldc2_w 307, 3) := by decide +kernel
theorem dX9_digest_3 : decode cX9_digest 3 = .ok (.lstore_n 1, 1) := by decide +kernel
theorem dX9_digest_4 : decode cX9_digest 4 = .ok (.iconst 0, 1) := by decide +kernel
theorem dX9_digest_5 : decode cX9_digest 5 = .ok (.istore_n 3, 1) := by decide +kernel
theorem dX9_digest_6 : decode cX9_digest 6 = .ok (.iload_n 3, 1) := by decide +kernel
theorem dX9_digest_7 : decode cX9_digest 7 = .ok (.bipush 10, 2) := by decide +kernel
theorem dX9_digest_9 : decode cX9_digest 9 = .ok (.if_icmp .ge 22, 3) := by decide +kernel
theorem dX9_digest_12 : decode cX9_digest 12 = .ok (.ldc2_w 305, 3) := by decide +kernel
theorem dX9_digest_15 : decode cX9_digest 15 = .ok (.lload_n 1, 1) := by decide +kernel
theorem dX9_digest_16 : decode cX9_digest 16 = .ok (.lmul, 1) := by decide +kernel
theorem dX9_digest_17 : decode cX9_digest 17 = .ok (.aload_n 0, 1) := by decide +kernel
theorem dX9_digest_18 : decode cX9_digest 18 = .ok (.iload_n 3, 1) := by decide +kernel
theorem dX9_digest_19 : decode cX9_digest 19 = .ok (.invokevirtual 302, 3) := by decide +kernel
theorem dX9_digest_22 : decode cX9_digest 22 = .ok (.i2l, 1) := by decide +kernel
theorem dX9_digest_23 : decode cX9_digest 23 = .ok (.ladd, 1) := by decide +kernel
theorem dX9_digest_24 : decode cX9_digest 24 = .ok (.lstore_n 1, 1) := by decide +kernel
theorem dX9_digest_25 : decode cX9_digest 25 = .ok (.iinc 3 1, 3) := by decide +kernel
theorem dX9_digest_28 : decode cX9_digest 28 = .ok (.goto (-22), 3) := by decide +kernel
theorem dX9_digest_31 : decode cX9_digest 31 = .ok (.iconst 0, 1) := by decide +kernel
theorem dX9_digest_32 : decode cX9_digest 32 = .ok (.istore_n 3, 1) := by decide +kernel
theorem dX9_digest_33 : decode cX9_digest 33 = .ok (.iload_n 3, 1) := by decide +kernel
theorem dX9_digest_34 : decode cX9_digest 34 = .ok (.aload_n 0, 1) := by decide +kernel
theorem dX9_digest_35 : decode cX9_digest 35 = .ok (.getfield 7, 3) := by decide +kernel
theorem dX9_digest_38 : decode cX9_digest 38 = .ok (.iconst 0, 1) := by decide +kernel
theorem dX9_digest_39 : decode cX9_digest 39 = .ok (.iaload, 1) := by decide +kernel
theorem dX9_digest_40 : decode cX9_digest 40 = .ok (.if_icmp .ge 39, 3) := by decide +kernel
theorem dX9_digest_43 : decode cX9_digest 43 = .ok (.iconst 0, 1) := by decide +kernel
theorem dX9_digest_44 : decode cX9_digest 44 = .ok (.istore 4, 2) := by decide +kernel
theorem dX9_digest_46 : decode cX9_digest 46 = .ok (.iload 4, 2) := by decide +kernel
theorem dX9_digest_48 : decode cX9_digest 48 = .ok (.iconst 4, 1) := by decide +kernel
theorem dX9_digest_49 : decode cX9_digest 49 = .ok (.if_icmp .ge 24, 3) := by decide +kernel
theorem dX9_digest_52 : decode cX9_digest 52 = .ok (.ldc2_w 305, 3) := by decide +kernel
theorem dX9_digest_55 : decode cX9_digest 55 = .ok (.lload_n 1, 1) := by decide +kernel
theorem dX9_digest_56 : decode cX9_digest 56 = .ok (.lmul, 1) := by decide +kernel
theorem dX9_digest_57 : decode cX9_digest 57 = .ok (.aload_n 0, 1) := by decide +kernel
theorem dX9_digest_58 : decode cX9_digest 58 = .ok (.iload_n 3, 1) := by decide +kernel
theorem dX9_digest_59 : decode cX9_digest 59 = .ok (.iload 4, 2) := by decide +kernel
theorem dX9_digest_61 : decode cX9_digest 61 = .ok (.invokevirtual 137, 3) := by decide +kernel
theorem dX9_digest_64 : decode cX9_digest 64 = .ok (.i2l, 1) := by decide +kernel
theorem dX9_digest_65 : decode cX9_digest 65 = .ok (.ladd, 1) := by decide +kernel
theorem dX9_digest_66 : decode cX9_digest 66 = .ok (.lstore_n 1, 1) := by decide +kernel
theorem dX9_digest_67 : decode cX9_digest 67 = .ok (.iinc 4 1, 3) := by decide +kernel
theorem dX9_digest_70 : decode cX9_digest 70 = .ok (.goto (-24), 3) := by decide +kernel
theorem dX9_digest_73 : decode cX9_digest 73 = .ok (.iinc 3 1, 3) := by decide +kernel
theorem dX9_digest_76 : decode cX9_digest 76 = .ok (.goto (-43), 3) := by decide +kernel
theorem dX9_digest_79 : decode cX9_digest 79 = .ok (.iconst 0, 1) := by decide +kernel
theorem dX9_digest_80 : decode cX9_digest 80 = .ok (.istore_n 3, 1) := by decide +kernel
theorem dX9_digest_81 : decode cX9_digest 81 = .ok (.iload_n 3, 1) := by decide +kernel
theorem dX9_digest_82 : decode cX9_digest 82 = .ok (.aload_n 0, 1) := by decide +kernel
theorem dX9_digest_83 : decode cX9_digest 83 = .ok (.getfield 7, 3) := by decide +kernel
theorem dX9_digest_86 : decode cX9_digest 86 = .ok (.iconst 1, 1) := by decide +kernel
theorem dX9_digest_87 : decode cX9_digest 87 = .ok (.iaload, 1) := by decide +kernel
theorem dX9_digest_88 : decode cX9_digest 88 = .ok (.if_icmp .ge 39, 3) := by decide +kernel
theorem dX9_digest_91 : decode cX9_digest 91 = .ok (.iconst 0, 1) := by decide +kernel
theorem dX9_digest_92 : decode cX9_digest 92 = .ok (.istore 4, 2) := by decide +kernel
theorem dX9_digest_94 : decode cX9_digest 94 = .ok (.iload 4, 2) := by decide +kernel
theorem dX9_digest_96 : decode cX9_digest 96 = .ok (.iconst 3, 1) := by decide +kernel
theorem dX9_digest_97 : decode cX9_digest 97 = .ok (.if_icmp .ge 24, 3) := by decide +kernel
theorem dX9_digest_100 : decode cX9_digest 100 = .ok (.ldc2_w 305, 3) := by decide +kernel
theorem dX9_digest_103 : decode cX9_digest 103 = .ok (.lload_n 1, 1) := by decide +kernel
theorem dX9_digest_104 : decode cX9_digest 104 = .ok (.lmul, 1) := by decide +kernel
theorem dX9_digest_105 : decode cX9_digest 105 = .ok (.aload_n 0, 1) := by decide +kernel
theorem dX9_digest_106 : decode cX9_digest 106 = .ok (.iload_n 3, 1) := by decide +kernel
theorem dX9_digest_107 : decode cX9_digest 107 = .ok (.iload 4, 2) := by decide +kernel
theorem dX9_digest_109 : decode cX9_digest 109 = .ok (.invokevirtual 141, 3) := by decide +kernel
theorem dX9_digest_112 : decode cX9_digest 112 = .ok (.i2l, 1) := by decide +kernel
theorem dX9_digest_113 : decode cX9_digest 113 = .ok (.ladd, 1) := by decide +kernel
theorem dX9_digest_114 : decode cX9_digest 114 = .ok (.lstore_n 1, 1) := by decide +kernel
theorem dX9_digest_115 : decode cX9_digest 115 = .ok (.iinc 4 1, 3) := by decide +kernel
theorem dX9_digest_118 : decode cX9_digest 118 = .ok (.goto (-24), 3) := by decide +kernel
theorem dX9_digest_121 : decode cX9_digest 121 = .ok (.iinc 3 1, 3) := by decide +kernel
theorem dX9_digest_124 : decode cX9_digest 124 = .ok (.goto (-43), 3) := by decide +kernel
theorem dX9_digest_127 : decode cX9_digest 127 = .ok (.aload_n 0, 1) := by decide +kernel
theorem dX9_digest_128 : decode cX9_digest 128 = .ok (.lload_n 1, 1) := by decide +kernel
theorem dX9_digest_129 : decode cX9_digest 129 = .ok (.bipush 41, 2) := by decide +kernel
theorem dX9_digest_131 : decode cX9_digest 131 = .ok (.iconst 4, 1) := by decide +kernel
theorem dX9_digest_132 : decode cX9_digest 132 = .ok (.aload_n 0, 1) := by decide +kernel
theorem dX9_digest_133 : decode cX9_digest 133 = .ok (.getfield 7, 3) := by decide +kernel
theorem dX9_digest_136 : decode cX9_digest 136 = .ok (.iconst 2, 1) := by decide +kernel
theorem dX9_digest_137 : decode cX9_digest 137 = .ok (.iaload, 1) := by decide +kernel
theorem dX9_digest_138 : decode cX9_digest 138 = .ok (.imul, 1) := by decide +kernel
theorem dX9_digest_139 : decode cX9_digest 139 = .ok (.invokevirtual 309, 3) := by decide +kernel
theorem dX9_digest_142 : decode cX9_digest 142 = .ok (.lstore_n 1, 1) := by decide +kernel
theorem dX9_digest_143 : decode cX9_digest 143 = .ok (.aload_n 0, 1) := by decide +kernel
theorem dX9_digest_144 : decode cX9_digest 144 = .ok (.lload_n 1, 1) := by decide +kernel
theorem dX9_digest_145 : decode cX9_digest 145 = .ok (.bipush 65, 2) := by decide +kernel
theorem dX9_digest_147 : decode cX9_digest 147 = .ok (.iconst 4, 1) := by decide +kernel
theorem dX9_digest_148 : decode cX9_digest 148 = .ok (.aload_n 0, 1) := by decide +kernel
theorem dX9_digest_149 : decode cX9_digest 149 = .ok (.getfield 7, 3) := by decide +kernel
theorem dX9_digest_152 : decode cX9_digest 152 = .ok (.iconst 3, 1) := by decide +kernel
theorem dX9_digest_153 : decode cX9_digest 153 = .ok (.iaload, 1) := by decide +kernel
theorem dX9_digest_154 : decode cX9_digest 154 = .ok (.imul, 1) := by decide +kernel
theorem dX9_digest_155 : decode cX9_digest 155 = .ok (.invokevirtual 309, 3) := by decide +kernel
theorem dX9_digest_158 : decode cX9_digest 158 = .ok (.lstore_n 1, 1) := by decide +kernel
theorem dX9_digest_159 : decode cX9_digest 159 = .ok (.ldc2_w 305, 3) := by decide +kernel
theorem dX9_digest_162 : decode cX9_digest 162 = .ok (.ldc2_w 305, 3) := by decide +kernel
theorem dX9_digest_165 : decode cX9_digest 165 = .ok (.lload_n 1, 1) := by decide +kernel
theorem dX9_digest_166 : decode cX9_digest 166 = .ok (.lmul, 1) := by decide +kernel
theorem dX9_digest_167 : decode cX9_digest 167 = .ok (.aload_n 0, 1) := by decide +kernel
theorem dX9_digest_168 : decode cX9_digest 168 = .ok (.getfield 206, 3) := by decide +kernel
theorem dX9_digest_171 : decode cX9_digest 171 = .ok (.ladd, 1) := by decide +kernel
theorem dX9_digest_172 : decode cX9_digest 172 = .ok (.lmul, 1) := by decide +kernel
theorem dX9_digest_173 : decode cX9_digest 173 = .ok (.aload_n 0, 1) := by decide +kernel
theorem dX9_digest_174 : decode cX9_digest 174 = .ok (.getfield 23, 3) := by decide +kernel
theorem dX9_digest_177 : decode cX9_digest 177 = .ok (.ladd, 1) := by decide +kernel
theorem dX9_digest_178 : decode cX9_digest 178 = .ok (.lreturn, 1) := by decide +kernel
theorem dX9_few_0 : decode cX9_few 0 = .ok (.aload_n 0, 1) := by decide +kernel
theorem dX9_few_1 : decode cX9_few 1 = .ok (.iload_n 1, 1) := by decide +kernel
theorem dX9_few_2 : decode cX9_few 2 = .ok (.invokevirtual 113, 3) := by decide +kernel
theorem dX9_few_5 : decode cX9_few 5 = .ok (.ifCond .eq 33, 3) := by decide +kernel
theorem dX9_few_8 : decode cX9_few 8 = .ok (.iload_n 2, 1) := by decide +kernel
theorem dX9_few_9 : decode cX9_few 9 = .ok (.invokestatic 73, 3) := by decide +kernel
theorem dX9_few_12 : decode cX9_few 12 = .ok (.ifCond .eq 26, 3) := by decide +kernel
theorem dX9_few_15 : decode cX9_few 15 = .ok (.iload_n 3, 1) := by decide +kernel
theorem dX9_few_16 : decode cX9_few 16 = .ok (.i2l, 1) := by decide +kernel
theorem dX9_few_17 : decode cX9_few 17 = .ok (.lconst 1, 1) := by decide +kernel
theorem dX9_few_18 : decode cX9_few 18 = .ok (.ldc2_w 58, 3) := by decide +kernel
theorem dX9_few_21 : decode cX9_few 21 = .ok (.invokestatic 46, 3) := by decide +kernel
theorem dX9_few_24 : decode cX9_few 24 = .ok (.ifCond .eq 14, 3) := by decide +kernel
theorem dX9_few_27 : decode cX9_few 27 = .ok (.iload 4, 2) := by decide +kernel
theorem dX9_few_29 : decode cX9_few 29 = .ok (.i2l, 1) := by decide +kernel
theorem dX9_few_30 : decode cX9_few 30 = .ok (.lconst 0, 1) := by decide +kernel
theorem dX9_few_31 : decode cX9_few 31 = .ok (.lconst 1, 1) := by decide +kernel
theorem dX9_few_32 : decode cX9_few 32 = .ok (.invokestatic 46, 3) := by decide +kernel
theorem dX9_few_35 : decode cX9_few 35 = .ok (.ifCond .ne 10, 3) := by decide +kernel
theorem dX9_few_38 : decode cX9_few 38 = .ok (.aload_n 0, 1) := by decide +kernel
theorem dX9_few_39 : decode cX9_few 39 = .ok (.bipush (-2), 2) := by decide +kernel
theorem dX9_few_41 : decode cX9_few 41 = .ok (.invokevirtual 62, 3) := by decide +kernel
theorem dX9_few_44 : decode cX9_few 44 = .ok (.ireturn, 1) := by decide +kernel
theorem dX9_few_45 : decode cX9_few 45 = .ok (.aload_n 0, 1) := by decide +kernel
theorem dX9_few_46 : decode cX9_few 46 = .ok (.getfield 7, 3) := by decide +kernel
theorem dX9_few_49 : decode cX9_few 49 = .ok (.bipush 8, 2) := by decide +kernel
theorem dX9_few_51 : decode cX9_few 51 = .ok (.iload_n 1, 1) := by decide +kernel
theorem dX9_few_52 : decode cX9_few 52 = .ok (.iadd, 1) := by decide +kernel
theorem dX9_few_53 : decode cX9_few 53 = .ok (.iaload, 1) := by decide +kernel
theorem dX9_few_54 : decode cX9_few 54 = .ok (.istore 5, 2) := by decide +kernel
theorem dX9_few_56 : decode cX9_few 56 = .ok (.iconst (-1), 1) := by decide +kernel
theorem dX9_few_57 : decode cX9_few 57 = .ok (.istore 6, 2) := by decide +kernel
theorem dX9_few_59 : decode cX9_few 59 = .ok (.iconst 0, 1) := by decide +kernel
theorem dX9_few_60 : decode cX9_few 60 = .ok (.istore 7, 2) := by decide +kernel
theorem dX9_few_62 : decode cX9_few 62 = .ok (.iload 7, 2) := by decide +kernel
theorem dX9_few_64 : decode cX9_few 64 = .ok (.iconst 1, 1) := by decide +kernel
theorem dX9_few_65 : decode cX9_few 65 = .ok (.aload_n 0, 1) := by decide +kernel
theorem dX9_few_66 : decode cX9_few 66 = .ok (.getfield 7, 3) := by decide +kernel
theorem dX9_few_69 : decode cX9_few 69 = .ok (.iconst 0, 1) := by decide +kernel
theorem dX9_few_70 : decode cX9_few 70 = .ok (.iaload, 1) := by decide +kernel
theorem dX9_few_71 : decode cX9_few 71 = .ok (.ishl, 1) := by decide +kernel
theorem dX9_few_72 : decode cX9_few 72 = .ok (.if_icmp .ge 90, 3) := by decide +kernel
theorem dX9_few_75 : decode cX9_few 75 = .ok (.iload 5, 2) := by decide +kernel
theorem dX9_few_77 : decode cX9_few 77 = .ok (.ifCond .eq 16, 3) := by decide +kernel
theorem dX9_few_80 : decode cX9_few 80 = .ok (.aload_n 0, 1) := by decide +kernel
theorem dX9_few_81 : decode cX9_few 81 = .ok (.getfield 7, 3) := by decide +kernel
theorem dX9_few_84 : decode cX9_few 84 = .ok (.bipush 12, 2) := by decide +kernel
theorem dX9_few_86 : decode cX9_few 86 = .ok (.iload_n 1, 1) := by decide +kernel
theorem dX9_few_87 : decode cX9_few 87 = .ok (.iadd, 1) := by decide +kernel
theorem dX9_few_88 : decode cX9_few 88 = .ok (.iaload, 1) := by decide +kernel
theorem dX9_few_89 : decode cX9_few 89 = .ok (.iload_n 2, 1) := by decide +kernel
theorem dX9_few_90 : decode cX9_few 90 = .ok (.if_icmp .ne 72, 3) := by decide +kernel
theorem dX9_few_93 : decode cX9_few 93 = .ok (.aload_n 0, 1) := by decide +kernel
theorem dX9_few_94 : decode cX9_few 94 = .ok (.iload 7, 2) := by decide +kernel
theorem dX9_few_96 : decode cX9_few 96 = .ok (.iload_n 2, 1) := by decide +kernel
theorem dX9_few_97 : decode cX9_few 97 = .ok (.invokevirtual 160, 3) := by decide +kernel
theorem dX9_few_100 : decode cX9_few 100 = .ok (.ifCond .eq 20, 3) := by decide +kernel
theorem dX9_few_103 : decode cX9_few 103 = .ok (.iload 5, 2) := by decide +kernel
theorem dX9_few_105 : decode cX9_few 105 = .ok (.aload_n 0, 1) := by decide +kernel
theorem dX9_few_106 : decode cX9_few 106 = .ok (.iload 7, 2) := by decide +kernel
theorem dX9_few_108 : decode cX9_few 108 = .ok (.invokevirtual 163, 3) := by decide +kernel
theorem dX9_few_111 : decode cX9_few 111 = .ok (.iadd, 1) := by decide +kernel
theorem dX9_few_112 : decode cX9_few 112 = .ok (.iload_n 3, 1) := by decide +kernel
theorem dX9_few_113 : decode cX9_few 113 = .ok (.if_icmp .lt 7, 3) := by decide +kernel
theorem dX9_few_116 : decode cX9_few 116 = .ok (.iconst 1, 1) := by decide +kernel
theorem dX9_few_117 : decode cX9_few 117 = .ok (.goto 4, 3) := by decide +kernel
theorem dX9_few_120 : decode cX9_few 120 = .ok (.iconst 0, 1) := by decide +kernel
theorem dX9_few_121 : decode cX9_few 121 = .ok (.istore 8, 2) := by decide +kernel
theorem dX9_few_123 : decode cX9_few 123 = .ok (.iload 8, 2) := by decide +kernel
theorem dX9_few_125 : decode cX9_few 125 = .ok (.ifCond .eq 27, 3) := by decide +kernel
theorem dX9_few_128 : decode cX9_few 128 = .ok (.iload 6, 2) := by decide +kernel
theorem dX9_few_130 : decode cX9_few 130 = .ok (.iconst (-1), 1) := by decide +kernel
theorem dX9_few_131 : decode cX9_few 131 = .ok (.if_icmp .eq 16, 3) := by decide +kernel
theorem dX9_few_134 : decode cX9_few 134 = .ok (.iload 7, 2) := by decide +kernel
theorem dX9_few_136 : decode cX9_few 136 = .ok (.invokestatic 166, 3) := by decide +kernel
theorem dX9_few_139 : decode cX9_few 139 = .ok (.iload 6, 2) := by decide +kernel
theorem dX9_few_141 : decode cX9_few 141 = .ok (.invokestatic 166, 3) := by decide +kernel
theorem dX9_few_144 : decode cX9_few 144 = .ok (.if_icmp .ge 8, 3) := by decide +kernel
theorem dX9_few_147 : decode cX9_few 147 = .ok (.iload 7, 2) := by decide +kernel
theorem dX9_few_149 : decode cX9_few 149 = .ok (.goto 5, 3) := by decide +kernel
theorem dX9_few_152 : decode cX9_few 152 = .ok (.iload 6, 2) := by decide +kernel
theorem dX9_few_154 : decode cX9_few 154 = .ok (.istore 6, 2) := by decide +kernel
theorem dX9_few_156 : decode cX9_few 156 = .ok (.iinc 7 1, 3) := by decide +kernel
theorem dX9_few_159 : decode cX9_few 159 = .ok (.goto (-97), 3) := by decide +kernel
theorem dX9_few_162 : decode cX9_few 162 = .ok (.iload 6, 2) := by decide +kernel
theorem dX9_few_164 : decode cX9_few 164 = .ok (.iconst (-1), 1) := by decide +kernel
theorem dX9_few_165 : decode cX9_few 165 = .ok (.if_icmp .eq 9, 3) := by decide +kernel
theorem dX9_few_168 : decode cX9_few 168 = .ok (.iload 4, 2) := by decide +kernel
theorem dX9_few_170 : decode cX9_few 170 = .ok (.iconst 1, 1) := by decide +kernel
theorem dX9_few_171 : decode cX9_few 171 = .ok (.if_icmp .ne 8, 3) := by decide +kernel
theorem dX9_few_174 : decode cX9_few 174 = .ok (.iload 6, 2) := by decide +kernel
theorem dX9_few_176 : decode cX9_few 176 = .ok (.goto 8, 3) := by decide +kernel
theorem dX9_few_179 : decode cX9_few 179 = .ok (.iload 6, 2) := by decide +kernel
theorem dX9_few_181 : decode cX9_few 181 = .ok (.invokestatic 166, 3) := by decide +kernel
theorem dX9_few_184 : decode cX9_few 184 = .ok (.ireturn, 1) := by decide +kernel
theorem dX9_forget_0 : decode cX9_forget 0 = .ok (.iload_n 1, 1) := by decide +kernel
theorem dX9_forget_1 : decode cX9_forget 1 = .ok (.i2l, 1) := by decide +kernel
theorem dX9_forget_2 : decode cX9_forget 2 = .ok (.lconst 0, 1) := by decide +kernel
theorem dX9_forget_3 : decode cX9_forget 3 = .ok (.lconst 1, 1) := by decide +kernel
theorem dX9_forget_4 : decode cX9_forget 4 = .ok (.invokestatic 46, 3) := by decide +kernel
theorem dX9_forget_7 : decode cX9_forget 7 = .ok (.ifCond .ne 10, 3) := by decide +kernel
theorem dX9_forget_10 : decode cX9_forget 10 = .ok (.aload_n 0, 1) := by decide +kernel
theorem dX9_forget_11 : decode cX9_forget 11 = .ok (.bipush (-2), 2) := by decide +kernel
theorem dX9_forget_13 : decode cX9_forget 13 = .ok (.invokevirtual 62, 3) := by decide +kernel
theorem dX9_forget_16 : decode cX9_forget 16 = .ok (.ireturn, 1) := by decide +kernel
theorem dX9_forget_17 : decode cX9_forget 17 = .ok (.aload_n 0, 1) := by decide +kernel
theorem dX9_forget_18 : decode cX9_forget 18 = .ok (.getfield 7, 3) := by decide +kernel
theorem dX9_forget_21 : decode cX9_forget 21 = .ok (.iconst 2, 1) := by decide +kernel
theorem dX9_forget_22 : decode cX9_forget 22 = .ok (.iload_n 1, 1) := by decide +kernel
theorem dX9_forget_23 : decode cX9_forget 23 = .ok (.iadd, 1) := by decide +kernel
theorem dX9_forget_24 : decode cX9_forget 24 = .ok (.iaload, 1) := by decide +kernel
theorem dX9_forget_25 : decode cX9_forget 25 = .ok (.istore_n 2, 1) := by decide +kernel
theorem dX9_forget_26 : decode cX9_forget 26 = .ok (.aload_n 0, 1) := by decide +kernel
theorem dX9_forget_27 : decode cX9_forget 27 = .ok (.getfield 7, 3) := by decide +kernel
theorem dX9_forget_30 : decode cX9_forget 30 = .ok (.iconst 2, 1) := by decide +kernel
theorem dX9_forget_31 : decode cX9_forget 31 = .ok (.iload_n 1, 1) := by decide +kernel
theorem dX9_forget_32 : decode cX9_forget 32 = .ok (.iadd, 1) := by decide +kernel
theorem dX9_forget_33 : decode cX9_forget 33 = .ok (.iconst 0, 1) := by decide +kernel
theorem dX9_forget_34 : decode cX9_forget 34 = .ok (.iastore, 1) := by decide +kernel
theorem dX9_forget_35 : decode cX9_forget 35 = .ok (.iload_n 2, 1) := by decide +kernel
theorem dX9_forget_36 : decode cX9_forget 36 = .ok (.ireturn, 1) := by decide +kernel
theorem dX9_fraction_0 : decode cX9_fraction 0 = .ok (.lload_n 1, 1) := by decide +kernel
theorem dX9_fraction_1 : decode cX9_fraction 1 = .ok (.lstore 5, 2) := by decide +kernel
theorem dX9_fraction_3 : decode cX9_fraction 3 = .ok (.lload_n 3, 1) := by decide +kernel
theorem dX9_fraction_4 : decode cX9_fraction 4 = .ok (.lstore 7, 2) := by decide +kernel
theorem dX9_fraction_6 : decode cX9_fraction 6 = .ok (.lload 7, 2) := by decide +kernel
theorem dX9_fraction_8 : decode cX9_fraction 8 = .ok (.lconst 0, 1) := by decide +kernel
theorem dX9_fraction_9 : decode cX9_fraction 9 = .ok (.lcmp, 1) := by decide +kernel
theorem dX9_fraction_10 : decode cX9_fraction 10 = .ok (.ifCond .eq 21, 3) := by decide +kernel
theorem dX9_fraction_13 : decode cX9_fraction 13 = .ok (.lload 5, 2) := by decide +kernel
theorem dX9_fraction_15 : decode cX9_fraction 15 = .ok (.lload 7, 2) := by decide +kernel
theorem dX9_fraction_17 : decode cX9_fraction 17 = .ok (.lrem, 1) := by decide +kernel
theorem dX9_fraction_18 : decode cX9_fraction 18 = .ok (.lstore 9, 2) := by decide +kernel
theorem dX9_fraction_20 : decode cX9_fraction 20 = .ok (.lload 7, 2) := by decide +kernel
theorem dX9_fraction_22 : decode cX9_fraction 22 = .ok (.lstore 5, 2) := by decide +kernel
theorem dX9_fraction_24 : decode cX9_fraction 24 = .ok (.lload 9, 2) := by decide +kernel
theorem dX9_fraction_26 : decode cX9_fraction 26 = .ok (.lstore 7, 2) := by decide +kernel
theorem dX9_fraction_28 : decode cX9_fraction 28 = .ok (.goto (-22), 3) := by decide +kernel
theorem dX9_fraction_31 : decode cX9_fraction 31 = .ok (.aload_n 0, 1) := by decide +kernel
theorem dX9_fraction_32 : decode cX9_fraction 32 = .ok (.lload_n 1, 1) := by decide +kernel
theorem dX9_fraction_33 : decode cX9_fraction 33 = .ok (.lload 5, 2) := by decide +kernel
theorem dX9_fraction_35 : decode cX9_fraction 35 = .ok (.ldiv, 1) := by decide +kernel
theorem dX9_fraction_36 : decode cX9_fraction 36 = .ok (.putfield 206, 3) := by decide +kernel
theorem dX9_fraction_39 : decode cX9_fraction 39 = .ok (.aload_n 0, 1) := by decide +kernel
theorem dX9_fraction_40 : decode cX9_fraction 40 = .ok (.lload_n 3, 1) := by decide +kernel
theorem dX9_fraction_41 : decode cX9_fraction 41 = .ok (.lload 5, 2) := by decide +kernel
theorem dX9_fraction_43 : decode cX9_fraction 43 = .ok (.ldiv, 1) := by decide +kernel
theorem dX9_fraction_44 : decode cX9_fraction 44 = .ok (.putfield 23, 3) := by decide +kernel
theorem dX9_fraction_47 : decode cX9_fraction 47 = .ok (.return_, 1) := by decide +kernel
theorem dX9_gets_0 : decode cX9_gets 0 = .ok (.aload_n 0, 1) := by decide +kernel
theorem dX9_gets_1 : decode cX9_gets 1 = .ok (.getfield 7, 3) := by decide +kernel
theorem dX9_gets_4 : decode cX9_gets 4 = .ok (.iload_n 1, 1) := by decide +kernel
theorem dX9_gets_5 : decode cX9_gets 5 = .ok (.iconst 0, 1) := by decide +kernel
theorem dX9_gets_6 : decode cX9_gets 6 = .ok (.invokestatic 94, 3) := by decide +kernel
theorem dX9_gets_9 : decode cX9_gets 9 = .ok (.istore_n 3, 1) := by decide +kernel
theorem dX9_gets_10 : decode cX9_gets 10 = .ok (.iload_n 1, 1) := by decide +kernel
theorem dX9_gets_11 : decode cX9_gets 11 = .ok (.iload_n 2, 1) := by decide +kernel
theorem dX9_gets_12 : decode cX9_gets 12 = .ok (.if_icmp .ne 11, 3) := by decide +kernel
theorem dX9_gets_15 : decode cX9_gets 15 = .ok (.iload_n 3, 1) := by decide +kernel
theorem dX9_gets_16 : decode cX9_gets 16 = .ok (.iconst 2, 1) := by decide +kernel
theorem dX9_gets_17 : decode cX9_gets 17 = .ok (.idiv, 1) := by decide +kernel
theorem dX9_gets_18 : decode cX9_gets 18 = .ok (.iconst 1, 1) := by decide +kernel
theorem dX9_gets_19 : decode cX9_gets 19 = .ok (.isub, 1) := by decide +kernel
theorem dX9_gets_20 : decode cX9_gets 20 = .ok (.goto 31, 3) := by decide +kernel
theorem dX9_gets_23 : decode cX9_gets 23 = .ok (.aload_n 0, 1) := by decide +kernel
theorem dX9_gets_24 : decode cX9_gets 24 = .ok (.getfield 7, 3) := by decide +kernel
theorem dX9_gets_27 : decode cX9_gets 27 = .ok (.bipush 30, 2) := by decide +kernel
theorem dX9_gets_29 : decode cX9_gets 29 = .ok (.iload_n 1, 1) := by decide +kernel
theorem dX9_gets_30 : decode cX9_gets 30 = .ok (.iadd, 1) := by decide +kernel
theorem dX9_gets_31 : decode cX9_gets 31 = .ok (.iaload, 1) := by decide +kernel
theorem dX9_gets_32 : decode cX9_gets 32 = .ok (.aload_n 0, 1) := by decide +kernel
theorem dX9_gets_33 : decode cX9_gets 33 = .ok (.getfield 7, 3) := by decide +kernel
theorem dX9_gets_36 : decode cX9_gets 36 = .ok (.bipush 30, 2) := by decide +kernel
theorem dX9_gets_38 : decode cX9_gets 38 = .ok (.iload_n 2, 1) := by decide +kernel
theorem dX9_gets_39 : decode cX9_gets 39 = .ok (.iadd, 1) := by decide +kernel
theorem dX9_gets_40 : decode cX9_gets 40 = .ok (.iaload, 1) := by decide +kernel
theorem dX9_gets_41 : decode cX9_gets 41 = .ok (.if_icmp .ne 7, 3) := by decide +kernel
theorem dX9_gets_44 : decode cX9_gets 44 = .ok (.iload_n 3, 1) := by decide +kernel
theorem dX9_gets_45 : decode cX9_gets 45 = .ok (.goto 6, 3) := by decide +kernel
theorem dX9_gets_48 : decode cX9_gets 48 = .ok (.iload_n 3, 1) := by decide +kernel
theorem dX9_gets_49 : decode cX9_gets 49 = .ok (.iconst 2, 1) := by decide +kernel
theorem dX9_gets_50 : decode cX9_gets 50 = .ok (.iadd, 1) := by decide +kernel
theorem dX9_gets_51 : decode cX9_gets 51 = .ok (.ireturn, 1) := by decide +kernel
theorem dX9_givenBy_0 : decode cX9_givenBy 0 = .ok (.iconst 0, 1) := by decide +kernel
theorem dX9_givenBy_1 : decode cX9_givenBy 1 = .ok (.istore_n 2, 1) := by decide +kernel
theorem dX9_givenBy_2 : decode cX9_givenBy 2 = .ok (.iconst 0, 1) := by decide +kernel
theorem dX9_givenBy_3 : decode cX9_givenBy 3 = .ok (.istore_n 3, 1) := by decide +kernel
theorem dX9_givenBy_4 : decode cX9_givenBy 4 = .ok (.iload_n 3, 1) := by decide +kernel
theorem dX9_givenBy_5 : decode cX9_givenBy 5 = .ok (.aload_n 0, 1) := by decide +kernel
theorem dX9_givenBy_6 : decode cX9_givenBy 6 = .ok (.getfield 7, 3) := by decide +kernel
theorem dX9_givenBy_9 : decode cX9_givenBy 9 = .ok (.iconst 0, 1) := by decide +kernel
theorem dX9_givenBy_10 : decode cX9_givenBy 10 = .ok (.iaload, 1) := by decide +kernel
theorem dX9_givenBy_11 : decode cX9_givenBy 11 = .ok (.if_icmp .ge 33, 3) := by decide +kernel
theorem dX9_givenBy_14 : decode cX9_givenBy 14 = .ok (.iload_n 2, 1) := by decide +kernel
theorem dX9_givenBy_15 : decode cX9_givenBy 15 = .ok (.iload_n 1, 1) := by decide +kernel
theorem dX9_givenBy_16 : decode cX9_givenBy 16 = .ok (.iload_n 3, 1) := by decide +kernel
theorem dX9_givenBy_17 : decode cX9_givenBy 17 = .ok (.invokestatic 116, 3) := by decide +kernel
theorem dX9_givenBy_20 : decode cX9_givenBy 20 = .ok (.ifCond .eq 15, 3) := by decide +kernel
theorem dX9_givenBy_23 : decode cX9_givenBy 23 = .ok (.aload_n 0, 1) := by decide +kernel
theorem dX9_givenBy_24 : decode cX9_givenBy 24 = .ok (.getfield 7, 3) := by decide +kernel
theorem dX9_givenBy_27 : decode cX9_givenBy 27 = .ok (.iload_n 3, 1) := by decide +kernel
theorem dX9_givenBy_28 : decode cX9_givenBy 28 = .ok (.iconst 0, 1) := by decide +kernel
theorem dX9_givenBy_29 : decode cX9_givenBy 29 = .ok (.invokestatic 94, 3) := by decide +kernel
theorem dX9_givenBy_32 : decode cX9_givenBy 32 = .ok (.goto 4, 3) := by decide +kernel
theorem dX9_givenBy_35 : decode cX9_givenBy 35 = .ok (.iconst 0, 1) := by decide +kernel
theorem dX9_givenBy_36 : decode cX9_givenBy 36 = .ok (.iadd, 1) := by decide +kernel
theorem dX9_givenBy_37 : decode cX9_givenBy 37 = .ok (.istore_n 2, 1) := by decide +kernel
theorem dX9_givenBy_38 : decode cX9_givenBy 38 = .ok (.iinc 3 1, 3) := by decide +kernel
theorem dX9_givenBy_41 : decode cX9_givenBy 41 = .ok (.goto (-37), 3) := by decide +kernel
theorem dX9_givenBy_44 : decode cX9_givenBy 44 = .ok (.iload_n 2, 1) := by decide +kernel
theorem dX9_givenBy_45 : decode cX9_givenBy 45 = .ok (.ireturn, 1) := by decide +kernel
theorem dX9_gives_0 : decode cX9_gives 0 = .ok (.aload_n 0, 1) := by decide +kernel
theorem dX9_gives_1 : decode cX9_gives 1 = .ok (.iload_n 1, 1) := by decide +kernel
theorem dX9_gives_2 : decode cX9_gives 2 = .ok (.invokevirtual 110, 3) := by decide +kernel
theorem dX9_gives_5 : decode cX9_gives 5 = .ok (.ifCond .eq 27, 3) := by decide +kernel
theorem dX9_gives_8 : decode cX9_gives 8 = .ok (.iload_n 2, 1) := by decide +kernel
theorem dX9_gives_9 : decode cX9_gives 9 = .ok (.i2l, 1) := by decide +kernel
theorem dX9_gives_10 : decode cX9_gives 10 = .ok (.lconst 0, 1) := by decide +kernel
theorem dX9_gives_11 : decode cX9_gives 11 = .ok (.ldc2_w 58, 3) := by decide +kernel
theorem dX9_gives_14 : decode cX9_gives 14 = .ok (.invokestatic 46, 3) := by decide +kernel
theorem dX9_gives_17 : decode cX9_gives 17 = .ok (.ifCond .eq 15, 3) := by decide +kernel
theorem dX9_gives_20 : decode cX9_gives 20 = .ok (.aload_n 0, 1) := by decide +kernel
theorem dX9_gives_21 : decode cX9_gives 21 = .ok (.getfield 7, 3) := by decide +kernel
theorem dX9_gives_24 : decode cX9_gives 24 = .ok (.iload_n 1, 1) := by decide +kernel
theorem dX9_gives_25 : decode cX9_gives 25 = .ok (.iload_n 2, 1) := by decide +kernel
theorem dX9_gives_26 : decode cX9_gives 26 = .ok (.invokestatic 94, 3) := by decide +kernel
theorem dX9_gives_29 : decode cX9_gives 29 = .ok (.goto 9, 3) := by decide +kernel
theorem dX9_gives_32 : decode cX9_gives 32 = .ok (.aload_n 0, 1) := by decide +kernel
theorem dX9_gives_33 : decode cX9_gives 33 = .ok (.bipush (-2), 2) := by decide +kernel
theorem dX9_gives_35 : decode cX9_gives 35 = .ok (.invokevirtual 62, 3) := by decide +kernel
theorem dX9_gives_38 : decode cX9_gives 38 = .ok (.ireturn, 1) := by decide +kernel
theorem dX9_gone_0 : decode cX9_gone 0 = .ok (.aload_n 0, 1) := by decide +kernel
theorem dX9_gone_1 : decode cX9_gone 1 = .ok (.iload_n 1, 1) := by decide +kernel
theorem dX9_gone_2 : decode cX9_gone 2 = .ok (.invokevirtual 113, 3) := by decide +kernel
theorem dX9_gone_5 : decode cX9_gone 5 = .ok (.ifCond .ne 10, 3) := by decide +kernel
theorem dX9_gone_8 : decode cX9_gone 8 = .ok (.aload_n 0, 1) := by decide +kernel
theorem dX9_gone_9 : decode cX9_gone 9 = .ok (.bipush (-2), 2) := by decide +kernel
theorem dX9_gone_11 : decode cX9_gone 11 = .ok (.invokevirtual 62, 3) := by decide +kernel
theorem dX9_gone_14 : decode cX9_gone 14 = .ok (.ireturn, 1) := by decide +kernel
theorem dX9_gone_15 : decode cX9_gone 15 = .ok (.aload_n 0, 1) := by decide +kernel
theorem dX9_gone_16 : decode cX9_gone 16 = .ok (.invokevirtual 144, 3) := by decide +kernel
theorem dX9_gone_19 : decode cX9_gone 19 = .ok (.iconst 0, 1) := by decide +kernel
theorem dX9_gone_20 : decode cX9_gone 20 = .ok (.istore_n 2, 1) := by decide +kernel
theorem dX9_gone_21 : decode cX9_gone 21 = .ok (.iload_n 2, 1) := by decide +kernel
theorem dX9_gone_22 : decode cX9_gone 22 = .ok (.bipush 60, 2) := by decide +kernel
theorem dX9_gone_24 : decode cX9_gone 24 = .ok (.if_icmp .gt 30, 3) := by decide +kernel
theorem dX9_gone_27 : decode cX9_gone 27 = .ok (.aload_n 0, 1) := by decide +kernel
theorem dX9_gone_28 : decode cX9_gone 28 = .ok (.getfield 27, 3) := by decide +kernel
theorem dX9_gone_31 : decode cX9_gone 31 = .ok (.bipush 8, 2) := by decide +kernel
theorem dX9_gone_33 : decode cX9_gone 33 = .ok (.iload_n 1, 1) := by decide +kernel
theorem dX9_gone_34 : decode cX9_gone 34 = .ok (.iadd, 1) := by decide +kernel
theorem dX9_gone_35 : decode cX9_gone 35 = .ok (.iaload, 1) := by decide +kernel
theorem dX9_gone_36 : decode cX9_gone 36 = .ok (.ifCond .ne 5, 3) := by decide +kernel
theorem dX9_gone_39 : decode cX9_gone 39 = .ok (.iload_n 2, 1) := by decide +kernel
theorem dX9_gone_40 : decode cX9_gone 40 = .ok (.ireturn, 1) := by decide +kernel
theorem dX9_gone_41 : decode cX9_gone 41 = .ok (.aload_n 0, 1) := by decide +kernel
theorem dX9_gone_42 : decode cX9_gone 42 = .ok (.getfield 27, 3) := by decide +kernel
theorem dX9_gone_45 : decode cX9_gone 45 = .ok (.invokestatic 106, 3) := by decide +kernel
theorem dX9_gone_48 : decode cX9_gone 48 = .ok (.iinc 2 1, 3) := by decide +kernel
theorem dX9_gone_51 : decode cX9_gone 51 = .ok (.goto (-30), 3) := by decide +kernel
theorem dX9_gone_54 : decode cX9_gone 54 = .ok (.iconst (-1), 1) := by decide +kernel
theorem dX9_gone_55 : decode cX9_gone 55 = .ok (.ireturn, 1) := by decide +kernel
theorem dX9_hours_0 : decode cX9_hours 0 = .ok (.iload_n 1, 1) := by decide +kernel
theorem dX9_hours_1 : decode cX9_hours 1 = .ok (.i2l, 1) := by decide +kernel
theorem dX9_hours_2 : decode cX9_hours 2 = .ok (.lconst 1, 1) := by decide +kernel
theorem dX9_hours_3 : decode cX9_hours 3 = .ok (.ldc2_w 58, 3) := by decide +kernel
theorem dX9_hours_6 : decode cX9_hours 6 = .ok (.invokestatic 46, 3) := by decide +kernel
theorem dX9_hours_9 : decode cX9_hours 9 = .ok (.ifCond .ne 10, 3) := by decide +kernel
theorem dX9_hours_12 : decode cX9_hours 12 = .ok (.aload_n 0, 1) := by decide +kernel
theorem dX9_hours_13 : decode cX9_hours 13 = .ok (.bipush (-2), 2) := by decide +kernel
theorem dX9_hours_15 : decode cX9_hours 15 = .ok (.invokevirtual 62, 3) := by decide +kernel
theorem dX9_hours_18 : decode cX9_hours 18 = .ok (.ireturn, 1) := by decide +kernel
theorem dX9_hours_19 : decode cX9_hours 19 = .ok (.aload_n 0, 1) := by decide +kernel
theorem dX9_hours_20 : decode cX9_hours 20 = .ok (.invokevirtual 123, 3) := by decide +kernel
theorem dX9_hours_23 : decode cX9_hours 23 = .ok (.aload_n 0, 1) := by decide +kernel
theorem dX9_hours_24 : decode cX9_hours 24 = .ok (.getfield 7, 3) := by decide +kernel
theorem dX9_hours_27 : decode cX9_hours 27 = .ok (.iload_n 1, 1) := by decide +kernel
theorem dX9_hours_28 : decode cX9_hours 28 = .ok (.invokestatic 132, 3) := by decide +kernel
theorem dX9_hours_31 : decode cX9_hours 31 = .ok (.aload_n 0, 1) := by decide +kernel
theorem dX9_hours_32 : decode cX9_hours 32 = .ok (.getfield 7, 3) := by decide +kernel
theorem dX9_hours_35 : decode cX9_hours 35 = .ok (.iconst 5, 1) := by decide +kernel
theorem dX9_hours_36 : decode cX9_hours 36 = .ok (.iaload, 1) := by decide +kernel
theorem dX9_hours_37 : decode cX9_hours 37 = .ok (.ireturn, 1) := by decide +kernel
theorem dX9_into_0 : decode cX9_into 0 = .ok (.aload_n 0, 1) := by decide +kernel
theorem dX9_into_1 : decode cX9_into 1 = .ok (.iload_n 1, 1) := by decide +kernel
theorem dX9_into_2 : decode cX9_into 2 = .ok (.invokevirtual 113, 3) := by decide +kernel
theorem dX9_into_5 : decode cX9_into 5 = .ok (.ifCond .eq 25, 3) := by decide +kernel
theorem dX9_into_8 : decode cX9_into 8 = .ok (.iload_n 2, 1) := by decide +kernel
theorem dX9_into_9 : decode cX9_into 9 = .ok (.i2l, 1) := by decide +kernel
theorem dX9_into_10 : decode cX9_into 10 = .ok (.lconst 1, 1) := by decide +kernel
theorem dX9_into_11 : decode cX9_into 11 = .ok (.ldc2_w 169, 3) := by decide +kernel
theorem dX9_into_14 : decode cX9_into 14 = .ok (.invokestatic 46, 3) := by decide +kernel
theorem dX9_into_17 : decode cX9_into 17 = .ok (.ifCond .eq 13, 3) := by decide +kernel
theorem dX9_into_20 : decode cX9_into 20 = .ok (.iload_n 3, 1) := by decide +kernel
theorem dX9_into_21 : decode cX9_into 21 = .ok (.i2l, 1) := by decide +kernel
theorem dX9_into_22 : decode cX9_into 22 = .ok (.lconst 0, 1) := by decide +kernel
theorem dX9_into_23 : decode cX9_into 23 = .ok (.lconst 1, 1) := by decide +kernel
theorem dX9_into_24 : decode cX9_into 24 = .ok (.invokestatic 46, 3) := by decide +kernel
theorem dX9_into_27 : decode cX9_into 27 = .ok (.ifCond .ne 10, 3) := by decide +kernel
theorem dX9_into_30 : decode cX9_into 30 = .ok (.aload_n 0, 1) := by decide +kernel
theorem dX9_into_31 : decode cX9_into 31 = .ok (.bipush (-2), 2) := by decide +kernel
theorem dX9_into_33 : decode cX9_into 33 = .ok (.invokevirtual 62, 3) := by decide +kernel
theorem dX9_into_36 : decode cX9_into 36 = .ok (.ireturn, 1) := by decide +kernel
theorem dX9_into_37 : decode cX9_into 37 = .ok (.iconst (-1), 1) := by decide +kernel
theorem dX9_into_38 : decode cX9_into 38 = .ok (.istore 4, 2) := by decide +kernel
theorem dX9_into_40 : decode cX9_into 40 = .ok (.iconst (-1), 1) := by decide +kernel
theorem dX9_into_41 : decode cX9_into 41 = .ok (.istore 5, 2) := by decide +kernel
theorem dX9_into_43 : decode cX9_into 43 = .ok (.iconst 0, 1) := by decide +kernel
theorem dX9_into_44 : decode cX9_into 44 = .ok (.istore 6, 2) := by decide +kernel
theorem dX9_into_46 : decode cX9_into 46 = .ok (.iload 6, 2) := by decide +kernel
theorem dX9_into_48 : decode cX9_into 48 = .ok (.aload_n 0, 1) := by decide +kernel
theorem dX9_into_49 : decode cX9_into 49 = .ok (.getfield 7, 3) := by decide +kernel
theorem dX9_into_52 : decode cX9_into 52 = .ok (.iconst 1, 1) := by decide +kernel
theorem dX9_into_53 : decode cX9_into 53 = .ok (.iaload, 1) := by decide +kernel
theorem dX9_into_54 : decode cX9_into 54 = .ok (.if_icmp .ge 119, 3) := by decide +kernel
theorem dX9_into_57 : decode cX9_into 57 = .ok (.aload_n 0, 1) := by decide +kernel
theorem dX9_into_58 : decode cX9_into 58 = .ok (.getfield 7, 3) := by decide +kernel
theorem dX9_into_61 : decode cX9_into 61 = .ok (.bipush 8, 2) := by decide +kernel
theorem dX9_into_63 : decode cX9_into 63 = .ok (.iload_n 1, 1) := by decide +kernel
theorem dX9_into_64 : decode cX9_into 64 = .ok (.iadd, 1) := by decide +kernel
theorem dX9_into_65 : decode cX9_into 65 = .ok (.iaload, 1) := by decide +kernel
theorem dX9_into_66 : decode cX9_into 66 = .ok (.ifCond .le 107, 3) := by decide +kernel
theorem dX9_into_69 : decode cX9_into 69 = .ok (.iload 6, 2) := by decide +kernel
theorem dX9_into_71 : decode cX9_into 71 = .ok (.iload_n 1, 1) := by decide +kernel
theorem dX9_into_72 : decode cX9_into 72 = .ok (.if_icmp .eq 95, 3) := by decide +kernel
theorem dX9_into_75 : decode cX9_into 75 = .ok (.aload_n 0, 1) := by decide +kernel
theorem dX9_into_76 : decode cX9_into 76 = .ok (.invokevirtual 144, 3) := by decide +kernel
theorem dX9_into_79 : decode cX9_into 79 = .ok (.aload_n 0, 1) := by decide +kernel
theorem dX9_into_80 : decode cX9_into 80 = .ok (.getfield 27, 3) := by decide +kernel
theorem dX9_into_83 : decode cX9_into 83 = .ok (.iload_n 1, 1) := by decide +kernel
theorem dX9_into_84 : decode cX9_into 84 = .ok (.iload 6, 2) := by decide +kernel
theorem dX9_into_86 : decode cX9_into 86 = .ok (.invokestatic 129, 3) := by decide +kernel
theorem dX9_into_89 : decode cX9_into 89 = .ok (.istore 7, 2) := by decide +kernel
theorem dX9_into_91 : decode cX9_into 91 = .ok (.iconst 0, 1) := by decide +kernel
theorem dX9_into_92 : decode cX9_into 92 = .ok (.istore 8, 2) := by decide +kernel
theorem dX9_into_94 : decode cX9_into 94 = .ok (.iload 8, 2) := by decide +kernel
theorem dX9_into_96 : decode cX9_into 96 = .ok (.iload_n 2, 1) := by decide +kernel
theorem dX9_into_97 : decode cX9_into 97 = .ok (.if_icmp .ge 16, 3) := by decide +kernel
theorem dX9_into_100 : decode cX9_into 100 = .ok (.aload_n 0, 1) := by decide +kernel
theorem dX9_into_101 : decode cX9_into 101 = .ok (.getfield 27, 3) := by decide +kernel
theorem dX9_into_104 : decode cX9_into 104 = .ok (.invokestatic 106, 3) := by decide +kernel
theorem dX9_into_107 : decode cX9_into 107 = .ok (.iinc 8 1, 3) := by decide +kernel
theorem dX9_into_110 : decode cX9_into 110 = .ok (.goto (-16), 3) := by decide +kernel
theorem dX9_into_113 : decode cX9_into 113 = .ok (.aload_n 0, 1) := by decide +kernel
theorem dX9_into_114 : decode cX9_into 114 = .ok (.getfield 27, 3) := by decide +kernel
theorem dX9_into_117 : decode cX9_into 117 = .ok (.bipush 8, 2) := by decide +kernel
theorem dX9_into_119 : decode cX9_into 119 = .ok (.iload_n 1, 1) := by decide +kernel
theorem dX9_into_120 : decode cX9_into 120 = .ok (.iadd, 1) := by decide +kernel
theorem dX9_into_121 : decode cX9_into 121 = .ok (.iaload, 1) := by decide +kernel
theorem dX9_into_122 : decode cX9_into 122 = .ok (.aload_n 0, 1) := by decide +kernel
theorem dX9_into_123 : decode cX9_into 123 = .ok (.getfield 27, 3) := by decide +kernel
theorem dX9_into_126 : decode cX9_into 126 = .ok (.bipush 8, 2) := by decide +kernel
theorem dX9_into_128 : decode cX9_into 128 = .ok (.iload 6, 2) := by decide +kernel
theorem dX9_into_130 : decode cX9_into 130 = .ok (.iadd, 1) := by decide +kernel
theorem dX9_into_131 : decode cX9_into 131 = .ok (.iaload, 1) := by decide +kernel
theorem dX9_into_132 : decode cX9_into 132 = .ok (.iadd, 1) := by decide +kernel
theorem dX9_into_133 : decode cX9_into 133 = .ok (.istore 8, 2) := by decide +kernel
theorem dX9_into_135 : decode cX9_into 135 = .ok (.iload 8, 2) := by decide +kernel
theorem dX9_into_137 : decode cX9_into 137 = .ok (.iload 5, 2) := by decide +kernel
theorem dX9_into_139 : decode cX9_into 139 = .ok (.if_icmp .le 8, 3) := by decide +kernel
theorem dX9_into_142 : decode cX9_into 142 = .ok (.iload 6, 2) := by decide +kernel
theorem dX9_into_144 : decode cX9_into 144 = .ok (.goto 5, 3) := by decide +kernel
theorem dX9_into_147 : decode cX9_into 147 = .ok (.iload 4, 2) := by decide +kernel
theorem dX9_into_149 : decode cX9_into 149 = .ok (.istore 4, 2) := by decide +kernel
theorem dX9_into_151 : decode cX9_into 151 = .ok (.iload 8, 2) := by decide +kernel
theorem dX9_into_153 : decode cX9_into 153 = .ok (.iload 5, 2) := by decide +kernel
theorem dX9_into_155 : decode cX9_into 155 = .ok (.if_icmp .le 8, 3) := by decide +kernel
theorem dX9_into_158 : decode cX9_into 158 = .ok (.iload 8, 2) := by decide +kernel
theorem dX9_into_160 : decode cX9_into 160 = .ok (.goto 5, 3) := by decide +kernel
theorem dX9_into_163 : decode cX9_into 163 = .ok (.iload 5, 2) := by decide +kernel
theorem dX9_into_165 : decode cX9_into 165 = .ok (.istore 5, 2) := by decide +kernel
theorem dX9_into_167 : decode cX9_into 167 = .ok (.iinc 6 1, 3) := by decide +kernel
theorem dX9_into_170 : decode cX9_into 170 = .ok (.goto (-124), 3) := by decide +kernel
theorem dX9_into_173 : decode cX9_into 173 = .ok (.iload_n 3, 1) := by decide +kernel
theorem dX9_into_174 : decode cX9_into 174 = .ok (.ifCond .ne 8, 3) := by decide +kernel
theorem dX9_into_177 : decode cX9_into 177 = .ok (.iload 4, 2) := by decide +kernel
theorem dX9_into_179 : decode cX9_into 179 = .ok (.goto 5, 3) := by decide +kernel
theorem dX9_into_182 : decode cX9_into 182 = .ok (.iload 5, 2) := by decide +kernel
theorem dX9_into_184 : decode cX9_into 184 = .ok (.ireturn, 1) := by decide +kernel
theorem dX9_is_0 : decode cX9_is 0 = .ok (.aload_n 0, 1) := by decide +kernel
theorem dX9_is_1 : decode cX9_is 1 = .ok (.iload_n 1, 1) := by decide +kernel
theorem dX9_is_2 : decode cX9_is 2 = .ok (.invokevirtual 110, 3) := by decide +kernel
theorem dX9_is_5 : decode cX9_is 5 = .ok (.ifCond .eq 11, 3) := by decide +kernel
theorem dX9_is_8 : decode cX9_is 8 = .ok (.aload_n 0, 1) := by decide +kernel
theorem dX9_is_9 : decode cX9_is 9 = .ok (.iload_n 1, 1) := by decide +kernel
theorem dX9_is_10 : decode cX9_is 10 = .ok (.invokevirtual 187, 3) := by decide +kernel
theorem dX9_is_13 : decode cX9_is 13 = .ok (.goto 9, 3) := by decide +kernel
theorem dX9_is_16 : decode cX9_is 16 = .ok (.aload_n 0, 1) := by decide +kernel
theorem dX9_is_17 : decode cX9_is 17 = .ok (.bipush (-2), 2) := by decide +kernel
theorem dX9_is_19 : decode cX9_is 19 = .ok (.invokevirtual 62, 3) := by decide +kernel
theorem dX9_is_22 : decode cX9_is 22 = .ok (.ireturn, 1) := by decide +kernel
theorem dX9_isOfTaste_0 : decode cX9_isOfTaste 0 = .ok (.iload_n 1, 1) := by decide +kernel
theorem dX9_isOfTaste_1 : decode cX9_isOfTaste 1 = .ok (.aload_n 0, 1) := by decide +kernel
theorem dX9_isOfTaste_2 : decode cX9_isOfTaste 2 = .ok (.getfield 7, 3) := by decide +kernel
theorem dX9_isOfTaste_5 : decode cX9_isOfTaste 5 = .ok (.bipush 7, 2) := by decide +kernel
theorem dX9_isOfTaste_7 : decode cX9_isOfTaste 7 = .ok (.iaload, 1) := by decide +kernel
theorem dX9_isOfTaste_8 : decode cX9_isOfTaste 8 = .ok (.iand, 1) := by decide +kernel
theorem dX9_isOfTaste_9 : decode cX9_isOfTaste 9 = .ok (.ifCond .ne 7, 3) := by decide +kernel
theorem dX9_isOfTaste_12 : decode cX9_isOfTaste 12 = .ok (.iconst 1, 1) := by decide +kernel
theorem dX9_isOfTaste_13 : decode cX9_isOfTaste 13 = .ok (.goto 4, 3) := by decide +kernel
theorem dX9_isOfTaste_16 : decode cX9_isOfTaste 16 = .ok (.iconst 0, 1) := by decide +kernel
theorem dX9_isOfTaste_17 : decode cX9_isOfTaste 17 = .ok (.istore_n 3, 1) := by decide +kernel
theorem dX9_isOfTaste_18 : decode cX9_isOfTaste 18 = .ok (.iconst 0, 1) := by decide +kernel
theorem dX9_isOfTaste_19 : decode cX9_isOfTaste 19 = .ok (.istore 4, 2) := by decide +kernel
theorem dX9_isOfTaste_21 : decode cX9_isOfTaste 21 = .ok (.iload 4, 2) := by decide +kernel
theorem dX9_isOfTaste_23 : decode cX9_isOfTaste 23 = .ok (.aload_n 0, 1) := by decide +kernel
theorem dX9_isOfTaste_24 : decode cX9_isOfTaste 24 = .ok (.getfield 7, 3) := by decide +kernel
theorem dX9_isOfTaste_27 : decode cX9_isOfTaste 27 = .ok (.iconst 0, 1) := by decide +kernel
theorem dX9_isOfTaste_28 : decode cX9_isOfTaste 28 = .ok (.iaload, 1) := by decide +kernel
theorem dX9_isOfTaste_29 : decode cX9_isOfTaste 29 = .ok (.if_icmp .ge 42, 3) := by decide +kernel
theorem dX9_isOfTaste_32 : decode cX9_isOfTaste 32 = .ok (.iload_n 3, 1) := by decide +kernel
theorem dX9_isOfTaste_33 : decode cX9_isOfTaste 33 = .ok (.ifCond .eq 30, 3) := by decide +kernel
theorem dX9_isOfTaste_36 : decode cX9_isOfTaste 36 = .ok (.iload_n 1, 1) := by decide +kernel
theorem dX9_isOfTaste_37 : decode cX9_isOfTaste 37 = .ok (.iload 4, 2) := by decide +kernel
theorem dX9_isOfTaste_39 : decode cX9_isOfTaste 39 = .ok (.invokestatic 116, 3) := by decide +kernel
theorem dX9_isOfTaste_42 : decode cX9_isOfTaste 42 = .ok (.ifCond .eq 17, 3) := by decide +kernel
theorem dX9_isOfTaste_45 : decode cX9_isOfTaste 45 = .ok (.aload_n 0, 1) := by decide +kernel
theorem dX9_isOfTaste_46 : decode cX9_isOfTaste 46 = .ok (.getfield 7, 3) := by decide +kernel
theorem dX9_isOfTaste_49 : decode cX9_isOfTaste 49 = .ok (.bipush 30, 2) := by decide +kernel
theorem dX9_isOfTaste_51 : decode cX9_isOfTaste 51 = .ok (.iload 4, 2) := by decide +kernel
theorem dX9_isOfTaste_53 : decode cX9_isOfTaste 53 = .ok (.iadd, 1) := by decide +kernel
theorem dX9_isOfTaste_54 : decode cX9_isOfTaste 54 = .ok (.iaload, 1) := by decide +kernel
theorem dX9_isOfTaste_55 : decode cX9_isOfTaste 55 = .ok (.iload_n 2, 1) := by decide +kernel
theorem dX9_isOfTaste_56 : decode cX9_isOfTaste 56 = .ok (.if_icmp .ne 7, 3) := by decide +kernel
theorem dX9_isOfTaste_59 : decode cX9_isOfTaste 59 = .ok (.iconst 1, 1) := by decide +kernel
theorem dX9_isOfTaste_60 : decode cX9_isOfTaste 60 = .ok (.goto 4, 3) := by decide +kernel
theorem dX9_isOfTaste_63 : decode cX9_isOfTaste 63 = .ok (.iconst 0, 1) := by decide +kernel
theorem dX9_isOfTaste_64 : decode cX9_isOfTaste 64 = .ok (.istore_n 3, 1) := by decide +kernel
theorem dX9_isOfTaste_65 : decode cX9_isOfTaste 65 = .ok (.iinc 4 1, 3) := by decide +kernel
theorem dX9_isOfTaste_68 : decode cX9_isOfTaste 68 = .ok (.goto (-47), 3) := by decide +kernel
theorem dX9_isOfTaste_71 : decode cX9_isOfTaste 71 = .ok (.iload_n 3, 1) := by decide +kernel
theorem dX9_isOfTaste_72 : decode cX9_isOfTaste 72 = .ok (.ireturn, 1) := by decide +kernel
theorem dX9_island_0 : decode cX9_island 0 = .ok (.iload_n 1, 1) := by decide +kernel
theorem dX9_island_1 : decode cX9_island 1 = .ok (.i2l, 1) := by decide +kernel
theorem dX9_island_2 : decode cX9_island 2 = .ok (.lconst 0, 1) := by decide +kernel
theorem dX9_island_3 : decode cX9_island 3 = .ok (.ldc2_w 60, 3) := by decide +kernel
theorem dX9_island_6 : decode cX9_island 6 = .ok (.invokestatic 46, 3) := by decide +kernel
theorem dX9_island_9 : decode cX9_island 9 = .ok (.ifCond .ne 10, 3) := by decide +kernel
theorem dX9_island_12 : decode cX9_island 12 = .ok (.aload_n 0, 1) := by decide +kernel
theorem dX9_island_13 : decode cX9_island 13 = .ok (.bipush (-2), 2) := by decide +kernel
theorem dX9_island_15 : decode cX9_island 15 = .ok (.invokevirtual 62, 3) := by decide +kernel
theorem dX9_island_18 : decode cX9_island 18 = .ok (.ireturn, 1) := by decide +kernel
theorem dX9_island_19 : decode cX9_island 19 = .ok (.aload_n 0, 1) := by decide +kernel
theorem dX9_island_20 : decode cX9_island 20 = .ok (.getfield 7, 3) := by decide +kernel
theorem dX9_island_23 : decode cX9_island 23 = .ok (.iconst 0, 1) := by decide +kernel
theorem dX9_island_24 : decode cX9_island 24 = .ok (.iaload, 1) := by decide +kernel
theorem dX9_island_25 : decode cX9_island 25 = .ok (.istore_n 2, 1) := by decide +kernel
theorem dX9_island_26 : decode cX9_island 26 = .ok (.aload_n 0, 1) := by decide +kernel
theorem dX9_island_27 : decode cX9_island 27 = .ok (.getfield 7, 3) := by decide +kernel
theorem dX9_island_30 : decode cX9_island 30 = .ok (.iload_n 1, 1) := by decide +kernel
theorem dX9_island_31 : decode cX9_island 31 = .ok (.invokestatic 42, 3) := by decide +kernel
theorem dX9_island_34 : decode cX9_island 34 = .ok (.iload_n 2, 1) := by decide +kernel
theorem dX9_island_35 : decode cX9_island 35 = .ok (.ireturn, 1) := by decide +kernel
theorem dX9_jar_0 : decode cX9_jar 0 = .ok (.iload_n 1, 1) := by decide +kernel
theorem dX9_jar_1 : decode cX9_jar 1 = .ok (.invokestatic 66, 3) := by decide +kernel
theorem dX9_jar_4 : decode cX9_jar 4 = .ok (.ifCond .ne 10, 3) := by decide +kernel
theorem dX9_jar_7 : decode cX9_jar 7 = .ok (.aload_n 0, 1) := by decide +kernel
theorem dX9_jar_8 : decode cX9_jar 8 = .ok (.bipush (-2), 2) := by decide +kernel
theorem dX9_jar_10 : decode cX9_jar 10 = .ok (.invokevirtual 62, 3) := by decide +kernel
theorem dX9_jar_13 : decode cX9_jar 13 = .ok (.ireturn, 1) := by decide +kernel
theorem dX9_jar_14 : decode cX9_jar 14 = .ok (.aload_n 0, 1) := by decide +kernel
theorem dX9_jar_15 : decode cX9_jar 15 = .ok (.getfield 7, 3) := by decide +kernel
theorem dX9_jar_18 : decode cX9_jar 18 = .ok (.iconst 1, 1) := by decide +kernel
theorem dX9_jar_19 : decode cX9_jar 19 = .ok (.iaload, 1) := by decide +kernel
theorem dX9_jar_20 : decode cX9_jar 20 = .ok (.iconst 4, 1) := by decide +kernel
theorem dX9_jar_21 : decode cX9_jar 21 = .ok (.if_icmp .ne 8, 3) := by decide +kernel
theorem dX9_jar_24 : decode cX9_jar 24 = .ok (.aload_n 0, 1) := by decide +kernel
theorem dX9_jar_25 : decode cX9_jar 25 = .ok (.invokevirtual 76, 3) := by decide +kernel
theorem dX9_jar_28 : decode cX9_jar 28 = .ok (.ireturn, 1) := by decide +kernel
theorem dX9_jar_29 : decode cX9_jar 29 = .ok (.aload_n 0, 1) := by decide +kernel
theorem dX9_jar_30 : decode cX9_jar 30 = .ok (.getfield 7, 3) := by decide +kernel
theorem dX9_jar_33 : decode cX9_jar 33 = .ok (.iload_n 1, 1) := by decide +kernel
theorem dX9_jar_34 : decode cX9_jar 34 = .ok (.invokestatic 84, 3) := by decide +kernel
theorem dX9_jar_37 : decode cX9_jar 37 = .ok (.aload_n 0, 1) := by decide +kernel
theorem dX9_jar_38 : decode cX9_jar 38 = .ok (.getfield 7, 3) := by decide +kernel
theorem dX9_jar_41 : decode cX9_jar 41 = .ok (.iconst 4, 1) := by decide +kernel
theorem dX9_jar_42 : decode cX9_jar 42 = .ok (.iconst 0, 1) := by decide +kernel
theorem dX9_jar_43 : decode cX9_jar 43 = .ok (.iastore, 1) := by decide +kernel
theorem dX9_jar_44 : decode cX9_jar 44 = .ok (.aload_n 0, 1) := by decide +kernel
theorem dX9_jar_45 : decode cX9_jar 45 = .ok (.getfield 7, 3) := by decide +kernel
theorem dX9_jar_48 : decode cX9_jar 48 = .ok (.iconst 1, 1) := by decide +kernel
theorem dX9_jar_49 : decode cX9_jar 49 = .ok (.iaload, 1) := by decide +kernel
theorem dX9_jar_50 : decode cX9_jar 50 = .ok (.iconst 1, 1) := by decide +kernel
theorem dX9_jar_51 : decode cX9_jar 51 = .ok (.isub, 1) := by decide +kernel
theorem dX9_jar_52 : decode cX9_jar 52 = .ok (.ireturn, 1) := by decide +kernel
theorem dX9_keeps_0 : decode cX9_keeps 0 = .ok (.aload_n 0, 1) := by decide +kernel
theorem dX9_keeps_1 : decode cX9_keeps 1 = .ok (.iload_n 1, 1) := by decide +kernel
theorem dX9_keeps_2 : decode cX9_keeps 2 = .ok (.invokevirtual 113, 3) := by decide +kernel
theorem dX9_keeps_5 : decode cX9_keeps 5 = .ok (.ifCond .eq 15, 3) := by decide +kernel
theorem dX9_keeps_8 : decode cX9_keeps 8 = .ok (.iload_n 2, 1) := by decide +kernel
theorem dX9_keeps_9 : decode cX9_keeps 9 = .ok (.i2l, 1) := by decide +kernel
theorem dX9_keeps_10 : decode cX9_keeps 10 = .ok (.lconst 0, 1) := by decide +kernel
theorem dX9_keeps_11 : decode cX9_keeps 11 = .ok (.ldc2_w 58, 3) := by decide +kernel
theorem dX9_keeps_14 : decode cX9_keeps 14 = .ok (.invokestatic 46, 3) := by decide +kernel
theorem dX9_keeps_17 : decode cX9_keeps 17 = .ok (.ifCond .ne 10, 3) := by decide +kernel
theorem dX9_keeps_20 : decode cX9_keeps 20 = .ok (.aload_n 0, 1) := by decide +kernel
theorem dX9_keeps_21 : decode cX9_keeps 21 = .ok (.bipush (-2), 2) := by decide +kernel
theorem dX9_keeps_23 : decode cX9_keeps 23 = .ok (.invokevirtual 62, 3) := by decide +kernel
theorem dX9_keeps_26 : decode cX9_keeps 26 = .ok (.ireturn, 1) := by decide +kernel
theorem dX9_keeps_27 : decode cX9_keeps 27 = .ok (.aload_n 0, 1) := by decide +kernel
theorem dX9_keeps_28 : decode cX9_keeps 28 = .ok (.invokevirtual 144, 3) := by decide +kernel
theorem dX9_keeps_31 : decode cX9_keeps 31 = .ok (.iconst 0, 1) := by decide +kernel
theorem dX9_keeps_32 : decode cX9_keeps 32 = .ok (.istore_n 3, 1) := by decide +kernel
theorem dX9_keeps_33 : decode cX9_keeps 33 = .ok (.iload_n 3, 1) := by decide +kernel
theorem dX9_keeps_34 : decode cX9_keeps 34 = .ok (.iload_n 2, 1) := by decide +kernel
theorem dX9_keeps_35 : decode cX9_keeps 35 = .ok (.if_icmp .ge 16, 3) := by decide +kernel
theorem dX9_keeps_38 : decode cX9_keeps 38 = .ok (.aload_n 0, 1) := by decide +kernel
theorem dX9_keeps_39 : decode cX9_keeps 39 = .ok (.getfield 27, 3) := by decide +kernel
theorem dX9_keeps_42 : decode cX9_keeps 42 = .ok (.invokestatic 106, 3) := by decide +kernel
theorem dX9_keeps_45 : decode cX9_keeps 45 = .ok (.iinc 3 1, 3) := by decide +kernel
theorem dX9_keeps_48 : decode cX9_keeps 48 = .ok (.goto (-15), 3) := by decide +kernel
theorem dX9_keeps_51 : decode cX9_keeps 51 = .ok (.aload_n 0, 1) := by decide +kernel
theorem dX9_keeps_52 : decode cX9_keeps 52 = .ok (.getfield 27, 3) := by decide +kernel
theorem dX9_keeps_55 : decode cX9_keeps 55 = .ok (.bipush 8, 2) := by decide +kernel
theorem dX9_keeps_57 : decode cX9_keeps 57 = .ok (.iload_n 1, 1) := by decide +kernel
theorem dX9_keeps_58 : decode cX9_keeps 58 = .ok (.iadd, 1) := by decide +kernel
theorem dX9_keeps_59 : decode cX9_keeps 59 = .ok (.iaload, 1) := by decide +kernel
theorem dX9_keeps_60 : decode cX9_keeps 60 = .ok (.ireturn, 1) := by decide +kernel
theorem dX9_kinds_0 : decode cX9_kinds 0 = .ok (.aload_n 0, 1) := by decide +kernel
theorem dX9_kinds_1 : decode cX9_kinds 1 = .ok (.iload_n 1, 1) := by decide +kernel
theorem dX9_kinds_2 : decode cX9_kinds 2 = .ok (.invokevirtual 113, 3) := by decide +kernel
theorem dX9_kinds_5 : decode cX9_kinds 5 = .ok (.ifCond .eq 11, 3) := by decide +kernel
theorem dX9_kinds_8 : decode cX9_kinds 8 = .ok (.aload_n 0, 1) := by decide +kernel
theorem dX9_kinds_9 : decode cX9_kinds 9 = .ok (.iload_n 1, 1) := by decide +kernel
theorem dX9_kinds_10 : decode cX9_kinds 10 = .ok (.invokevirtual 194, 3) := by decide +kernel
theorem dX9_kinds_13 : decode cX9_kinds 13 = .ok (.goto 9, 3) := by decide +kernel
theorem dX9_kinds_16 : decode cX9_kinds 16 = .ok (.aload_n 0, 1) := by decide +kernel
theorem dX9_kinds_17 : decode cX9_kinds 17 = .ok (.bipush (-2), 2) := by decide +kernel
theorem dX9_kinds_19 : decode cX9_kinds 19 = .ok (.invokevirtual 62, 3) := by decide +kernel
theorem dX9_kinds_22 : decode cX9_kinds 22 = .ok (.ireturn, 1) := by decide +kernel
theorem dX9_kindsBy_0 : decode cX9_kindsBy 0 = .ok (.iconst 0, 1) := by decide +kernel
theorem dX9_kindsBy_1 : decode cX9_kindsBy 1 = .ok (.istore 5, 2) := by decide +kernel
theorem dX9_kindsBy_3 : decode cX9_kindsBy 3 = .ok (.iconst 0, 1) := by decide +kernel
theorem dX9_kindsBy_4 : decode cX9_kindsBy 4 = .ok (.istore 6, 2) := by decide +kernel
theorem dX9_kindsBy_6 : decode cX9_kindsBy 6 = .ok (.iload 6, 2) := by decide +kernel
theorem dX9_kindsBy_8 : decode cX9_kindsBy 8 = .ok (.bipush 6, 2) := by decide +kernel
theorem dX9_kindsBy_10 : decode cX9_kindsBy 10 = .ok (.if_icmp .ge 146, 3) := by decide +kernel
theorem dX9_kindsBy_13 : decode cX9_kindsBy 13 = .ok (.iconst 1, 1) := by decide +kernel
theorem dX9_kindsBy_14 : decode cX9_kindsBy 14 = .ok (.istore 7, 2) := by decide +kernel
theorem dX9_kindsBy_16 : decode cX9_kindsBy 16 = .ok (.iconst 0, 1) := by decide +kernel
theorem dX9_kindsBy_17 : decode cX9_kindsBy 17 = .ok (.istore 8, 2) := by decide +kernel
theorem dX9_kindsBy_19 : decode cX9_kindsBy 19 = .ok (.iload 8, 2) := by decide +kernel
theorem dX9_kindsBy_21 : decode cX9_kindsBy 21 = .ok (.iload_n 3, 1) := by decide +kernel
theorem dX9_kindsBy_22 : decode cX9_kindsBy 22 = .ok (.if_icmp .ge 110, 3) := by decide +kernel
theorem dX9_kindsBy_25 : decode cX9_kindsBy 25 = .ok (.iload_n 2, 1) := by decide +kernel
theorem dX9_kindsBy_26 : decode cX9_kindsBy 26 = .ok (.iconst 4, 1) := by decide +kernel
theorem dX9_kindsBy_27 : decode cX9_kindsBy 27 = .ok (.iload 8, 2) := by decide +kernel
theorem dX9_kindsBy_29 : decode cX9_kindsBy 29 = .ok (.imul, 1) := by decide +kernel
theorem dX9_kindsBy_30 : decode cX9_kindsBy 30 = .ok (.iadd, 1) := by decide +kernel
theorem dX9_kindsBy_31 : decode cX9_kindsBy 31 = .ok (.istore 9, 2) := by decide +kernel
theorem dX9_kindsBy_33 : decode cX9_kindsBy 33 = .ok (.iload 4, 2) := by decide +kernel
theorem dX9_kindsBy_35 : decode cX9_kindsBy 35 = .ok (.ifCond .eq 29, 3) := by decide +kernel
theorem dX9_kindsBy_38 : decode cX9_kindsBy 38 = .ok (.iload 6, 2) := by decide +kernel
theorem dX9_kindsBy_40 : decode cX9_kindsBy 40 = .ok (.aload_n 0, 1) := by decide +kernel
theorem dX9_kindsBy_41 : decode cX9_kindsBy 41 = .ok (.getfield 7, 3) := by decide +kernel
theorem dX9_kindsBy_44 : decode cX9_kindsBy 44 = .ok (.iload 9, 2) := by decide +kernel
theorem dX9_kindsBy_46 : decode cX9_kindsBy 46 = .ok (.iconst 1, 1) := by decide +kernel
theorem dX9_kindsBy_47 : decode cX9_kindsBy 47 = .ok (.iadd, 1) := by decide +kernel
theorem dX9_kindsBy_48 : decode cX9_kindsBy 48 = .ok (.iaload, 1) := by decide +kernel
theorem dX9_kindsBy_49 : decode cX9_kindsBy 49 = .ok (.aload_n 0, 1) := by decide +kernel
theorem dX9_kindsBy_50 : decode cX9_kindsBy 50 = .ok (.getfield 7, 3) := by decide +kernel
theorem dX9_kindsBy_53 : decode cX9_kindsBy 53 = .ok (.iload 9, 2) := by decide +kernel
theorem dX9_kindsBy_55 : decode cX9_kindsBy 55 = .ok (.iconst 2, 1) := by decide +kernel
theorem dX9_kindsBy_56 : decode cX9_kindsBy 56 = .ok (.iadd, 1) := by decide +kernel
theorem dX9_kindsBy_57 : decode cX9_kindsBy 57 = .ok (.iaload, 1) := by decide +kernel
theorem dX9_kindsBy_58 : decode cX9_kindsBy 58 = .ok (.invokestatic 87, 3) := by decide +kernel
theorem dX9_kindsBy_61 : decode cX9_kindsBy 61 = .ok (.goto 26, 3) := by decide +kernel
theorem dX9_kindsBy_64 : decode cX9_kindsBy 64 = .ok (.iload 6, 2) := by decide +kernel
theorem dX9_kindsBy_66 : decode cX9_kindsBy 66 = .ok (.aload_n 0, 1) := by decide +kernel
theorem dX9_kindsBy_67 : decode cX9_kindsBy 67 = .ok (.getfield 7, 3) := by decide +kernel
theorem dX9_kindsBy_70 : decode cX9_kindsBy 70 = .ok (.iload 9, 2) := by decide +kernel
theorem dX9_kindsBy_72 : decode cX9_kindsBy 72 = .ok (.iconst 1, 1) := by decide +kernel
theorem dX9_kindsBy_73 : decode cX9_kindsBy 73 = .ok (.iadd, 1) := by decide +kernel
theorem dX9_kindsBy_74 : decode cX9_kindsBy 74 = .ok (.iaload, 1) := by decide +kernel
theorem dX9_kindsBy_75 : decode cX9_kindsBy 75 = .ok (.aload_n 0, 1) := by decide +kernel
theorem dX9_kindsBy_76 : decode cX9_kindsBy 76 = .ok (.getfield 7, 3) := by decide +kernel
theorem dX9_kindsBy_79 : decode cX9_kindsBy 79 = .ok (.iload 9, 2) := by decide +kernel
theorem dX9_kindsBy_81 : decode cX9_kindsBy 81 = .ok (.iconst 2, 1) := by decide +kernel
theorem dX9_kindsBy_82 : decode cX9_kindsBy 82 = .ok (.iadd, 1) := by decide +kernel
theorem dX9_kindsBy_83 : decode cX9_kindsBy 83 = .ok (.iaload, 1) := by decide +kernel
theorem dX9_kindsBy_84 : decode cX9_kindsBy 84 = .ok (.invokestatic 91, 3) := by decide +kernel
theorem dX9_kindsBy_87 : decode cX9_kindsBy 87 = .ok (.istore 10, 2) := by decide +kernel
theorem dX9_kindsBy_89 : decode cX9_kindsBy 89 = .ok (.iload 7, 2) := by decide +kernel
theorem dX9_kindsBy_91 : decode cX9_kindsBy 91 = .ok (.ifCond .eq 32, 3) := by decide +kernel
theorem dX9_kindsBy_94 : decode cX9_kindsBy 94 = .ok (.aload_n 0, 1) := by decide +kernel
theorem dX9_kindsBy_95 : decode cX9_kindsBy 95 = .ok (.getfield 7, 3) := by decide +kernel
theorem dX9_kindsBy_98 : decode cX9_kindsBy 98 = .ok (.iload 9, 2) := by decide +kernel
theorem dX9_kindsBy_100 : decode cX9_kindsBy 100 = .ok (.iaload, 1) := by decide +kernel
theorem dX9_kindsBy_101 : decode cX9_kindsBy 101 = .ok (.iload_n 1, 1) := by decide +kernel
theorem dX9_kindsBy_102 : decode cX9_kindsBy 102 = .ok (.if_icmp .ne 17, 3) := by decide +kernel
theorem dX9_kindsBy_105 : decode cX9_kindsBy 105 = .ok (.iload 10, 2) := by decide +kernel
theorem dX9_kindsBy_107 : decode cX9_kindsBy 107 = .ok (.aload_n 0, 1) := by decide +kernel
theorem dX9_kindsBy_108 : decode cX9_kindsBy 108 = .ok (.getfield 7, 3) := by decide +kernel
theorem dX9_kindsBy_111 : decode cX9_kindsBy 111 = .ok (.iload 9, 2) := by decide +kernel
theorem dX9_kindsBy_113 : decode cX9_kindsBy 113 = .ok (.iconst 3, 1) := by decide +kernel
theorem dX9_kindsBy_114 : decode cX9_kindsBy 114 = .ok (.iadd, 1) := by decide +kernel
theorem dX9_kindsBy_115 : decode cX9_kindsBy 115 = .ok (.iaload, 1) := by decide +kernel
theorem dX9_kindsBy_116 : decode cX9_kindsBy 116 = .ok (.if_icmp .ne 7, 3) := by decide +kernel
theorem dX9_kindsBy_119 : decode cX9_kindsBy 119 = .ok (.iconst 1, 1) := by decide +kernel
theorem dX9_kindsBy_120 : decode cX9_kindsBy 120 = .ok (.goto 4, 3) := by decide +kernel
theorem dX9_kindsBy_123 : decode cX9_kindsBy 123 = .ok (.iconst 0, 1) := by decide +kernel
theorem dX9_kindsBy_124 : decode cX9_kindsBy 124 = .ok (.istore 7, 2) := by decide +kernel
theorem dX9_kindsBy_126 : decode cX9_kindsBy 126 = .ok (.iinc 8 1, 3) := by decide +kernel
theorem dX9_kindsBy_129 : decode cX9_kindsBy 129 = .ok (.goto (-110), 3) := by decide +kernel
theorem dX9_kindsBy_132 : decode cX9_kindsBy 132 = .ok (.iload 5, 2) := by decide +kernel
theorem dX9_kindsBy_134 : decode cX9_kindsBy 134 = .ok (.iload 7, 2) := by decide +kernel
theorem dX9_kindsBy_136 : decode cX9_kindsBy 136 = .ok (.ifCond .eq 10, 3) := by decide +kernel
theorem dX9_kindsBy_139 : decode cX9_kindsBy 139 = .ok (.iconst 1, 1) := by decide +kernel
theorem dX9_kindsBy_140 : decode cX9_kindsBy 140 = .ok (.iload 6, 2) := by decide +kernel
theorem dX9_kindsBy_142 : decode cX9_kindsBy 142 = .ok (.ishl, 1) := by decide +kernel
theorem dX9_kindsBy_143 : decode cX9_kindsBy 143 = .ok (.goto 4, 3) := by decide +kernel
theorem dX9_kindsBy_146 : decode cX9_kindsBy 146 = .ok (.iconst 0, 1) := by decide +kernel
theorem dX9_kindsBy_147 : decode cX9_kindsBy 147 = .ok (.ior, 1) := by decide +kernel
theorem dX9_kindsBy_148 : decode cX9_kindsBy 148 = .ok (.istore 5, 2) := by decide +kernel
theorem dX9_kindsBy_150 : decode cX9_kindsBy 150 = .ok (.iinc 6 1, 3) := by decide +kernel
theorem dX9_kindsBy_153 : decode cX9_kindsBy 153 = .ok (.goto (-147), 3) := by decide +kernel
theorem dX9_kindsBy_156 : decode cX9_kindsBy 156 = .ok (.iload 5, 2) := by decide +kernel
theorem dX9_kindsBy_158 : decode cX9_kindsBy 158 = .ok (.ireturn, 1) := by decide +kernel
theorem dX9_kindsOfCaster_0 : decode cX9_kindsOfCaster 0 = .ok (.aload_n 0, 1) := by decide +kernel
theorem dX9_kindsOfCaster_1 : decode cX9_kindsOfCaster 1 = .ok (.iload_n 1, 1) := by decide +kernel
theorem dX9_kindsOfCaster_2 : decode cX9_kindsOfCaster 2 = .ok (.bipush 41, 2) := by decide +kernel
theorem dX9_kindsOfCaster_4 : decode cX9_kindsOfCaster 4 = .ok (.aload_n 0, 1) := by decide +kernel
theorem dX9_kindsOfCaster_5 : decode cX9_kindsOfCaster 5 = .ok (.getfield 7, 3) := by decide +kernel
theorem dX9_kindsOfCaster_8 : decode cX9_kindsOfCaster 8 = .ok (.iconst 2, 1) := by decide +kernel
theorem dX9_kindsOfCaster_9 : decode cX9_kindsOfCaster 9 = .ok (.iaload, 1) := by decide +kernel
theorem dX9_kindsOfCaster_10 : decode cX9_kindsOfCaster 10 = .ok (.iconst 1, 1) := by decide +kernel
theorem dX9_kindsOfCaster_11 : decode cX9_kindsOfCaster 11 = .ok (.invokevirtual 183, 3) := by decide +kernel
theorem dX9_kindsOfCaster_14 : decode cX9_kindsOfCaster 14 = .ok (.ireturn, 1) := by decide +kernel
theorem dX9_kindsOfJar_0 : decode cX9_kindsOfJar 0 = .ok (.aload_n 0, 1) := by decide +kernel
theorem dX9_kindsOfJar_1 : decode cX9_kindsOfJar 1 = .ok (.iload_n 1, 1) := by decide +kernel
theorem dX9_kindsOfJar_2 : decode cX9_kindsOfJar 2 = .ok (.bipush 65, 2) := by decide +kernel
theorem dX9_kindsOfJar_4 : decode cX9_kindsOfJar 4 = .ok (.aload_n 0, 1) := by decide +kernel
theorem dX9_kindsOfJar_5 : decode cX9_kindsOfJar 5 = .ok (.getfield 7, 3) := by decide +kernel
theorem dX9_kindsOfJar_8 : decode cX9_kindsOfJar 8 = .ok (.iconst 3, 1) := by decide +kernel
theorem dX9_kindsOfJar_9 : decode cX9_kindsOfJar 9 = .ok (.iaload, 1) := by decide +kernel
theorem dX9_kindsOfJar_10 : decode cX9_kindsOfJar 10 = .ok (.iconst 0, 1) := by decide +kernel
theorem dX9_kindsOfJar_11 : decode cX9_kindsOfJar 11 = .ok (.invokevirtual 183, 3) := by decide +kernel
theorem dX9_kindsOfJar_14 : decode cX9_kindsOfJar 14 = .ok (.ireturn, 1) := by decide +kernel
theorem dX9_ladle_0 : decode cX9_ladle 0 = .ok (.aload_n 0, 1) := by decide +kernel
theorem dX9_ladle_1 : decode cX9_ladle 1 = .ok (.iload_n 1, 1) := by decide +kernel
theorem dX9_ladle_2 : decode cX9_ladle 2 = .ok (.invokevirtual 110, 3) := by decide +kernel
theorem dX9_ladle_5 : decode cX9_ladle 5 = .ok (.ifCond .eq 11, 3) := by decide +kernel
theorem dX9_ladle_8 : decode cX9_ladle 8 = .ok (.aload_n 0, 1) := by decide +kernel
theorem dX9_ladle_9 : decode cX9_ladle 9 = .ok (.iload_n 2, 1) := by decide +kernel
theorem dX9_ladle_10 : decode cX9_ladle 10 = .ok (.invokevirtual 113, 3) := by decide +kernel
theorem dX9_ladle_13 : decode cX9_ladle 13 = .ok (.ifCond .ne 10, 3) := by decide +kernel
theorem dX9_ladle_16 : decode cX9_ladle 16 = .ok (.aload_n 0, 1) := by decide +kernel
theorem dX9_ladle_17 : decode cX9_ladle 17 = .ok (.bipush (-2), 2) := by decide +kernel
theorem dX9_ladle_19 : decode cX9_ladle 19 = .ok (.invokevirtual 62, 3) := by decide +kernel
theorem dX9_ladle_22 : decode cX9_ladle 22 = .ok (.ireturn, 1) := by decide +kernel
theorem dX9_ladle_23 : decode cX9_ladle 23 = .ok (.aload_n 0, 1) := by decide +kernel
theorem dX9_ladle_24 : decode cX9_ladle 24 = .ok (.getfield 7, 3) := by decide +kernel
theorem dX9_ladle_27 : decode cX9_ladle 27 = .ok (.bipush 7, 2) := by decide +kernel
theorem dX9_ladle_29 : decode cX9_ladle 29 = .ok (.iaload, 1) := by decide +kernel
theorem dX9_ladle_30 : decode cX9_ladle 30 = .ok (.iload_n 1, 1) := by decide +kernel
theorem dX9_ladle_31 : decode cX9_ladle 31 = .ok (.invokestatic 116, 3) := by decide +kernel
theorem dX9_ladle_34 : decode cX9_ladle 34 = .ok (.ifCond .eq 8, 3) := by decide +kernel
theorem dX9_ladle_37 : decode cX9_ladle 37 = .ok (.aload_n 0, 1) := by decide +kernel
theorem dX9_ladle_38 : decode cX9_ladle 38 = .ok (.invokevirtual 120, 3) := by decide +kernel
theorem dX9_ladle_41 : decode cX9_ladle 41 = .ok (.ireturn, 1) := by decide +kernel
theorem dX9_ladle_42 : decode cX9_ladle 42 = .ok (.aload_n 0, 1) := by decide +kernel
theorem dX9_ladle_43 : decode cX9_ladle 43 = .ok (.invokevirtual 123, 3) := by decide +kernel
theorem dX9_ladle_46 : decode cX9_ladle 46 = .ok (.aload_n 0, 1) := by decide +kernel
theorem dX9_ladle_47 : decode cX9_ladle 47 = .ok (.getfield 7, 3) := by decide +kernel
theorem dX9_ladle_50 : decode cX9_ladle 50 = .ok (.iload_n 1, 1) := by decide +kernel
theorem dX9_ladle_51 : decode cX9_ladle 51 = .ok (.iload_n 2, 1) := by decide +kernel
theorem dX9_ladle_52 : decode cX9_ladle 52 = .ok (.invokestatic 126, 3) := by decide +kernel
theorem dX9_ladle_55 : decode cX9_ladle 55 = .ok (.ireturn, 1) := by decide +kernel
theorem dX9_layFour_0 : decode cX9_layFour 0 = .ok (.aload_n 0, 1) := by decide +kernel
theorem dX9_layFour_1 : decode cX9_layFour 1 = .ok (.getfield 7, 3) := by decide +kernel
theorem dX9_layFour_4 : decode cX9_layFour 4 = .ok (.iload_n 1, 1) := by decide +kernel
theorem dX9_layFour_5 : decode cX9_layFour 5 = .ok (.iload_n 2, 1) := by decide +kernel
theorem dX9_layFour_6 : decode cX9_layFour 6 = .ok (.iastore, 1) := by decide +kernel
theorem dX9_layFour_7 : decode cX9_layFour 7 = .ok (.aload_n 0, 1) := by decide +kernel
theorem dX9_layFour_8 : decode cX9_layFour 8 = .ok (.getfield 7, 3) := by decide +kernel
theorem dX9_layFour_11 : decode cX9_layFour 11 = .ok (.iload_n 1, 1) := by decide +kernel
theorem dX9_layFour_12 : decode cX9_layFour 12 = .ok (.iconst 1, 1) := by decide +kernel
theorem dX9_layFour_13 : decode cX9_layFour 13 = .ok (.iadd, 1) := by decide +kernel
theorem dX9_layFour_14 : decode cX9_layFour 14 = .ok (.iload_n 3, 1) := by decide +kernel
theorem dX9_layFour_15 : decode cX9_layFour 15 = .ok (.iastore, 1) := by decide +kernel
theorem dX9_layFour_16 : decode cX9_layFour 16 = .ok (.aload_n 0, 1) := by decide +kernel
theorem dX9_layFour_17 : decode cX9_layFour 17 = .ok (.getfield 7, 3) := by decide +kernel
theorem dX9_layFour_20 : decode cX9_layFour 20 = .ok (.iload_n 1, 1) := by decide +kernel
theorem dX9_layFour_21 : decode cX9_layFour 21 = .ok (.iconst 2, 1) := by decide +kernel
theorem dX9_layFour_22 : decode cX9_layFour 22 = .ok (.iadd, 1) := by decide +kernel
theorem dX9_layFour_23 : decode cX9_layFour 23 = .ok (.iload 4, 2) := by decide +kernel
theorem dX9_layFour_25 : decode cX9_layFour 25 = .ok (.iastore, 1) := by decide +kernel
theorem dX9_layFour_26 : decode cX9_layFour 26 = .ok (.aload_n 0, 1) := by decide +kernel
theorem dX9_layFour_27 : decode cX9_layFour 27 = .ok (.getfield 7, 3) := by decide +kernel
theorem dX9_layFour_30 : decode cX9_layFour 30 = .ok (.iload_n 1, 1) := by decide +kernel
theorem dX9_layFour_31 : decode cX9_layFour 31 = .ok (.iconst 3, 1) := by decide +kernel
theorem dX9_layFour_32 : decode cX9_layFour 32 = .ok (.iadd, 1) := by decide +kernel
theorem dX9_layFour_33 : decode cX9_layFour 33 = .ok (.iload 5, 2) := by decide +kernel
theorem dX9_layFour_35 : decode cX9_layFour 35 = .ok (.iastore, 1) := by decide +kernel
theorem dX9_layFour_36 : decode cX9_layFour 36 = .ok (.return_, 1) := by decide +kernel
theorem dX9_look_0 : decode cX9_look 0 = .ok (.aload_n 0, 1) := by decide +kernel
theorem dX9_look_1 : decode cX9_look 1 = .ok (.iload_n 1, 1) := by decide +kernel
theorem dX9_look_2 : decode cX9_look 2 = .ok (.invokevirtual 110, 3) := by decide +kernel
theorem dX9_look_5 : decode cX9_look 5 = .ok (.ifCond .ne 10, 3) := by decide +kernel
theorem dX9_look_8 : decode cX9_look 8 = .ok (.aload_n 0, 1) := by decide +kernel
theorem dX9_look_9 : decode cX9_look 9 = .ok (.bipush (-2), 2) := by decide +kernel
theorem dX9_look_11 : decode cX9_look 11 = .ok (.invokevirtual 62, 3) := by decide +kernel
theorem dX9_look_14 : decode cX9_look 14 = .ok (.ireturn, 1) := by decide +kernel
theorem dX9_look_15 : decode cX9_look 15 = .ok (.aload_n 0, 1) := by decide +kernel
theorem dX9_look_16 : decode cX9_look 16 = .ok (.iload_n 1, 1) := by decide +kernel
theorem dX9_look_17 : decode cX9_look 17 = .ok (.invokevirtual 187, 3) := by decide +kernel
theorem dX9_look_20 : decode cX9_look 20 = .ok (.istore_n 2, 1) := by decide +kernel
theorem dX9_look_21 : decode cX9_look 21 = .ok (.iconst (-1), 1) := by decide +kernel
theorem dX9_look_22 : decode cX9_look 22 = .ok (.istore_n 3, 1) := by decide +kernel
theorem dX9_look_23 : decode cX9_look 23 = .ok (.ldc 190, 2) := by decide +kernel
theorem dX9_look_25 : decode cX9_look 25 = .ok (.istore 4, 2) := by decide +kernel
theorem dX9_look_27 : decode cX9_look 27 = .ok (.iconst 0, 1) := by decide +kernel
theorem dX9_look_28 : decode cX9_look 28 = .ok (.istore 5, 2) := by decide +kernel
theorem dX9_look_30 : decode cX9_look 30 = .ok (.iload 5, 2) := by decide +kernel
theorem dX9_look_32 : decode cX9_look 32 = .ok (.bipush 24, 2) := by decide +kernel
theorem dX9_look_34 : decode cX9_look 34 = .ok (.if_icmp .ge 89, 3) := by decide +kernel
theorem dX9_look_37 : decode cX9_look 37 = .ok (.iload_n 2, 1) := by decide +kernel
theorem dX9_look_38 : decode cX9_look 38 = .ok (.ifCond .le 85, 3) := by decide +kernel
theorem dX9_look_41 : decode cX9_look 41 = .ok (.iconst 0, 1) := by decide +kernel
theorem dX9_look_42 : decode cX9_look 42 = .ok (.istore 6, 2) := by decide +kernel
theorem dX9_look_44 : decode cX9_look 44 = .ok (.iload 6, 2) := by decide +kernel
theorem dX9_look_46 : decode cX9_look 46 = .ok (.bipush 6, 2) := by decide +kernel
theorem dX9_look_48 : decode cX9_look 48 = .ok (.if_icmp .ge 32, 3) := by decide +kernel
theorem dX9_look_51 : decode cX9_look 51 = .ok (.aload_n 0, 1) := by decide +kernel
theorem dX9_look_52 : decode cX9_look 52 = .ok (.getfield 30, 3) := by decide +kernel
theorem dX9_look_55 : decode cX9_look 55 = .ok (.iload 6, 2) := by decide +kernel
theorem dX9_look_57 : decode cX9_look 57 = .ok (.iload 6, 2) := by decide +kernel
theorem dX9_look_59 : decode cX9_look 59 = .ok (.aload_n 0, 1) := by decide +kernel
theorem dX9_look_60 : decode cX9_look 60 = .ok (.getfield 7, 3) := by decide +kernel
theorem dX9_look_63 : decode cX9_look 63 = .ok (.bipush 23, 2) := by decide +kernel
theorem dX9_look_65 : decode cX9_look 65 = .ok (.iload_n 1, 1) := by decide +kernel
theorem dX9_look_66 : decode cX9_look 66 = .ok (.iadd, 1) := by decide +kernel
theorem dX9_look_67 : decode cX9_look 67 = .ok (.iaload, 1) := by decide +kernel
theorem dX9_look_68 : decode cX9_look 68 = .ok (.iload 5, 2) := by decide +kernel
theorem dX9_look_70 : decode cX9_look 70 = .ok (.invokestatic 87, 3) := by decide +kernel
theorem dX9_look_73 : decode cX9_look 73 = .ok (.iastore, 1) := by decide +kernel
theorem dX9_look_74 : decode cX9_look 74 = .ok (.iinc 6 1, 3) := by decide +kernel
theorem dX9_look_77 : decode cX9_look 77 = .ok (.goto (-33), 3) := by decide +kernel
theorem dX9_look_80 : decode cX9_look 80 = .ok (.aload_n 0, 1) := by decide +kernel
theorem dX9_look_81 : decode cX9_look 81 = .ok (.iload_n 2, 1) := by decide +kernel
theorem dX9_look_82 : decode cX9_look 82 = .ok (.invokevirtual 191, 3) := by decide +kernel
theorem dX9_look_85 : decode cX9_look 85 = .ok (.istore 6, 2) := by decide +kernel
theorem dX9_look_87 : decode cX9_look 87 = .ok (.iload 6, 2) := by decide +kernel
theorem dX9_look_89 : decode cX9_look 89 = .ok (.iload 4, 2) := by decide +kernel
theorem dX9_look_91 : decode cX9_look 91 = .ok (.if_icmp .ge 8, 3) := by decide +kernel
theorem dX9_look_94 : decode cX9_look 94 = .ok (.iload 5, 2) := by decide +kernel
theorem dX9_look_96 : decode cX9_look 96 = .ok (.goto 4, 3) := by decide +kernel
theorem dX9_look_99 : decode cX9_look 99 = .ok (.iload_n 3, 1) := by decide +kernel
theorem dX9_look_100 : decode cX9_look 100 = .ok (.istore_n 3, 1) := by decide +kernel
theorem dX9_look_101 : decode cX9_look 101 = .ok (.iload 6, 2) := by decide +kernel
theorem dX9_look_103 : decode cX9_look 103 = .ok (.iload 4, 2) := by decide +kernel
theorem dX9_look_105 : decode cX9_look 105 = .ok (.if_icmp .ge 8, 3) := by decide +kernel
theorem dX9_look_108 : decode cX9_look 108 = .ok (.iload 6, 2) := by decide +kernel
theorem dX9_look_110 : decode cX9_look 110 = .ok (.goto 5, 3) := by decide +kernel
theorem dX9_look_113 : decode cX9_look 113 = .ok (.iload 4, 2) := by decide +kernel
theorem dX9_look_115 : decode cX9_look 115 = .ok (.istore 4, 2) := by decide +kernel
theorem dX9_look_117 : decode cX9_look 117 = .ok (.iinc 5 1, 3) := by decide +kernel
theorem dX9_look_120 : decode cX9_look 120 = .ok (.goto (-90), 3) := by decide +kernel
theorem dX9_look_123 : decode cX9_look 123 = .ok (.iload_n 3, 1) := by decide +kernel
theorem dX9_look_124 : decode cX9_look 124 = .ok (.ireturn, 1) := by decide +kernel
theorem dX9_mark_0 : decode cX9_mark 0 = .ok (.aload_n 0, 1) := by decide +kernel
theorem dX9_mark_1 : decode cX9_mark 1 = .ok (.iload_n 1, 1) := by decide +kernel
theorem dX9_mark_2 : decode cX9_mark 2 = .ok (.invokevirtual 113, 3) := by decide +kernel
theorem dX9_mark_5 : decode cX9_mark 5 = .ok (.ifCond .eq 25, 3) := by decide +kernel
theorem dX9_mark_8 : decode cX9_mark 8 = .ok (.iload_n 2, 1) := by decide +kernel
theorem dX9_mark_9 : decode cX9_mark 9 = .ok (.invokestatic 180, 3) := by decide +kernel
theorem dX9_mark_12 : decode cX9_mark 12 = .ok (.ifCond .eq 18, 3) := by decide +kernel
theorem dX9_mark_15 : decode cX9_mark 15 = .ok (.iload_n 3, 1) := by decide +kernel
theorem dX9_mark_16 : decode cX9_mark 16 = .ok (.invokestatic 171, 3) := by decide +kernel
theorem dX9_mark_19 : decode cX9_mark 19 = .ok (.ifCond .eq 11, 3) := by decide +kernel
theorem dX9_mark_22 : decode cX9_mark 22 = .ok (.iload 4, 2) := by decide +kernel
theorem dX9_mark_24 : decode cX9_mark 24 = .ok (.invokestatic 180, 3) := by decide +kernel
theorem dX9_mark_27 : decode cX9_mark 27 = .ok (.ifCond .ne 10, 3) := by decide +kernel
theorem dX9_mark_30 : decode cX9_mark 30 = .ok (.aload_n 0, 1) := by decide +kernel
theorem dX9_mark_31 : decode cX9_mark 31 = .ok (.bipush (-2), 2) := by decide +kernel
theorem dX9_mark_33 : decode cX9_mark 33 = .ok (.invokevirtual 62, 3) := by decide +kernel
theorem dX9_mark_36 : decode cX9_mark 36 = .ok (.ireturn, 1) := by decide +kernel
theorem dX9_mark_37 : decode cX9_mark 37 = .ok (.aload_n 0, 1) := by decide +kernel
theorem dX9_mark_38 : decode cX9_mark 38 = .ok (.getfield 7, 3) := by decide +kernel
theorem dX9_mark_41 : decode cX9_mark 41 = .ok (.iconst 3, 1) := by decide +kernel
theorem dX9_mark_42 : decode cX9_mark 42 = .ok (.iaload, 1) := by decide +kernel
theorem dX9_mark_43 : decode cX9_mark 43 = .ok (.bipush 6, 2) := by decide +kernel
theorem dX9_mark_45 : decode cX9_mark 45 = .ok (.if_icmp .ne 8, 3) := by decide +kernel
theorem dX9_mark_48 : decode cX9_mark 48 = .ok (.aload_n 0, 1) := by decide +kernel
theorem dX9_mark_49 : decode cX9_mark 49 = .ok (.invokevirtual 76, 3) := by decide +kernel
theorem dX9_mark_52 : decode cX9_mark 52 = .ok (.ireturn, 1) := by decide +kernel
theorem dX9_mark_53 : decode cX9_mark 53 = .ok (.aload_n 0, 1) := by decide +kernel
theorem dX9_mark_54 : decode cX9_mark 54 = .ok (.bipush 65, 2) := by decide +kernel
theorem dX9_mark_56 : decode cX9_mark 56 = .ok (.iconst 4, 1) := by decide +kernel
theorem dX9_mark_57 : decode cX9_mark 57 = .ok (.aload_n 0, 1) := by decide +kernel
theorem dX9_mark_58 : decode cX9_mark 58 = .ok (.getfield 7, 3) := by decide +kernel
theorem dX9_mark_61 : decode cX9_mark 61 = .ok (.iconst 3, 1) := by decide +kernel
theorem dX9_mark_62 : decode cX9_mark 62 = .ok (.iaload, 1) := by decide +kernel
theorem dX9_mark_63 : decode cX9_mark 63 = .ok (.imul, 1) := by decide +kernel
theorem dX9_mark_64 : decode cX9_mark 64 = .ok (.iadd, 1) := by decide +kernel
theorem dX9_mark_65 : decode cX9_mark 65 = .ok (.iload_n 1, 1) := by decide +kernel
theorem dX9_mark_66 : decode cX9_mark 66 = .ok (.iload_n 2, 1) := by decide +kernel
theorem dX9_mark_67 : decode cX9_mark 67 = .ok (.iload_n 3, 1) := by decide +kernel
theorem dX9_mark_68 : decode cX9_mark 68 = .ok (.iload 4, 2) := by decide +kernel
theorem dX9_mark_70 : decode cX9_mark 70 = .ok (.invokevirtual 176, 3) := by decide +kernel
theorem dX9_mark_73 : decode cX9_mark 73 = .ok (.aload_n 0, 1) := by decide +kernel
theorem dX9_mark_74 : decode cX9_mark 74 = .ok (.getfield 7, 3) := by decide +kernel
theorem dX9_mark_77 : decode cX9_mark 77 = .ok (.iconst 3, 1) := by decide +kernel
theorem dX9_mark_78 : decode cX9_mark 78 = .ok (.dup2, 1) := by decide +kernel
theorem dX9_mark_79 : decode cX9_mark 79 = .ok (.iaload, 1) := by decide +kernel
theorem dX9_mark_80 : decode cX9_mark 80 = .ok (.iconst 1, 1) := by decide +kernel
theorem dX9_mark_81 : decode cX9_mark 81 = .ok (.iadd, 1) := by decide +kernel
theorem dX9_mark_82 : decode cX9_mark 82 = .ok (.iastore, 1) := by decide +kernel
theorem dX9_mark_83 : decode cX9_mark 83 = .ok (.aload_n 0, 1) := by decide +kernel
theorem dX9_mark_84 : decode cX9_mark 84 = .ok (.getfield 7, 3) := by decide +kernel
theorem dX9_mark_87 : decode cX9_mark 87 = .ok (.iconst 3, 1) := by decide +kernel
theorem dX9_mark_88 : decode cX9_mark 88 = .ok (.iaload, 1) := by decide +kernel
theorem dX9_mark_89 : decode cX9_mark 89 = .ok (.ireturn, 1) := by decide +kernel
theorem dX9_mayName_0 : decode cX9_mayName 0 = .ok (.aload_n 0, 1) := by decide +kernel
theorem dX9_mayName_1 : decode cX9_mayName 1 = .ok (.iload_n 1, 1) := by decide +kernel
theorem dX9_mayName_2 : decode cX9_mayName 2 = .ok (.invokevirtual 110, 3) := by decide +kernel
theorem dX9_mayName_5 : decode cX9_mayName 5 = .ok (.ifCond .eq 21, 3) := by decide +kernel
theorem dX9_mayName_8 : decode cX9_mayName 8 = .ok (.aload_n 0, 1) := by decide +kernel
theorem dX9_mayName_9 : decode cX9_mayName 9 = .ok (.getfield 7, 3) := by decide +kernel
theorem dX9_mayName_12 : decode cX9_mayName 12 = .ok (.bipush 7, 2) := by decide +kernel
theorem dX9_mayName_14 : decode cX9_mayName 14 = .ok (.iaload, 1) := by decide +kernel
theorem dX9_mayName_15 : decode cX9_mayName 15 = .ok (.iload_n 1, 1) := by decide +kernel
theorem dX9_mayName_16 : decode cX9_mayName 16 = .ok (.invokestatic 116, 3) := by decide +kernel
theorem dX9_mayName_19 : decode cX9_mayName 19 = .ok (.ifCond .ne 7, 3) := by decide +kernel
theorem dX9_mayName_22 : decode cX9_mayName 22 = .ok (.iconst 1, 1) := by decide +kernel
theorem dX9_mayName_23 : decode cX9_mayName 23 = .ok (.goto 4, 3) := by decide +kernel
theorem dX9_mayName_26 : decode cX9_mayName 26 = .ok (.iconst 0, 1) := by decide +kernel
theorem dX9_mayName_27 : decode cX9_mayName 27 = .ok (.ireturn, 1) := by decide +kernel
theorem dX9_mostAlike_0 : decode cX9_mostAlike 0 = .ok (.iconst 0, 1) := by decide +kernel
theorem dX9_mostAlike_1 : decode cX9_mostAlike 1 = .ok (.istore_n 2, 1) := by decide +kernel
theorem dX9_mostAlike_2 : decode cX9_mostAlike 2 = .ok (.iconst 0, 1) := by decide +kernel
theorem dX9_mostAlike_3 : decode cX9_mostAlike 3 = .ok (.istore_n 3, 1) := by decide +kernel
theorem dX9_mostAlike_4 : decode cX9_mostAlike 4 = .ok (.iload_n 3, 1) := by decide +kernel
theorem dX9_mostAlike_5 : decode cX9_mostAlike 5 = .ok (.bipush 6, 2) := by decide +kernel
theorem dX9_mostAlike_7 : decode cX9_mostAlike 7 = .ok (.if_icmp .ge 84, 3) := by decide +kernel
theorem dX9_mostAlike_10 : decode cX9_mostAlike 10 = .ok (.iconst 0, 1) := by decide +kernel
theorem dX9_mostAlike_11 : decode cX9_mostAlike 11 = .ok (.istore 4, 2) := by decide +kernel
theorem dX9_mostAlike_13 : decode cX9_mostAlike 13 = .ok (.iconst 0, 1) := by decide +kernel
theorem dX9_mostAlike_14 : decode cX9_mostAlike 14 = .ok (.istore 5, 2) := by decide +kernel
theorem dX9_mostAlike_16 : decode cX9_mostAlike 16 = .ok (.iload 5, 2) := by decide +kernel
theorem dX9_mostAlike_18 : decode cX9_mostAlike 18 = .ok (.bipush 6, 2) := by decide +kernel
theorem dX9_mostAlike_20 : decode cX9_mostAlike 20 = .ok (.if_icmp .ge 52, 3) := by decide +kernel
theorem dX9_mostAlike_23 : decode cX9_mostAlike 23 = .ok (.iload_n 1, 1) := by decide +kernel
theorem dX9_mostAlike_24 : decode cX9_mostAlike 24 = .ok (.iload_n 3, 1) := by decide +kernel
theorem dX9_mostAlike_25 : decode cX9_mostAlike 25 = .ok (.invokestatic 116, 3) := by decide +kernel
theorem dX9_mostAlike_28 : decode cX9_mostAlike 28 = .ok (.ifCond .eq 44, 3) := by decide +kernel
theorem dX9_mostAlike_31 : decode cX9_mostAlike 31 = .ok (.iload 4, 2) := by decide +kernel
theorem dX9_mostAlike_33 : decode cX9_mostAlike 33 = .ok (.iload_n 1, 1) := by decide +kernel
theorem dX9_mostAlike_34 : decode cX9_mostAlike 34 = .ok (.iload 5, 2) := by decide +kernel
theorem dX9_mostAlike_36 : decode cX9_mostAlike 36 = .ok (.invokestatic 116, 3) := by decide +kernel
theorem dX9_mostAlike_39 : decode cX9_mostAlike 39 = .ok (.ifCond .eq 23, 3) := by decide +kernel
theorem dX9_mostAlike_42 : decode cX9_mostAlike 42 = .ok (.aload_n 0, 1) := by decide +kernel
theorem dX9_mostAlike_43 : decode cX9_mostAlike 43 = .ok (.getfield 30, 3) := by decide +kernel
theorem dX9_mostAlike_46 : decode cX9_mostAlike 46 = .ok (.iload_n 3, 1) := by decide +kernel
theorem dX9_mostAlike_47 : decode cX9_mostAlike 47 = .ok (.iaload, 1) := by decide +kernel
theorem dX9_mostAlike_48 : decode cX9_mostAlike 48 = .ok (.aload_n 0, 1) := by decide +kernel
theorem dX9_mostAlike_49 : decode cX9_mostAlike 49 = .ok (.getfield 30, 3) := by decide +kernel
theorem dX9_mostAlike_52 : decode cX9_mostAlike 52 = .ok (.iload 5, 2) := by decide +kernel
theorem dX9_mostAlike_54 : decode cX9_mostAlike 54 = .ok (.iaload, 1) := by decide +kernel
theorem dX9_mostAlike_55 : decode cX9_mostAlike 55 = .ok (.if_icmp .ne 7, 3) := by decide +kernel
theorem dX9_mostAlike_58 : decode cX9_mostAlike 58 = .ok (.iconst 1, 1) := by decide +kernel
theorem dX9_mostAlike_59 : decode cX9_mostAlike 59 = .ok (.goto 4, 3) := by decide +kernel
theorem dX9_mostAlike_62 : decode cX9_mostAlike 62 = .ok (.iconst 0, 1) := by decide +kernel
theorem dX9_mostAlike_63 : decode cX9_mostAlike 63 = .ok (.iadd, 1) := by decide +kernel
theorem dX9_mostAlike_64 : decode cX9_mostAlike 64 = .ok (.istore 4, 2) := by decide +kernel
theorem dX9_mostAlike_66 : decode cX9_mostAlike 66 = .ok (.iinc 5 1, 3) := by decide +kernel
theorem dX9_mostAlike_69 : decode cX9_mostAlike 69 = .ok (.goto (-53), 3) := by decide +kernel
theorem dX9_mostAlike_72 : decode cX9_mostAlike 72 = .ok (.iload 4, 2) := by decide +kernel
theorem dX9_mostAlike_74 : decode cX9_mostAlike 74 = .ok (.iload_n 2, 1) := by decide +kernel
theorem dX9_mostAlike_75 : decode cX9_mostAlike 75 = .ok (.if_icmp .le 8, 3) := by decide +kernel
theorem dX9_mostAlike_78 : decode cX9_mostAlike 78 = .ok (.iload 4, 2) := by decide +kernel
theorem dX9_mostAlike_80 : decode cX9_mostAlike 80 = .ok (.goto 4, 3) := by decide +kernel
theorem dX9_mostAlike_83 : decode cX9_mostAlike 83 = .ok (.iload_n 2, 1) := by decide +kernel
theorem dX9_mostAlike_84 : decode cX9_mostAlike 84 = .ok (.istore_n 2, 1) := by decide +kernel
theorem dX9_mostAlike_85 : decode cX9_mostAlike 85 = .ok (.iinc 3 1, 3) := by decide +kernel
theorem dX9_mostAlike_88 : decode cX9_mostAlike 88 = .ok (.goto (-84), 3) := by decide +kernel
theorem dX9_mostAlike_91 : decode cX9_mostAlike 91 = .ok (.iload_n 2, 1) := by decide +kernel
theorem dX9_mostAlike_92 : decode cX9_mostAlike 92 = .ok (.ireturn, 1) := by decide +kernel
theorem dX9_noons_0 : decode cX9_noons 0 = .ok (.iload_n 1, 1) := by decide +kernel
theorem dX9_noons_1 : decode cX9_noons 1 = .ok (.i2l, 1) := by decide +kernel
theorem dX9_noons_2 : decode cX9_noons 2 = .ok (.lconst 0, 1) := by decide +kernel
theorem dX9_noons_3 : decode cX9_noons 3 = .ok (.ldc2_w 215, 3) := by decide +kernel
theorem dX9_noons_6 : decode cX9_noons 6 = .ok (.invokestatic 46, 3) := by decide +kernel
theorem dX9_noons_9 : decode cX9_noons 9 = .ok (.ifCond .eq 15, 3) := by decide +kernel
theorem dX9_noons_12 : decode cX9_noons 12 = .ok (.iload_n 2, 1) := by decide +kernel
theorem dX9_noons_13 : decode cX9_noons 13 = .ok (.i2l, 1) := by decide +kernel
theorem dX9_noons_14 : decode cX9_noons 14 = .ok (.lconst 0, 1) := by decide +kernel
theorem dX9_noons_15 : decode cX9_noons 15 = .ok (.ldc2_w 58, 3) := by decide +kernel
theorem dX9_noons_18 : decode cX9_noons 18 = .ok (.invokestatic 46, 3) := by decide +kernel
theorem dX9_noons_21 : decode cX9_noons 21 = .ok (.ifCond .ne 10, 3) := by decide +kernel
theorem dX9_noons_24 : decode cX9_noons 24 = .ok (.aload_n 0, 1) := by decide +kernel
theorem dX9_noons_25 : decode cX9_noons 25 = .ok (.bipush (-2), 2) := by decide +kernel
theorem dX9_noons_27 : decode cX9_noons 27 = .ok (.invokevirtual 62, 3) := by decide +kernel
theorem dX9_noons_30 : decode cX9_noons 30 = .ok (.ireturn, 1) := by decide +kernel
theorem dX9_noons_31 : decode cX9_noons 31 = .ok (.iload_n 1, 1) := by decide +kernel
theorem dX9_noons_32 : decode cX9_noons 32 = .ok (.i2l, 1) := by decide +kernel
theorem dX9_noons_33 : decode cX9_noons 33 = .ok (.lstore_n 3, 1) := by decide +kernel
theorem dX9_noons_34 : decode cX9_noons 34 = .ok (.aload_n 0, 1) := by decide +kernel
theorem dX9_noons_35 : decode cX9_noons 35 = .ok (.invokevirtual 144, 3) := by decide +kernel
theorem dX9_noons_38 : decode cX9_noons 38 = .ok (.iconst 0, 1) := by decide +kernel
theorem dX9_noons_39 : decode cX9_noons 39 = .ok (.istore 5, 2) := by decide +kernel
theorem dX9_noons_41 : decode cX9_noons 41 = .ok (.iload 5, 2) := by decide +kernel
theorem dX9_noons_43 : decode cX9_noons 43 = .ok (.iload_n 2, 1) := by decide +kernel
theorem dX9_noons_44 : decode cX9_noons 44 = .ok (.if_icmp .ge 114, 3) := by decide +kernel
theorem dX9_noons_47 : decode cX9_noons 47 = .ok (.lload_n 3, 1) := by decide +kernel
theorem dX9_noons_48 : decode cX9_noons 48 = .ok (.ldc2_w 217, 3) := by decide +kernel
theorem dX9_noons_51 : decode cX9_noons 51 = .ok (.lmul, 1) := by decide +kernel
theorem dX9_noons_52 : decode cX9_noons 52 = .ok (.ldc2_w 219, 3) := by decide +kernel
theorem dX9_noons_55 : decode cX9_noons 55 = .ok (.ladd, 1) := by decide +kernel
theorem dX9_noons_56 : decode cX9_noons 56 = .ok (.ldc2_w 221, 3) := by decide +kernel
theorem dX9_noons_59 : decode cX9_noons 59 = .ok (.lrem, 1) := by decide +kernel
theorem dX9_noons_60 : decode cX9_noons 60 = .ok (.lstore_n 3, 1) := by decide +kernel
theorem dX9_noons_61 : decode cX9_noons 61 = .ok (.lload_n 3, 1) := by decide +kernel
theorem dX9_noons_62 : decode cX9_noons 62 = .ok (.ldc2_w 223, 3) := by decide +kernel
theorem dX9_noons_65 : decode cX9_noons 65 = .ok (.ldiv, 1) := by decide +kernel
theorem dX9_noons_66 : decode cX9_noons 66 = .ok (.ldc2_w 225, 3) := by decide +kernel
theorem dX9_noons_69 : decode cX9_noons 69 = .ok (.lrem, 1) := by decide +kernel
theorem dX9_noons_70 : decode cX9_noons 70 = .ok (.l2i, 1) := by decide +kernel
theorem dX9_noons_71 : decode cX9_noons 71 = .ok (.istore 6, 2) := by decide +kernel
theorem dX9_noons_73 : decode cX9_noons 73 = .ok (.lload_n 3, 1) := by decide +kernel
theorem dX9_noons_74 : decode cX9_noons 74 = .ok (.ldc2_w 227, 3) := by decide +kernel
theorem dX9_noons_77 : decode cX9_noons 77 = .ok (.ldiv, 1) := by decide +kernel
theorem dX9_noons_78 : decode cX9_noons 78 = .ok (.ldc2_w 135, 3) := by decide +kernel
theorem dX9_noons_81 : decode cX9_noons 81 = .ok (.lrem, 1) := by decide +kernel
theorem dX9_noons_82 : decode cX9_noons 82 = .ok (.l2i, 1) := by decide +kernel
theorem dX9_noons_83 : decode cX9_noons 83 = .ok (.istore 7, 2) := by decide +kernel
theorem dX9_noons_85 : decode cX9_noons 85 = .ok (.aload_n 0, 1) := by decide +kernel
theorem dX9_noons_86 : decode cX9_noons 86 = .ok (.iload 6, 2) := by decide +kernel
theorem dX9_noons_88 : decode cX9_noons 88 = .ok (.invokevirtual 110, 3) := by decide +kernel
theorem dX9_noons_91 : decode cX9_noons 91 = .ok (.ifCond .eq 40, 3) := by decide +kernel
theorem dX9_noons_94 : decode cX9_noons 94 = .ok (.aload_n 0, 1) := by decide +kernel
theorem dX9_noons_95 : decode cX9_noons 95 = .ok (.iload 7, 2) := by decide +kernel
theorem dX9_noons_97 : decode cX9_noons 97 = .ok (.invokevirtual 113, 3) := by decide +kernel
theorem dX9_noons_100 : decode cX9_noons 100 = .ok (.ifCond .eq 31, 3) := by decide +kernel
theorem dX9_noons_103 : decode cX9_noons 103 = .ok (.aload_n 0, 1) := by decide +kernel
theorem dX9_noons_104 : decode cX9_noons 104 = .ok (.getfield 27, 3) := by decide +kernel
theorem dX9_noons_107 : decode cX9_noons 107 = .ok (.bipush 7, 2) := by decide +kernel
theorem dX9_noons_109 : decode cX9_noons 109 = .ok (.iaload, 1) := by decide +kernel
theorem dX9_noons_110 : decode cX9_noons 110 = .ok (.iload 6, 2) := by decide +kernel
theorem dX9_noons_112 : decode cX9_noons 112 = .ok (.invokestatic 116, 3) := by decide +kernel
theorem dX9_noons_115 : decode cX9_noons 115 = .ok (.ifCond .ne 16, 3) := by decide +kernel
theorem dX9_noons_118 : decode cX9_noons 118 = .ok (.aload_n 0, 1) := by decide +kernel
theorem dX9_noons_119 : decode cX9_noons 119 = .ok (.getfield 27, 3) := by decide +kernel
theorem dX9_noons_122 : decode cX9_noons 122 = .ok (.iload 6, 2) := by decide +kernel
theorem dX9_noons_124 : decode cX9_noons 124 = .ok (.iload 7, 2) := by decide +kernel
theorem dX9_noons_126 : decode cX9_noons 126 = .ok (.invokestatic 126, 3) := by decide +kernel
theorem dX9_noons_129 : decode cX9_noons 129 = .ok (.istore 8, 2) := by decide +kernel
theorem dX9_noons_131 : decode cX9_noons 131 = .ok (.lload_n 3, 1) := by decide +kernel
theorem dX9_noons_132 : decode cX9_noons 132 = .ok (.ldc2_w 229, 3) := by decide +kernel
theorem dX9_noons_135 : decode cX9_noons 135 = .ok (.ldiv, 1) := by decide +kernel
theorem dX9_noons_136 : decode cX9_noons 136 = .ok (.ldc2_w 231, 3) := by decide +kernel
theorem dX9_noons_139 : decode cX9_noons 139 = .ok (.lrem, 1) := by decide +kernel
theorem dX9_noons_140 : decode cX9_noons 140 = .ok (.lconst 0, 1) := by decide +kernel
theorem dX9_noons_141 : decode cX9_noons 141 = .ok (.lcmp, 1) := by decide +kernel
theorem dX9_noons_142 : decode cX9_noons 142 = .ok (.ifCond .ne 10, 3) := by decide +kernel
theorem dX9_noons_145 : decode cX9_noons 145 = .ok (.aload_n 0, 1) := by decide +kernel
theorem dX9_noons_146 : decode cX9_noons 146 = .ok (.getfield 27, 3) := by decide +kernel
theorem dX9_noons_149 : decode cX9_noons 149 = .ok (.invokestatic 106, 3) := by decide +kernel
theorem dX9_noons_152 : decode cX9_noons 152 = .ok (.iinc 5 1, 3) := by decide +kernel
theorem dX9_noons_155 : decode cX9_noons 155 = .ok (.goto (-114), 3) := by decide +kernel
theorem dX9_noons_158 : decode cX9_noons 158 = .ok (.aload_n 0, 1) := by decide +kernel
theorem dX9_noons_159 : decode cX9_noons 159 = .ok (.getfield 27, 3) := by decide +kernel
theorem dX9_noons_162 : decode cX9_noons 162 = .ok (.invokestatic 233, 3) := by decide +kernel
theorem dX9_noons_165 : decode cX9_noons 165 = .ok (.ireturn, 1) := by decide +kernel
theorem dX9_note_0 : decode cX9_note 0 = .ok (.aload_n 0, 1) := by decide +kernel
theorem dX9_note_1 : decode cX9_note 1 = .ok (.iload_n 1, 1) := by decide +kernel
theorem dX9_note_2 : decode cX9_note 2 = .ok (.invokevirtual 110, 3) := by decide +kernel
theorem dX9_note_5 : decode cX9_note 5 = .ok (.ifCond .eq 30, 3) := by decide +kernel
theorem dX9_note_8 : decode cX9_note 8 = .ok (.iload_n 2, 1) := by decide +kernel
theorem dX9_note_9 : decode cX9_note 9 = .ok (.invokestatic 70, 3) := by decide +kernel
theorem dX9_note_12 : decode cX9_note 12 = .ok (.ifCond .eq 23, 3) := by decide +kernel
theorem dX9_note_15 : decode cX9_note 15 = .ok (.iload_n 3, 1) := by decide +kernel
theorem dX9_note_16 : decode cX9_note 16 = .ok (.invokestatic 171, 3) := by decide +kernel
theorem dX9_note_19 : decode cX9_note 19 = .ok (.ifCond .eq 16, 3) := by decide +kernel
theorem dX9_note_22 : decode cX9_note 22 = .ok (.iload 4, 2) := by decide +kernel
theorem dX9_note_24 : decode cX9_note 24 = .ok (.i2l, 1) := by decide +kernel
theorem dX9_note_25 : decode cX9_note 25 = .ok (.lconst 0, 1) := by decide +kernel
theorem dX9_note_26 : decode cX9_note 26 = .ok (.ldc2_w 174, 3) := by decide +kernel
theorem dX9_note_29 : decode cX9_note 29 = .ok (.invokestatic 46, 3) := by decide +kernel
theorem dX9_note_32 : decode cX9_note 32 = .ok (.ifCond .ne 10, 3) := by decide +kernel
theorem dX9_note_35 : decode cX9_note 35 = .ok (.aload_n 0, 1) := by decide +kernel
theorem dX9_note_36 : decode cX9_note 36 = .ok (.bipush (-2), 2) := by decide +kernel
theorem dX9_note_38 : decode cX9_note 38 = .ok (.invokevirtual 62, 3) := by decide +kernel
theorem dX9_note_41 : decode cX9_note 41 = .ok (.ireturn, 1) := by decide +kernel
theorem dX9_note_42 : decode cX9_note 42 = .ok (.aload_n 0, 1) := by decide +kernel
theorem dX9_note_43 : decode cX9_note 43 = .ok (.getfield 7, 3) := by decide +kernel
theorem dX9_note_46 : decode cX9_note 46 = .ok (.iconst 2, 1) := by decide +kernel
theorem dX9_note_47 : decode cX9_note 47 = .ok (.iaload, 1) := by decide +kernel
theorem dX9_note_48 : decode cX9_note 48 = .ok (.bipush 6, 2) := by decide +kernel
theorem dX9_note_50 : decode cX9_note 50 = .ok (.if_icmp .ne 8, 3) := by decide +kernel
theorem dX9_note_53 : decode cX9_note 53 = .ok (.aload_n 0, 1) := by decide +kernel
theorem dX9_note_54 : decode cX9_note 54 = .ok (.invokevirtual 76, 3) := by decide +kernel
theorem dX9_note_57 : decode cX9_note 57 = .ok (.ireturn, 1) := by decide +kernel
theorem dX9_note_58 : decode cX9_note 58 = .ok (.aload_n 0, 1) := by decide +kernel
theorem dX9_note_59 : decode cX9_note 59 = .ok (.bipush 41, 2) := by decide +kernel
theorem dX9_note_61 : decode cX9_note 61 = .ok (.iconst 4, 1) := by decide +kernel
theorem dX9_note_62 : decode cX9_note 62 = .ok (.aload_n 0, 1) := by decide +kernel
theorem dX9_note_63 : decode cX9_note 63 = .ok (.getfield 7, 3) := by decide +kernel
theorem dX9_note_66 : decode cX9_note 66 = .ok (.iconst 2, 1) := by decide +kernel
theorem dX9_note_67 : decode cX9_note 67 = .ok (.iaload, 1) := by decide +kernel
theorem dX9_note_68 : decode cX9_note 68 = .ok (.imul, 1) := by decide +kernel
theorem dX9_note_69 : decode cX9_note 69 = .ok (.iadd, 1) := by decide +kernel
theorem dX9_note_70 : decode cX9_note 70 = .ok (.iload_n 1, 1) := by decide +kernel
theorem dX9_note_71 : decode cX9_note 71 = .ok (.iload_n 2, 1) := by decide +kernel
theorem dX9_note_72 : decode cX9_note 72 = .ok (.iload_n 3, 1) := by decide +kernel
theorem dX9_note_73 : decode cX9_note 73 = .ok (.iload 4, 2) := by decide +kernel
theorem dX9_note_75 : decode cX9_note 75 = .ok (.invokevirtual 176, 3) := by decide +kernel
theorem dX9_note_78 : decode cX9_note 78 = .ok (.aload_n 0, 1) := by decide +kernel
theorem dX9_note_79 : decode cX9_note 79 = .ok (.getfield 7, 3) := by decide +kernel
theorem dX9_note_82 : decode cX9_note 82 = .ok (.iconst 2, 1) := by decide +kernel
theorem dX9_note_83 : decode cX9_note 83 = .ok (.dup2, 1) := by decide +kernel
theorem dX9_note_84 : decode cX9_note 84 = .ok (.iaload, 1) := by decide +kernel
theorem dX9_note_85 : decode cX9_note 85 = .ok (.iconst 1, 1) := by decide +kernel
theorem dX9_note_86 : decode cX9_note 86 = .ok (.iadd, 1) := by decide +kernel
theorem dX9_note_87 : decode cX9_note 87 = .ok (.iastore, 1) := by decide +kernel
theorem dX9_note_88 : decode cX9_note 88 = .ok (.aload_n 0, 1) := by decide +kernel
theorem dX9_note_89 : decode cX9_note 89 = .ok (.getfield 7, 3) := by decide +kernel
theorem dX9_note_92 : decode cX9_note 92 = .ok (.iconst 2, 1) := by decide +kernel
theorem dX9_note_93 : decode cX9_note 93 = .ok (.iaload, 1) := by decide +kernel
theorem dX9_note_94 : decode cX9_note 94 = .ok (.ireturn, 1) := by decide +kernel
theorem dX9_of_0 : decode cX9_of 0 = .ok (.aload_n 0, 1) := by decide +kernel
theorem dX9_of_1 : decode cX9_of 1 = .ok (.iload_n 1, 1) := by decide +kernel
theorem dX9_of_2 : decode cX9_of 2 = .ok (.invokevirtual 110, 3) := by decide +kernel
theorem dX9_of_5 : decode cX9_of 5 = .ok (.ifCond .eq 24, 3) := by decide +kernel
theorem dX9_of_8 : decode cX9_of 8 = .ok (.iload_n 2, 1) := by decide +kernel
theorem dX9_of_9 : decode cX9_of 9 = .ok (.i2l, 1) := by decide +kernel
theorem dX9_of_10 : decode cX9_of 10 = .ok (.lconst 0, 1) := by decide +kernel
theorem dX9_of_11 : decode cX9_of 11 = .ok (.ldc2_w 135, 3) := by decide +kernel
theorem dX9_of_14 : decode cX9_of 14 = .ok (.invokestatic 46, 3) := by decide +kernel
theorem dX9_of_17 : decode cX9_of 17 = .ok (.ifCond .eq 12, 3) := by decide +kernel
theorem dX9_of_20 : decode cX9_of 20 = .ok (.aload_n 0, 1) := by decide +kernel
theorem dX9_of_21 : decode cX9_of 21 = .ok (.iload_n 1, 1) := by decide +kernel
theorem dX9_of_22 : decode cX9_of 22 = .ok (.iload_n 2, 1) := by decide +kernel
theorem dX9_of_23 : decode cX9_of 23 = .ok (.invokevirtual 137, 3) := by decide +kernel
theorem dX9_of_26 : decode cX9_of 26 = .ok (.goto 9, 3) := by decide +kernel
theorem dX9_of_29 : decode cX9_of 29 = .ok (.aload_n 0, 1) := by decide +kernel
theorem dX9_of_30 : decode cX9_of 30 = .ok (.bipush (-2), 2) := by decide +kernel
theorem dX9_of_32 : decode cX9_of 32 = .ok (.invokevirtual 62, 3) := by decide +kernel
theorem dX9_of_35 : decode cX9_of 35 = .ok (.ireturn, 1) := by decide +kernel
theorem dX9_part_0 : decode cX9_part 0 = .ok (.iload_n 1, 1) := by decide +kernel
theorem dX9_part_1 : decode cX9_part 1 = .ok (.ifCond .ne 10, 3) := by decide +kernel
theorem dX9_part_4 : decode cX9_part 4 = .ok (.aload_n 0, 1) := by decide +kernel
theorem dX9_part_5 : decode cX9_part 5 = .ok (.getfield 206, 3) := by decide +kernel
theorem dX9_part_8 : decode cX9_part 8 = .ok (.goto 22, 3) := by decide +kernel
theorem dX9_part_11 : decode cX9_part 11 = .ok (.iload_n 1, 1) := by decide +kernel
theorem dX9_part_12 : decode cX9_part 12 = .ok (.iconst 1, 1) := by decide +kernel
theorem dX9_part_13 : decode cX9_part 13 = .ok (.if_icmp .ne 10, 3) := by decide +kernel
theorem dX9_part_16 : decode cX9_part 16 = .ok (.aload_n 0, 1) := by decide +kernel
theorem dX9_part_17 : decode cX9_part 17 = .ok (.getfield 23, 3) := by decide +kernel
theorem dX9_part_20 : decode cX9_part 20 = .ok (.goto 10, 3) := by decide +kernel
theorem dX9_part_23 : decode cX9_part 23 = .ok (.aload_n 0, 1) := by decide +kernel
theorem dX9_part_24 : decode cX9_part 24 = .ok (.bipush (-2), 2) := by decide +kernel
theorem dX9_part_26 : decode cX9_part 26 = .ok (.invokevirtual 62, 3) := by decide +kernel
theorem dX9_part_29 : decode cX9_part 29 = .ok (.i2l, 1) := by decide +kernel
theorem dX9_part_30 : decode cX9_part 30 = .ok (.lreturn, 1) := by decide +kernel
theorem dX9_pours_0 : decode cX9_pours 0 = .ok (.aload_n 0, 1) := by decide +kernel
theorem dX9_pours_1 : decode cX9_pours 1 = .ok (.iload_n 1, 1) := by decide +kernel
theorem dX9_pours_2 : decode cX9_pours 2 = .ok (.invokevirtual 113, 3) := by decide +kernel
theorem dX9_pours_5 : decode cX9_pours 5 = .ok (.ifCond .eq 16, 3) := by decide +kernel
theorem dX9_pours_8 : decode cX9_pours 8 = .ok (.aload_n 0, 1) := by decide +kernel
theorem dX9_pours_9 : decode cX9_pours 9 = .ok (.iload_n 2, 1) := by decide +kernel
theorem dX9_pours_10 : decode cX9_pours 10 = .ok (.invokevirtual 113, 3) := by decide +kernel
