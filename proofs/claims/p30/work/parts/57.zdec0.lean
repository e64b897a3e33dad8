theorem dX7_add_0 : decode cX7_add 0 = .ok (.aload_n 0, 1) := by decide +kernel
theorem dX7_add_1 : decode cX7_add 1 = .ok (.invokevirtual 23, 3) := by decide +kernel
theorem dX7_add_4 : decode cX7_add 4 = .ok (.ifCond .eq 6, 3) := by decide +kernel
theorem dX7_add_7 : decode cX7_add 7 = .ok (.bipush (-4), 2) := by decide +kernel
theorem dX7_add_9 : decode cX7_add 9 = .ok (.ireturn, 1) := by decide +kernel
theorem dX7_add_10 : decode cX7_add 10 = .ok (.aload_n 0, 1) := by decide +kernel
theorem dX7_add_11 : decode cX7_add 11 = .ok (.getfield 11, 3) := by decide +kernel
theorem dX7_add_14 : decode cX7_add 14 = .ok (.aload_n 0, 1) := by decide +kernel
theorem dX7_add_15 : decode cX7_add 15 = .ok (.getfield 19, 3) := by decide +kernel
theorem dX7_add_18 : decode cX7_add 18 = .ok (.iload_n 1, 1) := by decide +kernel
theorem dX7_add_19 : decode cX7_add 19 = .ok (.i2b, 1) := by decide +kernel
theorem dX7_add_20 : decode cX7_add 20 = .ok (.bastore, 1) := by decide +kernel
theorem dX7_add_21 : decode cX7_add 21 = .ok (.aload_n 0, 1) := by decide +kernel
theorem dX7_add_22 : decode cX7_add 22 = .ok (.dup, 1) := by decide +kernel
theorem dX7_add_23 : decode cX7_add 23 = .ok (.getfield 19, 3) := by decide +kernel
theorem dX7_add_26 : decode cX7_add 26 = .ok (.iconst 1, 1) := by decide +kernel
theorem dX7_add_27 : decode cX7_add 27 = .ok (.iadd, 1) := by decide +kernel
theorem dX7_add_28 : decode cX7_add 28 = .ok (.putfield 19, 3) := by decide +kernel
theorem dX7_add_31 : decode cX7_add 31 = .ok (.aload_n 0, 1) := by decide +kernel
theorem dX7_add_32 : decode cX7_add 32 = .ok (.getfield 19, 3) := by decide +kernel
theorem dX7_add_35 : decode cX7_add 35 = .ok (.ireturn, 1) := by decide +kernel
theorem dX7_carryOut_0 : decode cX7_carryOut 0 = .ok (.iload_n 2, 1) := by decide +kernel
theorem dX7_carryOut_1 : decode cX7_carryOut 1 = .ok (.tableswitch 128 0 4 #[35, 48, 74, 88, 108], 35) := by decide +kernel
theorem dX7_carryOut_36 : decode cX7_carryOut 36 = .ok (.aload_n 1, 1) := by decide +kernel
theorem dX7_carryOut_37 : decode cX7_carryOut 37 = .ok (.aload_n 0, 1) := by decide +kernel
theorem dX7_carryOut_38 : decode cX7_carryOut 38 = .ok (.getfield 15, 3) := by decide +kernel
theorem dX7_carryOut_41 : decode cX7_carryOut 41 = .ok (.iconst 0, 1) := by decide +kernel
theorem dX7_carryOut_42 : decode cX7_carryOut 42 = .ok (.iaload, 1) := by decide +kernel
theorem dX7_carryOut_43 : decode cX7_carryOut 43 = .ok (.putfield 98, 3) := by decide +kernel
theorem dX7_carryOut_46 : decode cX7_carryOut 46 = .ok (.goto 93, 3) := by decide +kernel
theorem dX7_carryOut_49 : decode cX7_carryOut 49 = .ok (.aload_n 1, 1) := by decide +kernel
theorem dX7_carryOut_50 : decode cX7_carryOut 50 = .ok (.aload_n 0, 1) := by decide +kernel
theorem dX7_carryOut_51 : decode cX7_carryOut 51 = .ok (.getfield 15, 3) := by decide +kernel
theorem dX7_carryOut_54 : decode cX7_carryOut 54 = .ok (.iconst 0, 1) := by decide +kernel
theorem dX7_carryOut_55 : decode cX7_carryOut 55 = .ok (.iaload, 1) := by decide +kernel
theorem dX7_carryOut_56 : decode cX7_carryOut 56 = .ok (.aload_n 0, 1) := by decide +kernel
theorem dX7_carryOut_57 : decode cX7_carryOut 57 = .ok (.getfield 15, 3) := by decide +kernel
theorem dX7_carryOut_60 : decode cX7_carryOut 60 = .ok (.iconst 1, 1) := by decide +kernel
theorem dX7_carryOut_61 : decode cX7_carryOut 61 = .ok (.iaload, 1) := by decide +kernel
theorem dX7_carryOut_62 : decode cX7_carryOut 62 = .ok (.aload_n 0, 1) := by decide +kernel
theorem dX7_carryOut_63 : decode cX7_carryOut 63 = .ok (.getfield 15, 3) := by decide +kernel
theorem dX7_carryOut_66 : decode cX7_carryOut 66 = .ok (.iconst 2, 1) := by decide +kernel
theorem dX7_carryOut_67 : decode cX7_carryOut 67 = .ok (.iaload, 1) := by decide +kernel
theorem dX7_carryOut_68 : decode cX7_carryOut 68 = .ok (.invokevirtual 101, 3) := by decide +kernel
theorem dX7_carryOut_71 : decode cX7_carryOut 71 = .ok (.pop, 1) := by decide +kernel
theorem dX7_carryOut_72 : decode cX7_carryOut 72 = .ok (.goto 67, 3) := by decide +kernel
theorem dX7_carryOut_75 : decode cX7_carryOut 75 = .ok (.aload_n 1, 1) := by decide +kernel
theorem dX7_carryOut_76 : decode cX7_carryOut 76 = .ok (.aload_n 0, 1) := by decide +kernel
theorem dX7_carryOut_77 : decode cX7_carryOut 77 = .ok (.getfield 15, 3) := by decide +kernel
theorem dX7_carryOut_80 : decode cX7_carryOut 80 = .ok (.iconst 0, 1) := by decide +kernel
theorem dX7_carryOut_81 : decode cX7_carryOut 81 = .ok (.iaload, 1) := by decide +kernel
theorem dX7_carryOut_82 : decode cX7_carryOut 82 = .ok (.invokevirtual 105, 3) := by decide +kernel
theorem dX7_carryOut_85 : decode cX7_carryOut 85 = .ok (.pop, 1) := by decide +kernel
theorem dX7_carryOut_86 : decode cX7_carryOut 86 = .ok (.goto 53, 3) := by decide +kernel
theorem dX7_carryOut_89 : decode cX7_carryOut 89 = .ok (.aload_n 1, 1) := by decide +kernel
theorem dX7_carryOut_90 : decode cX7_carryOut 90 = .ok (.aload_n 0, 1) := by decide +kernel
theorem dX7_carryOut_91 : decode cX7_carryOut 91 = .ok (.getfield 15, 3) := by decide +kernel
theorem dX7_carryOut_94 : decode cX7_carryOut 94 = .ok (.iconst 0, 1) := by decide +kernel
theorem dX7_carryOut_95 : decode cX7_carryOut 95 = .ok (.iaload, 1) := by decide +kernel
theorem dX7_carryOut_96 : decode cX7_carryOut 96 = .ok (.aload_n 0, 1) := by decide +kernel
theorem dX7_carryOut_97 : decode cX7_carryOut 97 = .ok (.getfield 15, 3) := by decide +kernel
theorem dX7_carryOut_100 : decode cX7_carryOut 100 = .ok (.iconst 1, 1) := by decide +kernel
theorem dX7_carryOut_101 : decode cX7_carryOut 101 = .ok (.iaload, 1) := by decide +kernel
theorem dX7_carryOut_102 : decode cX7_carryOut 102 = .ok (.invokevirtual 108, 3) := by decide +kernel
theorem dX7_carryOut_105 : decode cX7_carryOut 105 = .ok (.pop, 1) := by decide +kernel
theorem dX7_carryOut_106 : decode cX7_carryOut 106 = .ok (.goto 33, 3) := by decide +kernel
theorem dX7_carryOut_109 : decode cX7_carryOut 109 = .ok (.aload_n 1, 1) := by decide +kernel
theorem dX7_carryOut_110 : decode cX7_carryOut 110 = .ok (.aload_n 0, 1) := by decide +kernel
theorem dX7_carryOut_111 : decode cX7_carryOut 111 = .ok (.getfield 15, 3) := by decide +kernel
theorem dX7_carryOut_114 : decode cX7_carryOut 114 = .ok (.iconst 0, 1) := by decide +kernel
theorem dX7_carryOut_115 : decode cX7_carryOut 115 = .ok (.iaload, 1) := by decide +kernel
theorem dX7_carryOut_116 : decode cX7_carryOut 116 = .ok (.aload_n 0, 1) := by decide +kernel
theorem dX7_carryOut_117 : decode cX7_carryOut 117 = .ok (.getfield 15, 3) := by decide +kernel
theorem dX7_carryOut_120 : decode cX7_carryOut 120 = .ok (.iconst 1, 1) := by decide +kernel
theorem dX7_carryOut_121 : decode cX7_carryOut 121 = .ok (.iaload, 1) := by decide +kernel
theorem dX7_carryOut_122 : decode cX7_carryOut 122 = .ok (.invokevirtual 112, 3) := by decide +kernel
theorem dX7_carryOut_125 : decode cX7_carryOut 125 = .ok (.pop, 1) := by decide +kernel
theorem dX7_carryOut_126 : decode cX7_carryOut 126 = .ok (.goto 13, 3) := by decide +kernel
theorem dX7_carryOut_129 : decode cX7_carryOut 129 = .ok (.aload_n 1, 1) := by decide +kernel
theorem dX7_carryOut_130 : decode cX7_carryOut 130 = .ok (.aload_n 0, 1) := by decide +kernel
theorem dX7_carryOut_131 : decode cX7_carryOut 131 = .ok (.getfield 15, 3) := by decide +kernel
theorem dX7_carryOut_134 : decode cX7_carryOut 134 = .ok (.iconst 0, 1) := by decide +kernel
theorem dX7_carryOut_135 : decode cX7_carryOut 135 = .ok (.iaload, 1) := by decide +kernel
theorem dX7_carryOut_136 : decode cX7_carryOut 136 = .ok (.invokevirtual 115, 3) := by decide +kernel
theorem dX7_carryOut_139 : decode cX7_carryOut 139 = .ok (.return_, 1) := by decide +kernel
theorem dX7_empty_0 : decode cX7_empty 0 = .ok (.aload_n 0, 1) := by decide +kernel
theorem dX7_empty_1 : decode cX7_empty 1 = .ok (.getfield 19, 3) := by decide +kernel
theorem dX7_empty_4 : decode cX7_empty 4 = .ok (.istore_n 1, 1) := by decide +kernel
theorem dX7_empty_5 : decode cX7_empty 5 = .ok (.aload_n 0, 1) := by decide +kernel
theorem dX7_empty_6 : decode cX7_empty 6 = .ok (.iconst 0, 1) := by decide +kernel
theorem dX7_empty_7 : decode cX7_empty 7 = .ok (.putfield 19, 3) := by decide +kernel
theorem dX7_empty_10 : decode cX7_empty 10 = .ok (.iload_n 1, 1) := by decide +kernel
theorem dX7_empty_11 : decode cX7_empty 11 = .ok (.ireturn, 1) := by decide +kernel
theorem dX7_fits_0 : decode cX7_fits 0 = .ok (.iload_n 2, 1) := by decide +kernel
theorem dX7_fits_1 : decode cX7_fits 1 = .ok (.tableswitch 162 1 5 #[35, 41, 56, 99, 148], 35) := by decide +kernel
theorem dX7_fits_36 : decode cX7_fits 36 = .ok (.aload_n 0, 1) := by decide +kernel
theorem dX7_fits_37 : decode cX7_fits 37 = .ok (.iload_n 3, 1) := by decide +kernel
theorem dX7_fits_38 : decode cX7_fits 38 = .ok (.invokevirtual 78, 3) := by decide +kernel
theorem dX7_fits_41 : decode cX7_fits 41 = .ok (.ireturn, 1) := by decide +kernel
theorem dX7_fits_42 : decode cX7_fits 42 = .ok (.aload_n 0, 1) := by decide +kernel
theorem dX7_fits_43 : decode cX7_fits 43 = .ok (.getfield 75, 3) := by decide +kernel
theorem dX7_fits_46 : decode cX7_fits 46 = .ok (.bipush 6, 2) := by decide +kernel
theorem dX7_fits_48 : decode cX7_fits 48 = .ok (.if_icmp .ge 7, 3) := by decide +kernel
theorem dX7_fits_51 : decode cX7_fits 51 = .ok (.iconst 1, 1) := by decide +kernel
theorem dX7_fits_52 : decode cX7_fits 52 = .ok (.goto 4, 3) := by decide +kernel
theorem dX7_fits_55 : decode cX7_fits 55 = .ok (.iconst 0, 1) := by decide +kernel
theorem dX7_fits_56 : decode cX7_fits 56 = .ok (.ireturn, 1) := by decide +kernel
theorem dX7_fits_57 : decode cX7_fits 57 = .ok (.iload_n 3, 1) := by decide +kernel
theorem dX7_fits_58 : decode cX7_fits 58 = .ok (.ifCond .ne 33, 3) := by decide +kernel
theorem dX7_fits_61 : decode cX7_fits 61 = .ok (.aload_n 1, 1) := by decide +kernel
theorem dX7_fits_62 : decode cX7_fits 62 = .ok (.aload_n 0, 1) := by decide +kernel
theorem dX7_fits_63 : decode cX7_fits 63 = .ok (.getfield 75, 3) := by decide +kernel
theorem dX7_fits_66 : decode cX7_fits 66 = .ok (.invokevirtual 82, 3) := by decide +kernel
theorem dX7_fits_69 : decode cX7_fits 69 = .ok (.ifCond .eq 18, 3) := by decide +kernel
theorem dX7_fits_72 : decode cX7_fits 72 = .ok (.aload_n 1, 1) := by decide +kernel
theorem dX7_fits_73 : decode cX7_fits 73 = .ok (.aload_n 0, 1) := by decide +kernel
theorem dX7_fits_74 : decode cX7_fits 74 = .ok (.getfield 75, 3) := by decide +kernel
theorem dX7_fits_77 : decode cX7_fits 77 = .ok (.invokevirtual 85, 3) := by decide +kernel
theorem dX7_fits_80 : decode cX7_fits 80 = .ok (.ifCond .ne 7, 3) := by decide +kernel
theorem dX7_fits_83 : decode cX7_fits 83 = .ok (.iconst 1, 1) := by decide +kernel
theorem dX7_fits_84 : decode cX7_fits 84 = .ok (.goto 15, 3) := by decide +kernel
theorem dX7_fits_87 : decode cX7_fits 87 = .ok (.iconst 0, 1) := by decide +kernel
theorem dX7_fits_88 : decode cX7_fits 88 = .ok (.goto 11, 3) := by decide +kernel
theorem dX7_fits_91 : decode cX7_fits 91 = .ok (.aload_n 1, 1) := by decide +kernel
theorem dX7_fits_92 : decode cX7_fits 92 = .ok (.aload_n 0, 1) := by decide +kernel
theorem dX7_fits_93 : decode cX7_fits 93 = .ok (.getfield 75, 3) := by decide +kernel
theorem dX7_fits_96 : decode cX7_fits 96 = .ok (.invokevirtual 88, 3) := by decide +kernel
theorem dX7_fits_99 : decode cX7_fits 99 = .ok (.ireturn, 1) := by decide +kernel
theorem dX7_fits_100 : decode cX7_fits 100 = .ok (.aload_n 1, 1) := by decide +kernel
theorem dX7_fits_101 : decode cX7_fits 101 = .ok (.aload_n 0, 1) := by decide +kernel
theorem dX7_fits_102 : decode cX7_fits 102 = .ok (.getfield 75, 3) := by decide +kernel
theorem dX7_fits_105 : decode cX7_fits 105 = .ok (.invokevirtual 88, 3) := by decide +kernel
theorem dX7_fits_108 : decode cX7_fits 108 = .ok (.ifCond .eq 39, 3) := by decide +kernel
theorem dX7_fits_111 : decode cX7_fits 111 = .ok (.iload_n 3, 1) := by decide +kernel
theorem dX7_fits_112 : decode cX7_fits 112 = .ok (.ifCond .ne 18, 3) := by decide +kernel
theorem dX7_fits_115 : decode cX7_fits 115 = .ok (.aload_n 1, 1) := by decide +kernel
theorem dX7_fits_116 : decode cX7_fits 116 = .ok (.getfield 91, 3) := by decide +kernel
theorem dX7_fits_119 : decode cX7_fits 119 = .ok (.aload_n 0, 1) := by decide +kernel
theorem dX7_fits_120 : decode cX7_fits 120 = .ok (.getfield 75, 3) := by decide +kernel
theorem dX7_fits_123 : decode cX7_fits 123 = .ok (.iaload, 1) := by decide +kernel
theorem dX7_fits_124 : decode cX7_fits 124 = .ok (.ifCond .le 23, 3) := by decide +kernel
theorem dX7_fits_127 : decode cX7_fits 127 = .ok (.goto 16, 3) := by decide +kernel
theorem dX7_fits_130 : decode cX7_fits 130 = .ok (.aload_n 0, 1) := by decide +kernel
theorem dX7_fits_131 : decode cX7_fits 131 = .ok (.getfield 75, 3) := by decide +kernel
theorem dX7_fits_134 : decode cX7_fits 134 = .ok (.aload_n 0, 1) := by decide +kernel
theorem dX7_fits_135 : decode cX7_fits 135 = .ok (.getfield 15, 3) := by decide +kernel
theorem dX7_fits_138 : decode cX7_fits 138 = .ok (.iconst 0, 1) := by decide +kernel
theorem dX7_fits_139 : decode cX7_fits 139 = .ok (.iaload, 1) := by decide +kernel
theorem dX7_fits_140 : decode cX7_fits 140 = .ok (.if_icmp .eq 7, 3) := by decide +kernel
theorem dX7_fits_143 : decode cX7_fits 143 = .ok (.iconst 1, 1) := by decide +kernel
theorem dX7_fits_144 : decode cX7_fits 144 = .ok (.goto 4, 3) := by decide +kernel
theorem dX7_fits_147 : decode cX7_fits 147 = .ok (.iconst 0, 1) := by decide +kernel
theorem dX7_fits_148 : decode cX7_fits 148 = .ok (.ireturn, 1) := by decide +kernel
theorem dX7_fits_149 : decode cX7_fits 149 = .ok (.aload_n 0, 1) := by decide +kernel
theorem dX7_fits_150 : decode cX7_fits 150 = .ok (.getfield 75, 3) := by decide +kernel
theorem dX7_fits_153 : decode cX7_fits 153 = .ok (.iconst 1, 1) := by decide +kernel
theorem dX7_fits_154 : decode cX7_fits 154 = .ok (.if_icmp .lt 7, 3) := by decide +kernel
theorem dX7_fits_157 : decode cX7_fits 157 = .ok (.iconst 1, 1) := by decide +kernel
theorem dX7_fits_158 : decode cX7_fits 158 = .ok (.goto 4, 3) := by decide +kernel
theorem dX7_fits_161 : decode cX7_fits 161 = .ok (.iconst 0, 1) := by decide +kernel
theorem dX7_fits_162 : decode cX7_fits 162 = .ok (.ireturn, 1) := by decide +kernel
theorem dX7_fits_163 : decode cX7_fits 163 = .ok (.iconst 1, 1) := by decide +kernel
theorem dX7_fits_164 : decode cX7_fits 164 = .ok (.ireturn, 1) := by decide +kernel
theorem dX7_fitsCaster_0 : decode cX7_fitsCaster 0 = .ok (.iload_n 1, 1) := by decide +kernel
theorem dX7_fitsCaster_1 : decode cX7_fitsCaster 1 = .ok (.lookupswitch 53 #[(0, 27), (1, 42)], 27) := by decide +kernel
theorem dX7_fitsCaster_28 : decode cX7_fitsCaster 28 = .ok (.aload_n 0, 1) := by decide +kernel
theorem dX7_fitsCaster_29 : decode cX7_fitsCaster 29 = .ok (.getfield 75, 3) := by decide +kernel
theorem dX7_fitsCaster_32 : decode cX7_fitsCaster 32 = .ok (.bipush 6, 2) := by decide +kernel
theorem dX7_fitsCaster_34 : decode cX7_fitsCaster 34 = .ok (.if_icmp .ge 7, 3) := by decide +kernel
theorem dX7_fitsCaster_37 : decode cX7_fitsCaster 37 = .ok (.iconst 1, 1) := by decide +kernel
theorem dX7_fitsCaster_38 : decode cX7_fitsCaster 38 = .ok (.goto 4, 3) := by decide +kernel
theorem dX7_fitsCaster_41 : decode cX7_fitsCaster 41 = .ok (.iconst 0, 1) := by decide +kernel
theorem dX7_fitsCaster_42 : decode cX7_fitsCaster 42 = .ok (.ireturn, 1) := by decide +kernel
theorem dX7_fitsCaster_43 : decode cX7_fitsCaster 43 = .ok (.aload_n 0, 1) := by decide +kernel
theorem dX7_fitsCaster_44 : decode cX7_fitsCaster 44 = .ok (.getfield 75, 3) := by decide +kernel
theorem dX7_fitsCaster_47 : decode cX7_fitsCaster 47 = .ok (.iconst 1, 1) := by decide +kernel
theorem dX7_fitsCaster_48 : decode cX7_fitsCaster 48 = .ok (.bipush 9, 2) := by decide +kernel
theorem dX7_fitsCaster_50 : decode cX7_fitsCaster 50 = .ok (.invokestatic 94, 3) := by decide +kernel
theorem dX7_fitsCaster_53 : decode cX7_fitsCaster 53 = .ok (.ireturn, 1) := by decide +kernel
theorem dX7_fitsCaster_54 : decode cX7_fitsCaster 54 = .ok (.aload_n 0, 1) := by decide +kernel
theorem dX7_fitsCaster_55 : decode cX7_fitsCaster 55 = .ok (.getfield 75, 3) := by decide +kernel
theorem dX7_fitsCaster_58 : decode cX7_fitsCaster 58 = .ok (.iconst 4, 1) := by decide +kernel
theorem dX7_fitsCaster_59 : decode cX7_fitsCaster 59 = .ok (.if_icmp .ge 7, 3) := by decide +kernel
theorem dX7_fitsCaster_62 : decode cX7_fitsCaster 62 = .ok (.iconst 1, 1) := by decide +kernel
theorem dX7_fitsCaster_63 : decode cX7_fitsCaster 63 = .ok (.goto 4, 3) := by decide +kernel
theorem dX7_fitsCaster_66 : decode cX7_fitsCaster 66 = .ok (.iconst 0, 1) := by decide +kernel
theorem dX7_fitsCaster_67 : decode cX7_fitsCaster 67 = .ok (.ireturn, 1) := by decide +kernel
theorem dX7_isFull_0 : decode cX7_isFull 0 = .ok (.aload_n 0, 1) := by decide +kernel
theorem dX7_isFull_1 : decode cX7_isFull 1 = .ok (.getfield 19, 3) := by decide +kernel
theorem dX7_isFull_4 : decode cX7_isFull 4 = .ok (.sipush 150, 3) := by decide +kernel
theorem dX7_isFull_7 : decode cX7_isFull 7 = .ok (.if_icmp .lt 7, 3) := by decide +kernel
theorem dX7_isFull_10 : decode cX7_isFull 10 = .ok (.iconst 1, 1) := by decide +kernel
theorem dX7_isFull_11 : decode cX7_isFull 11 = .ok (.goto 4, 3) := by decide +kernel
theorem dX7_isFull_14 : decode cX7_isFull 14 = .ok (.iconst 0, 1) := by decide +kernel
theorem dX7_isFull_15 : decode cX7_isFull 15 = .ok (.ireturn, 1) := by decide +kernel
theorem dX7_mayBegin_0 : decode cX7_mayBegin 0 = .ok (.iload_n 1, 1) := by decide +kernel
theorem dX7_mayBegin_1 : decode cX7_mayBegin 1 = .ok (.tableswitch 72 (-1) 2 #[31, 33, 35, 54], 31) := by decide +kernel
theorem dX7_mayBegin_32 : decode cX7_mayBegin 32 = .ok (.iconst 0, 1) := by decide +kernel
theorem dX7_mayBegin_33 : decode cX7_mayBegin 33 = .ok (.ireturn, 1) := by decide +kernel
theorem dX7_mayBegin_34 : decode cX7_mayBegin 34 = .ok (.iload_n 2, 1) := by decide +kernel
theorem dX7_mayBegin_35 : decode cX7_mayBegin 35 = .ok (.ireturn, 1) := by decide +kernel
theorem dX7_mayBegin_36 : decode cX7_mayBegin 36 = .ok (.iload_n 2, 1) := by decide +kernel
theorem dX7_mayBegin_37 : decode cX7_mayBegin 37 = .ok (.ifCond .ne 16, 3) := by decide +kernel
theorem dX7_mayBegin_40 : decode cX7_mayBegin 40 = .ok (.aload_n 0, 1) := by decide +kernel
theorem dX7_mayBegin_41 : decode cX7_mayBegin 41 = .ok (.getfield 61, 3) := by decide +kernel
theorem dX7_mayBegin_44 : decode cX7_mayBegin 44 = .ok (.bipush 7, 2) := by decide +kernel
theorem dX7_mayBegin_46 : decode cX7_mayBegin 46 = .ok (.if_icmp .ge 7, 3) := by decide +kernel
theorem dX7_mayBegin_49 : decode cX7_mayBegin 49 = .ok (.iconst 1, 1) := by decide +kernel
theorem dX7_mayBegin_50 : decode cX7_mayBegin 50 = .ok (.goto 4, 3) := by decide +kernel
theorem dX7_mayBegin_53 : decode cX7_mayBegin 53 = .ok (.iconst 0, 1) := by decide +kernel
theorem dX7_mayBegin_54 : decode cX7_mayBegin 54 = .ok (.ireturn, 1) := by decide +kernel
theorem dX7_mayBegin_55 : decode cX7_mayBegin 55 = .ok (.iload_n 2, 1) := by decide +kernel
theorem dX7_mayBegin_56 : decode cX7_mayBegin 56 = .ok (.ifCond .ne 15, 3) := by decide +kernel
theorem dX7_mayBegin_59 : decode cX7_mayBegin 59 = .ok (.aload_n 0, 1) := by decide +kernel
theorem dX7_mayBegin_60 : decode cX7_mayBegin 60 = .ok (.getfield 64, 3) := by decide +kernel
theorem dX7_mayBegin_63 : decode cX7_mayBegin 63 = .ok (.iconst 4, 1) := by decide +kernel
theorem dX7_mayBegin_64 : decode cX7_mayBegin 64 = .ok (.if_icmp .ge 7, 3) := by decide +kernel
theorem dX7_mayBegin_67 : decode cX7_mayBegin 67 = .ok (.iconst 1, 1) := by decide +kernel
theorem dX7_mayBegin_68 : decode cX7_mayBegin 68 = .ok (.goto 4, 3) := by decide +kernel
theorem dX7_mayBegin_71 : decode cX7_mayBegin 71 = .ok (.iconst 0, 1) := by decide +kernel
theorem dX7_mayBegin_72 : decode cX7_mayBegin 72 = .ok (.ireturn, 1) := by decide +kernel
theorem dX7_mayBegin_73 : decode cX7_mayBegin 73 = .ok (.iload_n 2, 1) := by decide +kernel
theorem dX7_mayBegin_74 : decode cX7_mayBegin 74 = .ok (.ifCond .ne 7, 3) := by decide +kernel
theorem dX7_mayBegin_77 : decode cX7_mayBegin 77 = .ok (.iconst 1, 1) := by decide +kernel
theorem dX7_mayBegin_78 : decode cX7_mayBegin 78 = .ok (.goto 4, 3) := by decide +kernel
theorem dX7_mayBegin_81 : decode cX7_mayBegin 81 = .ok (.iconst 0, 1) := by decide +kernel
theorem dX7_mayBegin_82 : decode cX7_mayBegin 82 = .ok (.ireturn, 1) := by decide +kernel
theorem dX7_numbersOf_0 : decode cX7_numbersOf 0 = .ok (.iload_n 0, 1) := by decide +kernel
theorem dX7_numbersOf_1 : decode cX7_numbersOf 1 = .ok (.tableswitch 35 1 4 #[31, 35, 33, 33], 31) := by decide +kernel
theorem dX7_numbersOf_32 : decode cX7_numbersOf 32 = .ok (.iconst 3, 1) := by decide +kernel
theorem dX7_numbersOf_33 : decode cX7_numbersOf 33 = .ok (.ireturn, 1) := by decide +kernel
theorem dX7_numbersOf_34 : decode cX7_numbersOf 34 = .ok (.iconst 2, 1) := by decide +kernel
theorem dX7_numbersOf_35 : decode cX7_numbersOf 35 = .ok (.ireturn, 1) := by decide +kernel
theorem dX7_numbersOf_36 : decode cX7_numbersOf 36 = .ok (.iconst 1, 1) := by decide +kernel
theorem dX7_numbersOf_37 : decode cX7_numbersOf 37 = .ok (.ireturn, 1) := by decide +kernel
theorem dX7_takeNumbers_0 : decode cX7_takeNumbers 0 = .ok (.iload_n 2, 1) := by decide +kernel
theorem dX7_takeNumbers_1 : decode cX7_takeNumbers 1 = .ok (.invokestatic 67, 3) := by decide +kernel
theorem dX7_takeNumbers_4 : decode cX7_takeNumbers 4 = .ok (.istore_n 3, 1) := by decide +kernel
theorem dX7_takeNumbers_5 : decode cX7_takeNumbers 5 = .ok (.iconst 0, 1) := by decide +kernel
theorem dX7_takeNumbers_6 : decode cX7_takeNumbers 6 = .ok (.istore 4, 2) := by decide +kernel
theorem dX7_takeNumbers_8 : decode cX7_takeNumbers 8 = .ok (.iload 4, 2) := by decide +kernel
theorem dX7_takeNumbers_10 : decode cX7_takeNumbers 10 = .ok (.iload_n 3, 1) := by decide +kernel
theorem dX7_takeNumbers_11 : decode cX7_takeNumbers 11 = .ok (.if_icmp .ge 55, 3) := by decide +kernel
theorem dX7_takeNumbers_14 : decode cX7_takeNumbers 14 = .ok (.iload 4, 2) := by decide +kernel
theorem dX7_takeNumbers_16 : decode cX7_takeNumbers 16 = .ok (.aload_n 0, 1) := by decide +kernel
theorem dX7_takeNumbers_17 : decode cX7_takeNumbers 17 = .ok (.getfield 15, 3) := by decide +kernel
theorem dX7_takeNumbers_20 : decode cX7_takeNumbers 20 = .ok (.arraylength, 1) := by decide +kernel
theorem dX7_takeNumbers_21 : decode cX7_takeNumbers 21 = .ok (.if_icmp .ge 45, 3) := by decide +kernel
theorem dX7_takeNumbers_24 : decode cX7_takeNumbers 24 = .ok (.aload_n 0, 1) := by decide +kernel
theorem dX7_takeNumbers_25 : decode cX7_takeNumbers 25 = .ok (.invokevirtual 36, 3) := by decide +kernel
theorem dX7_takeNumbers_28 : decode cX7_takeNumbers 28 = .ok (.aload_n 0, 1) := by decide +kernel
theorem dX7_takeNumbers_29 : decode cX7_takeNumbers 29 = .ok (.getfield 39, 3) := by decide +kernel
theorem dX7_takeNumbers_32 : decode cX7_takeNumbers 32 = .ok (.iconst 2, 1) := by decide +kernel
theorem dX7_takeNumbers_33 : decode cX7_takeNumbers 33 = .ok (.if_icmp .ne 14, 3) := by decide +kernel
theorem dX7_takeNumbers_36 : decode cX7_takeNumbers 36 = .ok (.aload_n 0, 1) := by decide +kernel
theorem dX7_takeNumbers_37 : decode cX7_takeNumbers 37 = .ok (.aload_n 1, 1) := by decide +kernel
theorem dX7_takeNumbers_38 : decode cX7_takeNumbers 38 = .ok (.iload_n 2, 1) := by decide +kernel
theorem dX7_takeNumbers_39 : decode cX7_takeNumbers 39 = .ok (.iload 4, 2) := by decide +kernel
theorem dX7_takeNumbers_41 : decode cX7_takeNumbers 41 = .ok (.invokevirtual 71, 3) := by decide +kernel
theorem dX7_takeNumbers_44 : decode cX7_takeNumbers 44 = .ok (.ifCond .ne 5, 3) := by decide +kernel
theorem dX7_takeNumbers_47 : decode cX7_takeNumbers 47 = .ok (.iconst 0, 1) := by decide +kernel
theorem dX7_takeNumbers_48 : decode cX7_takeNumbers 48 = .ok (.ireturn, 1) := by decide +kernel
theorem dX7_takeNumbers_49 : decode cX7_takeNumbers 49 = .ok (.aload_n 0, 1) := by decide +kernel
theorem dX7_takeNumbers_50 : decode cX7_takeNumbers 50 = .ok (.getfield 15, 3) := by decide +kernel
theorem dX7_takeNumbers_53 : decode cX7_takeNumbers 53 = .ok (.iload 4, 2) := by decide +kernel
theorem dX7_takeNumbers_55 : decode cX7_takeNumbers 55 = .ok (.aload_n 0, 1) := by decide +kernel
theorem dX7_takeNumbers_56 : decode cX7_takeNumbers 56 = .ok (.getfield 75, 3) := by decide +kernel
theorem dX7_takeNumbers_59 : decode cX7_takeNumbers 59 = .ok (.iastore, 1) := by decide +kernel
theorem dX7_takeNumbers_60 : decode cX7_takeNumbers 60 = .ok (.iinc 4 1, 3) := by decide +kernel
theorem dX7_takeNumbers_63 : decode cX7_takeNumbers 63 = .ok (.goto (-55), 3) := by decide +kernel
theorem dX7_takeNumbers_66 : decode cX7_takeNumbers 66 = .ok (.aload_n 0, 1) := by decide +kernel
theorem dX7_takeNumbers_67 : decode cX7_takeNumbers 67 = .ok (.invokevirtual 36, 3) := by decide +kernel
theorem dX7_takeNumbers_70 : decode cX7_takeNumbers 70 = .ok (.aload_n 0, 1) := by decide +kernel
theorem dX7_takeNumbers_71 : decode cX7_takeNumbers 71 = .ok (.getfield 39, 3) := by decide +kernel
theorem dX7_takeNumbers_74 : decode cX7_takeNumbers 74 = .ok (.iconst 3, 1) := by decide +kernel
theorem dX7_takeNumbers_75 : decode cX7_takeNumbers 75 = .ok (.if_icmp .ne 7, 3) := by decide +kernel
theorem dX7_takeNumbers_78 : decode cX7_takeNumbers 78 = .ok (.iconst 1, 1) := by decide +kernel
theorem dX7_takeNumbers_79 : decode cX7_takeNumbers 79 = .ok (.goto 4, 3) := by decide +kernel
theorem dX7_takeNumbers_82 : decode cX7_takeNumbers 82 = .ok (.iconst 0, 1) := by decide +kernel
theorem dX7_takeNumbers_83 : decode cX7_takeNumbers 83 = .ok (.ireturn, 1) := by decide +kernel
theorem dX7_tell_0 : decode cX7_tell 0 = .ok (.aload_n 1, 1) := by decide +kernel
theorem dX7_tell_1 : decode cX7_tell 1 = .ok (.iconst 0, 1) := by decide +kernel
theorem dX7_tell_2 : decode cX7_tell 2 = .ok (.invokevirtual 27, 3) := by decide +kernel
theorem dX7_tell_5 : decode cX7_tell 5 = .ok (.aload_n 0, 1) := by decide +kernel
theorem dX7_tell_6 : decode cX7_tell 6 = .ok (.iconst 0, 1) := by decide +kernel
theorem dX7_tell_7 : decode cX7_tell 7 = .ok (.putfield 33, 3) := by decide +kernel
theorem dX7_tell_10 : decode cX7_tell 10 = .ok (.iconst 0, 1) := by decide +kernel
theorem dX7_tell_11 : decode cX7_tell 11 = .ok (.istore_n 2, 1) := by decide +kernel
theorem dX7_tell_12 : decode cX7_tell 12 = .ok (.iload_n 2, 1) := by decide +kernel
theorem dX7_tell_13 : decode cX7_tell 13 = .ok (.sipush 150, 3) := by decide +kernel
theorem dX7_tell_16 : decode cX7_tell 16 = .ok (.if_icmp .gt 78, 3) := by decide +kernel
theorem dX7_tell_19 : decode cX7_tell 19 = .ok (.aload_n 0, 1) := by decide +kernel
theorem dX7_tell_20 : decode cX7_tell 20 = .ok (.invokevirtual 36, 3) := by decide +kernel
theorem dX7_tell_23 : decode cX7_tell 23 = .ok (.aload_n 0, 1) := by decide +kernel
theorem dX7_tell_24 : decode cX7_tell 24 = .ok (.getfield 39, 3) := by decide +kernel
theorem dX7_tell_27 : decode cX7_tell 27 = .ok (.ifCond .ne 9, 3) := by decide +kernel
theorem dX7_tell_30 : decode cX7_tell 30 = .ok (.iload_n 2, 1) := by decide +kernel
theorem dX7_tell_31 : decode cX7_tell 31 = .ok (.ifCond .le 5, 3) := by decide +kernel
theorem dX7_tell_34 : decode cX7_tell 34 = .ok (.iload_n 2, 1) := by decide +kernel
theorem dX7_tell_35 : decode cX7_tell 35 = .ok (.ireturn, 1) := by decide +kernel
theorem dX7_tell_36 : decode cX7_tell 36 = .ok (.aload_n 0, 1) := by decide +kernel
theorem dX7_tell_37 : decode cX7_tell 37 = .ok (.getfield 39, 3) := by decide +kernel
theorem dX7_tell_40 : decode cX7_tell 40 = .ok (.iconst 1, 1) := by decide +kernel
theorem dX7_tell_41 : decode cX7_tell 41 = .ok (.if_icmp .ne 10, 3) := by decide +kernel
theorem dX7_tell_44 : decode cX7_tell 44 = .ok (.aload_n 0, 1) := by decide +kernel
theorem dX7_tell_45 : decode cX7_tell 45 = .ok (.invokevirtual 42, 3) := by decide +kernel
theorem dX7_tell_48 : decode cX7_tell 48 = .ok (.goto 4, 3) := by decide +kernel
theorem dX7_tell_51 : decode cX7_tell 51 = .ok (.iconst (-1), 1) := by decide +kernel
theorem dX7_tell_52 : decode cX7_tell 52 = .ok (.istore_n 3, 1) := by decide +kernel
theorem dX7_tell_53 : decode cX7_tell 53 = .ok (.aload_n 1, 1) := by decide +kernel
theorem dX7_tell_54 : decode cX7_tell 54 = .ok (.iload_n 3, 1) := by decide +kernel
theorem dX7_tell_55 : decode cX7_tell 55 = .ok (.iload_n 2, 1) := by decide +kernel
theorem dX7_tell_56 : decode cX7_tell 56 = .ok (.ifCond .ne 7, 3) := by decide +kernel
theorem dX7_tell_59 : decode cX7_tell 59 = .ok (.iconst 1, 1) := by decide +kernel
theorem dX7_tell_60 : decode cX7_tell 60 = .ok (.goto 4, 3) := by decide +kernel
theorem dX7_tell_63 : decode cX7_tell 63 = .ok (.iconst 0, 1) := by decide +kernel
theorem dX7_tell_64 : decode cX7_tell 64 = .ok (.invokestatic 46, 3) := by decide +kernel
theorem dX7_tell_67 : decode cX7_tell 67 = .ok (.ifCond .eq 27, 3) := by decide +kernel
theorem dX7_tell_70 : decode cX7_tell 70 = .ok (.aload_n 0, 1) := by decide +kernel
theorem dX7_tell_71 : decode cX7_tell 71 = .ok (.aload_n 1, 1) := by decide +kernel
theorem dX7_tell_72 : decode cX7_tell 72 = .ok (.iload_n 3, 1) := by decide +kernel
theorem dX7_tell_73 : decode cX7_tell 73 = .ok (.invokevirtual 50, 3) := by decide +kernel
theorem dX7_tell_76 : decode cX7_tell 76 = .ok (.ifCond .ne 6, 3) := by decide +kernel
theorem dX7_tell_79 : decode cX7_tell 79 = .ok (.goto 15, 3) := by decide +kernel
theorem dX7_tell_82 : decode cX7_tell 82 = .ok (.aload_n 0, 1) := by decide +kernel
theorem dX7_tell_83 : decode cX7_tell 83 = .ok (.aload_n 1, 1) := by decide +kernel
theorem dX7_tell_84 : decode cX7_tell 84 = .ok (.iload_n 3, 1) := by decide +kernel
theorem dX7_tell_85 : decode cX7_tell 85 = .ok (.invokevirtual 54, 3) := by decide +kernel
theorem dX7_tell_88 : decode cX7_tell 88 = .ok (.iinc 2 1, 3) := by decide +kernel
theorem dX7_tell_91 : decode cX7_tell 91 = .ok (.goto (-79), 3) := by decide +kernel
theorem dX7_tell_94 : decode cX7_tell 94 = .ok (.bipush (-10), 2) := by decide +kernel
theorem dX7_tell_96 : decode cX7_tell 96 = .ok (.aload_n 0, 1) := by decide +kernel
theorem dX7_tell_97 : decode cX7_tell 97 = .ok (.getfield 58, 3) := by decide +kernel
theorem dX7_tell_100 : decode cX7_tell 100 = .ok (.isub, 1) := by decide +kernel
theorem dX7_tell_101 : decode cX7_tell 101 = .ok (.ireturn, 1) := by decide +kernel
theorem dX8_clear_0 : decode cX8_clear 0 = .ok (.aload_n 0, 1) := by decide +kernel
theorem dX8_clear_1 : decode cX8_clear 1 = .ok (.getfield 30, 3) := by decide +kernel
theorem dX8_clear_4 : decode cX8_clear 4 = .ok (.invokevirtual 97, 3) := by decide +kernel
theorem dX8_clear_7 : decode cX8_clear 7 = .ok (.ireturn, 1) := by decide +kernel
theorem dX8_from_0 : decode cX8_from 0 = .ok (.iload_n 1, 1) := by decide +kernel
theorem dX8_from_1 : decode cX8_from 1 = .ok (.iconst 0, 1) := by decide +kernel
theorem dX8_from_2 : decode cX8_from 2 = .ok (.iconst 1, 1) := by decide +kernel
theorem dX8_from_3 : decode cX8_from 3 = .ok (.invokestatic 55, 3) := by decide +kernel
theorem dX8_from_6 : decode cX8_from 6 = .ok (.ifCond .ne 10, 3) := by decide +kernel
theorem dX8_from_9 : decode cX8_from 9 = .ok (.aload_n 0, 1) := by decide +kernel
theorem dX8_from_10 : decode cX8_from 10 = .ok (.bipush (-2), 2) := by decide +kernel
theorem dX8_from_12 : decode cX8_from 12 = .ok (.invokevirtual 59, 3) := by decide +kernel
theorem dX8_from_15 : decode cX8_from 15 = .ok (.ireturn, 1) := by decide +kernel
theorem dX8_from_16 : decode cX8_from 16 = .ok (.aload_n 0, 1) := by decide +kernel
theorem dX8_from_17 : decode cX8_from 17 = .ok (.getfield 23, 3) := by decide +kernel
theorem dX8_from_20 : decode cX8_from 20 = .ok (.iload_n 1, 1) := by decide +kernel
theorem dX8_from_21 : decode cX8_from 21 = .ok (.baload, 1) := by decide +kernel
theorem dX8_from_22 : decode cX8_from 22 = .ok (.ifCond .ne 10, 3) := by decide +kernel
theorem dX8_from_25 : decode cX8_from 25 = .ok (.aload_n 0, 1) := by decide +kernel
theorem dX8_from_26 : decode cX8_from 26 = .ok (.bipush (-3), 2) := by decide +kernel
theorem dX8_from_28 : decode cX8_from 28 = .ok (.invokevirtual 59, 3) := by decide +kernel
theorem dX8_from_31 : decode cX8_from 31 = .ok (.ireturn, 1) := by decide +kernel
theorem dX8_from_32 : decode cX8_from 32 = .ok (.aload_n 0, 1) := by decide +kernel
theorem dX8_from_33 : decode cX8_from 33 = .ok (.getfield 10, 3) := by decide +kernel
theorem dX8_from_36 : decode cX8_from 36 = .ok (.aload_n 0, 1) := by decide +kernel
theorem dX8_from_37 : decode cX8_from 37 = .ok (.getfield 19, 3) := by decide +kernel
theorem dX8_from_40 : decode cX8_from 40 = .ok (.iload_n 1, 1) := by decide +kernel
theorem dX8_from_41 : decode cX8_from 41 = .ok (.aaload, 1) := by decide +kernel
theorem dX8_from_42 : decode cX8_from 42 = .ok (.invokevirtual 104, 3) := by decide +kernel
theorem dX8_from_45 : decode cX8_from 45 = .ok (.iconst 1, 1) := by decide +kernel
theorem dX8_from_46 : decode cX8_from 46 = .ok (.ireturn, 1) := by decide +kernel
theorem dX8_image_0 : decode cX8_image 0 = .ok (.iload_n 1, 1) := by decide +kernel
theorem dX8_image_1 : decode cX8_image 1 = .ok (.iconst 0, 1) := by decide +kernel
theorem dX8_image_2 : decode cX8_image 2 = .ok (.iconst 1, 1) := by decide +kernel
theorem dX8_image_3 : decode cX8_image 3 = .ok (.invokestatic 55, 3) := by decide +kernel
theorem dX8_image_6 : decode cX8_image 6 = .ok (.ifCond .ne 10, 3) := by decide +kernel
theorem dX8_image_9 : decode cX8_image 9 = .ok (.aload_n 0, 1) := by decide +kernel
theorem dX8_image_10 : decode cX8_image 10 = .ok (.bipush (-2), 2) := by decide +kernel
theorem dX8_image_12 : decode cX8_image 12 = .ok (.invokevirtual 59, 3) := by decide +kernel
theorem dX8_image_15 : decode cX8_image 15 = .ok (.ireturn, 1) := by decide +kernel
theorem dX8_image_16 : decode cX8_image 16 = .ok (.aload_n 0, 1) := by decide +kernel
theorem dX8_image_17 : decode cX8_image 17 = .ok (.getfield 19, 3) := by decide +kernel
theorem dX8_image_20 : decode cX8_image 20 = .ok (.iload_n 1, 1) := by decide +kernel
theorem dX8_image_21 : decode cX8_image 21 = .ok (.aaload, 1) := by decide +kernel
theorem dX8_image_22 : decode cX8_image 22 = .ok (.aload_n 0, 1) := by decide +kernel
theorem dX8_image_23 : decode cX8_image 23 = .ok (.getfield 10, 3) := by decide +kernel
theorem dX8_image_26 : decode cX8_image 26 = .ok (.invokevirtual 104, 3) := by decide +kernel
theorem dX8_image_29 : decode cX8_image 29 = .ok (.aload_n 0, 1) := by decide +kernel
theorem dX8_image_30 : decode cX8_image 30 = .ok (.getfield 23, 3) := by decide +kernel
theorem dX8_image_33 : decode cX8_image 33 = .ok (.iload_n 1, 1) := by decide +kernel
theorem dX8_image_34 : decode cX8_image 34 = .ok (.iconst 1, 1) := by decide +kernel
theorem dX8_image_35 : decode cX8_image 35 = .ok (.bastore, 1) := by decide +kernel
theorem dX8_image_36 : decode cX8_image 36 = .ok (.iconst 1, 1) := by decide +kernel
theorem dX8_image_37 : decode cX8_image 37 = .ok (.ireturn, 1) := by decide +kernel
theorem dX8_read_0 : decode cX8_read 0 = .ok (.aload_n 0, 1) := by decide +kernel
theorem dX8_read_1 : decode cX8_read 1 = .ok (.getfield 30, 3) := by decide +kernel
theorem dX8_read_4 : decode cX8_read 4 = .ok (.aload_n 0, 1) := by decide +kernel
theorem dX8_read_5 : decode cX8_read 5 = .ok (.getfield 16, 3) := by decide +kernel
theorem dX8_read_8 : decode cX8_read 8 = .ok (.invokevirtual 100, 3) := by decide +kernel
theorem dX8_read_11 : decode cX8_read 11 = .ok (.istore_n 1, 1) := by decide +kernel
theorem dX8_read_12 : decode cX8_read 12 = .ok (.iload_n 1, 1) := by decide +kernel
theorem dX8_read_13 : decode cX8_read 13 = .ok (.ifCond .le 14, 3) := by decide +kernel
theorem dX8_read_16 : decode cX8_read 16 = .ok (.aload_n 0, 1) := by decide +kernel
theorem dX8_read_17 : decode cX8_read 17 = .ok (.getfield 10, 3) := by decide +kernel
theorem dX8_read_20 : decode cX8_read 20 = .ok (.aload_n 0, 1) := by decide +kernel
theorem dX8_read_21 : decode cX8_read 21 = .ok (.getfield 16, 3) := by decide +kernel
theorem dX8_read_24 : decode cX8_read 24 = .ok (.invokevirtual 104, 3) := by decide +kernel
theorem dX8_read_27 : decode cX8_read 27 = .ok (.iload_n 1, 1) := by decide +kernel
theorem dX8_read_28 : decode cX8_read 28 = .ok (.ireturn, 1) := by decide +kernel
theorem dX8_type_0 : decode cX8_type 0 = .ok (.iload_n 1, 1) := by decide +kernel
theorem dX8_type_1 : decode cX8_type 1 = .ok (.iconst 0, 1) := by decide +kernel
theorem dX8_type_2 : decode cX8_type 2 = .ok (.bipush 127, 2) := by decide +kernel
theorem dX8_type_4 : decode cX8_type 4 = .ok (.invokestatic 55, 3) := by decide +kernel
theorem dX8_type_7 : decode cX8_type 7 = .ok (.ifCond .ne 10, 3) := by decide +kernel
theorem dX8_type_10 : decode cX8_type 10 = .ok (.aload_n 0, 1) := by decide +kernel
theorem dX8_type_11 : decode cX8_type 11 = .ok (.bipush (-2), 2) := by decide +kernel
theorem dX8_type_13 : decode cX8_type 13 = .ok (.invokevirtual 59, 3) := by decide +kernel
theorem dX8_type_16 : decode cX8_type 16 = .ok (.ireturn, 1) := by decide +kernel
theorem dX8_type_17 : decode cX8_type 17 = .ok (.aload_n 0, 1) := by decide +kernel
theorem dX8_type_18 : decode cX8_type 18 = .ok (.getfield 30, 3) := by decide +kernel
theorem dX8_type_21 : decode cX8_type 21 = .ok (.invokevirtual 90, 3) := by decide +kernel
theorem dX8_type_24 : decode cX8_type 24 = .ok (.ifCond .eq 10, 3) := by decide +kernel
theorem dX8_type_27 : decode cX8_type 27 = .ok (.aload_n 0, 1) := by decide +kernel
theorem dX8_type_28 : decode cX8_type 28 = .ok (.bipush (-4), 2) := by decide +kernel
theorem dX8_type_30 : decode cX8_type 30 = .ok (.invokevirtual 59, 3) := by decide +kernel
theorem dX8_type_33 : decode cX8_type 33 = .ok (.ireturn, 1) := by decide +kernel
theorem dX8_type_34 : decode cX8_type 34 = .ok (.aload_n 0, 1) := by decide +kernel
theorem dX8_type_35 : decode cX8_type 35 = .ok (.getfield 30, 3) := by decide +kernel
theorem dX8_type_38 : decode cX8_type 38 = .ok (.iload_n 1, 1) := by decide +kernel
theorem dX8_type_39 : decode cX8_type 39 = .ok (.invokevirtual 94, 3) := by decide +kernel
theorem dX8_type_42 : decode cX8_type 42 = .ok (.ireturn, 1) := by decide +kernel
