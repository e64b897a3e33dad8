theorem dX9_bad_0 : decode cX9_bad 0 = .ok (.aload_n 0, 1) := by decide +kernel
theorem dX9_bad_1 : decode cX9_bad 1 = .ok (.getfield 20, 3) := by decide +kernel
theorem dX9_bad_4 : decode cX9_bad 4 = .ok (.iconst 0, 1) := by decide +kernel
theorem dX9_bad_5 : decode cX9_bad 5 = .ok (.dup2, 1) := by decide +kernel
theorem dX9_bad_6 : decode cX9_bad 6 = .ok (.iaload, 1) := by decide +kernel
theorem dX9_bad_7 : decode cX9_bad 7 = .ok (.iconst 1, 1) := by decide +kernel
theorem dX9_bad_8 : decode cX9_bad 8 = .ok (.iadd, 1) := by decide +kernel
theorem dX9_bad_9 : decode cX9_bad 9 = .ok (.iastore, 1) := by decide +kernel
theorem dX9_bad_10 : decode cX9_bad 10 = .ok (.iload_n 1, 1) := by decide +kernel
theorem dX9_bad_11 : decode cX9_bad 11 = .ok (.ireturn, 1) := by decide +kernel
theorem dX9_begin_0 : decode cX9_begin 0 = .ok (.iconst 0, 1) := by decide +kernel
theorem dX9_begin_1 : decode cX9_begin 1 = .ok (.istore_n 2, 1) := by decide +kernel
theorem dX9_begin_2 : decode cX9_begin 2 = .ok (.iload_n 2, 1) := by decide +kernel
theorem dX9_begin_3 : decode cX9_begin 3 = .ok (.bipush 89, 2) := by decide +kernel
theorem dX9_begin_5 : decode cX9_begin 5 = .ok (.if_icmp .ge 13, 3) := by decide +kernel
theorem dX9_begin_8 : decode cX9_begin 8 = .ok (.aload_n 0, 1) := by decide +kernel
theorem dX9_begin_9 : decode cX9_begin 9 = .ok (.iload_n 2, 1) := by decide +kernel
theorem dX9_begin_10 : decode cX9_begin 10 = .ok (.iconst 0, 1) := by decide +kernel
theorem dX9_begin_11 : decode cX9_begin 11 = .ok (.iastore, 1) := by decide +kernel
theorem dX9_begin_12 : decode cX9_begin 12 = .ok (.iinc 2 1, 3) := by decide +kernel
theorem dX9_begin_15 : decode cX9_begin 15 = .ok (.goto (-13), 3) := by decide +kernel
theorem dX9_begin_18 : decode cX9_begin 18 = .ok (.aload_n 0, 1) := by decide +kernel
theorem dX9_begin_19 : decode cX9_begin 19 = .ok (.iconst 5, 1) := by decide +kernel
theorem dX9_begin_20 : decode cX9_begin 20 = .ok (.iload_n 1, 1) := by decide +kernel
theorem dX9_begin_21 : decode cX9_begin 21 = .ok (.iastore, 1) := by decide +kernel
theorem dX9_begin_22 : decode cX9_begin 22 = .ok (.return_, 1) := by decide +kernel
theorem dX9_bits_0 : decode cX9_bits 0 = .ok (.iconst 0, 1) := by decide +kernel
theorem dX9_bits_1 : decode cX9_bits 1 = .ok (.istore_n 1, 1) := by decide +kernel
theorem dX9_bits_2 : decode cX9_bits 2 = .ok (.iload_n 0, 1) := by decide +kernel
theorem dX9_bits_3 : decode cX9_bits 3 = .ok (.istore_n 2, 1) := by decide +kernel
theorem dX9_bits_4 : decode cX9_bits 4 = .ok (.iload_n 2, 1) := by decide +kernel
theorem dX9_bits_5 : decode cX9_bits 5 = .ok (.ifCond .le 16, 3) := by decide +kernel
theorem dX9_bits_8 : decode cX9_bits 8 = .ok (.iload_n 1, 1) := by decide +kernel
theorem dX9_bits_9 : decode cX9_bits 9 = .ok (.iload_n 2, 1) := by decide +kernel
theorem dX9_bits_10 : decode cX9_bits 10 = .ok (.iconst 1, 1) := by decide +kernel
theorem dX9_bits_11 : decode cX9_bits 11 = .ok (.iand, 1) := by decide +kernel
theorem dX9_bits_12 : decode cX9_bits 12 = .ok (.iadd, 1) := by decide +kernel
theorem dX9_bits_13 : decode cX9_bits 13 = .ok (.istore_n 1, 1) := by decide +kernel
theorem dX9_bits_14 : decode cX9_bits 14 = .ok (.iload_n 2, 1) := by decide +kernel
theorem dX9_bits_15 : decode cX9_bits 15 = .ok (.iconst 1, 1) := by decide +kernel
theorem dX9_bits_16 : decode cX9_bits 16 = .ok (.ishr, 1) := by decide +kernel
theorem dX9_bits_17 : decode cX9_bits 17 = .ok (.istore_n 2, 1) := by decide +kernel
theorem dX9_bits_18 : decode cX9_bits 18 = .ok (.goto (-14), 3) := by decide +kernel
theorem dX9_bits_21 : decode cX9_bits 21 = .ok (.iload_n 1, 1) := by decide +kernel
theorem dX9_bits_22 : decode cX9_bits 22 = .ok (.ireturn, 1) := by decide +kernel
theorem dX9_full_0 : decode cX9_full 0 = .ok (.aload_n 0, 1) := by decide +kernel
theorem dX9_full_1 : decode cX9_full 1 = .ok (.getfield 20, 3) := by decide +kernel
theorem dX9_full_4 : decode cX9_full 4 = .ok (.iconst 2, 1) := by decide +kernel
theorem dX9_full_5 : decode cX9_full 5 = .ok (.dup2, 1) := by decide +kernel
theorem dX9_full_6 : decode cX9_full 6 = .ok (.iaload, 1) := by decide +kernel
theorem dX9_full_7 : decode cX9_full 7 = .ok (.iconst 1, 1) := by decide +kernel
theorem dX9_full_8 : decode cX9_full 8 = .ok (.iadd, 1) := by decide +kernel
theorem dX9_full_9 : decode cX9_full 9 = .ok (.iastore, 1) := by decide +kernel
theorem dX9_full_10 : decode cX9_full 10 = .ok (.bipush (-4), 2) := by decide +kernel
theorem dX9_full_12 : decode cX9_full 12 = .ok (.ireturn, 1) := by decide +kernel
theorem dX9_givesAs_0 : decode cX9_givesAs 0 = .ok (.iload_n 1, 1) := by decide +kernel
theorem dX9_givesAs_1 : decode cX9_givesAs 1 = .ok (.iconst 1, 1) := by decide +kernel
theorem dX9_givesAs_2 : decode cX9_givesAs 2 = .ok (.iadd, 1) := by decide +kernel
theorem dX9_givesAs_3 : decode cX9_givesAs 3 = .ok (.iconst 2, 1) := by decide +kernel
theorem dX9_givesAs_4 : decode cX9_givesAs 4 = .ok (.idiv, 1) := by decide +kernel
theorem dX9_givesAs_5 : decode cX9_givesAs 5 = .ok (.istore_n 3, 1) := by decide +kernel
theorem dX9_givesAs_6 : decode cX9_givesAs 6 = .ok (.iload_n 2, 1) := by decide +kernel
theorem dX9_givesAs_7 : decode cX9_givesAs 7 = .ok (.bipush 11, 2) := by decide +kernel
theorem dX9_givesAs_9 : decode cX9_givesAs 9 = .ok (.if_icmp .lt 15, 3) := by decide +kernel
theorem dX9_givesAs_12 : decode cX9_givesAs 12 = .ok (.iload_n 2, 1) := by decide +kernel
theorem dX9_givesAs_13 : decode cX9_givesAs 13 = .ok (.bipush 13, 2) := by decide +kernel
theorem dX9_givesAs_15 : decode cX9_givesAs 15 = .ok (.if_icmp .gt 9, 3) := by decide +kernel
theorem dX9_givesAs_18 : decode cX9_givesAs 18 = .ok (.iload_n 3, 1) := by decide +kernel
theorem dX9_givesAs_19 : decode cX9_givesAs 19 = .ok (.iload_n 1, 1) := by decide +kernel
theorem dX9_givesAs_20 : decode cX9_givesAs 20 = .ok (.iadd, 1) := by decide +kernel
theorem dX9_givesAs_21 : decode cX9_givesAs 21 = .ok (.goto 4, 3) := by decide +kernel
theorem dX9_givesAs_24 : decode cX9_givesAs 24 = .ok (.iload_n 3, 1) := by decide +kernel
theorem dX9_givesAs_25 : decode cX9_givesAs 25 = .ok (.istore 4, 2) := by decide +kernel
theorem dX9_givesAs_27 : decode cX9_givesAs 27 = .ok (.iload_n 2, 1) := by decide +kernel
theorem dX9_givesAs_28 : decode cX9_givesAs 28 = .ok (.bipush 12, 2) := by decide +kernel
theorem dX9_givesAs_30 : decode cX9_givesAs 30 = .ok (.if_icmp .le 10, 3) := by decide +kernel
theorem dX9_givesAs_33 : decode cX9_givesAs 33 = .ok (.iload_n 2, 1) := by decide +kernel
theorem dX9_givesAs_34 : decode cX9_givesAs 34 = .ok (.bipush 12, 2) := by decide +kernel
theorem dX9_givesAs_36 : decode cX9_givesAs 36 = .ok (.isub, 1) := by decide +kernel
theorem dX9_givesAs_37 : decode cX9_givesAs 37 = .ok (.goto 7, 3) := by decide +kernel
theorem dX9_givesAs_40 : decode cX9_givesAs 40 = .ok (.bipush 12, 2) := by decide +kernel
theorem dX9_givesAs_42 : decode cX9_givesAs 42 = .ok (.iload_n 2, 1) := by decide +kernel
theorem dX9_givesAs_43 : decode cX9_givesAs 43 = .ok (.isub, 1) := by decide +kernel
theorem dX9_givesAs_44 : decode cX9_givesAs 44 = .ok (.istore 5, 2) := by decide +kernel
theorem dX9_givesAs_46 : decode cX9_givesAs 46 = .ok (.iload_n 0, 1) := by decide +kernel
theorem dX9_givesAs_47 : decode cX9_givesAs 47 = .ok (.tableswitch 77 1 5 #[33, 36, 41, 55, 72], 33) := by decide +kernel
theorem dX9_givesAs_80 : decode cX9_givesAs 80 = .ok (.iload 4, 2) := by decide +kernel
theorem dX9_givesAs_82 : decode cX9_givesAs 82 = .ok (.ireturn, 1) := by decide +kernel
theorem dX9_givesAs_83 : decode cX9_givesAs 83 = .ok (.iload 4, 2) := by decide +kernel
theorem dX9_givesAs_85 : decode cX9_givesAs 85 = .ok (.iconst 2, 1) := by decide +kernel
theorem dX9_givesAs_86 : decode cX9_givesAs 86 = .ok (.idiv, 1) := by decide +kernel
theorem dX9_givesAs_87 : decode cX9_givesAs 87 = .ok (.ireturn, 1) := by decide +kernel
theorem dX9_givesAs_88 : decode cX9_givesAs 88 = .ok (.iload_n 2, 1) := by decide +kernel
theorem dX9_givesAs_89 : decode cX9_givesAs 89 = .ok (.iconst 3, 1) := by decide +kernel
theorem dX9_givesAs_90 : decode cX9_givesAs 90 = .ok (.irem, 1) := by decide +kernel
theorem dX9_givesAs_91 : decode cX9_givesAs 91 = .ok (.ifCond .ne 7, 3) := by decide +kernel
theorem dX9_givesAs_94 : decode cX9_givesAs 94 = .ok (.iconst 0, 1) := by decide +kernel
theorem dX9_givesAs_95 : decode cX9_givesAs 95 = .ok (.goto 6, 3) := by decide +kernel
theorem dX9_givesAs_98 : decode cX9_givesAs 98 = .ok (.iconst 2, 1) := by decide +kernel
theorem dX9_givesAs_99 : decode cX9_givesAs 99 = .ok (.iload_n 3, 1) := by decide +kernel
theorem dX9_givesAs_100 : decode cX9_givesAs 100 = .ok (.imul, 1) := by decide +kernel
theorem dX9_givesAs_101 : decode cX9_givesAs 101 = .ok (.ireturn, 1) := by decide +kernel
theorem dX9_givesAs_102 : decode cX9_givesAs 102 = .ok (.iload_n 3, 1) := by decide +kernel
theorem dX9_givesAs_103 : decode cX9_givesAs 103 = .ok (.iload 5, 2) := by decide +kernel
theorem dX9_givesAs_105 : decode cX9_givesAs 105 = .ok (.bipush 9, 2) := by decide +kernel
theorem dX9_givesAs_107 : decode cX9_givesAs 107 = .ok (.if_icmp .le 8, 3) := by decide +kernel
theorem dX9_givesAs_110 : decode cX9_givesAs 110 = .ok (.bipush 9, 2) := by decide +kernel
theorem dX9_givesAs_112 : decode cX9_givesAs 112 = .ok (.goto 5, 3) := by decide +kernel
theorem dX9_givesAs_115 : decode cX9_givesAs 115 = .ok (.iload 5, 2) := by decide +kernel
theorem dX9_givesAs_117 : decode cX9_givesAs 117 = .ok (.iadd, 1) := by decide +kernel
theorem dX9_givesAs_118 : decode cX9_givesAs 118 = .ok (.ireturn, 1) := by decide +kernel
theorem dX9_givesAs_119 : decode cX9_givesAs 119 = .ok (.iload 4, 2) := by decide +kernel
theorem dX9_givesAs_121 : decode cX9_givesAs 121 = .ok (.iconst 3, 1) := by decide +kernel
theorem dX9_givesAs_122 : decode cX9_givesAs 122 = .ok (.iadd, 1) := by decide +kernel
theorem dX9_givesAs_123 : decode cX9_givesAs 123 = .ok (.ireturn, 1) := by decide +kernel
theorem dX9_givesAs_124 : decode cX9_givesAs 124 = .ok (.iload_n 3, 1) := by decide +kernel
theorem dX9_givesAs_125 : decode cX9_givesAs 125 = .ok (.ireturn, 1) := by decide +kernel
theorem dX9_givesOf_0 : decode cX9_givesOf 0 = .ok (.aload_n 0, 1) := by decide +kernel
theorem dX9_givesOf_1 : decode cX9_givesOf 1 = .ok (.bipush 16, 2) := by decide +kernel
theorem dX9_givesOf_3 : decode cX9_givesOf 3 = .ok (.iload_n 1, 1) := by decide +kernel
theorem dX9_givesOf_4 : decode cX9_givesOf 4 = .ok (.iadd, 1) := by decide +kernel
theorem dX9_givesOf_5 : decode cX9_givesOf 5 = .ok (.iaload, 1) := by decide +kernel
theorem dX9_givesOf_6 : decode cX9_givesOf 6 = .ok (.aload_n 0, 1) := by decide +kernel
theorem dX9_givesOf_7 : decode cX9_givesOf 7 = .ok (.bipush 23, 2) := by decide +kernel
theorem dX9_givesOf_9 : decode cX9_givesOf 9 = .ok (.iload_n 1, 1) := by decide +kernel
theorem dX9_givesOf_10 : decode cX9_givesOf 10 = .ok (.iadd, 1) := by decide +kernel
theorem dX9_givesOf_11 : decode cX9_givesOf 11 = .ok (.iaload, 1) := by decide +kernel
theorem dX9_givesOf_12 : decode cX9_givesOf 12 = .ok (.aload_n 0, 1) := by decide +kernel
theorem dX9_givesOf_13 : decode cX9_givesOf 13 = .ok (.iconst 5, 1) := by decide +kernel
theorem dX9_givesOf_14 : decode cX9_givesOf 14 = .ok (.iaload, 1) := by decide +kernel
theorem dX9_givesOf_15 : decode cX9_givesOf 15 = .ok (.iload_n 2, 1) := by decide +kernel
theorem dX9_givesOf_16 : decode cX9_givesOf 16 = .ok (.iadd, 1) := by decide +kernel
theorem dX9_givesOf_17 : decode cX9_givesOf 17 = .ok (.bipush 24, 2) := by decide +kernel
theorem dX9_givesOf_19 : decode cX9_givesOf 19 = .ok (.irem, 1) := by decide +kernel
theorem dX9_givesOf_20 : decode cX9_givesOf 20 = .ok (.invokestatic 87, 3) := by decide +kernel
theorem dX9_givesOf_23 : decode cX9_givesOf 23 = .ok (.ireturn, 1) := by decide +kernel
theorem dX9_goHour_0 : decode cX9_goHour 0 = .ok (.iconst 0, 1) := by decide +kernel
theorem dX9_goHour_1 : decode cX9_goHour 1 = .ok (.istore_n 1, 1) := by decide +kernel
theorem dX9_goHour_2 : decode cX9_goHour 2 = .ok (.iload_n 1, 1) := by decide +kernel
theorem dX9_goHour_3 : decode cX9_goHour 3 = .ok (.aload_n 0, 1) := by decide +kernel
theorem dX9_goHour_4 : decode cX9_goHour 4 = .ok (.iconst 1, 1) := by decide +kernel
theorem dX9_goHour_5 : decode cX9_goHour 5 = .ok (.iaload, 1) := by decide +kernel
theorem dX9_goHour_6 : decode cX9_goHour 6 = .ok (.if_icmp .ge 23, 3) := by decide +kernel
theorem dX9_goHour_9 : decode cX9_goHour 9 = .ok (.aload_n 0, 1) := by decide +kernel
theorem dX9_goHour_10 : decode cX9_goHour 10 = .ok (.bipush 8, 2) := by decide +kernel
theorem dX9_goHour_12 : decode cX9_goHour 12 = .ok (.iload_n 1, 1) := by decide +kernel
theorem dX9_goHour_13 : decode cX9_goHour 13 = .ok (.iadd, 1) := by decide +kernel
theorem dX9_goHour_14 : decode cX9_goHour 14 = .ok (.dup2, 1) := by decide +kernel
theorem dX9_goHour_15 : decode cX9_goHour 15 = .ok (.iaload, 1) := by decide +kernel
theorem dX9_goHour_16 : decode cX9_goHour 16 = .ok (.aload_n 0, 1) := by decide +kernel
theorem dX9_goHour_17 : decode cX9_goHour 17 = .ok (.iload_n 1, 1) := by decide +kernel
theorem dX9_goHour_18 : decode cX9_goHour 18 = .ok (.invokestatic 102, 3) := by decide +kernel
theorem dX9_goHour_21 : decode cX9_goHour 21 = .ok (.isub, 1) := by decide +kernel
theorem dX9_goHour_22 : decode cX9_goHour 22 = .ok (.iastore, 1) := by decide +kernel
theorem dX9_goHour_23 : decode cX9_goHour 23 = .ok (.iinc 1 1, 3) := by decide +kernel
theorem dX9_goHour_26 : decode cX9_goHour 26 = .ok (.goto (-24), 3) := by decide +kernel
theorem dX9_goHour_29 : decode cX9_goHour 29 = .ok (.aload_n 0, 1) := by decide +kernel
theorem dX9_goHour_30 : decode cX9_goHour 30 = .ok (.iconst 5, 1) := by decide +kernel
theorem dX9_goHour_31 : decode cX9_goHour 31 = .ok (.dup2, 1) := by decide +kernel
theorem dX9_goHour_32 : decode cX9_goHour 32 = .ok (.iaload, 1) := by decide +kernel
theorem dX9_goHour_33 : decode cX9_goHour 33 = .ok (.iconst 1, 1) := by decide +kernel
theorem dX9_goHour_34 : decode cX9_goHour 34 = .ok (.iadd, 1) := by decide +kernel
theorem dX9_goHour_35 : decode cX9_goHour 35 = .ok (.iastore, 1) := by decide +kernel
theorem dX9_goHour_36 : decode cX9_goHour 36 = .ok (.aload_n 0, 1) := by decide +kernel
theorem dX9_goHour_37 : decode cX9_goHour 37 = .ok (.bipush 7, 2) := by decide +kernel
theorem dX9_goHour_39 : decode cX9_goHour 39 = .ok (.iconst 0, 1) := by decide +kernel
theorem dX9_goHour_40 : decode cX9_goHour 40 = .ok (.iastore, 1) := by decide +kernel
theorem dX9_goHour_41 : decode cX9_goHour 41 = .ok (.return_, 1) := by decide +kernel
theorem dX9_goHours_0 : decode cX9_goHours 0 = .ok (.iconst 0, 1) := by decide +kernel
theorem dX9_goHours_1 : decode cX9_goHours 1 = .ok (.istore_n 2, 1) := by decide +kernel
theorem dX9_goHours_2 : decode cX9_goHours 2 = .ok (.iload_n 2, 1) := by decide +kernel
theorem dX9_goHours_3 : decode cX9_goHours 3 = .ok (.iload_n 1, 1) := by decide +kernel
theorem dX9_goHours_4 : decode cX9_goHours 4 = .ok (.if_icmp .ge 22, 3) := by decide +kernel
theorem dX9_goHours_7 : decode cX9_goHours 7 = .ok (.aload_n 0, 1) := by decide +kernel
theorem dX9_goHours_8 : decode cX9_goHours 8 = .ok (.iconst 5, 1) := by decide +kernel
theorem dX9_goHours_9 : decode cX9_goHours 9 = .ok (.iaload, 1) := by decide +kernel
theorem dX9_goHours_10 : decode cX9_goHours 10 = .ok (.sipush 9999, 3) := by decide +kernel
theorem dX9_goHours_13 : decode cX9_goHours 13 = .ok (.if_icmp .ge 13, 3) := by decide +kernel
theorem dX9_goHours_16 : decode cX9_goHours 16 = .ok (.aload_n 0, 1) := by decide +kernel
theorem dX9_goHours_17 : decode cX9_goHours 17 = .ok (.invokestatic 106, 3) := by decide +kernel
theorem dX9_goHours_20 : decode cX9_goHours 20 = .ok (.iinc 2 1, 3) := by decide +kernel
theorem dX9_goHours_23 : decode cX9_goHours 23 = .ok (.goto (-21), 3) := by decide +kernel
theorem dX9_goHours_26 : decode cX9_goHours 26 = .ok (.return_, 1) := by decide +kernel
theorem dX9_goIn_0 : decode cX9_goIn 0 = .ok (.aload_n 0, 1) := by decide +kernel
theorem dX9_goIn_1 : decode cX9_goIn 1 = .ok (.bipush 8, 2) := by decide +kernel
theorem dX9_goIn_3 : decode cX9_goIn 3 = .ok (.iload_n 1, 1) := by decide +kernel
theorem dX9_goIn_4 : decode cX9_goIn 4 = .ok (.iadd, 1) := by decide +kernel
theorem dX9_goIn_5 : decode cX9_goIn 5 = .ok (.iaload, 1) := by decide +kernel
theorem dX9_goIn_6 : decode cX9_goIn 6 = .ok (.istore 4, 2) := by decide +kernel
theorem dX9_goIn_8 : decode cX9_goIn 8 = .ok (.iload_n 2, 1) := by decide +kernel
theorem dX9_goIn_9 : decode cX9_goIn 9 = .ok (.bipush 60, 2) := by decide +kernel
theorem dX9_goIn_11 : decode cX9_goIn 11 = .ok (.iload 4, 2) := by decide +kernel
theorem dX9_goIn_13 : decode cX9_goIn 13 = .ok (.isub, 1) := by decide +kernel
theorem dX9_goIn_14 : decode cX9_goIn 14 = .ok (.if_icmp .ge 7, 3) := by decide +kernel
theorem dX9_goIn_17 : decode cX9_goIn 17 = .ok (.iload_n 2, 1) := by decide +kernel
theorem dX9_goIn_18 : decode cX9_goIn 18 = .ok (.goto 8, 3) := by decide +kernel
theorem dX9_goIn_21 : decode cX9_goIn 21 = .ok (.bipush 60, 2) := by decide +kernel
theorem dX9_goIn_23 : decode cX9_goIn 23 = .ok (.iload 4, 2) := by decide +kernel
theorem dX9_goIn_25 : decode cX9_goIn 25 = .ok (.isub, 1) := by decide +kernel
theorem dX9_goIn_26 : decode cX9_goIn 26 = .ok (.istore 5, 2) := by decide +kernel
theorem dX9_goIn_28 : decode cX9_goIn 28 = .ok (.iload 5, 2) := by decide +kernel
theorem dX9_goIn_30 : decode cX9_goIn 30 = .ok (.ifCond .le 40, 3) := by decide +kernel
theorem dX9_goIn_33 : decode cX9_goIn 33 = .ok (.aload_n 0, 1) := by decide +kernel
theorem dX9_goIn_34 : decode cX9_goIn 34 = .ok (.bipush 12, 2) := by decide +kernel
theorem dX9_goIn_36 : decode cX9_goIn 36 = .ok (.iload_n 1, 1) := by decide +kernel
theorem dX9_goIn_37 : decode cX9_goIn 37 = .ok (.iadd, 1) := by decide +kernel
theorem dX9_goIn_38 : decode cX9_goIn 38 = .ok (.iload 4, 2) := by decide +kernel
theorem dX9_goIn_40 : decode cX9_goIn 40 = .ok (.ifCond .eq 13, 3) := by decide +kernel
theorem dX9_goIn_43 : decode cX9_goIn 43 = .ok (.aload_n 0, 1) := by decide +kernel
theorem dX9_goIn_44 : decode cX9_goIn 44 = .ok (.bipush 12, 2) := by decide +kernel
theorem dX9_goIn_46 : decode cX9_goIn 46 = .ok (.iload_n 1, 1) := by decide +kernel
theorem dX9_goIn_47 : decode cX9_goIn 47 = .ok (.iadd, 1) := by decide +kernel
theorem dX9_goIn_48 : decode cX9_goIn 48 = .ok (.iaload, 1) := by decide +kernel
theorem dX9_goIn_49 : decode cX9_goIn 49 = .ok (.iload_n 3, 1) := by decide +kernel
theorem dX9_goIn_50 : decode cX9_goIn 50 = .ok (.if_icmp .ne 7, 3) := by decide +kernel
theorem dX9_goIn_53 : decode cX9_goIn 53 = .ok (.iload_n 3, 1) := by decide +kernel
theorem dX9_goIn_54 : decode cX9_goIn 54 = .ok (.goto 4, 3) := by decide +kernel
theorem dX9_goIn_57 : decode cX9_goIn 57 = .ok (.iconst 4, 1) := by decide +kernel
theorem dX9_goIn_58 : decode cX9_goIn 58 = .ok (.iastore, 1) := by decide +kernel
theorem dX9_goIn_59 : decode cX9_goIn 59 = .ok (.aload_n 0, 1) := by decide +kernel
theorem dX9_goIn_60 : decode cX9_goIn 60 = .ok (.bipush 8, 2) := by decide +kernel
theorem dX9_goIn_62 : decode cX9_goIn 62 = .ok (.iload_n 1, 1) := by decide +kernel
theorem dX9_goIn_63 : decode cX9_goIn 63 = .ok (.iadd, 1) := by decide +kernel
theorem dX9_goIn_64 : decode cX9_goIn 64 = .ok (.iload 4, 2) := by decide +kernel
theorem dX9_goIn_66 : decode cX9_goIn 66 = .ok (.iload 5, 2) := by decide +kernel
theorem dX9_goIn_68 : decode cX9_goIn 68 = .ok (.iadd, 1) := by decide +kernel
theorem dX9_goIn_69 : decode cX9_goIn 69 = .ok (.iastore, 1) := by decide +kernel
theorem dX9_goIn_70 : decode cX9_goIn 70 = .ok (.iload 5, 2) := by decide +kernel
theorem dX9_goIn_72 : decode cX9_goIn 72 = .ok (.ireturn, 1) := by decide +kernel
theorem dX9_goLadle_0 : decode cX9_goLadle 0 = .ok (.aload_n 0, 1) := by decide +kernel
theorem dX9_goLadle_1 : decode cX9_goLadle 1 = .ok (.bipush 7, 2) := by decide +kernel
theorem dX9_goLadle_3 : decode cX9_goLadle 3 = .ok (.dup2, 1) := by decide +kernel
theorem dX9_goLadle_4 : decode cX9_goLadle 4 = .ok (.iaload, 1) := by decide +kernel
theorem dX9_goLadle_5 : decode cX9_goLadle 5 = .ok (.iconst 1, 1) := by decide +kernel
theorem dX9_goLadle_6 : decode cX9_goLadle 6 = .ok (.iload_n 1, 1) := by decide +kernel
theorem dX9_goLadle_7 : decode cX9_goLadle 7 = .ok (.ishl, 1) := by decide +kernel
theorem dX9_goLadle_8 : decode cX9_goLadle 8 = .ok (.ior, 1) := by decide +kernel
theorem dX9_goLadle_9 : decode cX9_goLadle 9 = .ok (.iastore, 1) := by decide +kernel
theorem dX9_goLadle_10 : decode cX9_goLadle 10 = .ok (.aload_n 0, 1) := by decide +kernel
theorem dX9_goLadle_11 : decode cX9_goLadle 11 = .ok (.iload_n 2, 1) := by decide +kernel
theorem dX9_goLadle_12 : decode cX9_goLadle 12 = .ok (.aload_n 0, 1) := by decide +kernel
theorem dX9_goLadle_13 : decode cX9_goLadle 13 = .ok (.iload_n 1, 1) := by decide +kernel
theorem dX9_goLadle_14 : decode cX9_goLadle 14 = .ok (.iconst 0, 1) := by decide +kernel
theorem dX9_goLadle_15 : decode cX9_goLadle 15 = .ok (.invokestatic 94, 3) := by decide +kernel
theorem dX9_goLadle_18 : decode cX9_goLadle 18 = .ok (.aload_n 0, 1) := by decide +kernel
theorem dX9_goLadle_19 : decode cX9_goLadle 19 = .ok (.bipush 30, 2) := by decide +kernel
theorem dX9_goLadle_21 : decode cX9_goLadle 21 = .ok (.iload_n 1, 1) := by decide +kernel
theorem dX9_goLadle_22 : decode cX9_goLadle 22 = .ok (.iadd, 1) := by decide +kernel
theorem dX9_goLadle_23 : decode cX9_goLadle 23 = .ok (.iaload, 1) := by decide +kernel
theorem dX9_goLadle_24 : decode cX9_goLadle 24 = .ok (.invokestatic 98, 3) := by decide +kernel
theorem dX9_goLadle_27 : decode cX9_goLadle 27 = .ok (.ireturn, 1) := by decide +kernel
theorem dX9_goPour_0 : decode cX9_goPour 0 = .ok (.aload_n 0, 1) := by decide +kernel
theorem dX9_goPour_1 : decode cX9_goPour 1 = .ok (.iload_n 2, 1) := by decide +kernel
theorem dX9_goPour_2 : decode cX9_goPour 2 = .ok (.aload_n 0, 1) := by decide +kernel
theorem dX9_goPour_3 : decode cX9_goPour 3 = .ok (.bipush 8, 2) := by decide +kernel
theorem dX9_goPour_5 : decode cX9_goPour 5 = .ok (.iload_n 1, 1) := by decide +kernel
theorem dX9_goPour_6 : decode cX9_goPour 6 = .ok (.iadd, 1) := by decide +kernel
theorem dX9_goPour_7 : decode cX9_goPour 7 = .ok (.iaload, 1) := by decide +kernel
theorem dX9_goPour_8 : decode cX9_goPour 8 = .ok (.aload_n 0, 1) := by decide +kernel
theorem dX9_goPour_9 : decode cX9_goPour 9 = .ok (.bipush 12, 2) := by decide +kernel
theorem dX9_goPour_11 : decode cX9_goPour 11 = .ok (.iload_n 1, 1) := by decide +kernel
theorem dX9_goPour_12 : decode cX9_goPour 12 = .ok (.iadd, 1) := by decide +kernel
theorem dX9_goPour_13 : decode cX9_goPour 13 = .ok (.iaload, 1) := by decide +kernel
theorem dX9_goPour_14 : decode cX9_goPour 14 = .ok (.invokestatic 98, 3) := by decide +kernel
theorem dX9_goPour_17 : decode cX9_goPour 17 = .ok (.istore_n 3, 1) := by decide +kernel
theorem dX9_goPour_18 : decode cX9_goPour 18 = .ok (.aload_n 0, 1) := by decide +kernel
theorem dX9_goPour_19 : decode cX9_goPour 19 = .ok (.bipush 8, 2) := by decide +kernel
theorem dX9_goPour_21 : decode cX9_goPour 21 = .ok (.iload_n 1, 1) := by decide +kernel
theorem dX9_goPour_22 : decode cX9_goPour 22 = .ok (.iadd, 1) := by decide +kernel
theorem dX9_goPour_23 : decode cX9_goPour 23 = .ok (.dup2, 1) := by decide +kernel
theorem dX9_goPour_24 : decode cX9_goPour 24 = .ok (.iaload, 1) := by decide +kernel
theorem dX9_goPour_25 : decode cX9_goPour 25 = .ok (.iload_n 3, 1) := by decide +kernel
theorem dX9_goPour_26 : decode cX9_goPour 26 = .ok (.isub, 1) := by decide +kernel
theorem dX9_goPour_27 : decode cX9_goPour 27 = .ok (.iastore, 1) := by decide +kernel
theorem dX9_goPour_28 : decode cX9_goPour 28 = .ok (.iload_n 3, 1) := by decide +kernel
theorem dX9_goPour_29 : decode cX9_goPour 29 = .ok (.ireturn, 1) := by decide +kernel
theorem dX9_has_0 : decode cX9_has 0 = .ok (.iload_n 0, 1) := by decide +kernel
theorem dX9_has_1 : decode cX9_has 1 = .ok (.iload_n 1, 1) := by decide +kernel
theorem dX9_has_2 : decode cX9_has 2 = .ok (.ishr, 1) := by decide +kernel
theorem dX9_has_3 : decode cX9_has 3 = .ok (.iconst 1, 1) := by decide +kernel
theorem dX9_has_4 : decode cX9_has 4 = .ok (.iand, 1) := by decide +kernel
theorem dX9_has_5 : decode cX9_has 5 = .ok (.iconst 1, 1) := by decide +kernel
theorem dX9_has_6 : decode cX9_has 6 = .ok (.if_icmp .ne 7, 3) := by decide +kernel
theorem dX9_has_9 : decode cX9_has 9 = .ok (.iconst 1, 1) := by decide +kernel
theorem dX9_has_10 : decode cX9_has 10 = .ok (.goto 4, 3) := by decide +kernel
theorem dX9_has_13 : decode cX9_has 13 = .ok (.iconst 0, 1) := by decide +kernel
theorem dX9_has_14 : decode cX9_has 14 = .ok (.ireturn, 1) := by decide +kernel
theorem dX9_in_0 : decode cX9_in 0 = .ok (.lload_n 0, 1) := by decide +kernel
theorem dX9_in_1 : decode cX9_in 1 = .ok (.lload_n 2, 1) := by decide +kernel
theorem dX9_in_2 : decode cX9_in 2 = .ok (.lcmp, 1) := by decide +kernel
theorem dX9_in_3 : decode cX9_in 3 = .ok (.ifCond .lt 14, 3) := by decide +kernel
theorem dX9_in_6 : decode cX9_in 6 = .ok (.lload_n 0, 1) := by decide +kernel
theorem dX9_in_7 : decode cX9_in 7 = .ok (.lload 4, 2) := by decide +kernel
theorem dX9_in_9 : decode cX9_in 9 = .ok (.lcmp, 1) := by decide +kernel
theorem dX9_in_10 : decode cX9_in 10 = .ok (.ifCond .gt 7, 3) := by decide +kernel
theorem dX9_in_13 : decode cX9_in 13 = .ok (.iconst 1, 1) := by decide +kernel
theorem dX9_in_14 : decode cX9_in 14 = .ok (.goto 4, 3) := by decide +kernel
theorem dX9_in_17 : decode cX9_in 17 = .ok (.iconst 0, 1) := by decide +kernel
theorem dX9_in_18 : decode cX9_in 18 = .ok (.ireturn, 1) := by decide +kernel
theorem dX9_isCaster_0 : decode cX9_isCaster 0 = .ok (.iload_n 1, 1) := by decide +kernel
theorem dX9_isCaster_1 : decode cX9_isCaster 1 = .ok (.i2l, 1) := by decide +kernel
theorem dX9_isCaster_2 : decode cX9_isCaster 2 = .ok (.lconst 0, 1) := by decide +kernel
theorem dX9_isCaster_3 : decode cX9_isCaster 3 = .ok (.aload_n 0, 1) := by decide +kernel
theorem dX9_isCaster_4 : decode cX9_isCaster 4 = .ok (.getfield 7, 3) := by decide +kernel
theorem dX9_isCaster_7 : decode cX9_isCaster 7 = .ok (.iconst 0, 1) := by decide +kernel
theorem dX9_isCaster_8 : decode cX9_isCaster 8 = .ok (.iaload, 1) := by decide +kernel
theorem dX9_isCaster_9 : decode cX9_isCaster 9 = .ok (.iconst 1, 1) := by decide +kernel
theorem dX9_isCaster_10 : decode cX9_isCaster 10 = .ok (.isub, 1) := by decide +kernel
theorem dX9_isCaster_11 : decode cX9_isCaster 11 = .ok (.i2l, 1) := by decide +kernel
theorem dX9_isCaster_12 : decode cX9_isCaster 12 = .ok (.invokestatic 46, 3) := by decide +kernel
theorem dX9_isCaster_15 : decode cX9_isCaster 15 = .ok (.ireturn, 1) := by decide +kernel
theorem dX9_isCool_0 : decode cX9_isCool 0 = .ok (.iload_n 0, 1) := by decide +kernel
theorem dX9_isCool_1 : decode cX9_isCool 1 = .ok (.i2l, 1) := by decide +kernel
theorem dX9_isCool_2 : decode cX9_isCool 2 = .ok (.lconst 0, 1) := by decide +kernel
theorem dX9_isCool_3 : decode cX9_isCool 3 = .ok (.ldc2_w 58, 3) := by decide +kernel
theorem dX9_isCool_6 : decode cX9_isCool 6 = .ok (.invokestatic 46, 3) := by decide +kernel
theorem dX9_isCool_9 : decode cX9_isCool 9 = .ok (.ireturn, 1) := by decide +kernel
theorem dX9_isHeight_0 : decode cX9_isHeight 0 = .ok (.iload_n 0, 1) := by decide +kernel
theorem dX9_isHeight_1 : decode cX9_isHeight 1 = .ok (.i2l, 1) := by decide +kernel
theorem dX9_isHeight_2 : decode cX9_isHeight 2 = .ok (.lconst 1, 1) := by decide +kernel
theorem dX9_isHeight_3 : decode cX9_isHeight 3 = .ok (.ldc2_w 52, 3) := by decide +kernel
theorem dX9_isHeight_6 : decode cX9_isHeight 6 = .ok (.invokestatic 46, 3) := by decide +kernel
theorem dX9_isHeight_9 : decode cX9_isHeight 9 = .ok (.ireturn, 1) := by decide +kernel
theorem dX9_isHour_0 : decode cX9_isHour 0 = .ok (.iload_n 0, 1) := by decide +kernel
theorem dX9_isHour_1 : decode cX9_isHour 1 = .ok (.i2l, 1) := by decide +kernel
theorem dX9_isHour_2 : decode cX9_isHour 2 = .ok (.lconst 0, 1) := by decide +kernel
theorem dX9_isHour_3 : decode cX9_isHour 3 = .ok (.ldc2_w 56, 3) := by decide +kernel
theorem dX9_isHour_6 : decode cX9_isHour 6 = .ok (.invokestatic 46, 3) := by decide +kernel
theorem dX9_isHour_9 : decode cX9_isHour 9 = .ok (.ireturn, 1) := by decide +kernel
theorem dX9_isJar_0 : decode cX9_isJar 0 = .ok (.iload_n 1, 1) := by decide +kernel
theorem dX9_isJar_1 : decode cX9_isJar 1 = .ok (.i2l, 1) := by decide +kernel
theorem dX9_isJar_2 : decode cX9_isJar 2 = .ok (.lconst 0, 1) := by decide +kernel
theorem dX9_isJar_3 : decode cX9_isJar 3 = .ok (.aload_n 0, 1) := by decide +kernel
theorem dX9_isJar_4 : decode cX9_isJar 4 = .ok (.getfield 7, 3) := by decide +kernel
theorem dX9_isJar_7 : decode cX9_isJar 7 = .ok (.iconst 1, 1) := by decide +kernel
theorem dX9_isJar_8 : decode cX9_isJar 8 = .ok (.iaload, 1) := by decide +kernel
theorem dX9_isJar_9 : decode cX9_isJar 9 = .ok (.iconst 1, 1) := by decide +kernel
theorem dX9_isJar_10 : decode cX9_isJar 10 = .ok (.isub, 1) := by decide +kernel
theorem dX9_isJar_11 : decode cX9_isJar 11 = .ok (.i2l, 1) := by decide +kernel
theorem dX9_isJar_12 : decode cX9_isJar 12 = .ok (.invokestatic 46, 3) := by decide +kernel
theorem dX9_isJar_15 : decode cX9_isJar 15 = .ok (.ireturn, 1) := by decide +kernel
theorem dX9_isKind_0 : decode cX9_isKind 0 = .ok (.iload_n 0, 1) := by decide +kernel
theorem dX9_isKind_1 : decode cX9_isKind 1 = .ok (.i2l, 1) := by decide +kernel
theorem dX9_isKind_2 : decode cX9_isKind 2 = .ok (.lconst 0, 1) := by decide +kernel
theorem dX9_isKind_3 : decode cX9_isKind 3 = .ok (.ldc2_w 50, 3) := by decide +kernel
theorem dX9_isKind_6 : decode cX9_isKind 6 = .ok (.invokestatic 46, 3) := by decide +kernel
theorem dX9_isKind_9 : decode cX9_isKind 9 = .ok (.ireturn, 1) := by decide +kernel
theorem dX9_isTaste_0 : decode cX9_isTaste 0 = .ok (.iload_n 0, 1) := by decide +kernel
theorem dX9_isTaste_1 : decode cX9_isTaste 1 = .ok (.i2l, 1) := by decide +kernel
theorem dX9_isTaste_2 : decode cX9_isTaste 2 = .ok (.lconst 0, 1) := by decide +kernel
theorem dX9_isTaste_3 : decode cX9_isTaste 3 = .ok (.ldc2_w 54, 3) := by decide +kernel
theorem dX9_isTaste_6 : decode cX9_isTaste 6 = .ok (.invokestatic 46, 3) := by decide +kernel
theorem dX9_isTaste_9 : decode cX9_isTaste 9 = .ok (.ireturn, 1) := by decide +kernel
theorem dX9_layCaster_0 : decode cX9_layCaster 0 = .ok (.aload_n 0, 1) := by decide +kernel
theorem dX9_layCaster_1 : decode cX9_layCaster 1 = .ok (.bipush 16, 2) := by decide +kernel
theorem dX9_layCaster_3 : decode cX9_layCaster 3 = .ok (.aload_n 0, 1) := by decide +kernel
theorem dX9_layCaster_4 : decode cX9_layCaster 4 = .ok (.iconst 0, 1) := by decide +kernel
theorem dX9_layCaster_5 : decode cX9_layCaster 5 = .ok (.iaload, 1) := by decide +kernel
theorem dX9_layCaster_6 : decode cX9_layCaster 6 = .ok (.iadd, 1) := by decide +kernel
theorem dX9_layCaster_7 : decode cX9_layCaster 7 = .ok (.iload_n 1, 1) := by decide +kernel
theorem dX9_layCaster_8 : decode cX9_layCaster 8 = .ok (.iastore, 1) := by decide +kernel
theorem dX9_layCaster_9 : decode cX9_layCaster 9 = .ok (.aload_n 0, 1) := by decide +kernel
theorem dX9_layCaster_10 : decode cX9_layCaster 10 = .ok (.bipush 23, 2) := by decide +kernel
theorem dX9_layCaster_12 : decode cX9_layCaster 12 = .ok (.aload_n 0, 1) := by decide +kernel
theorem dX9_layCaster_13 : decode cX9_layCaster 13 = .ok (.iconst 0, 1) := by decide +kernel
theorem dX9_layCaster_14 : decode cX9_layCaster 14 = .ok (.iaload, 1) := by decide +kernel
theorem dX9_layCaster_15 : decode cX9_layCaster 15 = .ok (.iadd, 1) := by decide +kernel
theorem dX9_layCaster_16 : decode cX9_layCaster 16 = .ok (.iload_n 2, 1) := by decide +kernel
theorem dX9_layCaster_17 : decode cX9_layCaster 17 = .ok (.iastore, 1) := by decide +kernel
theorem dX9_layCaster_18 : decode cX9_layCaster 18 = .ok (.aload_n 0, 1) := by decide +kernel
theorem dX9_layCaster_19 : decode cX9_layCaster 19 = .ok (.bipush 30, 2) := by decide +kernel
theorem dX9_layCaster_21 : decode cX9_layCaster 21 = .ok (.aload_n 0, 1) := by decide +kernel
theorem dX9_layCaster_22 : decode cX9_layCaster 22 = .ok (.iconst 0, 1) := by decide +kernel
theorem dX9_layCaster_23 : decode cX9_layCaster 23 = .ok (.iaload, 1) := by decide +kernel
theorem dX9_layCaster_24 : decode cX9_layCaster 24 = .ok (.iadd, 1) := by decide +kernel
theorem dX9_layCaster_25 : decode cX9_layCaster 25 = .ok (.iload_n 3, 1) := by decide +kernel
theorem dX9_layCaster_26 : decode cX9_layCaster 26 = .ok (.iastore, 1) := by decide +kernel
theorem dX9_layCaster_27 : decode cX9_layCaster 27 = .ok (.aload_n 0, 1) := by decide +kernel
theorem dX9_layCaster_28 : decode cX9_layCaster 28 = .ok (.iconst 0, 1) := by decide +kernel
theorem dX9_layCaster_29 : decode cX9_layCaster 29 = .ok (.dup2, 1) := by decide +kernel
theorem dX9_layCaster_30 : decode cX9_layCaster 30 = .ok (.iaload, 1) := by decide +kernel
theorem dX9_layCaster_31 : decode cX9_layCaster 31 = .ok (.iconst 1, 1) := by decide +kernel
theorem dX9_layCaster_32 : decode cX9_layCaster 32 = .ok (.iadd, 1) := by decide +kernel
theorem dX9_layCaster_33 : decode cX9_layCaster 33 = .ok (.iastore, 1) := by decide +kernel
theorem dX9_layCaster_34 : decode cX9_layCaster 34 = .ok (.return_, 1) := by decide +kernel
theorem dX9_layHand_0 : decode cX9_layHand 0 = .ok (.iconst 0, 1) := by decide +kernel
theorem dX9_layHand_1 : decode cX9_layHand 1 = .ok (.istore_n 1, 1) := by decide +kernel
theorem dX9_layHand_2 : decode cX9_layHand 2 = .ok (.iload_n 1, 1) := by decide +kernel
theorem dX9_layHand_3 : decode cX9_layHand 3 = .ok (.bipush 41, 2) := by decide +kernel
theorem dX9_layHand_5 : decode cX9_layHand 5 = .ok (.if_icmp .ge 21, 3) := by decide +kernel
theorem dX9_layHand_8 : decode cX9_layHand 8 = .ok (.aload_n 0, 1) := by decide +kernel
theorem dX9_layHand_9 : decode cX9_layHand 9 = .ok (.getfield 27, 3) := by decide +kernel
theorem dX9_layHand_12 : decode cX9_layHand 12 = .ok (.iload_n 1, 1) := by decide +kernel
theorem dX9_layHand_13 : decode cX9_layHand 13 = .ok (.aload_n 0, 1) := by decide +kernel
theorem dX9_layHand_14 : decode cX9_layHand 14 = .ok (.getfield 7, 3) := by decide +kernel
theorem dX9_layHand_17 : decode cX9_layHand 17 = .ok (.iload_n 1, 1) := by decide +kernel
theorem dX9_layHand_18 : decode cX9_layHand 18 = .ok (.iaload, 1) := by decide +kernel
theorem dX9_layHand_19 : decode cX9_layHand 19 = .ok (.iastore, 1) := by decide +kernel
theorem dX9_layHand_20 : decode cX9_layHand 20 = .ok (.iinc 1 1, 3) := by decide +kernel
theorem dX9_layHand_23 : decode cX9_layHand 23 = .ok (.goto (-21), 3) := by decide +kernel
theorem dX9_layHand_26 : decode cX9_layHand 26 = .ok (.return_, 1) := by decide +kernel
theorem dX9_layJar_0 : decode cX9_layJar 0 = .ok (.aload_n 0, 1) := by decide +kernel
theorem dX9_layJar_1 : decode cX9_layJar 1 = .ok (.bipush 37, 2) := by decide +kernel
theorem dX9_layJar_3 : decode cX9_layJar 3 = .ok (.aload_n 0, 1) := by decide +kernel
theorem dX9_layJar_4 : decode cX9_layJar 4 = .ok (.iconst 1, 1) := by decide +kernel
theorem dX9_layJar_5 : decode cX9_layJar 5 = .ok (.iaload, 1) := by decide +kernel
theorem dX9_layJar_6 : decode cX9_layJar 6 = .ok (.iadd, 1) := by decide +kernel
theorem dX9_layJar_7 : decode cX9_layJar 7 = .ok (.iload_n 1, 1) := by decide +kernel
theorem dX9_layJar_8 : decode cX9_layJar 8 = .ok (.iastore, 1) := by decide +kernel
theorem dX9_layJar_9 : decode cX9_layJar 9 = .ok (.aload_n 0, 1) := by decide +kernel
theorem dX9_layJar_10 : decode cX9_layJar 10 = .ok (.iconst 1, 1) := by decide +kernel
theorem dX9_layJar_11 : decode cX9_layJar 11 = .ok (.dup2, 1) := by decide +kernel
theorem dX9_layJar_12 : decode cX9_layJar 12 = .ok (.iaload, 1) := by decide +kernel
theorem dX9_layJar_13 : decode cX9_layJar 13 = .ok (.iconst 1, 1) := by decide +kernel
theorem dX9_layJar_14 : decode cX9_layJar 14 = .ok (.iadd, 1) := by decide +kernel
theorem dX9_layJar_15 : decode cX9_layJar 15 = .ok (.iastore, 1) := by decide +kernel
theorem dX9_layJar_16 : decode cX9_layJar 16 = .ok (.return_, 1) := by decide +kernel
theorem dX9_losesAs_0 : decode cX9_losesAs 0 = .ok (.iload_n 2, 1) := by decide +kernel
theorem dX9_losesAs_1 : decode cX9_losesAs 1 = .ok (.bipush 6, 2) := by decide +kernel
theorem dX9_losesAs_3 : decode cX9_losesAs 3 = .ok (.if_icmp .ge 7, 3) := by decide +kernel
theorem dX9_losesAs_6 : decode cX9_losesAs 6 = .ok (.iconst 0, 1) := by decide +kernel
theorem dX9_losesAs_7 : decode cX9_losesAs 7 = .ok (.goto 4, 3) := by decide +kernel
theorem dX9_losesAs_10 : decode cX9_losesAs 10 = .ok (.iconst 1, 1) := by decide +kernel
theorem dX9_losesAs_11 : decode cX9_losesAs 11 = .ok (.istore_n 3, 1) := by decide +kernel
theorem dX9_losesAs_12 : decode cX9_losesAs 12 = .ok (.iload_n 0, 1) := by decide +kernel
theorem dX9_losesAs_13 : decode cX9_losesAs 13 = .ok (.tableswitch 64 1 5 #[35, 37, 39, 46, 52], 35) := by decide +kernel
theorem dX9_losesAs_48 : decode cX9_losesAs 48 = .ok (.iconst 3, 1) := by decide +kernel
theorem dX9_losesAs_49 : decode cX9_losesAs 49 = .ok (.ireturn, 1) := by decide +kernel
theorem dX9_losesAs_50 : decode cX9_losesAs 50 = .ok (.iload_n 3, 1) := by decide +kernel
theorem dX9_losesAs_51 : decode cX9_losesAs 51 = .ok (.ireturn, 1) := by decide +kernel
theorem dX9_losesAs_52 : decode cX9_losesAs 52 = .ok (.iconst 3, 1) := by decide +kernel
theorem dX9_losesAs_53 : decode cX9_losesAs 53 = .ok (.iload_n 1, 1) := by decide +kernel
theorem dX9_losesAs_54 : decode cX9_losesAs 54 = .ok (.bipush 10, 2) := by decide +kernel
theorem dX9_losesAs_56 : decode cX9_losesAs 56 = .ok (.idiv, 1) := by decide +kernel
theorem dX9_losesAs_57 : decode cX9_losesAs 57 = .ok (.iadd, 1) := by decide +kernel
theorem dX9_losesAs_58 : decode cX9_losesAs 58 = .ok (.ireturn, 1) := by decide +kernel
theorem dX9_losesAs_59 : decode cX9_losesAs 59 = .ok (.iload_n 1, 1) := by decide +kernel
theorem dX9_losesAs_60 : decode cX9_losesAs 60 = .ok (.iconst 1, 1) := by decide +kernel
theorem dX9_losesAs_61 : decode cX9_losesAs 61 = .ok (.iadd, 1) := by decide +kernel
theorem dX9_losesAs_62 : decode cX9_losesAs 62 = .ok (.iconst 2, 1) := by decide +kernel
theorem dX9_losesAs_63 : decode cX9_losesAs 63 = .ok (.idiv, 1) := by decide +kernel
theorem dX9_losesAs_64 : decode cX9_losesAs 64 = .ok (.ireturn, 1) := by decide +kernel
theorem dX9_losesAs_65 : decode cX9_losesAs 65 = .ok (.iload_n 1, 1) := by decide +kernel
theorem dX9_losesAs_66 : decode cX9_losesAs 66 = .ok (.bipush 20, 2) := by decide +kernel
theorem dX9_losesAs_68 : decode cX9_losesAs 68 = .ok (.if_icmp .lt 7, 3) := by decide +kernel
theorem dX9_losesAs_71 : decode cX9_losesAs 71 = .ok (.iconst 0, 1) := by decide +kernel
theorem dX9_losesAs_72 : decode cX9_losesAs 72 = .ok (.goto 4, 3) := by decide +kernel
theorem dX9_losesAs_75 : decode cX9_losesAs 75 = .ok (.iload_n 3, 1) := by decide +kernel
theorem dX9_losesAs_76 : decode cX9_losesAs 76 = .ok (.ireturn, 1) := by decide +kernel
theorem dX9_losesAs_77 : decode cX9_losesAs 77 = .ok (.iconst 1, 1) := by decide +kernel
theorem dX9_losesAs_78 : decode cX9_losesAs 78 = .ok (.ireturn, 1) := by decide +kernel
theorem dX9_losesOf_0 : decode cX9_losesOf 0 = .ok (.aload_n 0, 1) := by decide +kernel
theorem dX9_losesOf_1 : decode cX9_losesOf 1 = .ok (.bipush 8, 2) := by decide +kernel
theorem dX9_losesOf_3 : decode cX9_losesOf 3 = .ok (.iload_n 1, 1) := by decide +kernel
theorem dX9_losesOf_4 : decode cX9_losesOf 4 = .ok (.iadd, 1) := by decide +kernel
theorem dX9_losesOf_5 : decode cX9_losesOf 5 = .ok (.iaload, 1) := by decide +kernel
theorem dX9_losesOf_6 : decode cX9_losesOf 6 = .ok (.istore_n 2, 1) := by decide +kernel
theorem dX9_losesOf_7 : decode cX9_losesOf 7 = .ok (.aload_n 0, 1) := by decide +kernel
theorem dX9_losesOf_8 : decode cX9_losesOf 8 = .ok (.bipush 37, 2) := by decide +kernel
theorem dX9_losesOf_10 : decode cX9_losesOf 10 = .ok (.iload_n 1, 1) := by decide +kernel
theorem dX9_losesOf_11 : decode cX9_losesOf 11 = .ok (.iadd, 1) := by decide +kernel
theorem dX9_losesOf_12 : decode cX9_losesOf 12 = .ok (.iaload, 1) := by decide +kernel
theorem dX9_losesOf_13 : decode cX9_losesOf 13 = .ok (.iload_n 2, 1) := by decide +kernel
theorem dX9_losesOf_14 : decode cX9_losesOf 14 = .ok (.aload_n 0, 1) := by decide +kernel
theorem dX9_losesOf_15 : decode cX9_losesOf 15 = .ok (.iconst 5, 1) := by decide +kernel
theorem dX9_losesOf_16 : decode cX9_losesOf 16 = .ok (.iaload, 1) := by decide +kernel
theorem dX9_losesOf_17 : decode cX9_losesOf 17 = .ok (.bipush 24, 2) := by decide +kernel
theorem dX9_losesOf_19 : decode cX9_losesOf 19 = .ok (.irem, 1) := by decide +kernel
theorem dX9_losesOf_20 : decode cX9_losesOf 20 = .ok (.invokestatic 91, 3) := by decide +kernel
theorem dX9_losesOf_23 : decode cX9_losesOf 23 = .ok (.istore_n 3, 1) := by decide +kernel
theorem dX9_losesOf_24 : decode cX9_losesOf 24 = .ok (.iload_n 3, 1) := by decide +kernel
theorem dX9_losesOf_25 : decode cX9_losesOf 25 = .ok (.iload_n 2, 1) := by decide +kernel
theorem dX9_losesOf_26 : decode cX9_losesOf 26 = .ok (.if_icmp .ge 7, 3) := by decide +kernel
theorem dX9_losesOf_29 : decode cX9_losesOf 29 = .ok (.iload_n 3, 1) := by decide +kernel
theorem dX9_losesOf_30 : decode cX9_losesOf 30 = .ok (.goto 4, 3) := by decide +kernel
theorem dX9_losesOf_33 : decode cX9_losesOf 33 = .ok (.iload_n 2, 1) := by decide +kernel
theorem dX9_losesOf_34 : decode cX9_losesOf 34 = .ok (.ireturn, 1) := by decide +kernel
theorem dX9_no_0 : decode cX9_no 0 = .ok (.aload_n 0, 1) := by decide +kernel
theorem dX9_no_1 : decode cX9_no 1 = .ok (.getfield 20, 3) := by decide +kernel
theorem dX9_no_4 : decode cX9_no 4 = .ok (.iconst 1, 1) := by decide +kernel
theorem dX9_no_5 : decode cX9_no 5 = .ok (.dup2, 1) := by decide +kernel
theorem dX9_no_6 : decode cX9_no 6 = .ok (.iaload, 1) := by decide +kernel
theorem dX9_no_7 : decode cX9_no 7 = .ok (.iconst 1, 1) := by decide +kernel
theorem dX9_no_8 : decode cX9_no 8 = .ok (.iadd, 1) := by decide +kernel
theorem dX9_no_9 : decode cX9_no 9 = .ok (.iastore, 1) := by decide +kernel
theorem dX9_no_10 : decode cX9_no 10 = .ok (.bipush (-3), 2) := by decide +kernel
theorem dX9_no_12 : decode cX9_no 12 = .ok (.ireturn, 1) := by decide +kernel
theorem dX9_power_0 : decode cX9_power 0 = .ok (.iconst 1, 1) := by decide +kernel
theorem dX9_power_1 : decode cX9_power 1 = .ok (.istore_n 2, 1) := by decide +kernel
theorem dX9_power_2 : decode cX9_power 2 = .ok (.iconst 0, 1) := by decide +kernel
theorem dX9_power_3 : decode cX9_power 3 = .ok (.istore_n 3, 1) := by decide +kernel
theorem dX9_power_4 : decode cX9_power 4 = .ok (.iload_n 3, 1) := by decide +kernel
theorem dX9_power_5 : decode cX9_power 5 = .ok (.iload_n 1, 1) := by decide +kernel
theorem dX9_power_6 : decode cX9_power 6 = .ok (.if_icmp .ge 13, 3) := by decide +kernel
theorem dX9_power_9 : decode cX9_power 9 = .ok (.iload_n 2, 1) := by decide +kernel
theorem dX9_power_10 : decode cX9_power 10 = .ok (.iload_n 0, 1) := by decide +kernel
theorem dX9_power_11 : decode cX9_power 11 = .ok (.imul, 1) := by decide +kernel
theorem dX9_power_12 : decode cX9_power 12 = .ok (.istore_n 2, 1) := by decide +kernel
theorem dX9_power_13 : decode cX9_power 13 = .ok (.iinc 3 1, 3) := by decide +kernel
theorem dX9_power_16 : decode cX9_power 16 = .ok (.goto (-12), 3) := by decide +kernel
theorem dX9_power_19 : decode cX9_power 19 = .ok (.iload_n 2, 1) := by decide +kernel
theorem dX9_power_20 : decode cX9_power 20 = .ok (.ireturn, 1) := by decide +kernel
theorem dX9_save_0 : decode cX9_save 0 = .ok (.aload_n 0, 1) := by decide +kernel
theorem dX9_save_1 : decode cX9_save 1 = .ok (.getfield 7, 3) := by decide +kernel
theorem dX9_save_4 : decode cX9_save 4 = .ok (.iconst 4, 1) := by decide +kernel
theorem dX9_save_5 : decode cX9_save 5 = .ok (.iaload, 1) := by decide +kernel
theorem dX9_save_6 : decode cX9_save 6 = .ok (.bipush 8, 2) := by decide +kernel
theorem dX9_save_8 : decode cX9_save 8 = .ok (.if_icmp .ne 43, 3) := by decide +kernel
theorem dX9_save_11 : decode cX9_save 11 = .ok (.iconst 0, 1) := by decide +kernel
theorem dX9_save_12 : decode cX9_save 12 = .ok (.istore_n 1, 1) := by decide +kernel
theorem dX9_save_13 : decode cX9_save 13 = .ok (.iload_n 1, 1) := by decide +kernel
theorem dX9_save_14 : decode cX9_save 14 = .ok (.bipush 77, 2) := by decide +kernel
theorem dX9_save_16 : decode cX9_save 16 = .ok (.if_icmp .ge 27, 3) := by decide +kernel
theorem dX9_save_19 : decode cX9_save 19 = .ok (.aload_n 0, 1) := by decide +kernel
theorem dX9_save_20 : decode cX9_save 20 = .ok (.getfield 7, 3) := by decide +kernel
theorem dX9_save_23 : decode cX9_save 23 = .ok (.bipush 89, 2) := by decide +kernel
theorem dX9_save_25 : decode cX9_save 25 = .ok (.iload_n 1, 1) := by decide +kernel
theorem dX9_save_26 : decode cX9_save 26 = .ok (.iadd, 1) := by decide +kernel
theorem dX9_save_27 : decode cX9_save 27 = .ok (.aload_n 0, 1) := by decide +kernel
theorem dX9_save_28 : decode cX9_save 28 = .ok (.getfield 7, 3) := by decide +kernel
theorem dX9_save_31 : decode cX9_save 31 = .ok (.bipush 100, 2) := by decide +kernel
theorem dX9_save_33 : decode cX9_save 33 = .ok (.iload_n 1, 1) := by decide +kernel
theorem dX9_save_34 : decode cX9_save 34 = .ok (.iadd, 1) := by decide +kernel
theorem dX9_save_35 : decode cX9_save 35 = .ok (.iaload, 1) := by decide +kernel
theorem dX9_save_36 : decode cX9_save 36 = .ok (.iastore, 1) := by decide +kernel
theorem dX9_save_37 : decode cX9_save 37 = .ok (.iinc 1 1, 3) := by decide +kernel
theorem dX9_save_40 : decode cX9_save 40 = .ok (.goto (-27), 3) := by decide +kernel
theorem dX9_save_43 : decode cX9_save 43 = .ok (.aload_n 0, 1) := by decide +kernel
theorem dX9_save_44 : decode cX9_save 44 = .ok (.getfield 7, 3) := by decide +kernel
theorem dX9_save_47 : decode cX9_save 47 = .ok (.iconst 4, 1) := by decide +kernel
theorem dX9_save_48 : decode cX9_save 48 = .ok (.bipush 7, 2) := by decide +kernel
theorem dX9_save_50 : decode cX9_save 50 = .ok (.iastore, 1) := by decide +kernel
theorem dX9_save_51 : decode cX9_save 51 = .ok (.iconst 0, 1) := by decide +kernel
theorem dX9_save_52 : decode cX9_save 52 = .ok (.istore_n 1, 1) := by decide +kernel
theorem dX9_save_53 : decode cX9_save 53 = .ok (.iload_n 1, 1) := by decide +kernel
theorem dX9_save_54 : decode cX9_save 54 = .ok (.bipush 11, 2) := by decide +kernel
theorem dX9_save_56 : decode cX9_save 56 = .ok (.if_icmp .ge 36, 3) := by decide +kernel
theorem dX9_save_59 : decode cX9_save 59 = .ok (.aload_n 0, 1) := by decide +kernel
theorem dX9_save_60 : decode cX9_save 60 = .ok (.getfield 7, 3) := by decide +kernel
theorem dX9_save_63 : decode cX9_save 63 = .ok (.bipush 89, 2) := by decide +kernel
theorem dX9_save_65 : decode cX9_save 65 = .ok (.bipush 11, 2) := by decide +kernel
theorem dX9_save_67 : decode cX9_save 67 = .ok (.aload_n 0, 1) := by decide +kernel
theorem dX9_save_68 : decode cX9_save 68 = .ok (.getfield 7, 3) := by decide +kernel
theorem dX9_save_71 : decode cX9_save 71 = .ok (.iconst 4, 1) := by decide +kernel
theorem dX9_save_72 : decode cX9_save 72 = .ok (.iaload, 1) := by decide +kernel
theorem dX9_save_73 : decode cX9_save 73 = .ok (.imul, 1) := by decide +kernel
theorem dX9_save_74 : decode cX9_save 74 = .ok (.iadd, 1) := by decide +kernel
theorem dX9_save_75 : decode cX9_save 75 = .ok (.iload_n 1, 1) := by decide +kernel
theorem dX9_save_76 : decode cX9_save 76 = .ok (.iadd, 1) := by decide +kernel
theorem dX9_save_77 : decode cX9_save 77 = .ok (.aload_n 0, 1) := by decide +kernel
theorem dX9_save_78 : decode cX9_save 78 = .ok (.getfield 7, 3) := by decide +kernel
theorem dX9_save_81 : decode cX9_save 81 = .ok (.iconst 5, 1) := by decide +kernel
theorem dX9_save_82 : decode cX9_save 82 = .ok (.iload_n 1, 1) := by decide +kernel
theorem dX9_save_83 : decode cX9_save 83 = .ok (.iadd, 1) := by decide +kernel
theorem dX9_save_84 : decode cX9_save 84 = .ok (.iaload, 1) := by decide +kernel
theorem dX9_save_85 : decode cX9_save 85 = .ok (.iastore, 1) := by decide +kernel
theorem dX9_save_86 : decode cX9_save 86 = .ok (.iinc 1 1, 3) := by decide +kernel
theorem dX9_save_89 : decode cX9_save 89 = .ok (.goto (-36), 3) := by decide +kernel
theorem dX9_save_92 : decode cX9_save 92 = .ok (.aload_n 0, 1) := by decide +kernel
theorem dX9_save_93 : decode cX9_save 93 = .ok (.getfield 7, 3) := by decide +kernel
theorem dX9_save_96 : decode cX9_save 96 = .ok (.iconst 4, 1) := by decide +kernel
theorem dX9_save_97 : decode cX9_save 97 = .ok (.dup2, 1) := by decide +kernel
theorem dX9_save_98 : decode cX9_save 98 = .ok (.iaload, 1) := by decide +kernel
theorem dX9_save_99 : decode cX9_save 99 = .ok (.iconst 1, 1) := by decide +kernel
theorem dX9_save_100 : decode cX9_save 100 = .ok (.iadd, 1) := by decide +kernel
theorem dX9_save_101 : decode cX9_save 101 = .ok (.iastore, 1) := by decide +kernel
theorem dX9_save_102 : decode cX9_save 102 = .ok (.return_, 1) := by decide +kernel
theorem dX9_toldCaster_0 : decode cX9_toldCaster 0 = .ok (.iload_n 2, 1) := by decide +kernel
theorem dX9_toldCaster_1 : decode cX9_toldCaster 1 = .ok (.tableswitch 81 0 3 #[31, 41, 51, 61], 31) := by decide +kernel
theorem dX9_toldCaster_32 : decode cX9_toldCaster 32 = .ok (.aload_n 0, 1) := by decide +kernel
theorem dX9_toldCaster_33 : decode cX9_toldCaster 33 = .ok (.getfield 7, 3) := by decide +kernel
theorem dX9_toldCaster_36 : decode cX9_toldCaster 36 = .ok (.bipush 16, 2) := by decide +kernel
theorem dX9_toldCaster_38 : decode cX9_toldCaster 38 = .ok (.iload_n 1, 1) := by decide +kernel
theorem dX9_toldCaster_39 : decode cX9_toldCaster 39 = .ok (.iadd, 1) := by decide +kernel
theorem dX9_toldCaster_40 : decode cX9_toldCaster 40 = .ok (.iaload, 1) := by decide +kernel
theorem dX9_toldCaster_41 : decode cX9_toldCaster 41 = .ok (.ireturn, 1) := by decide +kernel
theorem dX9_toldCaster_42 : decode cX9_toldCaster 42 = .ok (.aload_n 0, 1) := by decide +kernel
theorem dX9_toldCaster_43 : decode cX9_toldCaster 43 = .ok (.getfield 7, 3) := by decide +kernel
theorem dX9_toldCaster_46 : decode cX9_toldCaster 46 = .ok (.bipush 23, 2) := by decide +kernel
theorem dX9_toldCaster_48 : decode cX9_toldCaster 48 = .ok (.iload_n 1, 1) := by decide +kernel
theorem dX9_toldCaster_49 : decode cX9_toldCaster 49 = .ok (.iadd, 1) := by decide +kernel
theorem dX9_toldCaster_50 : decode cX9_toldCaster 50 = .ok (.iaload, 1) := by decide +kernel
theorem dX9_toldCaster_51 : decode cX9_toldCaster 51 = .ok (.ireturn, 1) := by decide +kernel
theorem dX9_toldCaster_52 : decode cX9_toldCaster 52 = .ok (.aload_n 0, 1) := by decide +kernel
theorem dX9_toldCaster_53 : decode cX9_toldCaster 53 = .ok (.getfield 7, 3) := by decide +kernel
theorem dX9_toldCaster_56 : decode cX9_toldCaster 56 = .ok (.bipush 30, 2) := by decide +kernel
theorem dX9_toldCaster_58 : decode cX9_toldCaster 58 = .ok (.iload_n 1, 1) := by decide +kernel
theorem dX9_toldCaster_59 : decode cX9_toldCaster 59 = .ok (.iadd, 1) := by decide +kernel
theorem dX9_toldCaster_60 : decode cX9_toldCaster 60 = .ok (.iaload, 1) := by decide +kernel
theorem dX9_toldCaster_61 : decode cX9_toldCaster 61 = .ok (.ireturn, 1) := by decide +kernel
theorem dX9_toldCaster_62 : decode cX9_toldCaster 62 = .ok (.aload_n 0, 1) := by decide +kernel
theorem dX9_toldCaster_63 : decode cX9_toldCaster 63 = .ok (.getfield 7, 3) := by decide +kernel
theorem dX9_toldCaster_66 : decode cX9_toldCaster 66 = .ok (.bipush 7, 2) := by decide +kernel
theorem dX9_toldCaster_68 : decode cX9_toldCaster 68 = .ok (.iaload, 1) := by decide +kernel
theorem dX9_toldCaster_69 : decode cX9_toldCaster 69 = .ok (.iload_n 1, 1) := by decide +kernel
theorem dX9_toldCaster_70 : decode cX9_toldCaster 70 = .ok (.invokestatic 116, 3) := by decide +kernel
theorem dX9_toldCaster_73 : decode cX9_toldCaster 73 = .ok (.ifCond .eq 7, 3) := by decide +kernel
theorem dX9_toldCaster_76 : decode cX9_toldCaster 76 = .ok (.iconst 1, 1) := by decide +kernel
theorem dX9_toldCaster_77 : decode cX9_toldCaster 77 = .ok (.goto 4, 3) := by decide +kernel
theorem dX9_toldCaster_80 : decode cX9_toldCaster 80 = .ok (.iconst 0, 1) := by decide +kernel
theorem dX9_toldCaster_81 : decode cX9_toldCaster 81 = .ok (.ireturn, 1) := by decide +kernel
theorem dX9_toldCaster_82 : decode cX9_toldCaster 82 = .ok (.aload_n 0, 1) := by decide +kernel
theorem dX9_toldCaster_83 : decode cX9_toldCaster 83 = .ok (.getfield 7, 3) := by decide +kernel
theorem dX9_toldCaster_86 : decode cX9_toldCaster 86 = .ok (.iload_n 1, 1) := by decide +kernel
theorem dX9_toldCaster_87 : decode cX9_toldCaster 87 = .ok (.iconst 0, 1) := by decide +kernel
theorem dX9_toldCaster_88 : decode cX9_toldCaster 88 = .ok (.invokestatic 94, 3) := by decide +kernel
theorem dX9_toldCaster_91 : decode cX9_toldCaster 91 = .ok (.ireturn, 1) := by decide +kernel
theorem dX9_toldJar_0 : decode cX9_toldJar 0 = .ok (.iload_n 2, 1) := by decide +kernel
theorem dX9_toldJar_1 : decode cX9_toldJar 1 = .ok (.tableswitch 73 0 2 #[27, 37, 47], 27) := by decide +kernel
theorem dX9_toldJar_28 : decode cX9_toldJar 28 = .ok (.aload_n 0, 1) := by decide +kernel
theorem dX9_toldJar_29 : decode cX9_toldJar 29 = .ok (.getfield 7, 3) := by decide +kernel
theorem dX9_toldJar_32 : decode cX9_toldJar 32 = .ok (.bipush 37, 2) := by decide +kernel
theorem dX9_toldJar_34 : decode cX9_toldJar 34 = .ok (.iload_n 1, 1) := by decide +kernel
theorem dX9_toldJar_35 : decode cX9_toldJar 35 = .ok (.iadd, 1) := by decide +kernel
theorem dX9_toldJar_36 : decode cX9_toldJar 36 = .ok (.iaload, 1) := by decide +kernel
theorem dX9_toldJar_37 : decode cX9_toldJar 37 = .ok (.ireturn, 1) := by decide +kernel
theorem dX9_toldJar_38 : decode cX9_toldJar 38 = .ok (.aload_n 0, 1) := by decide +kernel
theorem dX9_toldJar_39 : decode cX9_toldJar 39 = .ok (.getfield 7, 3) := by decide +kernel
theorem dX9_toldJar_42 : decode cX9_toldJar 42 = .ok (.bipush 8, 2) := by decide +kernel
theorem dX9_toldJar_44 : decode cX9_toldJar 44 = .ok (.iload_n 1, 1) := by decide +kernel
theorem dX9_toldJar_45 : decode cX9_toldJar 45 = .ok (.iadd, 1) := by decide +kernel
theorem dX9_toldJar_46 : decode cX9_toldJar 46 = .ok (.iaload, 1) := by decide +kernel
theorem dX9_toldJar_47 : decode cX9_toldJar 47 = .ok (.ireturn, 1) := by decide +kernel
theorem dX9_toldJar_48 : decode cX9_toldJar 48 = .ok (.aload_n 0, 1) := by decide +kernel
theorem dX9_toldJar_49 : decode cX9_toldJar 49 = .ok (.getfield 7, 3) := by decide +kernel
theorem dX9_toldJar_52 : decode cX9_toldJar 52 = .ok (.bipush 8, 2) := by decide +kernel
theorem dX9_toldJar_54 : decode cX9_toldJar 54 = .ok (.iload_n 1, 1) := by decide +kernel
theorem dX9_toldJar_55 : decode cX9_toldJar 55 = .ok (.iadd, 1) := by decide +kernel
theorem dX9_toldJar_56 : decode cX9_toldJar 56 = .ok (.iaload, 1) := by decide +kernel
theorem dX9_toldJar_57 : decode cX9_toldJar 57 = .ok (.ifCond .ne 7, 3) := by decide +kernel
theorem dX9_toldJar_60 : decode cX9_toldJar 60 = .ok (.iconst (-1), 1) := by decide +kernel
theorem dX9_toldJar_61 : decode cX9_toldJar 61 = .ok (.goto 12, 3) := by decide +kernel
theorem dX9_toldJar_64 : decode cX9_toldJar 64 = .ok (.aload_n 0, 1) := by decide +kernel
theorem dX9_toldJar_65 : decode cX9_toldJar 65 = .ok (.getfield 7, 3) := by decide +kernel
theorem dX9_toldJar_68 : decode cX9_toldJar 68 = .ok (.bipush 12, 2) := by decide +kernel
theorem dX9_toldJar_70 : decode cX9_toldJar 70 = .ok (.iload_n 1, 1) := by decide +kernel
theorem dX9_toldJar_71 : decode cX9_toldJar 71 = .ok (.iadd, 1) := by decide +kernel
theorem dX9_toldJar_72 : decode cX9_toldJar 72 = .ok (.iaload, 1) := by decide +kernel
theorem dX9_toldJar_73 : decode cX9_toldJar 73 = .ok (.ireturn, 1) := by decide +kernel
theorem dX9_toldJar_74 : decode cX9_toldJar 74 = .ok (.aload_n 0, 1) := by decide +kernel
theorem dX9_toldJar_75 : decode cX9_toldJar 75 = .ok (.getfield 7, 3) := by decide +kernel
theorem dX9_toldJar_78 : decode cX9_toldJar 78 = .ok (.iload_n 1, 1) := by decide +kernel
theorem dX9_toldJar_79 : decode cX9_toldJar 79 = .ok (.invokestatic 102, 3) := by decide +kernel
theorem dX9_toldJar_82 : decode cX9_toldJar 82 = .ok (.ireturn, 1) := by decide +kernel
