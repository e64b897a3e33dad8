theorem dX2_hasCaster_0 : decode cX2_hasCaster 0 = .ok (.iload_n 1, 1) := by decide +kernel
theorem dX2_hasCaster_1 : decode cX2_hasCaster 1 = .ok (.ifCond .lt 15, 3) := by decide +kernel
theorem dX2_hasCaster_4 : decode cX2_hasCaster 4 = .ok (.iload_n 1, 1) := by decide +kernel
theorem dX2_hasCaster_5 : decode cX2_hasCaster 5 = .ok (.aload_n 0, 1) := by decide +kernel
theorem dX2_hasCaster_6 : decode cX2_hasCaster 6 = .ok (.getfield 57, 3) := by decide +kernel
theorem dX2_hasCaster_9 : decode cX2_hasCaster 9 = .ok (.if_icmp .ge 7, 3) := by decide +kernel
theorem dX2_hasCaster_12 : decode cX2_hasCaster 12 = .ok (.iconst 1, 1) := by decide +kernel
theorem dX2_hasCaster_13 : decode cX2_hasCaster 13 = .ok (.goto 4, 3) := by decide +kernel
theorem dX2_hasCaster_16 : decode cX2_hasCaster 16 = .ok (.iconst 0, 1) := by decide +kernel
theorem dX2_hasCaster_17 : decode cX2_hasCaster 17 = .ok (.ireturn, 1) := by decide +kernel
theorem dX2_hasJar_0 : decode cX2_hasJar 0 = .ok (.iload_n 1, 1) := by decide +kernel
theorem dX2_hasJar_1 : decode cX2_hasJar 1 = .ok (.ifCond .lt 15, 3) := by decide +kernel
theorem dX2_hasJar_4 : decode cX2_hasJar 4 = .ok (.iload_n 1, 1) := by decide +kernel
theorem dX2_hasJar_5 : decode cX2_hasJar 5 = .ok (.aload_n 0, 1) := by decide +kernel
theorem dX2_hasJar_6 : decode cX2_hasJar 6 = .ok (.getfield 60, 3) := by decide +kernel
theorem dX2_hasJar_9 : decode cX2_hasJar 9 = .ok (.if_icmp .ge 7, 3) := by decide +kernel
theorem dX2_hasJar_12 : decode cX2_hasJar 12 = .ok (.iconst 1, 1) := by decide +kernel
theorem dX2_hasJar_13 : decode cX2_hasJar 13 = .ok (.goto 4, 3) := by decide +kernel
theorem dX2_hasJar_16 : decode cX2_hasJar 16 = .ok (.iconst 0, 1) := by decide +kernel
theorem dX2_hasJar_17 : decode cX2_hasJar 17 = .ok (.ireturn, 1) := by decide +kernel
theorem dX8_about_0 : decode cX8_about 0 = .ok (.aload_n 0, 1) := by decide +kernel
theorem dX8_about_1 : decode cX8_about 1 = .ok (.getfield 10, 3) := by decide +kernel
theorem dX8_about_4 : decode cX8_about 4 = .ok (.iload_n 1, 1) := by decide +kernel
theorem dX8_about_5 : decode cX8_about 5 = .ok (.invokevirtual 112, 3) := by decide +kernel
theorem dX8_about_8 : decode cX8_about 8 = .ok (.ifCond .ne 10, 3) := by decide +kernel
theorem dX8_about_11 : decode cX8_about 11 = .ok (.aload_n 0, 1) := by decide +kernel
theorem dX8_about_12 : decode cX8_about 12 = .ok (.bipush (-2), 2) := by decide +kernel
theorem dX8_about_14 : decode cX8_about 14 = .ok (.invokevirtual 59, 3) := by decide +kernel
theorem dX8_about_17 : decode cX8_about 17 = .ok (.ireturn, 1) := by decide +kernel
theorem dX8_ask_0 : decode cX8_ask 0 = .ok (.aload_n 0, 1) := by decide +kernel
theorem dX8_ask_1 : decode cX8_ask 1 = .ok (.getfield 10, 3) := by decide +kernel
theorem dX8_ask_4 : decode cX8_ask 4 = .ok (.iload_n 1, 1) := by decide +kernel
theorem dX8_ask_5 : decode cX8_ask 5 = .ok (.invokevirtual 112, 3) := by decide +kernel
theorem dX8_ask_8 : decode cX8_ask 8 = .ok (.ifCond .ne 10, 3) := by decide +kernel
theorem dX8_ask_11 : decode cX8_ask 11 = .ok (.aload_n 0, 1) := by decide +kernel
theorem dX8_ask_12 : decode cX8_ask 12 = .ok (.bipush (-2), 2) := by decide +kernel
theorem dX8_ask_14 : decode cX8_ask 14 = .ok (.invokevirtual 59, 3) := by decide +kernel
theorem dX8_ask_17 : decode cX8_ask 17 = .ok (.ireturn, 1) := by decide +kernel
theorem dX8_few_0 : decode cX8_few 0 = .ok (.aload_n 0, 1) := by decide +kernel
theorem dX8_few_1 : decode cX8_few 1 = .ok (.getfield 10, 3) := by decide +kernel
theorem dX8_few_4 : decode cX8_few 4 = .ok (.iload_n 1, 1) := by decide +kernel
theorem dX8_few_5 : decode cX8_few 5 = .ok (.invokevirtual 112, 3) := by decide +kernel
theorem dX8_few_8 : decode cX8_few 8 = .ok (.ifCond .eq 32, 3) := by decide +kernel
theorem dX8_few_40 : decode cX8_few 40 = .ok (.aload_n 0, 1) := by decide +kernel
theorem dX8_few_41 : decode cX8_few 41 = .ok (.bipush (-2), 2) := by decide +kernel
theorem dX8_few_43 : decode cX8_few 43 = .ok (.invokevirtual 59, 3) := by decide +kernel
theorem dX8_few_46 : decode cX8_few 46 = .ok (.ireturn, 1) := by decide +kernel
theorem dX8_gives_0 : decode cX8_gives 0 = .ok (.aload_n 0, 1) := by decide +kernel
theorem dX8_gives_1 : decode cX8_gives 1 = .ok (.getfield 10, 3) := by decide +kernel
theorem dX8_gives_4 : decode cX8_gives 4 = .ok (.iload_n 1, 1) := by decide +kernel
theorem dX8_gives_5 : decode cX8_gives 5 = .ok (.invokevirtual 108, 3) := by decide +kernel
theorem dX8_gives_8 : decode cX8_gives 8 = .ok (.ifCond .eq 13, 3) := by decide +kernel
theorem dX8_gives_21 : decode cX8_gives 21 = .ok (.aload_n 0, 1) := by decide +kernel
theorem dX8_gives_22 : decode cX8_gives 22 = .ok (.bipush (-2), 2) := by decide +kernel
theorem dX8_gives_24 : decode cX8_gives 24 = .ok (.invokevirtual 59, 3) := by decide +kernel
theorem dX8_gives_27 : decode cX8_gives 27 = .ok (.ireturn, 1) := by decide +kernel
theorem dX8_gone_0 : decode cX8_gone 0 = .ok (.aload_n 0, 1) := by decide +kernel
theorem dX8_gone_1 : decode cX8_gone 1 = .ok (.getfield 10, 3) := by decide +kernel
theorem dX8_gone_4 : decode cX8_gone 4 = .ok (.iload_n 1, 1) := by decide +kernel
theorem dX8_gone_5 : decode cX8_gone 5 = .ok (.invokevirtual 112, 3) := by decide +kernel
theorem dX8_gone_8 : decode cX8_gone 8 = .ok (.ifCond .ne 10, 3) := by decide +kernel
theorem dX8_gone_11 : decode cX8_gone 11 = .ok (.aload_n 0, 1) := by decide +kernel
theorem dX8_gone_12 : decode cX8_gone 12 = .ok (.bipush (-2), 2) := by decide +kernel
theorem dX8_gone_14 : decode cX8_gone 14 = .ok (.invokevirtual 59, 3) := by decide +kernel
theorem dX8_gone_17 : decode cX8_gone 17 = .ok (.ireturn, 1) := by decide +kernel
theorem dX8_into_0 : decode cX8_into 0 = .ok (.aload_n 0, 1) := by decide +kernel
theorem dX8_into_1 : decode cX8_into 1 = .ok (.getfield 10, 3) := by decide +kernel
theorem dX8_into_4 : decode cX8_into 4 = .ok (.iload_n 1, 1) := by decide +kernel
theorem dX8_into_5 : decode cX8_into 5 = .ok (.invokevirtual 112, 3) := by decide +kernel
theorem dX8_into_8 : decode cX8_into 8 = .ok (.ifCond .eq 22, 3) := by decide +kernel
theorem dX8_into_30 : decode cX8_into 30 = .ok (.aload_n 0, 1) := by decide +kernel
theorem dX8_into_31 : decode cX8_into 31 = .ok (.bipush (-2), 2) := by decide +kernel
theorem dX8_into_33 : decode cX8_into 33 = .ok (.invokevirtual 59, 3) := by decide +kernel
theorem dX8_into_36 : decode cX8_into 36 = .ok (.ireturn, 1) := by decide +kernel
theorem dX8_is_0 : decode cX8_is 0 = .ok (.aload_n 0, 1) := by decide +kernel
theorem dX8_is_1 : decode cX8_is 1 = .ok (.getfield 10, 3) := by decide +kernel
theorem dX8_is_4 : decode cX8_is 4 = .ok (.iload_n 1, 1) := by decide +kernel
theorem dX8_is_5 : decode cX8_is 5 = .ok (.invokevirtual 108, 3) := by decide +kernel
theorem dX8_is_8 : decode cX8_is 8 = .ok (.ifCond .ne 10, 3) := by decide +kernel
theorem dX8_is_11 : decode cX8_is 11 = .ok (.aload_n 0, 1) := by decide +kernel
theorem dX8_is_12 : decode cX8_is 12 = .ok (.bipush (-2), 2) := by decide +kernel
theorem dX8_is_14 : decode cX8_is 14 = .ok (.invokevirtual 59, 3) := by decide +kernel
theorem dX8_is_17 : decode cX8_is 17 = .ok (.ireturn, 1) := by decide +kernel
theorem dX8_keeps_0 : decode cX8_keeps 0 = .ok (.aload_n 0, 1) := by decide +kernel
theorem dX8_keeps_1 : decode cX8_keeps 1 = .ok (.getfield 10, 3) := by decide +kernel
theorem dX8_keeps_4 : decode cX8_keeps 4 = .ok (.iload_n 1, 1) := by decide +kernel
theorem dX8_keeps_5 : decode cX8_keeps 5 = .ok (.invokevirtual 112, 3) := by decide +kernel
theorem dX8_keeps_8 : decode cX8_keeps 8 = .ok (.ifCond .eq 13, 3) := by decide +kernel
theorem dX8_keeps_21 : decode cX8_keeps 21 = .ok (.aload_n 0, 1) := by decide +kernel
theorem dX8_keeps_22 : decode cX8_keeps 22 = .ok (.bipush (-2), 2) := by decide +kernel
theorem dX8_keeps_24 : decode cX8_keeps 24 = .ok (.invokevirtual 59, 3) := by decide +kernel
theorem dX8_keeps_27 : decode cX8_keeps 27 = .ok (.ireturn, 1) := by decide +kernel
theorem dX8_kinds_0 : decode cX8_kinds 0 = .ok (.aload_n 0, 1) := by decide +kernel
theorem dX8_kinds_1 : decode cX8_kinds 1 = .ok (.getfield 10, 3) := by decide +kernel
theorem dX8_kinds_4 : decode cX8_kinds 4 = .ok (.iload_n 1, 1) := by decide +kernel
theorem dX8_kinds_5 : decode cX8_kinds 5 = .ok (.invokevirtual 112, 3) := by decide +kernel
theorem dX8_kinds_8 : decode cX8_kinds 8 = .ok (.ifCond .ne 10, 3) := by decide +kernel
theorem dX8_kinds_11 : decode cX8_kinds 11 = .ok (.aload_n 0, 1) := by decide +kernel
theorem dX8_kinds_12 : decode cX8_kinds 12 = .ok (.bipush (-2), 2) := by decide +kernel
theorem dX8_kinds_14 : decode cX8_kinds 14 = .ok (.invokevirtual 59, 3) := by decide +kernel
theorem dX8_kinds_17 : decode cX8_kinds 17 = .ok (.ireturn, 1) := by decide +kernel
theorem dX8_ladle_0 : decode cX8_ladle 0 = .ok (.aload_n 0, 1) := by decide +kernel
theorem dX8_ladle_1 : decode cX8_ladle 1 = .ok (.getfield 10, 3) := by decide +kernel
theorem dX8_ladle_4 : decode cX8_ladle 4 = .ok (.iload_n 1, 1) := by decide +kernel
theorem dX8_ladle_5 : decode cX8_ladle 5 = .ok (.invokevirtual 108, 3) := by decide +kernel
theorem dX8_ladle_8 : decode cX8_ladle 8 = .ok (.ifCond .eq 14, 3) := by decide +kernel
theorem dX8_ladle_22 : decode cX8_ladle 22 = .ok (.aload_n 0, 1) := by decide +kernel
theorem dX8_ladle_23 : decode cX8_ladle 23 = .ok (.bipush (-2), 2) := by decide +kernel
theorem dX8_ladle_25 : decode cX8_ladle 25 = .ok (.invokevirtual 59, 3) := by decide +kernel
theorem dX8_ladle_28 : decode cX8_ladle 28 = .ok (.ireturn, 1) := by decide +kernel
theorem dX8_look_0 : decode cX8_look 0 = .ok (.aload_n 0, 1) := by decide +kernel
theorem dX8_look_1 : decode cX8_look 1 = .ok (.getfield 10, 3) := by decide +kernel
theorem dX8_look_4 : decode cX8_look 4 = .ok (.iload_n 1, 1) := by decide +kernel
theorem dX8_look_5 : decode cX8_look 5 = .ok (.invokevirtual 108, 3) := by decide +kernel
theorem dX8_look_8 : decode cX8_look 8 = .ok (.ifCond .ne 10, 3) := by decide +kernel
theorem dX8_look_11 : decode cX8_look 11 = .ok (.aload_n 0, 1) := by decide +kernel
theorem dX8_look_12 : decode cX8_look 12 = .ok (.bipush (-2), 2) := by decide +kernel
theorem dX8_look_14 : decode cX8_look 14 = .ok (.invokevirtual 59, 3) := by decide +kernel
theorem dX8_look_17 : decode cX8_look 17 = .ok (.ireturn, 1) := by decide +kernel
theorem dX8_mark_0 : decode cX8_mark 0 = .ok (.aload_n 0, 1) := by decide +kernel
theorem dX8_mark_1 : decode cX8_mark 1 = .ok (.getfield 10, 3) := by decide +kernel
theorem dX8_mark_4 : decode cX8_mark 4 = .ok (.iload_n 1, 1) := by decide +kernel
theorem dX8_mark_5 : decode cX8_mark 5 = .ok (.invokevirtual 112, 3) := by decide +kernel
theorem dX8_mark_8 : decode cX8_mark 8 = .ok (.ifCond .eq 34, 3) := by decide +kernel
theorem dX8_mark_42 : decode cX8_mark 42 = .ok (.aload_n 0, 1) := by decide +kernel
theorem dX8_mark_43 : decode cX8_mark 43 = .ok (.bipush (-2), 2) := by decide +kernel
theorem dX8_mark_45 : decode cX8_mark 45 = .ok (.invokevirtual 59, 3) := by decide +kernel
theorem dX8_mark_48 : decode cX8_mark 48 = .ok (.ireturn, 1) := by decide +kernel
theorem dX8_note_0 : decode cX8_note 0 = .ok (.aload_n 0, 1) := by decide +kernel
theorem dX8_note_1 : decode cX8_note 1 = .ok (.getfield 10, 3) := by decide +kernel
theorem dX8_note_4 : decode cX8_note 4 = .ok (.iload_n 1, 1) := by decide +kernel
theorem dX8_note_5 : decode cX8_note 5 = .ok (.invokevirtual 108, 3) := by decide +kernel
theorem dX8_note_8 : decode cX8_note 8 = .ok (.ifCond .eq 34, 3) := by decide +kernel
theorem dX8_note_42 : decode cX8_note 42 = .ok (.aload_n 0, 1) := by decide +kernel
theorem dX8_note_43 : decode cX8_note 43 = .ok (.bipush (-2), 2) := by decide +kernel
theorem dX8_note_45 : decode cX8_note 45 = .ok (.invokevirtual 59, 3) := by decide +kernel
theorem dX8_note_48 : decode cX8_note 48 = .ok (.ireturn, 1) := by decide +kernel
theorem dX8_of_0 : decode cX8_of 0 = .ok (.aload_n 0, 1) := by decide +kernel
theorem dX8_of_1 : decode cX8_of 1 = .ok (.getfield 10, 3) := by decide +kernel
theorem dX8_of_4 : decode cX8_of 4 = .ok (.iload_n 1, 1) := by decide +kernel
theorem dX8_of_5 : decode cX8_of 5 = .ok (.invokevirtual 108, 3) := by decide +kernel
theorem dX8_of_8 : decode cX8_of 8 = .ok (.ifCond .ne 10, 3) := by decide +kernel
theorem dX8_of_11 : decode cX8_of 11 = .ok (.aload_n 0, 1) := by decide +kernel
theorem dX8_of_12 : decode cX8_of 12 = .ok (.bipush (-2), 2) := by decide +kernel
theorem dX8_of_14 : decode cX8_of 14 = .ok (.invokevirtual 59, 3) := by decide +kernel
theorem dX8_of_17 : decode cX8_of 17 = .ok (.ireturn, 1) := by decide +kernel
theorem dX8_pours_0 : decode cX8_pours 0 = .ok (.aload_n 0, 1) := by decide +kernel
theorem dX8_pours_1 : decode cX8_pours 1 = .ok (.getfield 10, 3) := by decide +kernel
theorem dX8_pours_4 : decode cX8_pours 4 = .ok (.iload_n 1, 1) := by decide +kernel
theorem dX8_pours_5 : decode cX8_pours 5 = .ok (.invokevirtual 112, 3) := by decide +kernel
theorem dX8_pours_8 : decode cX8_pours 8 = .ok (.ifCond .eq 19, 3) := by decide +kernel
theorem dX8_pours_27 : decode cX8_pours 27 = .ok (.aload_n 0, 1) := by decide +kernel
theorem dX8_pours_28 : decode cX8_pours 28 = .ok (.bipush (-2), 2) := by decide +kernel
theorem dX8_pours_30 : decode cX8_pours 30 = .ok (.invokevirtual 59, 3) := by decide +kernel
theorem dX8_pours_33 : decode cX8_pours 33 = .ok (.ireturn, 1) := by decide +kernel
theorem dX8_refused_0 : decode cX8_refused 0 = .ok (.iload_n 1, 1) := by decide +kernel
theorem dX8_refused_1 : decode cX8_refused 1 = .ok (.bipush (-2), 2) := by decide +kernel
theorem dX8_refused_3 : decode cX8_refused 3 = .ok (.if_icmp .ne 16, 3) := by decide +kernel
theorem dX8_refused_6 : decode cX8_refused 6 = .ok (.aload_n 0, 1) := by decide +kernel
theorem dX8_refused_7 : decode cX8_refused 7 = .ok (.dup, 1) := by decide +kernel
theorem dX8_refused_8 : decode cX8_refused 8 = .ok (.getfield 254, 3) := by decide +kernel
theorem dX8_refused_11 : decode cX8_refused 11 = .ok (.iconst 1, 1) := by decide +kernel
theorem dX8_refused_12 : decode cX8_refused 12 = .ok (.iadd, 1) := by decide +kernel
theorem dX8_refused_13 : decode cX8_refused 13 = .ok (.putfield 254, 3) := by decide +kernel
theorem dX8_refused_16 : decode cX8_refused 16 = .ok (.goto 32, 3) := by decide +kernel
theorem dX8_refused_19 : decode cX8_refused 19 = .ok (.iload_n 1, 1) := by decide +kernel
theorem dX8_refused_20 : decode cX8_refused 20 = .ok (.bipush (-3), 2) := by decide +kernel
theorem dX8_refused_22 : decode cX8_refused 22 = .ok (.if_icmp .ne 16, 3) := by decide +kernel
theorem dX8_refused_25 : decode cX8_refused 25 = .ok (.aload_n 0, 1) := by decide +kernel
theorem dX8_refused_26 : decode cX8_refused 26 = .ok (.dup, 1) := by decide +kernel
theorem dX8_refused_27 : decode cX8_refused 27 = .ok (.getfield 257, 3) := by decide +kernel
theorem dX8_refused_30 : decode cX8_refused 30 = .ok (.iconst 1, 1) := by decide +kernel
theorem dX8_refused_31 : decode cX8_refused 31 = .ok (.iadd, 1) := by decide +kernel
theorem dX8_refused_32 : decode cX8_refused 32 = .ok (.putfield 257, 3) := by decide +kernel
theorem dX8_refused_35 : decode cX8_refused 35 = .ok (.goto 13, 3) := by decide +kernel
theorem dX8_refused_38 : decode cX8_refused 38 = .ok (.aload_n 0, 1) := by decide +kernel
theorem dX8_refused_39 : decode cX8_refused 39 = .ok (.dup, 1) := by decide +kernel
theorem dX8_refused_40 : decode cX8_refused 40 = .ok (.getfield 260, 3) := by decide +kernel
theorem dX8_refused_43 : decode cX8_refused 43 = .ok (.iconst 1, 1) := by decide +kernel
theorem dX8_refused_44 : decode cX8_refused 44 = .ok (.iadd, 1) := by decide +kernel
theorem dX8_refused_45 : decode cX8_refused 45 = .ok (.putfield 260, 3) := by decide +kernel
theorem dX8_refused_48 : decode cX8_refused 48 = .ok (.iload_n 1, 1) := by decide +kernel
theorem dX8_refused_49 : decode cX8_refused 49 = .ok (.ireturn, 1) := by decide +kernel
theorem dX8_round_0 : decode cX8_round 0 = .ok (.aload_n 0, 1) := by decide +kernel
theorem dX8_round_1 : decode cX8_round 1 = .ok (.getfield 10, 3) := by decide +kernel
theorem dX8_round_4 : decode cX8_round 4 = .ok (.iload_n 1, 1) := by decide +kernel
theorem dX8_round_5 : decode cX8_round 5 = .ok (.invokevirtual 112, 3) := by decide +kernel
theorem dX8_round_8 : decode cX8_round 8 = .ok (.ifCond .eq 22, 3) := by decide +kernel
theorem dX8_round_30 : decode cX8_round 30 = .ok (.aload_n 0, 1) := by decide +kernel
theorem dX8_round_31 : decode cX8_round 31 = .ok (.bipush (-2), 2) := by decide +kernel
theorem dX8_round_33 : decode cX8_round 33 = .ok (.invokevirtual 59, 3) := by decide +kernel
theorem dX8_round_36 : decode cX8_round 36 = .ok (.pop, 1) := by decide +kernel
theorem dX8_round_37 : decode cX8_round 37 = .ok (.bipush (-10), 2) := by decide +kernel
theorem dX8_round_39 : decode cX8_round 39 = .ok (.ireturn, 1) := by decide +kernel
theorem dX8_sells_0 : decode cX8_sells 0 = .ok (.aload_n 0, 1) := by decide +kernel
theorem dX8_sells_1 : decode cX8_sells 1 = .ok (.getfield 10, 3) := by decide +kernel
theorem dX8_sells_4 : decode cX8_sells 4 = .ok (.iload_n 1, 1) := by decide +kernel
theorem dX8_sells_5 : decode cX8_sells 5 = .ok (.invokevirtual 112, 3) := by decide +kernel
theorem dX8_sells_8 : decode cX8_sells 8 = .ok (.ifCond .ne 10, 3) := by decide +kernel
theorem dX8_sells_11 : decode cX8_sells 11 = .ok (.aload_n 0, 1) := by decide +kernel
theorem dX8_sells_12 : decode cX8_sells 12 = .ok (.bipush (-2), 2) := by decide +kernel
theorem dX8_sells_14 : decode cX8_sells 14 = .ok (.invokevirtual 59, 3) := by decide +kernel
theorem dX8_sells_17 : decode cX8_sells 17 = .ok (.ireturn, 1) := by decide +kernel
theorem dX8_spilt_0 : decode cX8_spilt 0 = .ok (.aload_n 0, 1) := by decide +kernel
theorem dX8_spilt_1 : decode cX8_spilt 1 = .ok (.getfield 10, 3) := by decide +kernel
theorem dX8_spilt_4 : decode cX8_spilt 4 = .ok (.iload_n 1, 1) := by decide +kernel
theorem dX8_spilt_5 : decode cX8_spilt 5 = .ok (.invokevirtual 112, 3) := by decide +kernel
theorem dX8_spilt_8 : decode cX8_spilt 8 = .ok (.ifCond .eq 33, 3) := by decide +kernel
theorem dX8_spilt_41 : decode cX8_spilt 41 = .ok (.aload_n 0, 1) := by decide +kernel
theorem dX8_spilt_42 : decode cX8_spilt 42 = .ok (.bipush (-2), 2) := by decide +kernel
theorem dX8_spilt_44 : decode cX8_spilt 44 = .ok (.invokevirtual 59, 3) := by decide +kernel
theorem dX8_spilt_47 : decode cX8_spilt 47 = .ok (.ireturn, 1) := by decide +kernel
theorem dX8_when_0 : decode cX8_when 0 = .ok (.aload_n 0, 1) := by decide +kernel
theorem dX8_when_1 : decode cX8_when 1 = .ok (.getfield 10, 3) := by decide +kernel
theorem dX8_when_4 : decode cX8_when 4 = .ok (.iload_n 1, 1) := by decide +kernel
theorem dX8_when_5 : decode cX8_when 5 = .ok (.invokevirtual 108, 3) := by decide +kernel
theorem dX8_when_8 : decode cX8_when 8 = .ok (.ifCond .ne 10, 3) := by decide +kernel
theorem dX8_when_11 : decode cX8_when 11 = .ok (.aload_n 0, 1) := by decide +kernel
theorem dX8_when_12 : decode cX8_when 12 = .ok (.bipush (-2), 2) := by decide +kernel
theorem dX8_when_14 : decode cX8_when 14 = .ok (.invokevirtual 59, 3) := by decide +kernel
theorem dX8_when_17 : decode cX8_when 17 = .ok (.ireturn, 1) := by decide +kernel
theorem dX8_within_0 : decode cX8_within 0 = .ok (.iload_n 0, 1) := by decide +kernel
theorem dX8_within_1 : decode cX8_within 1 = .ok (.iload_n 1, 1) := by decide +kernel
theorem dX8_within_2 : decode cX8_within 2 = .ok (.if_icmp .lt 12, 3) := by decide +kernel
theorem dX8_within_5 : decode cX8_within 5 = .ok (.iload_n 0, 1) := by decide +kernel
theorem dX8_within_6 : decode cX8_within 6 = .ok (.iload_n 2, 1) := by decide +kernel
theorem dX8_within_7 : decode cX8_within 7 = .ok (.if_icmp .gt 7, 3) := by decide +kernel
theorem dX8_within_10 : decode cX8_within 10 = .ok (.iconst 1, 1) := by decide +kernel
theorem dX8_within_11 : decode cX8_within 11 = .ok (.goto 4, 3) := by decide +kernel
theorem dX8_within_14 : decode cX8_within 14 = .ok (.iconst 0, 1) := by decide +kernel
theorem dX8_within_15 : decode cX8_within 15 = .ok (.ireturn, 1) := by decide +kernel
