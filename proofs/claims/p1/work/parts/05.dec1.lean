theorem dX9_hours_20 : decode cX9_hours 20 = .ok (.invokevirtual 123, 3) := by decide +kernel
theorem dX9_hours_23 : decode cX9_hours 23 = .ok (.aload_n 0, 1) := by decide +kernel
theorem dX9_hours_24 : decode cX9_hours 24 = .ok (.getfield 7, 3) := by decide +kernel
theorem dX9_hours_27 : decode cX9_hours 27 = .ok (.iload_n 1, 1) := by decide +kernel
theorem dX9_hours_28 : decode cX9_hours 28 = .ok (.invokestatic 132, 3) := by decide +kernel
theorem dX9_hours_31 : decode cX9_hours 31 = .ok (.aload_n 0, 1) := by decide +kernel
theorem dX9_hours_32 : decode cX9_hours 32 = .ok (.getfield 7, 3) := by decide +kernel
theorem dX9_hours_35 : decode cX9_hours 35 = .ok (.iconst 5, 1) := by decide +kernel
theorem dX9_hours_36 : decode cX9_hours 36 = .ok (.iaload, 1) := by decide +kernel
theorem dX9_hours_37 : decode cX9_hours 37 = .ok (.ireturn, 1) := by decide +kernel
theorem dX9_image_0 : decode cX9_image 0 = .ok (.iload_n 1, 1) := by decide +kernel
theorem dX9_image_1 : decode cX9_image 1 = .ok (.i2l, 1) := by decide +kernel
theorem dX9_image_2 : decode cX9_image 2 = .ok (.lconst 0, 1) := by decide +kernel
theorem dX9_image_3 : decode cX9_image 3 = .ok (.lconst 1, 1) := by decide +kernel
theorem dX9_image_4 : decode cX9_image 4 = .ok (.invokestatic 46, 3) := by decide +kernel
theorem dX9_image_7 : decode cX9_image 7 = .ok (.ifCond .ne 10, 3) := by decide +kernel
theorem dX9_image_10 : decode cX9_image 10 = .ok (.aload_n 0, 1) := by decide +kernel
theorem dX9_image_11 : decode cX9_image 11 = .ok (.bipush (-2), 2) := by decide +kernel
theorem dX9_image_13 : decode cX9_image 13 = .ok (.invokevirtual 62, 3) := by decide +kernel
theorem dX9_image_16 : decode cX9_image 16 = .ok (.ireturn, 1) := by decide +kernel
theorem dX9_image_17 : decode cX9_image 17 = .ok (.iconst 0, 1) := by decide +kernel
theorem dX9_image_18 : decode cX9_image 18 = .ok (.istore_n 2, 1) := by decide +kernel
theorem dX9_image_19 : decode cX9_image 19 = .ok (.iload_n 2, 1) := by decide +kernel
theorem dX9_image_20 : decode cX9_image 20 = .ok (.sipush 177, 3) := by decide +kernel
theorem dX9_image_23 : decode cX9_image 23 = .ok (.if_icmp .ge 27, 3) := by decide +kernel
theorem dX9_image_26 : decode cX9_image 26 = .ok (.aload_n 0, 1) := by decide +kernel
theorem dX9_image_27 : decode cX9_image 27 = .ok (.getfield 13, 3) := by decide +kernel
theorem dX9_image_30 : decode cX9_image 30 = .ok (.sipush 177, 3) := by decide +kernel
theorem dX9_image_33 : decode cX9_image 33 = .ok (.iload_n 1, 1) := by decide +kernel
theorem dX9_image_34 : decode cX9_image 34 = .ok (.imul, 1) := by decide +kernel
theorem dX9_image_35 : decode cX9_image 35 = .ok (.iload_n 2, 1) := by decide +kernel
theorem dX9_image_36 : decode cX9_image 36 = .ok (.iadd, 1) := by decide +kernel
theorem dX9_image_37 : decode cX9_image 37 = .ok (.aload_n 0, 1) := by decide +kernel
theorem dX9_image_38 : decode cX9_image 38 = .ok (.getfield 7, 3) := by decide +kernel
theorem dX9_image_41 : decode cX9_image 41 = .ok (.iload_n 2, 1) := by decide +kernel
theorem dX9_image_42 : decode cX9_image 42 = .ok (.iaload, 1) := by decide +kernel
theorem dX9_image_43 : decode cX9_image 43 = .ok (.iastore, 1) := by decide +kernel
theorem dX9_image_44 : decode cX9_image 44 = .ok (.iinc 2 1, 3) := by decide +kernel
theorem dX9_image_47 : decode cX9_image 47 = .ok (.goto (-28), 3) := by decide +kernel
theorem dX9_image_50 : decode cX9_image 50 = .ok (.aload_n 0, 1) := by decide +kernel
theorem dX9_image_51 : decode cX9_image 51 = .ok (.getfield 16, 3) := by decide +kernel
theorem dX9_image_54 : decode cX9_image 54 = .ok (.iload_n 1, 1) := by decide +kernel
theorem dX9_image_55 : decode cX9_image 55 = .ok (.iconst 1, 1) := by decide +kernel
theorem dX9_image_56 : decode cX9_image 56 = .ok (.bastore, 1) := by decide +kernel
theorem dX9_image_57 : decode cX9_image 57 = .ok (.iconst 1, 1) := by decide +kernel
theorem dX9_image_58 : decode cX9_image 58 = .ok (.ireturn, 1) := by decide +kernel
theorem dX9_in_0 : decode cX9_in 0 = .ok (.lload_n 0, 1) := by decide +kernel
theorem dX9_in_1 : decode cX9_in 1 = .ok (.lload_n 2, 1) := by decide +kernel
theorem dX9_in_2 : decode cX9_in 2 = .ok (.lcmp, 1) := by decide +kernel
theorem dX9_in_3 : decode cX9_in 3 = .ok (.ifCond .lt 14, 3) := by decide +kernel
theorem dX9_in_6 : decode cX9_in 6 = .ok (.lload_n 0, 1) := by decide +kernel
theorem dX9_in_7 : decode cX9_in 7 = .ok (.lload 4, 2) := by decide +kernel
theorem dX9_in_9 : decode cX9_in 9 = .ok (.lcmp, 1) := by decide +kernel
theorem dX9_in_10 : decode cX9_in 10 = .ok (.ifCond .gt 7, 3) := by decide +kernel
theorem dX9_in_13 : decode cX9_in 13 = .ok (.iconst 1, 1) := by decide +kernel
theorem dX9_in_14 : decode cX9_in 14 = .ok (.goto 4, 3) := by decide +kernel
theorem dX9_in_17 : decode cX9_in 17 = .ok (.iconst 0, 1) := by decide +kernel
theorem dX9_in_18 : decode cX9_in 18 = .ok (.ireturn, 1) := by decide +kernel
theorem dX9_into_0 : decode cX9_into 0 = .ok (.aload_n 0, 1) := by decide +kernel
theorem dX9_into_1 : decode cX9_into 1 = .ok (.iload_n 1, 1) := by decide +kernel
theorem dX9_into_2 : decode cX9_into 2 = .ok (.invokevirtual 113, 3) := by decide +kernel
theorem dX9_into_5 : decode cX9_into 5 = .ok (.ifCond .eq 25, 3) := by decide +kernel
theorem dX9_into_30 : decode cX9_into 30 = .ok (.aload_n 0, 1) := by decide +kernel
theorem dX9_into_31 : decode cX9_into 31 = .ok (.bipush (-2), 2) := by decide +kernel
theorem dX9_into_33 : decode cX9_into 33 = .ok (.invokevirtual 62, 3) := by decide +kernel
theorem dX9_into_36 : decode cX9_into 36 = .ok (.ireturn, 1) := by decide +kernel
theorem dX9_is_0 : decode cX9_is 0 = .ok (.aload_n 0, 1) := by decide +kernel
theorem dX9_is_1 : decode cX9_is 1 = .ok (.iload_n 1, 1) := by decide +kernel
theorem dX9_is_2 : decode cX9_is 2 = .ok (.invokevirtual 110, 3) := by decide +kernel
theorem dX9_is_5 : decode cX9_is 5 = .ok (.ifCond .eq 11, 3) := by decide +kernel
theorem dX9_is_16 : decode cX9_is 16 = .ok (.aload_n 0, 1) := by decide +kernel
theorem dX9_is_17 : decode cX9_is 17 = .ok (.bipush (-2), 2) := by decide +kernel
theorem dX9_is_19 : decode cX9_is 19 = .ok (.invokevirtual 62, 3) := by decide +kernel
theorem dX9_is_22 : decode cX9_is 22 = .ok (.ireturn, 1) := by decide +kernel
theorem dX9_isCaster_0 : decode cX9_isCaster 0 = .ok (.iload_n 1, 1) := by decide +kernel
theorem dX9_isCaster_1 : decode cX9_isCaster 1 = .ok (.i2l, 1) := by decide +kernel
theorem dX9_isCaster_2 : decode cX9_isCaster 2 = .ok (.lconst 0, 1) := by decide +kernel
theorem dX9_isCaster_3 : decode cX9_isCaster 3 = .ok (.aload_n 0, 1) := by decide +kernel
theorem dX9_isCaster_4 : decode cX9_isCaster 4 = .ok (.getfield 7, 3) := by decide +kernel
theorem dX9_isCaster_7 : decode cX9_isCaster 7 = .ok (.iconst 0, 1) := by decide +kernel
theorem dX9_isCaster_8 : decode cX9_isCaster 8 = .ok (.iaload, 1) := by decide +kernel
theorem dX9_isCaster_9 : decode cX9_isCaster 9 = .ok (.iconst 1, 1) := by decide +kernel
theorem dX9_isCaster_10 : decode cX9_isCaster 10 = .ok (.isub, 1) := by decide +kernel
theorem dX9_isCaster_11 : decode cX9_isCaster 11 = .ok (.i2l, 1) := by decide +kernel
theorem dX9_isCaster_12 : decode cX9_isCaster 12 = .ok (.invokestatic 46, 3) := by decide +kernel
theorem dX9_isCaster_15 : decode cX9_isCaster 15 = .ok (.ireturn, 1) := by decide +kernel
theorem dX9_isHeight_0 : decode cX9_isHeight 0 = .ok (.iload_n 0, 1) := by decide +kernel
theorem dX9_isHeight_1 : decode cX9_isHeight 1 = .ok (.i2l, 1) := by decide +kernel
theorem dX9_isHeight_2 : decode cX9_isHeight 2 = .ok (.lconst 1, 1) := by decide +kernel
theorem dX9_isHeight_3 : decode cX9_isHeight 3 = .ok (.ldc2_w 52, 3) := by decide +kernel
theorem dX9_isHeight_6 : decode cX9_isHeight 6 = .ok (.invokestatic 46, 3) := by decide +kernel
theorem dX9_isHeight_9 : decode cX9_isHeight 9 = .ok (.ireturn, 1) := by decide +kernel
theorem dX9_isJar_0 : decode cX9_isJar 0 = .ok (.iload_n 1, 1) := by decide +kernel
theorem dX9_isJar_1 : decode cX9_isJar 1 = .ok (.i2l, 1) := by decide +kernel
theorem dX9_isJar_2 : decode cX9_isJar 2 = .ok (.lconst 0, 1) := by decide +kernel
theorem dX9_isJar_3 : decode cX9_isJar 3 = .ok (.aload_n 0, 1) := by decide +kernel
theorem dX9_isJar_4 : decode cX9_isJar 4 = .ok (.getfield 7, 3) := by decide +kernel
theorem dX9_isJar_7 : decode cX9_isJar 7 = .ok (.iconst 1, 1) := by decide +kernel
theorem dX9_isJar_8 : decode cX9_isJar 8 = .ok (.iaload, 1) := by decide +kernel
theorem dX9_isJar_9 : decode cX9_isJar 9 = .ok (.iconst 1, 1) := by decide +kernel
theorem dX9_isJar_10 : decode cX9_isJar 10 = .ok (.isub, 1) := by decide +kernel
theorem dX9_isJar_11 : decode cX9_isJar 11 = .ok (.i2l, 1) := by decide +kernel
theorem dX9_isJar_12 : decode cX9_isJar 12 = .ok (.invokestatic 46, 3) := by decide +kernel
theorem dX9_isJar_15 : decode cX9_isJar 15 = .ok (.ireturn, 1) := by decide +kernel
theorem dX9_isKind_0 : decode cX9_isKind 0 = .ok (.iload_n 0, 1) := by decide +kernel
theorem dX9_isKind_1 : decode cX9_isKind 1 = .ok (.i2l, 1) := by decide +kernel
theorem dX9_isKind_2 : decode cX9_isKind 2 = .ok (.lconst 0, 1) := by decide +kernel
theorem dX9_isKind_3 : decode cX9_isKind 3 = .ok (.ldc2_w 50, 3) := by decide +kernel
theorem dX9_isKind_6 : decode cX9_isKind 6 = .ok (.invokestatic 46, 3) := by decide +kernel
theorem dX9_isKind_9 : decode cX9_isKind 9 = .ok (.ireturn, 1) := by decide +kernel
theorem dX9_isTaste_0 : decode cX9_isTaste 0 = .ok (.iload_n 0, 1) := by decide +kernel
theorem dX9_isTaste_1 : decode cX9_isTaste 1 = .ok (.i2l, 1) := by decide +kernel
theorem dX9_isTaste_2 : decode cX9_isTaste 2 = .ok (.lconst 0, 1) := by decide +kernel
theorem dX9_isTaste_3 : decode cX9_isTaste 3 = .ok (.ldc2_w 54, 3) := by decide +kernel
theorem dX9_isTaste_6 : decode cX9_isTaste 6 = .ok (.invokestatic 46, 3) := by decide +kernel
theorem dX9_isTaste_9 : decode cX9_isTaste 9 = .ok (.ireturn, 1) := by decide +kernel
theorem dX9_island_0 : decode cX9_island 0 = .ok (.iload_n 1, 1) := by decide +kernel
theorem dX9_island_1 : decode cX9_island 1 = .ok (.i2l, 1) := by decide +kernel
theorem dX9_island_2 : decode cX9_island 2 = .ok (.lconst 0, 1) := by decide +kernel
theorem dX9_island_3 : decode cX9_island 3 = .ok (.ldc2_w 60, 3) := by decide +kernel
theorem dX9_island_6 : decode cX9_island 6 = .ok (.invokestatic 46, 3) := by decide +kernel
theorem dX9_island_9 : decode cX9_island 9 = .ok (.ifCond .ne 10, 3) := by decide +kernel
theorem dX9_island_12 : decode cX9_island 12 = .ok (.aload_n 0, 1) := by decide +kernel
theorem dX9_island_13 : decode cX9_island 13 = .ok (.bipush (-2), 2) := by decide +kernel
theorem dX9_island_15 : decode cX9_island 15 = .ok (.invokevirtual 62, 3) := by decide +kernel
theorem dX9_island_18 : decode cX9_island 18 = .ok (.ireturn, 1) := by decide +kernel
theorem dX9_island_19 : decode cX9_island 19 = .ok (.aload_n 0, 1) := by decide +kernel
theorem dX9_island_20 : decode cX9_island 20 = .ok (.getfield 7, 3) := by decide +kernel
theorem dX9_island_23 : decode cX9_island 23 = .ok (.iconst 0, 1) := by decide +kernel
theorem dX9_island_24 : decode cX9_island 24 = .ok (.iaload, 1) := by decide +kernel
theorem dX9_island_25 : decode cX9_island 25 = .ok (.istore_n 2, 1) := by decide +kernel
theorem dX9_island_26 : decode cX9_island 26 = .ok (.aload_n 0, 1) := by decide +kernel
theorem dX9_island_27 : decode cX9_island 27 = .ok (.getfield 7, 3) := by decide +kernel
theorem dX9_island_30 : decode cX9_island 30 = .ok (.iload_n 1, 1) := by decide +kernel
theorem dX9_island_31 : decode cX9_island 31 = .ok (.invokestatic 42, 3) := by decide +kernel
theorem dX9_island_34 : decode cX9_island 34 = .ok (.iload_n 2, 1) := by decide +kernel
theorem dX9_island_35 : decode cX9_island 35 = .ok (.ireturn, 1) := by decide +kernel
theorem dX9_jar_0 : decode cX9_jar 0 = .ok (.iload_n 1, 1) := by decide +kernel
theorem dX9_jar_1 : decode cX9_jar 1 = .ok (.invokestatic 66, 3) := by decide +kernel
theorem dX9_jar_4 : decode cX9_jar 4 = .ok (.ifCond .ne 10, 3) := by decide +kernel
theorem dX9_jar_7 : decode cX9_jar 7 = .ok (.aload_n 0, 1) := by decide +kernel
theorem dX9_jar_8 : decode cX9_jar 8 = .ok (.bipush (-2), 2) := by decide +kernel
theorem dX9_jar_10 : decode cX9_jar 10 = .ok (.invokevirtual 62, 3) := by decide +kernel
theorem dX9_jar_13 : decode cX9_jar 13 = .ok (.ireturn, 1) := by decide +kernel
theorem dX9_jar_14 : decode cX9_jar 14 = .ok (.aload_n 0, 1) := by decide +kernel
theorem dX9_jar_15 : decode cX9_jar 15 = .ok (.getfield 7, 3) := by decide +kernel
theorem dX9_jar_18 : decode cX9_jar 18 = .ok (.iconst 1, 1) := by decide +kernel
theorem dX9_jar_19 : decode cX9_jar 19 = .ok (.iaload, 1) := by decide +kernel
theorem dX9_jar_20 : decode cX9_jar 20 = .ok (.iconst 4, 1) := by decide +kernel
theorem dX9_jar_21 : decode cX9_jar 21 = .ok (.if_icmp .ne 8, 3) := by decide +kernel
theorem dX9_jar_29 : decode cX9_jar 29 = .ok (.aload_n 0, 1) := by decide +kernel
theorem dX9_jar_30 : decode cX9_jar 30 = .ok (.getfield 7, 3) := by decide +kernel
theorem dX9_jar_33 : decode cX9_jar 33 = .ok (.iload_n 1, 1) := by decide +kernel
theorem dX9_jar_34 : decode cX9_jar 34 = .ok (.invokestatic 84, 3) := by decide +kernel
theorem dX9_jar_37 : decode cX9_jar 37 = .ok (.aload_n 0, 1) := by decide +kernel
theorem dX9_jar_38 : decode cX9_jar 38 = .ok (.getfield 7, 3) := by decide +kernel
theorem dX9_jar_41 : decode cX9_jar 41 = .ok (.iconst 4, 1) := by decide +kernel
theorem dX9_jar_42 : decode cX9_jar 42 = .ok (.iconst 0, 1) := by decide +kernel
theorem dX9_jar_43 : decode cX9_jar 43 = .ok (.iastore, 1) := by decide +kernel
theorem dX9_jar_44 : decode cX9_jar 44 = .ok (.aload_n 0, 1) := by decide +kernel
theorem dX9_jar_45 : decode cX9_jar 45 = .ok (.getfield 7, 3) := by decide +kernel
theorem dX9_jar_48 : decode cX9_jar 48 = .ok (.iconst 1, 1) := by decide +kernel
theorem dX9_jar_49 : decode cX9_jar 49 = .ok (.iaload, 1) := by decide +kernel
theorem dX9_jar_50 : decode cX9_jar 50 = .ok (.iconst 1, 1) := by decide +kernel
theorem dX9_jar_51 : decode cX9_jar 51 = .ok (.isub, 1) := by decide +kernel
theorem dX9_jar_52 : decode cX9_jar 52 = .ok (.ireturn, 1) := by decide +kernel
theorem dX9_keeps_0 : decode cX9_keeps 0 = .ok (.aload_n 0, 1) := by decide +kernel
theorem dX9_keeps_1 : decode cX9_keeps 1 = .ok (.iload_n 1, 1) := by decide +kernel
theorem dX9_keeps_2 : decode cX9_keeps 2 = .ok (.invokevirtual 113, 3) := by decide +kernel
theorem dX9_keeps_5 : decode cX9_keeps 5 = .ok (.ifCond .eq 15, 3) := by decide +kernel
theorem dX9_keeps_20 : decode cX9_keeps 20 = .ok (.aload_n 0, 1) := by decide +kernel
theorem dX9_keeps_21 : decode cX9_keeps 21 = .ok (.bipush (-2), 2) := by decide +kernel
theorem dX9_keeps_23 : decode cX9_keeps 23 = .ok (.invokevirtual 62, 3) := by decide +kernel
theorem dX9_keeps_26 : decode cX9_keeps 26 = .ok (.ireturn, 1) := by decide +kernel
theorem dX9_kinds_0 : decode cX9_kinds 0 = .ok (.aload_n 0, 1) := by decide +kernel
theorem dX9_kinds_1 : decode cX9_kinds 1 = .ok (.iload_n 1, 1) := by decide +kernel
theorem dX9_kinds_2 : decode cX9_kinds 2 = .ok (.invokevirtual 113, 3) := by decide +kernel
theorem dX9_kinds_5 : decode cX9_kinds 5 = .ok (.ifCond .eq 11, 3) := by decide +kernel
theorem dX9_kinds_16 : decode cX9_kinds 16 = .ok (.aload_n 0, 1) := by decide +kernel
theorem dX9_kinds_17 : decode cX9_kinds 17 = .ok (.bipush (-2), 2) := by decide +kernel
theorem dX9_kinds_19 : decode cX9_kinds 19 = .ok (.invokevirtual 62, 3) := by decide +kernel
theorem dX9_kinds_22 : decode cX9_kinds 22 = .ok (.ireturn, 1) := by decide +kernel
theorem dX9_ladle_0 : decode cX9_ladle 0 = .ok (.aload_n 0, 1) := by decide +kernel
theorem dX9_ladle_1 : decode cX9_ladle 1 = .ok (.iload_n 1, 1) := by decide +kernel
theorem dX9_ladle_2 : decode cX9_ladle 2 = .ok (.invokevirtual 110, 3) := by decide +kernel
theorem dX9_ladle_5 : decode cX9_ladle 5 = .ok (.ifCond .eq 11, 3) := by decide +kernel
theorem dX9_ladle_16 : decode cX9_ladle 16 = .ok (.aload_n 0, 1) := by decide +kernel
theorem dX9_ladle_17 : decode cX9_ladle 17 = .ok (.bipush (-2), 2) := by decide +kernel
theorem dX9_ladle_19 : decode cX9_ladle 19 = .ok (.invokevirtual 62, 3) := by decide +kernel
theorem dX9_ladle_22 : decode cX9_ladle 22 = .ok (.ireturn, 1) := by decide +kernel
theorem dX9_layCaster_0 : decode cX9_layCaster 0 = .ok (.aload_n 0, 1) := by decide +kernel
theorem dX9_layCaster_1 : decode cX9_layCaster 1 = .ok (.bipush 16, 2) := by decide +kernel
theorem dX9_layCaster_3 : decode cX9_layCaster 3 = .ok (.aload_n 0, 1) := by decide +kernel
theorem dX9_layCaster_4 : decode cX9_layCaster 4 = .ok (.iconst 0, 1) := by decide +kernel
theorem dX9_layCaster_5 : decode cX9_layCaster 5 = .ok (.iaload, 1) := by decide +kernel
theorem dX9_layCaster_6 : decode cX9_layCaster 6 = .ok (.iadd, 1) := by decide +kernel
theorem dX9_layCaster_7 : decode cX9_layCaster 7 = .ok (.iload_n 1, 1) := by decide +kernel
theorem dX9_layCaster_8 : decode cX9_layCaster 8 = .ok (.iastore, 1) := by decide +kernel
theorem dX9_layCaster_9 : decode cX9_layCaster 9 = .ok (.aload_n 0, 1) := by decide +kernel
theorem dX9_layCaster_10 : decode cX9_layCaster 10 = .ok (.bipush 23, 2) := by decide +kernel
theorem dX9_layCaster_12 : decode cX9_layCaster 12 = .ok (.aload_n 0, 1) := by decide +kernel
theorem dX9_layCaster_13 : decode cX9_layCaster 13 = .ok (.iconst 0, 1) := by decide +kernel
theorem dX9_layCaster_14 : decode cX9_layCaster 14 = .ok (.iaload, 1) := by decide +kernel
theorem dX9_layCaster_15 : decode cX9_layCaster 15 = .ok (.iadd, 1) := by decide +kernel
theorem dX9_layCaster_16 : decode cX9_layCaster 16 = .ok (.iload_n 2, 1) := by decide +kernel
theorem dX9_layCaster_17 : decode cX9_layCaster 17 = .ok (.iastore, 1) := by decide +kernel
theorem dX9_layCaster_18 : decode cX9_layCaster 18 = .ok (.aload_n 0, 1) := by decide +kernel
theorem dX9_layCaster_19 : decode cX9_layCaster 19 = .ok (.bipush 30, 2) := by decide +kernel
theorem dX9_layCaster_21 : decode cX9_layCaster 21 = .ok (.aload_n 0, 1) := by decide +kernel
theorem dX9_layCaster_22 : decode cX9_layCaster 22 = .ok (.iconst 0, 1) := by decide +kernel
theorem dX9_layCaster_23 : decode cX9_layCaster 23 = .ok (.iaload, 1) := by decide +kernel
theorem dX9_layCaster_24 : decode cX9_layCaster 24 = .ok (.iadd, 1) := by decide +kernel
theorem dX9_layCaster_25 : decode cX9_layCaster 25 = .ok (.iload_n 3, 1) := by decide +kernel
theorem dX9_layCaster_26 : decode cX9_layCaster 26 = .ok (.iastore, 1) := by decide +kernel
theorem dX9_layCaster_27 : decode cX9_layCaster 27 = .ok (.aload_n 0, 1) := by decide +kernel
theorem dX9_layCaster_28 : decode cX9_layCaster 28 = .ok (.iconst 0, 1) := by decide +kernel
theorem dX9_layCaster_29 : decode cX9_layCaster 29 = .ok (.dup2, 1) := by decide +kernel
theorem dX9_layCaster_30 : decode cX9_layCaster 30 = .ok (.iaload, 1) := by decide +kernel
theorem dX9_layCaster_31 : decode cX9_layCaster 31 = .ok (.iconst 1, 1) := by decide +kernel
theorem dX9_layCaster_32 : decode cX9_layCaster 32 = .ok (.iadd, 1) := by decide +kernel
theorem dX9_layCaster_33 : decode cX9_layCaster 33 = .ok (.iastore, 1) := by decide +kernel
theorem dX9_layCaster_34 : decode cX9_layCaster 34 = .ok (.return_, 1) := by decide +kernel
theorem dX9_layHand_0 : decode cX9_layHand 0 = .ok (.iconst 0, 1) := by decide +kernel
theorem dX9_layHand_1 : decode cX9_layHand 1 = .ok (.istore_n 1, 1) := by decide +kernel
theorem dX9_layHand_2 : decode cX9_layHand 2 = .ok (.iload_n 1, 1) := by decide +kernel
theorem dX9_layHand_3 : decode cX9_layHand 3 = .ok (.bipush 41, 2) := by decide +kernel
theorem dX9_layHand_5 : decode cX9_layHand 5 = .ok (.if_icmp .ge 21, 3) := by decide +kernel
theorem dX9_layHand_8 : decode cX9_layHand 8 = .ok (.aload_n 0, 1) := by decide +kernel
theorem dX9_layHand_9 : decode cX9_layHand 9 = .ok (.getfield 27, 3) := by decide +kernel
theorem dX9_layHand_12 : decode cX9_layHand 12 = .ok (.iload_n 1, 1) := by decide +kernel
theorem dX9_layHand_13 : decode cX9_layHand 13 = .ok (.aload_n 0, 1) := by decide +kernel
theorem dX9_layHand_14 : decode cX9_layHand 14 = .ok (.getfield 7, 3) := by decide +kernel
theorem dX9_layHand_17 : decode cX9_layHand 17 = .ok (.iload_n 1, 1) := by decide +kernel
theorem dX9_layHand_18 : decode cX9_layHand 18 = .ok (.iaload, 1) := by decide +kernel
theorem dX9_layHand_19 : decode cX9_layHand 19 = .ok (.iastore, 1) := by decide +kernel
theorem dX9_layHand_20 : decode cX9_layHand 20 = .ok (.iinc 1 1, 3) := by decide +kernel
theorem dX9_layHand_23 : decode cX9_layHand 23 = .ok (.goto (-21), 3) := by decide +kernel
theorem dX9_layHand_26 : decode cX9_layHand 26 = .ok (.return_, 1) := by decide +kernel
theorem dX9_layJar_0 : decode cX9_layJar 0 = .ok (.aload_n 0, 1) := by decide +kernel
theorem dX9_layJar_1 : decode cX9_layJar 1 = .ok (.bipush 37, 2) := by decide +kernel
theorem dX9_layJar_3 : decode cX9_layJar 3 = .ok (.aload_n 0, 1) := by decide +kernel
theorem dX9_layJar_4 : decode cX9_layJar 4 = .ok (.iconst 1, 1) := by decide +kernel
theorem dX9_layJar_5 : decode cX9_layJar 5 = .ok (.iaload, 1) := by decide +kernel
theorem dX9_layJar_6 : decode cX9_layJar 6 = .ok (.iadd, 1) := by decide +kernel
theorem dX9_layJar_7 : decode cX9_layJar 7 = .ok (.iload_n 1, 1) := by decide +kernel
theorem dX9_layJar_8 : decode cX9_layJar 8 = .ok (.iastore, 1) := by decide +kernel
theorem dX9_layJar_9 : decode cX9_layJar 9 = .ok (.aload_n 0, 1) := by decide +kernel
theorem dX9_layJar_10 : decode cX9_layJar 10 = .ok (.iconst 1, 1) := by decide +kernel
theorem dX9_layJar_11 : decode cX9_layJar 11 = .ok (.dup2, 1) := by decide +kernel
theorem dX9_layJar_12 : decode cX9_layJar 12 = .ok (.iaload, 1) := by decide +kernel
theorem dX9_layJar_13 : decode cX9_layJar 13 = .ok (.iconst 1, 1) := by decide +kernel
theorem dX9_layJar_14 : decode cX9_layJar 14 = .ok (.iadd, 1) := by decide +kernel
theorem dX9_layJar_15 : decode cX9_layJar 15 = .ok (.iastore, 1) := by decide +kernel
theorem dX9_layJar_16 : decode cX9_layJar 16 = .ok (.return_, 1) := by decide +kernel
theorem dX9_look_0 : decode cX9_look 0 = .ok (.aload_n 0, 1) := by decide +kernel
theorem dX9_look_1 : decode cX9_look 1 = .ok (.iload_n 1, 1) := by decide +kernel
theorem dX9_look_2 : decode cX9_look 2 = .ok (.invokevirtual 110, 3) := by decide +kernel
theorem dX9_look_5 : decode cX9_look 5 = .ok (.ifCond .ne 10, 3) := by decide +kernel
theorem dX9_look_8 : decode cX9_look 8 = .ok (.aload_n 0, 1) := by decide +kernel
theorem dX9_look_9 : decode cX9_look 9 = .ok (.bipush (-2), 2) := by decide +kernel
theorem dX9_look_11 : decode cX9_look 11 = .ok (.invokevirtual 62, 3) := by decide +kernel
theorem dX9_look_14 : decode cX9_look 14 = .ok (.ireturn, 1) := by decide +kernel
theorem dX9_lookAt_0 : decode cX9_lookAt 0 = .ok (.aload_n 0, 1) := by decide +kernel
theorem dX9_lookAt_1 : decode cX9_lookAt 1 = .ok (.iload_n 1, 1) := by decide +kernel
theorem dX9_lookAt_2 : decode cX9_lookAt 2 = .ok (.putfield 250, 3) := by decide +kernel
theorem dX9_lookAt_5 : decode cX9_lookAt 5 = .ok (.aload_n 0, 1) := by decide +kernel
theorem dX9_lookAt_6 : decode cX9_lookAt 6 = .ok (.getfield 250, 3) := by decide +kernel
theorem dX9_lookAt_9 : decode cX9_lookAt 9 = .ok (.aload_n 0, 1) := by decide +kernel
theorem dX9_lookAt_10 : decode cX9_lookAt 10 = .ok (.getfield 239, 3) := by decide +kernel
theorem dX9_lookAt_13 : decode cX9_lookAt 13 = .ok (.if_icmp .ge 30, 3) := by decide +kernel
theorem dX9_lookAt_43 : decode cX9_lookAt 43 = .ok (.aload_n 0, 1) := by decide +kernel
theorem dX9_lookAt_44 : decode cX9_lookAt 44 = .ok (.iconst 0, 1) := by decide +kernel
theorem dX9_lookAt_45 : decode cX9_lookAt 45 = .ok (.putfield 253, 3) := by decide +kernel
theorem dX9_lookAt_48 : decode cX9_lookAt 48 = .ok (.aload_n 0, 1) := by decide +kernel
theorem dX9_lookAt_49 : decode cX9_lookAt 49 = .ok (.iconst 0, 1) := by decide +kernel
theorem dX9_lookAt_50 : decode cX9_lookAt 50 = .ok (.putfield 256, 3) := by decide +kernel
theorem dX9_lookAt_53 : decode cX9_lookAt 53 = .ok (.aload_n 0, 1) := by decide +kernel
theorem dX9_lookAt_54 : decode cX9_lookAt 54 = .ok (.iconst 0, 1) := by decide +kernel
theorem dX9_lookAt_55 : decode cX9_lookAt 55 = .ok (.putfield 259, 3) := by decide +kernel
theorem dX9_lookAt_58 : decode cX9_lookAt 58 = .ok (.aload_n 0, 1) := by decide +kernel
theorem dX9_lookAt_59 : decode cX9_lookAt 59 = .ok (.getfield 250, 3) := by decide +kernel
theorem dX9_lookAt_62 : decode cX9_lookAt 62 = .ok (.aload_n 0, 1) := by decide +kernel
theorem dX9_lookAt_63 : decode cX9_lookAt 63 = .ok (.getfield 239, 3) := by decide +kernel
theorem dX9_lookAt_66 : decode cX9_lookAt 66 = .ok (.if_icmp .ne 4, 3) := by decide +kernel
theorem dX9_lookAt_69 : decode cX9_lookAt 69 = .ok (.return_, 1) := by decide +kernel
theorem dX9_mark_0 : decode cX9_mark 0 = .ok (.aload_n 0, 1) := by decide +kernel
theorem dX9_mark_1 : decode cX9_mark 1 = .ok (.iload_n 1, 1) := by decide +kernel
theorem dX9_mark_2 : decode cX9_mark 2 = .ok (.invokevirtual 113, 3) := by decide +kernel
theorem dX9_mark_5 : decode cX9_mark 5 = .ok (.ifCond .eq 25, 3) := by decide +kernel
theorem dX9_mark_30 : decode cX9_mark 30 = .ok (.aload_n 0, 1) := by decide +kernel
theorem dX9_mark_31 : decode cX9_mark 31 = .ok (.bipush (-2), 2) := by decide +kernel
theorem dX9_mark_33 : decode cX9_mark 33 = .ok (.invokevirtual 62, 3) := by decide +kernel
theorem dX9_mark_36 : decode cX9_mark 36 = .ok (.ireturn, 1) := by decide +kernel
theorem dX9_mayName_0 : decode cX9_mayName 0 = .ok (.aload_n 0, 1) := by decide +kernel
theorem dX9_mayName_1 : decode cX9_mayName 1 = .ok (.iload_n 1, 1) := by decide +kernel
theorem dX9_mayName_2 : decode cX9_mayName 2 = .ok (.invokevirtual 110, 3) := by decide +kernel
theorem dX9_mayName_5 : decode cX9_mayName 5 = .ok (.ifCond .eq 21, 3) := by decide +kernel
theorem dX9_mayName_26 : decode cX9_mayName 26 = .ok (.iconst 0, 1) := by decide +kernel
theorem dX9_mayName_27 : decode cX9_mayName 27 = .ok (.ireturn, 1) := by decide +kernel
theorem dX9_no_0 : decode cX9_no 0 = .ok (.aload_n 0, 1) := by decide +kernel
theorem dX9_no_1 : decode cX9_no 1 = .ok (.getfield 20, 3) := by decide +kernel
theorem dX9_no_4 : decode cX9_no 4 = .ok (.iconst 1, 1) := by decide +kernel
theorem dX9_no_5 : decode cX9_no 5 = .ok (.dup2, 1) := by decide +kernel
theorem dX9_no_6 : decode cX9_no 6 = .ok (.iaload, 1) := by decide +kernel
theorem dX9_no_7 : decode cX9_no 7 = .ok (.iconst 1, 1) := by decide +kernel
theorem dX9_no_8 : decode cX9_no 8 = .ok (.iadd, 1) := by decide +kernel
theorem dX9_no_9 : decode cX9_no 9 = .ok (.iastore, 1) := by decide +kernel
theorem dX9_no_10 : decode cX9_no 10 = .ok (.bipush (-3), 2) := by decide +kernel
theorem dX9_no_12 : decode cX9_no 12 = .ok (.ireturn, 1) := by decide +kernel
theorem dX9_noons_0 : decode cX9_noons 0 = .ok (.iload_n 1, 1) := by decide +kernel
theorem dX9_noons_1 : decode cX9_noons 1 = .ok (.i2l, 1) := by decide +kernel
theorem dX9_noons_2 : decode cX9_noons 2 = .ok (.lconst 0, 1) := by decide +kernel
theorem dX9_noons_3 : decode cX9_noons 3 = .ok (.ldc2_w 215, 3) := by decide +kernel
theorem dX9_noons_6 : decode cX9_noons 6 = .ok (.invokestatic 46, 3) := by decide +kernel
theorem dX9_noons_9 : decode cX9_noons 9 = .ok (.ifCond .eq 15, 3) := by decide +kernel
theorem dX9_noons_12 : decode cX9_noons 12 = .ok (.iload_n 2, 1) := by decide +kernel
theorem dX9_noons_13 : decode cX9_noons 13 = .ok (.i2l, 1) := by decide +kernel
theorem dX9_noons_14 : decode cX9_noons 14 = .ok (.lconst 0, 1) := by decide +kernel
theorem dX9_noons_15 : decode cX9_noons 15 = .ok (.ldc2_w 58, 3) := by decide +kernel
theorem dX9_noons_18 : decode cX9_noons 18 = .ok (.invokestatic 46, 3) := by decide +kernel
theorem dX9_noons_21 : decode cX9_noons 21 = .ok (.ifCond .ne 10, 3) := by decide +kernel
theorem dX9_noons_24 : decode cX9_noons 24 = .ok (.aload_n 0, 1) := by decide +kernel
theorem dX9_noons_25 : decode cX9_noons 25 = .ok (.bipush (-2), 2) := by decide +kernel
theorem dX9_noons_27 : decode cX9_noons 27 = .ok (.invokevirtual 62, 3) := by decide +kernel
theorem dX9_noons_30 : decode cX9_noons 30 = .ok (.ireturn, 1) := by decide +kernel
theorem dX9_noons_31 : decode cX9_noons 31 = .ok (.iload_n 1, 1) := by decide +kernel
theorem dX9_noons_32 : decode cX9_noons 32 = .ok (.i2l, 1) := by decide +kernel
theorem dX9_noons_33 : decode cX9_noons 33 = .ok (.lstore_n 3, 1) := by decide +kernel
theorem dX9_noons_34 : decode cX9_noons 34 = .ok (.aload_n 0, 1) := by decide +kernel
theorem dX9_noons_35 : decode cX9_noons 35 = .ok (.invokevirtual 144, 3) := by decide +kernel
theorem dX9_noons_38 : decode cX9_noons 38 = .ok (.iconst 0, 1) := by decide +kernel
theorem dX9_noons_39 : decode cX9_noons 39 = .ok (.istore 5, 2) := by decide +kernel
theorem dX9_noons_41 : decode cX9_noons 41 = .ok (.iload 5, 2) := by decide +kernel
theorem dX9_noons_43 : decode cX9_noons 43 = .ok (.iload_n 2, 1) := by decide +kernel
theorem dX9_noons_44 : decode cX9_noons 44 = .ok (.if_icmp .ge 114, 3) := by decide +kernel
theorem dX9_noons_47 : decode cX9_noons 47 = .ok (.lload_n 3, 1) := by decide +kernel
theorem dX9_noons_48 : decode cX9_noons 48 = .ok (.ldc2_w 217, 3) := by decide +kernel
theorem dX9_noons_51 : decode cX9_noons 51 = .ok (.lmul, 1) := by decide +kernel
theorem dX9_noons_52 : decode cX9_noons 52 = .ok (.ldc2_w 219, 3) := by decide +kernel
theorem dX9_noons_55 : decode cX9_noons 55 = .ok (.ladd, 1) := by decide +kernel
theorem dX9_noons_56 : decode cX9_noons 56 = .ok (.ldc2_w 221, 3) := by decide +kernel
theorem dX9_noons_59 : decode cX9_noons 59 = .ok (.lrem, 1) := by decide +kernel
theorem dX9_noons_60 : decode cX9_noons 60 = .ok (.lstore_n 3, 1) := by decide +kernel
theorem dX9_noons_61 : decode cX9_noons 61 = .ok (.lload_n 3, 1) := by decide +kernel
theorem dX9_noons_62 : decode cX9_noons 62 = .ok (.ldc2_w 223, 3) := by decide +kernel
theorem dX9_noons_65 : decode cX9_noons 65 = .ok (.ldiv, 1) := by decide +kernel
theorem dX9_noons_66 : decode cX9_noons 66 = .ok (.ldc2_w 225, 3) := by decide +kernel
theorem dX9_noons_69 : decode cX9_noons 69 = .ok (.lrem, 1) := by decide +kernel
theorem dX9_noons_70 : decode cX9_noons 70 = .ok (.l2i, 1) := by decide +kernel
theorem dX9_noons_71 : decode cX9_noons 71 = .ok (.istore 6, 2) := by decide +kernel
theorem dX9_noons_73 : decode cX9_noons 73 = .ok (.lload_n 3, 1) := by decide +kernel
theorem dX9_noons_74 : decode cX9_noons 74 = .ok (.ldc2_w 227, 3) := by decide +kernel
theorem dX9_noons_77 : decode cX9_noons 77 = .ok (.ldiv, 1) := by decide +kernel
theorem dX9_noons_78 : decode cX9_noons 78 = .ok (.ldc2_w 135, 3) := by decide +kernel
theorem dX9_noons_81 : decode cX9_noons 81 = .ok (.lrem, 1) := by decide +kernel
theorem dX9_noons_82 : decode cX9_noons 82 = .ok (.l2i, 1) := by decide +kernel
theorem dX9_noons_83 : decode cX9_noons 83 = .ok (.istore 7, 2) := by decide +kernel
theorem dX9_noons_85 : decode cX9_noons 85 = .ok (.aload_n 0, 1) := by decide +kernel
theorem dX9_noons_86 : decode cX9_noons 86 = .ok (.iload 6, 2) := by decide +kernel
theorem dX9_noons_88 : decode cX9_noons 88 = .ok (.invokevirtual 110, 3) := by decide +kernel
theorem dX9_noons_91 : decode cX9_noons 91 = .ok (.ifCond .eq 40, 3) := by decide +kernel
theorem dX9_noons_131 : decode cX9_noons 131 = .ok (.lload_n 3, 1) := by decide +kernel
theorem dX9_noons_132 : decode cX9_noons 132 = .ok (.ldc2_w 229, 3) := by decide +kernel
theorem dX9_noons_135 : decode cX9_noons 135 = .ok (.ldiv, 1) := by decide +kernel
theorem dX9_noons_136 : decode cX9_noons 136 = .ok (.ldc2_w 231, 3) := by decide +kernel
theorem dX9_noons_139 : decode cX9_noons 139 = .ok (.lrem, 1) := by decide +kernel
theorem dX9_noons_140 : decode cX9_noons 140 = .ok (.lconst 0, 1) := by decide +kernel
theorem dX9_noons_141 : decode cX9_noons 141 = .ok (.lcmp, 1) := by decide +kernel
theorem dX9_noons_142 : decode cX9_noons 142 = .ok (.ifCond .ne 10, 3) := by decide +kernel
theorem dX9_noons_145 : decode cX9_noons 145 = .ok (.aload_n 0, 1) := by decide +kernel
theorem dX9_noons_146 : decode cX9_noons 146 = .ok (.getfield 27, 3) := by decide +kernel
theorem dX9_noons_149 : decode cX9_noons 149 = .ok (.invokestatic 106, 3) := by decide +kernel
theorem dX9_noons_152 : decode cX9_noons 152 = .ok (.iinc 5 1, 3) := by decide +kernel
theorem dX9_noons_155 : decode cX9_noons 155 = .ok (.goto (-114), 3) := by decide +kernel
theorem dX9_noons_158 : decode cX9_noons 158 = .ok (.aload_n 0, 1) := by decide +kernel
theorem dX9_noons_159 : decode cX9_noons 159 = .ok (.getfield 27, 3) := by decide +kernel
theorem dX9_noons_162 : decode cX9_noons 162 = .ok (.invokestatic 233, 3) := by decide +kernel
theorem dX9_noons_165 : decode cX9_noons 165 = .ok (.ireturn, 1) := by decide +kernel
theorem dX9_note_0 : decode cX9_note 0 = .ok (.aload_n 0, 1) := by decide +kernel
theorem dX9_note_1 : decode cX9_note 1 = .ok (.iload_n 1, 1) := by decide +kernel
theorem dX9_note_2 : decode cX9_note 2 = .ok (.invokevirtual 110, 3) := by decide +kernel
theorem dX9_note_5 : decode cX9_note 5 = .ok (.ifCond .eq 30, 3) := by decide +kernel
theorem dX9_note_35 : decode cX9_note 35 = .ok (.aload_n 0, 1) := by decide +kernel
theorem dX9_note_36 : decode cX9_note 36 = .ok (.bipush (-2), 2) := by decide +kernel
theorem dX9_note_38 : decode cX9_note 38 = .ok (.invokevirtual 62, 3) := by decide +kernel
theorem dX9_note_41 : decode cX9_note 41 = .ok (.ireturn, 1) := by decide +kernel
theorem dX9_of_0 : decode cX9_of 0 = .ok (.aload_n 0, 1) := by decide +kernel
theorem dX9_of_1 : decode cX9_of 1 = .ok (.iload_n 1, 1) := by decide +kernel
theorem dX9_of_2 : decode cX9_of 2 = .ok (.invokevirtual 110, 3) := by decide +kernel
theorem dX9_of_5 : decode cX9_of 5 = .ok (.ifCond .eq 24, 3) := by decide +kernel
theorem dX9_of_29 : decode cX9_of 29 = .ok (.aload_n 0, 1) := by decide +kernel
theorem dX9_of_30 : decode cX9_of 30 = .ok (.bipush (-2), 2) := by decide +kernel
theorem dX9_of_32 : decode cX9_of 32 = .ok (.invokevirtual 62, 3) := by decide +kernel
theorem dX9_of_35 : decode cX9_of 35 = .ok (.ireturn, 1) := by decide +kernel
theorem dX9_part_0 : decode cX9_part 0 = .ok (.iload_n 1, 1) := by decide +kernel
theorem dX9_part_1 : decode cX9_part 1 = .ok (.ifCond .ne 10, 3) := by decide +kernel
theorem dX9_part_4 : decode cX9_part 4 = .ok (.aload_n 0, 1) := by decide +kernel
theorem dX9_part_5 : decode cX9_part 5 = .ok (.getfield 206, 3) := by decide +kernel
theorem dX9_part_8 : decode cX9_part 8 = .ok (.goto 22, 3) := by decide +kernel
theorem dX9_part_11 : decode cX9_part 11 = .ok (.iload_n 1, 1) := by decide +kernel
theorem dX9_part_12 : decode cX9_part 12 = .ok (.iconst 1, 1) := by decide +kernel
theorem dX9_part_13 : decode cX9_part 13 = .ok (.if_icmp .ne 10, 3) := by decide +kernel
theorem dX9_part_16 : decode cX9_part 16 = .ok (.aload_n 0, 1) := by decide +kernel
theorem dX9_part_17 : decode cX9_part 17 = .ok (.getfield 23, 3) := by decide +kernel
theorem dX9_part_20 : decode cX9_part 20 = .ok (.goto 10, 3) := by decide +kernel
theorem dX9_part_23 : decode cX9_part 23 = .ok (.aload_n 0, 1) := by decide +kernel
theorem dX9_part_24 : decode cX9_part 24 = .ok (.bipush (-2), 2) := by decide +kernel
theorem dX9_part_26 : decode cX9_part 26 = .ok (.invokevirtual 62, 3) := by decide +kernel
theorem dX9_part_29 : decode cX9_part 29 = .ok (.i2l, 1) := by decide +kernel
theorem dX9_part_30 : decode cX9_part 30 = .ok (.lreturn, 1) := by decide +kernel
theorem dX9_pours_0 : decode cX9_pours 0 = .ok (.aload_n 0, 1) := by decide +kernel
theorem dX9_pours_1 : decode cX9_pours 1 = .ok (.iload_n 1, 1) := by decide +kernel
theorem dX9_pours_2 : decode cX9_pours 2 = .ok (.invokevirtual 113, 3) := by decide +kernel
theorem dX9_pours_5 : decode cX9_pours 5 = .ok (.ifCond .eq 16, 3) := by decide +kernel
theorem dX9_pours_21 : decode cX9_pours 21 = .ok (.aload_n 0, 1) := by decide +kernel
theorem dX9_pours_22 : decode cX9_pours 22 = .ok (.bipush (-2), 2) := by decide +kernel
theorem dX9_pours_24 : decode cX9_pours 24 = .ok (.invokevirtual 62, 3) := by decide +kernel
theorem dX9_pours_27 : decode cX9_pours 27 = .ok (.ireturn, 1) := by decide +kernel
theorem dX9_read_0 : decode cX9_read 0 = .ok (.aload_n 0, 1) := by decide +kernel
theorem dX9_read_1 : decode cX9_read 1 = .ok (.iconst 0, 1) := by decide +kernel
theorem dX9_read_2 : decode cX9_read 2 = .ok (.invokevirtual 268, 3) := by decide +kernel
theorem dX9_read_5 : decode cX9_read 5 = .ok (.aload_n 0, 1) := by decide +kernel
theorem dX9_read_6 : decode cX9_read 6 = .ok (.bipush 6, 2) := by decide +kernel
theorem dX9_read_8 : decode cX9_read 8 = .ok (.bipush 105, 2) := by decide +kernel
theorem dX9_read_10 : decode cX9_read 10 = .ok (.bipush 115, 2) := by decide +kernel
theorem dX9_read_12 : decode cX9_read 12 = .ok (.bipush 108, 2) := by decide +kernel
theorem dX9_read_14 : decode cX9_read 14 = .ok (.bipush 97, 2) := by decide +kernel
theorem dX9_read_16 : decode cX9_read 16 = .ok (.bipush 110, 2) := by decide +kernel
theorem dX9_read_18 : decode cX9_read 18 = .ok (.bipush 100, 2) := by decide +kernel
theorem dX9_read_20 : decode cX9_read 20 = .ok (.invokevirtual 279, 3) := by decide +kernel
theorem dX9_read_23 : decode cX9_read 23 = .ok (.ifCond .ne 11, 3) := by decide +kernel
theorem dX9_read_26 : decode cX9_read 26 = .ok (.bipush (-10), 2) := by decide +kernel
theorem dX9_read_28 : decode cX9_read 28 = .ok (.aload_n 0, 1) := by decide +kernel
theorem dX9_read_29 : decode cX9_read 29 = .ok (.getfield 250, 3) := by decide +kernel
theorem dX9_read_32 : decode cX9_read 32 = .ok (.isub, 1) := by decide +kernel
theorem dX9_read_33 : decode cX9_read 33 = .ok (.ireturn, 1) := by decide +kernel
theorem dX9_round_0 : decode cX9_round 0 = .ok (.aload_n 0, 1) := by decide +kernel
theorem dX9_round_1 : decode cX9_round 1 = .ok (.iload_n 1, 1) := by decide +kernel
theorem dX9_round_2 : decode cX9_round 2 = .ok (.invokevirtual 113, 3) := by decide +kernel
theorem dX9_round_5 : decode cX9_round 5 = .ok (.ifCond .eq 25, 3) := by decide +kernel
theorem dX9_round_30 : decode cX9_round 30 = .ok (.aload_n 0, 1) := by decide +kernel
theorem dX9_round_31 : decode cX9_round 31 = .ok (.bipush (-10), 2) := by decide +kernel
theorem dX9_round_33 : decode cX9_round 33 = .ok (.invokevirtual 62, 3) := by decide +kernel
theorem dX9_round_36 : decode cX9_round 36 = .ok (.ireturn, 1) := by decide +kernel
theorem dX9_save_0 : decode cX9_save 0 = .ok (.aload_n 0, 1) := by decide +kernel
theorem dX9_save_1 : decode cX9_save 1 = .ok (.getfield 7, 3) := by decide +kernel
theorem dX9_save_4 : decode cX9_save 4 = .ok (.iconst 4, 1) := by decide +kernel
theorem dX9_save_5 : decode cX9_save 5 = .ok (.iaload, 1) := by decide +kernel
theorem dX9_save_6 : decode cX9_save 6 = .ok (.bipush 8, 2) := by decide +kernel
theorem dX9_save_8 : decode cX9_save 8 = .ok (.if_icmp .ne 43, 3) := by decide +kernel
theorem dX9_save_51 : decode cX9_save 51 = .ok (.iconst 0, 1) := by decide +kernel
theorem dX9_save_52 : decode cX9_save 52 = .ok (.istore_n 1, 1) := by decide +kernel
theorem dX9_save_53 : decode cX9_save 53 = .ok (.iload_n 1, 1) := by decide +kernel
theorem dX9_save_54 : decode cX9_save 54 = .ok (.bipush 11, 2) := by decide +kernel
theorem dX9_save_56 : decode cX9_save 56 = .ok (.if_icmp .ge 36, 3) := by decide +kernel
theorem dX9_save_59 : decode cX9_save 59 = .ok (.aload_n 0, 1) := by decide +kernel
theorem dX9_save_60 : decode cX9_save 60 = .ok (.getfield 7, 3) := by decide +kernel
theorem dX9_save_63 : decode cX9_save 63 = .ok (.bipush 89, 2) := by decide +kernel
theorem dX9_save_65 : decode cX9_save 65 = .ok (.bipush 11, 2) := by decide +kernel
theorem dX9_save_67 : decode cX9_save 67 = .ok (.aload_n 0, 1) := by decide +kernel
theorem dX9_save_68 : decode cX9_save 68 = .ok (.getfield 7, 3) := by decide +kernel
theorem dX9_save_71 : decode cX9_save 71 = .ok (.iconst 4, 1) := by decide +kernel
theorem dX9_save_72 : decode cX9_save 72 = .ok (.iaload, 1) := by decide +kernel
theorem dX9_save_73 : decode cX9_save 73 = .ok (.imul, 1) := by decide +kernel
theorem dX9_save_74 : decode cX9_save 74 = .ok (.iadd, 1) := by decide +kernel
theorem dX9_save_75 : decode cX9_save 75 = .ok (.iload_n 1, 1) := by decide +kernel
theorem dX9_save_76 : decode cX9_save 76 = .ok (.iadd, 1) := by decide +kernel
theorem dX9_save_77 : decode cX9_save 77 = .ok (.aload_n 0, 1) := by decide +kernel
theorem dX9_save_78 : decode cX9_save 78 = .ok (.getfield 7, 3) := by decide +kernel
theorem dX9_save_81 : decode cX9_save 81 = .ok (.iconst 5, 1) := by decide +kernel
theorem dX9_save_82 : decode cX9_save 82 = .ok (.iload_n 1, 1) := by decide +kernel
theorem dX9_save_83 : decode cX9_save 83 = .ok (.iadd, 1) := by decide +kernel
theorem dX9_save_84 : decode cX9_save 84 = .ok (.iaload, 1) := by decide +kernel
theorem dX9_save_85 : decode cX9_save 85 = .ok (.iastore, 1) := by decide +kernel
theorem dX9_save_86 : decode cX9_save 86 = .ok (.iinc 1 1, 3) := by decide +kernel
theorem dX9_save_89 : decode cX9_save 89 = .ok (.goto (-36), 3) := by decide +kernel
theorem dX9_save_92 : decode cX9_save 92 = .ok (.aload_n 0, 1) := by decide +kernel
theorem dX9_save_93 : decode cX9_save 93 = .ok (.getfield 7, 3) := by decide +kernel
theorem dX9_save_96 : decode cX9_save 96 = .ok (.iconst 4, 1) := by decide +kernel
theorem dX9_save_97 : decode cX9_save 97 = .ok (.dup2, 1) := by decide +kernel
theorem dX9_save_98 : decode cX9_save 98 = .ok (.iaload, 1) := by decide +kernel
theorem dX9_save_99 : decode cX9_save 99 = .ok (.iconst 1, 1) := by decide +kernel
theorem dX9_save_100 : decode cX9_save 100 = .ok (.iadd, 1) := by decide +kernel
theorem dX9_save_101 : decode cX9_save 101 = .ok (.iastore, 1) := by decide +kernel
theorem dX9_save_102 : decode cX9_save 102 = .ok (.return_, 1) := by decide +kernel
theorem dX9_sells_0 : decode cX9_sells 0 = .ok (.aload_n 0, 1) := by decide +kernel
theorem dX9_sells_1 : decode cX9_sells 1 = .ok (.iload_n 1, 1) := by decide +kernel
theorem dX9_sells_2 : decode cX9_sells 2 = .ok (.invokevirtual 113, 3) := by decide +kernel
theorem dX9_sells_5 : decode cX9_sells 5 = .ok (.ifCond .ne 10, 3) := by decide +kernel
theorem dX9_sells_8 : decode cX9_sells 8 = .ok (.aload_n 0, 1) := by decide +kernel
theorem dX9_sells_9 : decode cX9_sells 9 = .ok (.bipush (-2), 2) := by decide +kernel
theorem dX9_sells_11 : decode cX9_sells 11 = .ok (.invokevirtual 62, 3) := by decide +kernel
theorem dX9_sells_14 : decode cX9_sells 14 = .ok (.ireturn, 1) := by decide +kernel
theorem dX9_spells_0 : decode cX9_spells 0 = .ok (.aload_n 0, 1) := by decide +kernel
theorem dX9_spells_1 : decode cX9_spells 1 = .ok (.getfield 256, 3) := by decide +kernel
theorem dX9_spells_4 : decode cX9_spells 4 = .ok (.iconst 1, 1) := by decide +kernel
theorem dX9_spells_5 : decode cX9_spells 5 = .ok (.if_icmp .ne 15, 3) := by decide +kernel
theorem dX9_spells_20 : decode cX9_spells 20 = .ok (.iconst 0, 1) := by decide +kernel
theorem dX9_spells_21 : decode cX9_spells 21 = .ok (.istore 8, 2) := by decide +kernel
theorem dX9_spells_23 : decode cX9_spells 23 = .ok (.iconst 0, 1) := by decide +kernel
theorem dX9_spells_24 : decode cX9_spells 24 = .ok (.istore 9, 2) := by decide +kernel
theorem dX9_spells_26 : decode cX9_spells 26 = .ok (.iload 9, 2) := by decide +kernel
theorem dX9_spells_28 : decode cX9_spells 28 = .ok (.iload_n 1, 1) := by decide +kernel
theorem dX9_spells_29 : decode cX9_spells 29 = .ok (.if_icmp .ge 90, 3) := by decide +kernel
theorem dX9_spells_32 : decode cX9_spells 32 = .ok (.iload 8, 2) := by decide +kernel
theorem dX9_spells_34 : decode cX9_spells 34 = .ok (.ifCond .eq 85, 3) := by decide +kernel
theorem dX9_spells_119 : decode cX9_spells 119 = .ok (.iload 8, 2) := by decide +kernel
theorem dX9_spells_121 : decode cX9_spells 121 = .ok (.ireturn, 1) := by decide +kernel
theorem dX9_spilt_0 : decode cX9_spilt 0 = .ok (.aload_n 0, 1) := by decide +kernel
theorem dX9_spilt_1 : decode cX9_spilt 1 = .ok (.iload_n 1, 1) := by decide +kernel
theorem dX9_spilt_2 : decode cX9_spilt 2 = .ok (.invokevirtual 113, 3) := by decide +kernel
theorem dX9_spilt_5 : decode cX9_spilt 5 = .ok (.ifCond .eq 35, 3) := by decide +kernel
theorem dX9_spilt_40 : decode cX9_spilt 40 = .ok (.aload_n 0, 1) := by decide +kernel
theorem dX9_spilt_41 : decode cX9_spilt 41 = .ok (.bipush (-2), 2) := by decide +kernel
theorem dX9_spilt_43 : decode cX9_spilt 43 = .ok (.invokevirtual 62, 3) := by decide +kernel
theorem dX9_spilt_46 : decode cX9_spilt 46 = .ok (.ireturn, 1) := by decide +kernel
theorem dX9_status_0 : decode cX9_status 0 = .ok (.iload_n 1, 1) := by decide +kernel
theorem dX9_status_1 : decode cX9_status 1 = .ok (.i2l, 1) := by decide +kernel
theorem dX9_status_2 : decode cX9_status 2 = .ok (.lconst 0, 1) := by decide +kernel
theorem dX9_status_3 : decode cX9_status 3 = .ok (.ldc2_w 231, 3) := by decide +kernel
theorem dX9_status_6 : decode cX9_status 6 = .ok (.invokestatic 46, 3) := by decide +kernel
theorem dX9_status_9 : decode cX9_status 9 = .ok (.ifCond .eq 12, 3) := by decide +kernel
theorem dX9_status_12 : decode cX9_status 12 = .ok (.aload_n 0, 1) := by decide +kernel
theorem dX9_status_13 : decode cX9_status 13 = .ok (.getfield 20, 3) := by decide +kernel
theorem dX9_status_16 : decode cX9_status 16 = .ok (.iload_n 1, 1) := by decide +kernel
theorem dX9_status_17 : decode cX9_status 17 = .ok (.iaload, 1) := by decide +kernel
theorem dX9_status_18 : decode cX9_status 18 = .ok (.goto 8, 3) := by decide +kernel
theorem dX9_status_21 : decode cX9_status 21 = .ok (.aload_n 0, 1) := by decide +kernel
theorem dX9_status_22 : decode cX9_status 22 = .ok (.iconst (-1), 1) := by decide +kernel
theorem dX9_status_23 : decode cX9_status 23 = .ok (.invokevirtual 62, 3) := by decide +kernel
theorem dX9_status_26 : decode cX9_status 26 = .ok (.ireturn, 1) := by decide +kernel
theorem dX9_sums_0 : decode cX9_sums 0 = .ok (.lload_n 1, 1) := by decide +kernel
theorem dX9_sums_1 : decode cX9_sums 1 = .ok (.lstore 5, 2) := by decide +kernel
theorem dX9_sums_3 : decode cX9_sums 3 = .ok (.iconst 0, 1) := by decide +kernel
theorem dX9_sums_4 : decode cX9_sums 4 = .ok (.istore 7, 2) := by decide +kernel
theorem dX9_sums_6 : decode cX9_sums 6 = .ok (.iload 7, 2) := by decide +kernel
theorem dX9_sums_8 : decode cX9_sums 8 = .ok (.iload 4, 2) := by decide +kernel
theorem dX9_sums_10 : decode cX9_sums 10 = .ok (.if_icmp .ge 28, 3) := by decide +kernel
theorem dX9_sums_38 : decode cX9_sums 38 = .ok (.lload 5, 2) := by decide +kernel
theorem dX9_sums_40 : decode cX9_sums 40 = .ok (.lreturn, 1) := by decide +kernel
theorem dX9_two_0 : decode cX9_two 0 = .ok (.iload_n 1, 1) := by decide +kernel
theorem dX9_two_1 : decode cX9_two 1 = .ok (.iconst (-1), 1) := by decide +kernel
theorem dX9_two_2 : decode cX9_two 2 = .ok (.if_icmp .ge 10, 3) := by decide +kernel
theorem dX9_two_5 : decode cX9_two 5 = .ok (.aload_n 0, 1) := by decide +kernel
theorem dX9_two_6 : decode cX9_two 6 = .ok (.bipush (-10), 2) := by decide +kernel
theorem dX9_two_8 : decode cX9_two 8 = .ok (.invokevirtual 62, 3) := by decide +kernel
theorem dX9_two_11 : decode cX9_two 11 = .ok (.ireturn, 1) := by decide +kernel
theorem dX9_two_12 : decode cX9_two 12 = .ok (.iconst 0, 1) := by decide +kernel
theorem dX9_two_13 : decode cX9_two 13 = .ok (.istore_n 2, 1) := by decide +kernel
theorem dX9_two_14 : decode cX9_two 14 = .ok (.iconst 0, 1) := by decide +kernel
theorem dX9_two_15 : decode cX9_two 15 = .ok (.istore_n 3, 1) := by decide +kernel
theorem dX9_two_16 : decode cX9_two 16 = .ok (.iload_n 3, 1) := by decide +kernel
theorem dX9_two_17 : decode cX9_two 17 = .ok (.bipush 7, 2) := by decide +kernel
theorem dX9_two_19 : decode cX9_two 19 = .ok (.if_icmp .ge 68, 3) := by decide +kernel
theorem dX9_two_22 : decode cX9_two 22 = .ok (.iconst 0, 1) := by decide +kernel
theorem dX9_two_23 : decode cX9_two 23 = .ok (.istore 4, 2) := by decide +kernel
theorem dX9_two_25 : decode cX9_two 25 = .ok (.iload 4, 2) := by decide +kernel
theorem dX9_two_27 : decode cX9_two 27 = .ok (.bipush 7, 2) := by decide +kernel
theorem dX9_two_29 : decode cX9_two 29 = .ok (.if_icmp .ge 52, 3) := by decide +kernel
theorem dX9_two_32 : decode cX9_two 32 = .ok (.aload_n 0, 1) := by decide +kernel
theorem dX9_two_33 : decode cX9_two 33 = .ok (.iload_n 3, 1) := by decide +kernel
theorem dX9_two_34 : decode cX9_two 34 = .ok (.invokevirtual 197, 3) := by decide +kernel
theorem dX9_two_37 : decode cX9_two 37 = .ok (.ifCond .eq 38, 3) := by decide +kernel
theorem dX9_two_75 : decode cX9_two 75 = .ok (.iinc 4 1, 3) := by decide +kernel
theorem dX9_two_78 : decode cX9_two 78 = .ok (.goto (-53), 3) := by decide +kernel
theorem dX9_two_81 : decode cX9_two 81 = .ok (.iinc 3 1, 3) := by decide +kernel
theorem dX9_two_84 : decode cX9_two 84 = .ok (.goto (-68), 3) := by decide +kernel
theorem dX9_two_87 : decode cX9_two 87 = .ok (.iload_n 1, 1) := by decide +kernel
theorem dX9_two_88 : decode cX9_two 88 = .ok (.iconst (-1), 1) := by decide +kernel
theorem dX9_two_89 : decode cX9_two 89 = .ok (.if_icmp .ne 7, 3) := by decide +kernel
theorem dX9_two_92 : decode cX9_two 92 = .ok (.iload_n 2, 1) := by decide +kernel
theorem dX9_two_93 : decode cX9_two 93 = .ok (.goto 5, 3) := by decide +kernel
theorem dX9_two_96 : decode cX9_two 96 = .ok (.bipush (-5), 2) := by decide +kernel
theorem dX9_two_98 : decode cX9_two 98 = .ok (.ireturn, 1) := by decide +kernel
theorem dX9_type_0 : decode cX9_type 0 = .ok (.iload_n 1, 1) := by decide +kernel
theorem dX9_type_1 : decode cX9_type 1 = .ok (.i2l, 1) := by decide +kernel
theorem dX9_type_2 : decode cX9_type 2 = .ok (.lconst 0, 1) := by decide +kernel
theorem dX9_type_3 : decode cX9_type 3 = .ok (.ldc2_w 237, 3) := by decide +kernel
theorem dX9_type_6 : decode cX9_type 6 = .ok (.invokestatic 46, 3) := by decide +kernel
theorem dX9_type_9 : decode cX9_type 9 = .ok (.ifCond .ne 10, 3) := by decide +kernel
theorem dX9_type_12 : decode cX9_type 12 = .ok (.aload_n 0, 1) := by decide +kernel
theorem dX9_type_13 : decode cX9_type 13 = .ok (.bipush (-2), 2) := by decide +kernel
theorem dX9_type_15 : decode cX9_type 15 = .ok (.invokevirtual 62, 3) := by decide +kernel
theorem dX9_type_18 : decode cX9_type 18 = .ok (.ireturn, 1) := by decide +kernel
theorem dX9_type_19 : decode cX9_type 19 = .ok (.aload_n 0, 1) := by decide +kernel
theorem dX9_type_20 : decode cX9_type 20 = .ok (.getfield 239, 3) := by decide +kernel
theorem dX9_type_23 : decode cX9_type 23 = .ok (.sipush 150, 3) := by decide +kernel
theorem dX9_type_26 : decode cX9_type 26 = .ok (.if_icmp .ne 8, 3) := by decide +kernel
theorem dX9_type_34 : decode cX9_type 34 = .ok (.aload_n 0, 1) := by decide +kernel
theorem dX9_type_35 : decode cX9_type 35 = .ok (.getfield 33, 3) := by decide +kernel
theorem dX9_type_38 : decode cX9_type 38 = .ok (.aload_n 0, 1) := by decide +kernel
theorem dX9_type_39 : decode cX9_type 39 = .ok (.getfield 239, 3) := by decide +kernel
theorem dX9_type_42 : decode cX9_type 42 = .ok (.iload_n 1, 1) := by decide +kernel
theorem dX9_type_43 : decode cX9_type 43 = .ok (.iastore, 1) := by decide +kernel
theorem dX9_type_44 : decode cX9_type 44 = .ok (.aload_n 0, 1) := by decide +kernel
theorem dX9_type_45 : decode cX9_type 45 = .ok (.dup, 1) := by decide +kernel
theorem dX9_type_46 : decode cX9_type 46 = .ok (.getfield 239, 3) := by decide +kernel
theorem dX9_type_49 : decode cX9_type 49 = .ok (.iconst 1, 1) := by decide +kernel
theorem dX9_type_50 : decode cX9_type 50 = .ok (.iadd, 1) := by decide +kernel
theorem dX9_type_51 : decode cX9_type 51 = .ok (.putfield 239, 3) := by decide +kernel
theorem dX9_type_54 : decode cX9_type 54 = .ok (.aload_n 0, 1) := by decide +kernel
theorem dX9_type_55 : decode cX9_type 55 = .ok (.getfield 239, 3) := by decide +kernel
theorem dX9_type_58 : decode cX9_type 58 = .ok (.ireturn, 1) := by decide +kernel
theorem dX9_undo_0 : decode cX9_undo 0 = .ok (.aload_n 0, 1) := by decide +kernel
theorem dX9_undo_1 : decode cX9_undo 1 = .ok (.getfield 7, 3) := by decide +kernel
theorem dX9_undo_4 : decode cX9_undo 4 = .ok (.iconst 4, 1) := by decide +kernel
theorem dX9_undo_5 : decode cX9_undo 5 = .ok (.iaload, 1) := by decide +kernel
theorem dX9_undo_6 : decode cX9_undo 6 = .ok (.ifCond .ne 8, 3) := by decide +kernel
theorem dX9_undo_9 : decode cX9_undo 9 = .ok (.aload_n 0, 1) := by decide +kernel
theorem dX9_undo_10 : decode cX9_undo 10 = .ok (.invokevirtual 120, 3) := by decide +kernel
theorem dX9_undo_13 : decode cX9_undo 13 = .ok (.ireturn, 1) := by decide +kernel
theorem dX9_when_0 : decode cX9_when 0 = .ok (.aload_n 0, 1) := by decide +kernel
theorem dX9_when_1 : decode cX9_when 1 = .ok (.iload_n 1, 1) := by decide +kernel
theorem dX9_when_2 : decode cX9_when 2 = .ok (.invokevirtual 110, 3) := by decide +kernel
theorem dX9_when_5 : decode cX9_when 5 = .ok (.ifCond .ne 10, 3) := by decide +kernel
theorem dX9_when_8 : decode cX9_when 8 = .ok (.aload_n 0, 1) := by decide +kernel
theorem dX9_when_9 : decode cX9_when 9 = .ok (.bipush (-2), 2) := by decide +kernel
theorem dX9_when_11 : decode cX9_when 11 = .ok (.invokevirtual 62, 3) := by decide +kernel
theorem dX9_when_14 : decode cX9_when 14 = .ok (.ireturn, 1) := by decide +kernel
