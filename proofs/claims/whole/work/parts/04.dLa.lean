theorem dL_put_0 : decode cL_put 0 = .ok (.aload 4, 2) := by decide +kernel
theorem dL_put_2 : decode cL_put 2 = .ok (.iconst 0, 1) := by decide +kernel
theorem dL_put_3 : decode cL_put 3 = .ok (.aload_n 0, 1) := by decide +kernel
theorem dL_put_4 : decode cL_put 4 = .ok (.iload_n 1, 1) := by decide +kernel
theorem dL_put_5 : decode cL_put 5 = .ok (.iload_n 2, 1) := by decide +kernel
theorem dL_put_6 : decode cL_put 6 = .ok (.iload_n 3, 1) := by decide +kernel
theorem dL_put_7 : decode cL_put 7 = .ok (.invokevirtual 7, 3) := by decide +kernel
theorem dL_put_10 : decode cL_put 10 = .ok (.ifCond .eq 7, 3) := by decide +kernel
theorem dL_put_13 : decode cL_put 13 = .ok (.lconst 1, 1) := by decide +kernel
theorem dL_put_14 : decode cL_put 14 = .ok (.goto 4, 3) := by decide +kernel
theorem dL_put_17 : decode cL_put 17 = .ok (.lconst 0, 1) := by decide +kernel
theorem dL_put_18 : decode cL_put 18 = .ok (.lastore, 1) := by decide +kernel
theorem dL_put_19 : decode cL_put 19 = .ok (.goto 11, 3) := by decide +kernel
theorem dL_put_22 : decode cL_put 22 = .ok (.astore 5, 2) := by decide +kernel
theorem dL_put_24 : decode cL_put 24 = .ok (.iconst 1, 1) := by decide +kernel
theorem dL_put_25 : decode cL_put 25 = .ok (.ireturn, 1) := by decide +kernel
theorem dL_put_26 : decode cL_put 26 = .ok (.astore 5, 2) := by decide +kernel
theorem dL_put_28 : decode cL_put 28 = .ok (.iconst 2, 1) := by decide +kernel
theorem dL_put_29 : decode cL_put 29 = .ok (.ireturn, 1) := by decide +kernel
theorem dL_put_30 : decode cL_put 30 = .ok (.iconst 0, 1) := by decide +kernel
theorem dL_put_31 : decode cL_put 31 = .ok (.ireturn, 1) := by decide +kernel
theorem dL_take_0 : decode cL_take 0 = .ok (.aload_n 0, 1) := by decide +kernel
theorem dL_take_1 : decode cL_take 1 = .ok (.iload_n 1, 1) := by decide +kernel
theorem dL_take_2 : decode cL_take 2 = .ok (.invokevirtual 17, 3) := by decide +kernel
theorem dL_take_5 : decode cL_take 5 = .ok (.goto 12, 3) := by decide +kernel
theorem dL_take_8 : decode cL_take 8 = .ok (.astore_n 2, 1) := by decide +kernel
theorem dL_take_9 : decode cL_take 9 = .ok (.iconst 1, 1) := by decide +kernel
theorem dL_take_10 : decode cL_take 10 = .ok (.ireturn, 1) := by decide +kernel
theorem dL_take_11 : decode cL_take 11 = .ok (.astore_n 2, 1) := by decide +kernel
theorem dL_take_12 : decode cL_take 12 = .ok (.iconst 2, 1) := by decide +kernel
theorem dL_take_13 : decode cL_take 13 = .ok (.ireturn, 1) := by decide +kernel
theorem dL_take_14 : decode cL_take 14 = .ok (.astore_n 2, 1) := by decide +kernel
theorem dL_take_15 : decode cL_take 15 = .ok (.iconst 3, 1) := by decide +kernel
theorem dL_take_16 : decode cL_take 16 = .ok (.ireturn, 1) := by decide +kernel
theorem dL_take_17 : decode cL_take 17 = .ok (.iconst 0, 1) := by decide +kernel
theorem dL_take_18 : decode cL_take 18 = .ok (.ireturn, 1) := by decide +kernel
theorem dL_step_0 : decode cL_step 0 = .ok (.aload_n 3, 1) := by decide +kernel
theorem dL_step_1 : decode cL_step 1 = .ok (.iconst 0, 1) := by decide +kernel
theorem dL_step_2 : decode cL_step 2 = .ok (.aload_n 0, 1) := by decide +kernel
theorem dL_step_3 : decode cL_step 3 = .ok (.iload_n 1, 1) := by decide +kernel
theorem dL_step_4 : decode cL_step 4 = .ok (.iload_n 2, 1) := by decide +kernel
theorem dL_step_5 : decode cL_step 5 = .ok (.invokevirtual 25, 3) := by decide +kernel
theorem dL_step_8 : decode cL_step 8 = .ok (.ifCond .eq 7, 3) := by decide +kernel
theorem dL_step_11 : decode cL_step 11 = .ok (.lconst 1, 1) := by decide +kernel
theorem dL_step_12 : decode cL_step 12 = .ok (.goto 4, 3) := by decide +kernel
theorem dL_step_15 : decode cL_step 15 = .ok (.lconst 0, 1) := by decide +kernel
theorem dL_step_16 : decode cL_step 16 = .ok (.lastore, 1) := by decide +kernel
theorem dL_step_17 : decode cL_step 17 = .ok (.goto 15, 3) := by decide +kernel
theorem dL_step_20 : decode cL_step 20 = .ok (.astore 4, 2) := by decide +kernel
theorem dL_step_22 : decode cL_step 22 = .ok (.iconst 1, 1) := by decide +kernel
theorem dL_step_23 : decode cL_step 23 = .ok (.ireturn, 1) := by decide +kernel
theorem dL_step_24 : decode cL_step 24 = .ok (.astore 4, 2) := by decide +kernel
theorem dL_step_26 : decode cL_step 26 = .ok (.iconst 2, 1) := by decide +kernel
theorem dL_step_27 : decode cL_step 27 = .ok (.ireturn, 1) := by decide +kernel
theorem dL_step_28 : decode cL_step 28 = .ok (.astore 4, 2) := by decide +kernel
theorem dL_step_30 : decode cL_step 30 = .ok (.iconst 3, 1) := by decide +kernel
theorem dL_step_31 : decode cL_step 31 = .ok (.ireturn, 1) := by decide +kernel
theorem dL_step_32 : decode cL_step 32 = .ok (.iconst 0, 1) := by decide +kernel
theorem dL_step_33 : decode cL_step 33 = .ok (.ireturn, 1) := by decide +kernel
theorem dL_isThere_0 : decode cL_isThere 0 = .ok (.aload_n 2, 1) := by decide +kernel
theorem dL_isThere_1 : decode cL_isThere 1 = .ok (.iconst 0, 1) := by decide +kernel
theorem dL_isThere_2 : decode cL_isThere 2 = .ok (.aload_n 0, 1) := by decide +kernel
theorem dL_isThere_3 : decode cL_isThere 3 = .ok (.iload_n 1, 1) := by decide +kernel
theorem dL_isThere_4 : decode cL_isThere 4 = .ok (.invokevirtual 29, 3) := by decide +kernel
theorem dL_isThere_7 : decode cL_isThere 7 = .ok (.ifCond .eq 7, 3) := by decide +kernel
theorem dL_isThere_10 : decode cL_isThere 10 = .ok (.lconst 1, 1) := by decide +kernel
theorem dL_isThere_11 : decode cL_isThere 11 = .ok (.goto 4, 3) := by decide +kernel
theorem dL_isThere_14 : decode cL_isThere 14 = .ok (.lconst 0, 1) := by decide +kernel
theorem dL_isThere_15 : decode cL_isThere 15 = .ok (.lastore, 1) := by decide +kernel
theorem dL_isThere_16 : decode cL_isThere 16 = .ok (.goto 6, 3) := by decide +kernel
theorem dL_isThere_19 : decode cL_isThere 19 = .ok (.astore_n 3, 1) := by decide +kernel
theorem dL_isThere_20 : decode cL_isThere 20 = .ok (.iconst 1, 1) := by decide +kernel
theorem dL_isThere_21 : decode cL_isThere 21 = .ok (.ireturn, 1) := by decide +kernel
theorem dL_isThere_22 : decode cL_isThere 22 = .ok (.iconst 0, 1) := by decide +kernel
theorem dL_isThere_23 : decode cL_isThere 23 = .ok (.ireturn, 1) := by decide +kernel
theorem dL_placeOf_0 : decode cL_placeOf 0 = .ok (.aload_n 2, 1) := by decide +kernel
theorem dL_placeOf_1 : decode cL_placeOf 1 = .ok (.iconst 0, 1) := by decide +kernel
theorem dL_placeOf_2 : decode cL_placeOf 2 = .ok (.aload_n 0, 1) := by decide +kernel
theorem dL_placeOf_3 : decode cL_placeOf 3 = .ok (.iload_n 1, 1) := by decide +kernel
theorem dL_placeOf_4 : decode cL_placeOf 4 = .ok (.invokevirtual 33, 3) := by decide +kernel
theorem dL_placeOf_7 : decode cL_placeOf 7 = .ok (.i2l, 1) := by decide +kernel
theorem dL_placeOf_8 : decode cL_placeOf 8 = .ok (.lastore, 1) := by decide +kernel
theorem dL_placeOf_9 : decode cL_placeOf 9 = .ok (.goto 9, 3) := by decide +kernel
theorem dL_placeOf_12 : decode cL_placeOf 12 = .ok (.astore_n 3, 1) := by decide +kernel
theorem dL_placeOf_13 : decode cL_placeOf 13 = .ok (.iconst 1, 1) := by decide +kernel
theorem dL_placeOf_14 : decode cL_placeOf 14 = .ok (.ireturn, 1) := by decide +kernel
theorem dL_placeOf_15 : decode cL_placeOf 15 = .ok (.astore_n 3, 1) := by decide +kernel
theorem dL_placeOf_16 : decode cL_placeOf 16 = .ok (.iconst 2, 1) := by decide +kernel
theorem dL_placeOf_17 : decode cL_placeOf 17 = .ok (.ireturn, 1) := by decide +kernel
theorem dL_placeOf_18 : decode cL_placeOf 18 = .ok (.iconst 0, 1) := by decide +kernel
theorem dL_placeOf_19 : decode cL_placeOf 19 = .ok (.ireturn, 1) := by decide +kernel
theorem dL_stretch_0 : decode cL_stretch 0 = .ok (.aload_n 3, 1) := by decide +kernel
theorem dL_stretch_1 : decode cL_stretch 1 = .ok (.iconst 0, 1) := by decide +kernel
theorem dL_stretch_2 : decode cL_stretch 2 = .ok (.aload_n 0, 1) := by decide +kernel
theorem dL_stretch_3 : decode cL_stretch 3 = .ok (.iload_n 1, 1) := by decide +kernel
theorem dL_stretch_4 : decode cL_stretch 4 = .ok (.iload_n 2, 1) := by decide +kernel
theorem dL_stretch_5 : decode cL_stretch 5 = .ok (.invokevirtual 37, 3) := by decide +kernel
theorem dL_stretch_8 : decode cL_stretch 8 = .ok (.i2l, 1) := by decide +kernel
theorem dL_stretch_9 : decode cL_stretch 9 = .ok (.lastore, 1) := by decide +kernel
theorem dL_stretch_10 : decode cL_stretch 10 = .ok (.goto 11, 3) := by decide +kernel
theorem dL_stretch_13 : decode cL_stretch 13 = .ok (.astore 4, 2) := by decide +kernel
theorem dL_stretch_15 : decode cL_stretch 15 = .ok (.iconst 1, 1) := by decide +kernel
theorem dL_stretch_16 : decode cL_stretch 16 = .ok (.ireturn, 1) := by decide +kernel
theorem dL_stretch_17 : decode cL_stretch 17 = .ok (.astore 4, 2) := by decide +kernel
theorem dL_stretch_19 : decode cL_stretch 19 = .ok (.iconst 2, 1) := by decide +kernel
theorem dL_stretch_20 : decode cL_stretch 20 = .ok (.ireturn, 1) := by decide +kernel
theorem dL_stretch_21 : decode cL_stretch 21 = .ok (.iconst 0, 1) := by decide +kernel
theorem dL_stretch_22 : decode cL_stretch 22 = .ok (.ireturn, 1) := by decide +kernel
theorem dL_isSteady_0 : decode cL_isSteady 0 = .ok (.aload_n 3, 1) := by decide +kernel
theorem dL_isSteady_1 : decode cL_isSteady 1 = .ok (.iconst 0, 1) := by decide +kernel
theorem dL_isSteady_2 : decode cL_isSteady 2 = .ok (.aload_n 0, 1) := by decide +kernel
theorem dL_isSteady_3 : decode cL_isSteady 3 = .ok (.iload_n 1, 1) := by decide +kernel
theorem dL_isSteady_4 : decode cL_isSteady 4 = .ok (.iload_n 2, 1) := by decide +kernel
theorem dL_isSteady_5 : decode cL_isSteady 5 = .ok (.invokevirtual 41, 3) := by decide +kernel
theorem dL_isSteady_8 : decode cL_isSteady 8 = .ok (.ifCond .eq 7, 3) := by decide +kernel
theorem dL_isSteady_11 : decode cL_isSteady 11 = .ok (.lconst 1, 1) := by decide +kernel
theorem dL_isSteady_12 : decode cL_isSteady 12 = .ok (.goto 4, 3) := by decide +kernel
theorem dL_isSteady_15 : decode cL_isSteady 15 = .ok (.lconst 0, 1) := by decide +kernel
theorem dL_isSteady_16 : decode cL_isSteady 16 = .ok (.lastore, 1) := by decide +kernel
theorem dL_isSteady_17 : decode cL_isSteady 17 = .ok (.goto 11, 3) := by decide +kernel
theorem dL_isSteady_20 : decode cL_isSteady 20 = .ok (.astore 4, 2) := by decide +kernel
theorem dL_isSteady_22 : decode cL_isSteady 22 = .ok (.iconst 1, 1) := by decide +kernel
theorem dL_isSteady_23 : decode cL_isSteady 23 = .ok (.ireturn, 1) := by decide +kernel
theorem dL_isSteady_24 : decode cL_isSteady 24 = .ok (.astore 4, 2) := by decide +kernel
theorem dL_isSteady_26 : decode cL_isSteady 26 = .ok (.iconst 2, 1) := by decide +kernel
theorem dL_isSteady_27 : decode cL_isSteady 27 = .ok (.ireturn, 1) := by decide +kernel
theorem dL_isSteady_28 : decode cL_isSteady 28 = .ok (.iconst 0, 1) := by decide +kernel
theorem dL_isSteady_29 : decode cL_isSteady 29 = .ok (.ireturn, 1) := by decide +kernel
theorem dL_isDoubled_0 : decode cL_isDoubled 0 = .ok (.aload_n 3, 1) := by decide +kernel
theorem dL_isDoubled_1 : decode cL_isDoubled 1 = .ok (.iconst 0, 1) := by decide +kernel
theorem dL_isDoubled_2 : decode cL_isDoubled 2 = .ok (.aload_n 0, 1) := by decide +kernel
theorem dL_isDoubled_3 : decode cL_isDoubled 3 = .ok (.iload_n 1, 1) := by decide +kernel
theorem dL_isDoubled_4 : decode cL_isDoubled 4 = .ok (.iload_n 2, 1) := by decide +kernel
theorem dL_isDoubled_5 : decode cL_isDoubled 5 = .ok (.invokevirtual 45, 3) := by decide +kernel
theorem dL_isDoubled_8 : decode cL_isDoubled 8 = .ok (.ifCond .eq 7, 3) := by decide +kernel
theorem dL_isDoubled_11 : decode cL_isDoubled 11 = .ok (.lconst 1, 1) := by decide +kernel
theorem dL_isDoubled_12 : decode cL_isDoubled 12 = .ok (.goto 4, 3) := by decide +kernel
theorem dL_isDoubled_15 : decode cL_isDoubled 15 = .ok (.lconst 0, 1) := by decide +kernel
theorem dL_isDoubled_16 : decode cL_isDoubled 16 = .ok (.lastore, 1) := by decide +kernel
theorem dL_isDoubled_17 : decode cL_isDoubled 17 = .ok (.goto 11, 3) := by decide +kernel
theorem dL_isDoubled_20 : decode cL_isDoubled 20 = .ok (.astore 4, 2) := by decide +kernel
theorem dL_isDoubled_22 : decode cL_isDoubled 22 = .ok (.iconst 1, 1) := by decide +kernel
theorem dL_isDoubled_23 : decode cL_isDoubled 23 = .ok (.ireturn, 1) := by decide +kernel
theorem dL_isDoubled_24 : decode cL_isDoubled 24 = .ok (.astore 4, 2) := by decide +kernel
theorem dL_isDoubled_26 : decode cL_isDoubled 26 = .ok (.iconst 2, 1) := by decide +kernel
theorem dL_isDoubled_27 : decode cL_isDoubled 27 = .ok (.ireturn, 1) := by decide +kernel
theorem dL_isDoubled_28 : decode cL_isDoubled 28 = .ok (.iconst 0, 1) := by decide +kernel
theorem dL_isDoubled_29 : decode cL_isDoubled 29 = .ok (.ireturn, 1) := by decide +kernel
theorem dL_isClose_0 : decode cL_isClose 0 = .ok (.aload_n 3, 1) := by decide +kernel
theorem dL_isClose_1 : decode cL_isClose 1 = .ok (.iconst 0, 1) := by decide +kernel
theorem dL_isClose_2 : decode cL_isClose 2 = .ok (.aload_n 0, 1) := by decide +kernel
theorem dL_isClose_3 : decode cL_isClose 3 = .ok (.iload_n 1, 1) := by decide +kernel
theorem dL_isClose_4 : decode cL_isClose 4 = .ok (.iload_n 2, 1) := by decide +kernel
theorem dL_isClose_5 : decode cL_isClose 5 = .ok (.invokevirtual 48, 3) := by decide +kernel
theorem dL_isClose_8 : decode cL_isClose 8 = .ok (.ifCond .eq 7, 3) := by decide +kernel
theorem dL_isClose_11 : decode cL_isClose 11 = .ok (.lconst 1, 1) := by decide +kernel
theorem dL_isClose_12 : decode cL_isClose 12 = .ok (.goto 4, 3) := by decide +kernel
theorem dL_isClose_15 : decode cL_isClose 15 = .ok (.lconst 0, 1) := by decide +kernel
theorem dL_isClose_16 : decode cL_isClose 16 = .ok (.lastore, 1) := by decide +kernel
theorem dL_isClose_17 : decode cL_isClose 17 = .ok (.goto 11, 3) := by decide +kernel
theorem dL_isClose_20 : decode cL_isClose 20 = .ok (.astore 4, 2) := by decide +kernel
theorem dL_isClose_22 : decode cL_isClose 22 = .ok (.iconst 1, 1) := by decide +kernel
theorem dL_isClose_23 : decode cL_isClose 23 = .ok (.ireturn, 1) := by decide +kernel
theorem dL_isClose_24 : decode cL_isClose 24 = .ok (.astore 4, 2) := by decide +kernel
theorem dL_isClose_26 : decode cL_isClose 26 = .ok (.iconst 2, 1) := by decide +kernel
theorem dL_isClose_27 : decode cL_isClose 27 = .ok (.ireturn, 1) := by decide +kernel
theorem dL_isClose_28 : decode cL_isClose 28 = .ok (.iconst 0, 1) := by decide +kernel
theorem dL_isClose_29 : decode cL_isClose 29 = .ok (.ireturn, 1) := by decide +kernel
theorem dL_isStraight_0 : decode cL_isStraight 0 = .ok (.aload 4, 2) := by decide +kernel
theorem dL_isStraight_2 : decode cL_isStraight 2 = .ok (.iconst 0, 1) := by decide +kernel
theorem dL_isStraight_3 : decode cL_isStraight 3 = .ok (.aload_n 0, 1) := by decide +kernel
theorem dL_isStraight_4 : decode cL_isStraight 4 = .ok (.iload_n 1, 1) := by decide +kernel
theorem dL_isStraight_5 : decode cL_isStraight 5 = .ok (.iload_n 2, 1) := by decide +kernel
theorem dL_isStraight_6 : decode cL_isStraight 6 = .ok (.iload_n 3, 1) := by decide +kernel
theorem dL_isStraight_7 : decode cL_isStraight 7 = .ok (.invokevirtual 51, 3) := by decide +kernel
theorem dL_isStraight_10 : decode cL_isStraight 10 = .ok (.ifCond .eq 7, 3) := by decide +kernel
theorem dL_isStraight_13 : decode cL_isStraight 13 = .ok (.lconst 1, 1) := by decide +kernel
theorem dL_isStraight_14 : decode cL_isStraight 14 = .ok (.goto 4, 3) := by decide +kernel
theorem dL_isStraight_17 : decode cL_isStraight 17 = .ok (.lconst 0, 1) := by decide +kernel
theorem dL_isStraight_18 : decode cL_isStraight 18 = .ok (.lastore, 1) := by decide +kernel
theorem dL_isStraight_19 : decode cL_isStraight 19 = .ok (.goto 11, 3) := by decide +kernel
theorem dL_isStraight_22 : decode cL_isStraight 22 = .ok (.astore 5, 2) := by decide +kernel
theorem dL_isStraight_24 : decode cL_isStraight 24 = .ok (.iconst 1, 1) := by decide +kernel
theorem dL_isStraight_25 : decode cL_isStraight 25 = .ok (.ireturn, 1) := by decide +kernel
theorem dL_isStraight_26 : decode cL_isStraight 26 = .ok (.astore 5, 2) := by decide +kernel
theorem dL_isStraight_28 : decode cL_isStraight 28 = .ok (.iconst 2, 1) := by decide +kernel
theorem dL_isStraight_29 : decode cL_isStraight 29 = .ok (.ireturn, 1) := by decide +kernel
theorem dL_isStraight_30 : decode cL_isStraight 30 = .ok (.iconst 0, 1) := by decide +kernel
theorem dL_isStraight_31 : decode cL_isStraight 31 = .ok (.ireturn, 1) := by decide +kernel
theorem dL_nearest_0 : decode cL_nearest 0 = .ok (.aload_n 2, 1) := by decide +kernel
theorem dL_nearest_1 : decode cL_nearest 1 = .ok (.iconst 0, 1) := by decide +kernel
theorem dL_nearest_2 : decode cL_nearest 2 = .ok (.aload_n 0, 1) := by decide +kernel
theorem dL_nearest_3 : decode cL_nearest 3 = .ok (.iload_n 1, 1) := by decide +kernel
theorem dL_nearest_4 : decode cL_nearest 4 = .ok (.invokevirtual 54, 3) := by decide +kernel
theorem dL_nearest_7 : decode cL_nearest 7 = .ok (.i2l, 1) := by decide +kernel
theorem dL_nearest_8 : decode cL_nearest 8 = .ok (.lastore, 1) := by decide +kernel
theorem dL_nearest_9 : decode cL_nearest 9 = .ok (.goto 12, 3) := by decide +kernel
theorem dL_nearest_12 : decode cL_nearest 12 = .ok (.astore_n 3, 1) := by decide +kernel
theorem dL_nearest_13 : decode cL_nearest 13 = .ok (.iconst 1, 1) := by decide +kernel
theorem dL_nearest_14 : decode cL_nearest 14 = .ok (.ireturn, 1) := by decide +kernel
theorem dL_nearest_15 : decode cL_nearest 15 = .ok (.astore_n 3, 1) := by decide +kernel
theorem dL_nearest_16 : decode cL_nearest 16 = .ok (.iconst 2, 1) := by decide +kernel
theorem dL_nearest_17 : decode cL_nearest 17 = .ok (.ireturn, 1) := by decide +kernel
theorem dL_nearest_18 : decode cL_nearest 18 = .ok (.astore_n 3, 1) := by decide +kernel
theorem dL_nearest_19 : decode cL_nearest 19 = .ok (.iconst 3, 1) := by decide +kernel
theorem dL_nearest_20 : decode cL_nearest 20 = .ok (.ireturn, 1) := by decide +kernel
theorem dL_nearest_21 : decode cL_nearest 21 = .ok (.iconst 0, 1) := by decide +kernel
theorem dL_nearest_22 : decode cL_nearest 22 = .ok (.ireturn, 1) := by decide +kernel
theorem dL_rank_0 : decode cL_rank 0 = .ok (.aload_n 3, 1) := by decide +kernel
theorem dL_rank_1 : decode cL_rank 1 = .ok (.iconst 0, 1) := by decide +kernel
theorem dL_rank_2 : decode cL_rank 2 = .ok (.aload_n 0, 1) := by decide +kernel
theorem dL_rank_3 : decode cL_rank 3 = .ok (.iload_n 1, 1) := by decide +kernel
theorem dL_rank_4 : decode cL_rank 4 = .ok (.iload_n 2, 1) := by decide +kernel
theorem dL_rank_5 : decode cL_rank 5 = .ok (.invokevirtual 57, 3) := by decide +kernel
theorem dL_rank_8 : decode cL_rank 8 = .ok (.i2l, 1) := by decide +kernel
theorem dL_rank_9 : decode cL_rank 9 = .ok (.lastore, 1) := by decide +kernel
theorem dL_rank_10 : decode cL_rank 10 = .ok (.goto 11, 3) := by decide +kernel
theorem dL_rank_13 : decode cL_rank 13 = .ok (.astore 4, 2) := by decide +kernel
theorem dL_rank_15 : decode cL_rank 15 = .ok (.iconst 1, 1) := by decide +kernel
theorem dL_rank_16 : decode cL_rank 16 = .ok (.ireturn, 1) := by decide +kernel
theorem dL_rank_17 : decode cL_rank 17 = .ok (.astore 4, 2) := by decide +kernel
theorem dL_rank_19 : decode cL_rank 19 = .ok (.iconst 2, 1) := by decide +kernel
theorem dL_rank_20 : decode cL_rank 20 = .ok (.ireturn, 1) := by decide +kernel
theorem dL_rank_21 : decode cL_rank 21 = .ok (.iconst 0, 1) := by decide +kernel
theorem dL_rank_22 : decode cL_rank 22 = .ok (.ireturn, 1) := by decide +kernel
theorem dL_isIn_0 : decode cL_isIn 0 = .ok (.aload 5, 2) := by decide +kernel
theorem dL_isIn_2 : decode cL_isIn 2 = .ok (.iconst 0, 1) := by decide +kernel
theorem dL_isIn_3 : decode cL_isIn 3 = .ok (.aload_n 0, 1) := by decide +kernel
theorem dL_isIn_4 : decode cL_isIn 4 = .ok (.iload_n 1, 1) := by decide +kernel
theorem dL_isIn_5 : decode cL_isIn 5 = .ok (.iload_n 2, 1) := by decide +kernel
theorem dL_isIn_6 : decode cL_isIn 6 = .ok (.iload_n 3, 1) := by decide +kernel
theorem dL_isIn_7 : decode cL_isIn 7 = .ok (.iload 4, 2) := by decide +kernel
theorem dL_isIn_9 : decode cL_isIn 9 = .ok (.invokevirtual 60, 3) := by decide +kernel
theorem dL_isIn_12 : decode cL_isIn 12 = .ok (.ifCond .eq 7, 3) := by decide +kernel
theorem dL_isIn_15 : decode cL_isIn 15 = .ok (.lconst 1, 1) := by decide +kernel
theorem dL_isIn_16 : decode cL_isIn 16 = .ok (.goto 4, 3) := by decide +kernel
theorem dL_isIn_19 : decode cL_isIn 19 = .ok (.lconst 0, 1) := by decide +kernel
theorem dL_isIn_20 : decode cL_isIn 20 = .ok (.lastore, 1) := by decide +kernel
theorem dL_isIn_21 : decode cL_isIn 21 = .ok (.goto 15, 3) := by decide +kernel
theorem dL_isIn_24 : decode cL_isIn 24 = .ok (.astore 6, 2) := by decide +kernel
theorem dL_isIn_26 : decode cL_isIn 26 = .ok (.iconst 1, 1) := by decide +kernel
theorem dL_isIn_27 : decode cL_isIn 27 = .ok (.ireturn, 1) := by decide +kernel
theorem dL_isIn_28 : decode cL_isIn 28 = .ok (.astore 6, 2) := by decide +kernel
theorem dL_isIn_30 : decode cL_isIn 30 = .ok (.iconst 2, 1) := by decide +kernel
theorem dL_isIn_31 : decode cL_isIn 31 = .ok (.ireturn, 1) := by decide +kernel
theorem dL_isIn_32 : decode cL_isIn 32 = .ok (.astore 6, 2) := by decide +kernel
theorem dL_isIn_34 : decode cL_isIn 34 = .ok (.iconst 3, 1) := by decide +kernel
theorem dL_isIn_35 : decode cL_isIn 35 = .ok (.ireturn, 1) := by decide +kernel
theorem dL_isIn_36 : decode cL_isIn 36 = .ok (.iconst 0, 1) := by decide +kernel
theorem dL_isIn_37 : decode cL_isIn 37 = .ok (.ireturn, 1) := by decide +kernel
theorem dL_root_0 : decode cL_root 0 = .ok (.aload_n 3, 1) := by decide +kernel
theorem dL_root_1 : decode cL_root 1 = .ok (.iconst 0, 1) := by decide +kernel
theorem dL_root_2 : decode cL_root 2 = .ok (.aload_n 0, 1) := by decide +kernel
theorem dL_root_3 : decode cL_root 3 = .ok (.iload_n 1, 1) := by decide +kernel
theorem dL_root_4 : decode cL_root 4 = .ok (.iload_n 2, 1) := by decide +kernel
theorem dL_root_5 : decode cL_root 5 = .ok (.invokevirtual 64, 3) := by decide +kernel
theorem dL_root_8 : decode cL_root 8 = .ok (.dastore, 1) := by decide +kernel
theorem dL_root_9 : decode cL_root 9 = .ok (.goto 7, 3) := by decide +kernel
theorem dL_root_12 : decode cL_root 12 = .ok (.astore 4, 2) := by decide +kernel
theorem dL_root_14 : decode cL_root 14 = .ok (.iconst 1, 1) := by decide +kernel
theorem dL_root_15 : decode cL_root 15 = .ok (.ireturn, 1) := by decide +kernel
theorem dL_root_16 : decode cL_root 16 = .ok (.iconst 0, 1) := by decide +kernel
theorem dL_root_17 : decode cL_root 17 = .ok (.ireturn, 1) := by decide +kernel
theorem dL_rootBits_0 : decode cL_rootBits 0 = .ok (.aload_n 3, 1) := by decide +kernel
theorem dL_rootBits_1 : decode cL_rootBits 1 = .ok (.iconst 0, 1) := by decide +kernel
theorem dL_rootBits_2 : decode cL_rootBits 2 = .ok (.aload_n 0, 1) := by decide +kernel
theorem dL_rootBits_3 : decode cL_rootBits 3 = .ok (.iload_n 1, 1) := by decide +kernel
theorem dL_rootBits_4 : decode cL_rootBits 4 = .ok (.iload_n 2, 1) := by decide +kernel
theorem dL_rootBits_5 : decode cL_rootBits 5 = .ok (.invokevirtual 68, 3) := by decide +kernel
theorem dL_rootBits_8 : decode cL_rootBits 8 = .ok (.lastore, 1) := by decide +kernel
theorem dL_rootBits_9 : decode cL_rootBits 9 = .ok (.goto 7, 3) := by decide +kernel
theorem dL_rootBits_12 : decode cL_rootBits 12 = .ok (.astore 4, 2) := by decide +kernel
theorem dL_rootBits_14 : decode cL_rootBits 14 = .ok (.iconst 1, 1) := by decide +kernel
theorem dL_rootBits_15 : decode cL_rootBits 15 = .ok (.ireturn, 1) := by decide +kernel
theorem dL_rootBits_16 : decode cL_rootBits 16 = .ok (.iconst 0, 1) := by decide +kernel
theorem dL_rootBits_17 : decode cL_rootBits 17 = .ok (.ireturn, 1) := by decide +kernel
theorem dL_rootGrains_0 : decode cL_rootGrains 0 = .ok (.aload_n 3, 1) := by decide +kernel
theorem dL_rootGrains_1 : decode cL_rootGrains 1 = .ok (.iconst 0, 1) := by decide +kernel
theorem dL_rootGrains_2 : decode cL_rootGrains 2 = .ok (.aload_n 0, 1) := by decide +kernel
theorem dL_rootGrains_3 : decode cL_rootGrains 3 = .ok (.iload_n 1, 1) := by decide +kernel
theorem dL_rootGrains_4 : decode cL_rootGrains 4 = .ok (.iload_n 2, 1) := by decide +kernel
theorem dL_rootGrains_5 : decode cL_rootGrains 5 = .ok (.invokevirtual 72, 3) := by decide +kernel
theorem dL_rootGrains_8 : decode cL_rootGrains 8 = .ok (.i2l, 1) := by decide +kernel
theorem dL_rootGrains_9 : decode cL_rootGrains 9 = .ok (.lastore, 1) := by decide +kernel
theorem dL_rootGrains_10 : decode cL_rootGrains 10 = .ok (.goto 7, 3) := by decide +kernel
theorem dL_rootGrains_13 : decode cL_rootGrains 13 = .ok (.astore 4, 2) := by decide +kernel
theorem dL_rootGrains_15 : decode cL_rootGrains 15 = .ok (.iconst 1, 1) := by decide +kernel
theorem dL_rootGrains_16 : decode cL_rootGrains 16 = .ok (.ireturn, 1) := by decide +kernel
theorem dL_rootGrains_17 : decode cL_rootGrains 17 = .ok (.iconst 0, 1) := by decide +kernel
theorem dL_rootGrains_18 : decode cL_rootGrains 18 = .ok (.ireturn, 1) := by decide +kernel
theorem dL_wholeRoot_0 : decode cL_wholeRoot 0 = .ok (.aload_n 2, 1) := by decide +kernel
theorem dL_wholeRoot_1 : decode cL_wholeRoot 1 = .ok (.iconst 0, 1) := by decide +kernel
theorem dL_wholeRoot_2 : decode cL_wholeRoot 2 = .ok (.aload_n 0, 1) := by decide +kernel
theorem dL_wholeRoot_3 : decode cL_wholeRoot 3 = .ok (.iload_n 1, 1) := by decide +kernel
theorem dL_wholeRoot_4 : decode cL_wholeRoot 4 = .ok (.invokevirtual 76, 3) := by decide +kernel
theorem dL_wholeRoot_7 : decode cL_wholeRoot 7 = .ok (.i2l, 1) := by decide +kernel
theorem dL_wholeRoot_8 : decode cL_wholeRoot 8 = .ok (.lastore, 1) := by decide +kernel
theorem dL_wholeRoot_9 : decode cL_wholeRoot 9 = .ok (.goto 6, 3) := by decide +kernel
theorem dL_wholeRoot_12 : decode cL_wholeRoot 12 = .ok (.astore_n 3, 1) := by decide +kernel
theorem dL_wholeRoot_13 : decode cL_wholeRoot 13 = .ok (.iconst 1, 1) := by decide +kernel
theorem dL_wholeRoot_14 : decode cL_wholeRoot 14 = .ok (.ireturn, 1) := by decide +kernel
theorem dL_wholeRoot_15 : decode cL_wholeRoot 15 = .ok (.iconst 0, 1) := by decide +kernel
theorem dL_wholeRoot_16 : decode cL_wholeRoot 16 = .ok (.ireturn, 1) := by decide +kernel
theorem dL_isNearest_0 : decode cL_isNearest 0 = .ok (.aload_n 3, 1) := by decide +kernel
theorem dL_isNearest_1 : decode cL_isNearest 1 = .ok (.iconst 0, 1) := by decide +kernel
theorem dL_isNearest_2 : decode cL_isNearest 2 = .ok (.aload_n 0, 1) := by decide +kernel
theorem dL_isNearest_3 : decode cL_isNearest 3 = .ok (.iload_n 1, 1) := by decide +kernel
theorem dL_isNearest_4 : decode cL_isNearest 4 = .ok (.iload_n 2, 1) := by decide +kernel
theorem dL_isNearest_5 : decode cL_isNearest 5 = .ok (.invokevirtual 79, 3) := by decide +kernel
theorem dL_isNearest_8 : decode cL_isNearest 8 = .ok (.ifCond .eq 7, 3) := by decide +kernel
theorem dL_isNearest_11 : decode cL_isNearest 11 = .ok (.lconst 1, 1) := by decide +kernel
theorem dL_isNearest_12 : decode cL_isNearest 12 = .ok (.goto 4, 3) := by decide +kernel
theorem dL_isNearest_15 : decode cL_isNearest 15 = .ok (.lconst 0, 1) := by decide +kernel
theorem dL_isNearest_16 : decode cL_isNearest 16 = .ok (.lastore, 1) := by decide +kernel
theorem dL_isNearest_17 : decode cL_isNearest 17 = .ok (.goto 7, 3) := by decide +kernel
theorem dL_isNearest_20 : decode cL_isNearest 20 = .ok (.astore 4, 2) := by decide +kernel
theorem dL_isNearest_22 : decode cL_isNearest 22 = .ok (.iconst 1, 1) := by decide +kernel
theorem dL_isNearest_23 : decode cL_isNearest 23 = .ok (.ireturn, 1) := by decide +kernel
theorem dL_isNearest_24 : decode cL_isNearest 24 = .ok (.iconst 0, 1) := by decide +kernel
theorem dL_isNearest_25 : decode cL_isNearest 25 = .ok (.ireturn, 1) := by decide +kernel
theorem dL_isHalved_0 : decode cL_isHalved 0 = .ok (.aload_n 2, 1) := by decide +kernel
theorem dL_isHalved_1 : decode cL_isHalved 1 = .ok (.iconst 0, 1) := by decide +kernel
theorem dL_isHalved_2 : decode cL_isHalved 2 = .ok (.aload_n 0, 1) := by decide +kernel
theorem dL_isHalved_3 : decode cL_isHalved 3 = .ok (.iload_n 1, 1) := by decide +kernel
theorem dL_isHalved_4 : decode cL_isHalved 4 = .ok (.invokevirtual 83, 3) := by decide +kernel
theorem dL_isHalved_7 : decode cL_isHalved 7 = .ok (.ifCond .eq 7, 3) := by decide +kernel
theorem dL_isHalved_10 : decode cL_isHalved 10 = .ok (.lconst 1, 1) := by decide +kernel
theorem dL_isHalved_11 : decode cL_isHalved 11 = .ok (.goto 4, 3) := by decide +kernel
theorem dL_isHalved_14 : decode cL_isHalved 14 = .ok (.lconst 0, 1) := by decide +kernel
theorem dL_isHalved_15 : decode cL_isHalved 15 = .ok (.lastore, 1) := by decide +kernel
theorem dL_isHalved_16 : decode cL_isHalved 16 = .ok (.goto 6, 3) := by decide +kernel
theorem dL_isHalved_19 : decode cL_isHalved 19 = .ok (.astore_n 3, 1) := by decide +kernel
theorem dL_isHalved_20 : decode cL_isHalved 20 = .ok (.iconst 1, 1) := by decide +kernel
theorem dL_isHalved_21 : decode cL_isHalved 21 = .ok (.ireturn, 1) := by decide +kernel
theorem dL_isHalved_22 : decode cL_isHalved 22 = .ok (.iconst 0, 1) := by decide +kernel
theorem dL_isHalved_23 : decode cL_isHalved 23 = .ok (.ireturn, 1) := by decide +kernel
theorem dL_between_0 : decode cL_between 0 = .ok (.aload 4, 2) := by decide +kernel
theorem dL_between_2 : decode cL_between 2 = .ok (.iconst 0, 1) := by decide +kernel
theorem dL_between_3 : decode cL_between 3 = .ok (.aload_n 0, 1) := by decide +kernel
theorem dL_between_4 : decode cL_between 4 = .ok (.iload_n 1, 1) := by decide +kernel
theorem dL_between_5 : decode cL_between 5 = .ok (.iload_n 2, 1) := by decide +kernel
theorem dL_between_6 : decode cL_between 6 = .ok (.iload_n 3, 1) := by decide +kernel
theorem dL_between_7 : decode cL_between 7 = .ok (.invokevirtual 86, 3) := by decide +kernel
theorem dL_between_10 : decode cL_between 10 = .ok (.i2l, 1) := by decide +kernel
theorem dL_between_11 : decode cL_between 11 = .ok (.lastore, 1) := by decide +kernel
theorem dL_between_12 : decode cL_between 12 = .ok (.goto 7, 3) := by decide +kernel
theorem dL_between_15 : decode cL_between 15 = .ok (.astore 5, 2) := by decide +kernel
theorem dL_between_17 : decode cL_between 17 = .ok (.iconst 1, 1) := by decide +kernel
theorem dL_between_18 : decode cL_between 18 = .ok (.ireturn, 1) := by decide +kernel
theorem dL_between_19 : decode cL_between 19 = .ok (.iconst 0, 1) := by decide +kernel
theorem dL_between_20 : decode cL_between 20 = .ok (.ireturn, 1) := by decide +kernel
theorem dL_join_0 : decode cL_join 0 = .ok (.aload_n 2, 1) := by decide +kernel
theorem dL_join_1 : decode cL_join 1 = .ok (.iconst 0, 1) := by decide +kernel
theorem dL_join_2 : decode cL_join 2 = .ok (.aload_n 0, 1) := by decide +kernel
theorem dL_join_3 : decode cL_join 3 = .ok (.iload_n 1, 1) := by decide +kernel
theorem dL_join_4 : decode cL_join 4 = .ok (.invokevirtual 90, 3) := by decide +kernel
theorem dL_join_7 : decode cL_join 7 = .ok (.i2l, 1) := by decide +kernel
theorem dL_join_8 : decode cL_join 8 = .ok (.lastore, 1) := by decide +kernel
theorem dL_join_9 : decode cL_join 9 = .ok (.goto 12, 3) := by decide +kernel
theorem dL_join_12 : decode cL_join 12 = .ok (.astore_n 3, 1) := by decide +kernel
theorem dL_join_13 : decode cL_join 13 = .ok (.iconst 1, 1) := by decide +kernel
theorem dL_join_14 : decode cL_join 14 = .ok (.ireturn, 1) := by decide +kernel
theorem dL_join_15 : decode cL_join 15 = .ok (.astore_n 3, 1) := by decide +kernel
theorem dL_join_16 : decode cL_join 16 = .ok (.iconst 2, 1) := by decide +kernel
theorem dL_join_17 : decode cL_join 17 = .ok (.ireturn, 1) := by decide +kernel
theorem dL_join_18 : decode cL_join 18 = .ok (.astore_n 3, 1) := by decide +kernel
theorem dL_join_19 : decode cL_join 19 = .ok (.iconst 3, 1) := by decide +kernel
theorem dL_join_20 : decode cL_join 20 = .ok (.ireturn, 1) := by decide +kernel
theorem dL_join_21 : decode cL_join 21 = .ok (.iconst 0, 1) := by decide +kernel
theorem dL_join_22 : decode cL_join 22 = .ok (.ireturn, 1) := by decide +kernel
theorem dL_unjoin_0 : decode cL_unjoin 0 = .ok (.aload_n 1, 1) := by decide +kernel
theorem dL_unjoin_1 : decode cL_unjoin 1 = .ok (.iconst 0, 1) := by decide +kernel
theorem dL_unjoin_2 : decode cL_unjoin 2 = .ok (.aload_n 0, 1) := by decide +kernel
theorem dL_unjoin_3 : decode cL_unjoin 3 = .ok (.invokevirtual 93, 3) := by decide +kernel
theorem dL_unjoin_6 : decode cL_unjoin 6 = .ok (.i2l, 1) := by decide +kernel
theorem dL_unjoin_7 : decode cL_unjoin 7 = .ok (.lastore, 1) := by decide +kernel
theorem dL_unjoin_8 : decode cL_unjoin 8 = .ok (.goto 6, 3) := by decide +kernel
theorem dL_unjoin_11 : decode cL_unjoin 11 = .ok (.astore_n 2, 1) := by decide +kernel
theorem dL_unjoin_12 : decode cL_unjoin 12 = .ok (.iconst 1, 1) := by decide +kernel
theorem dL_unjoin_13 : decode cL_unjoin 13 = .ok (.ireturn, 1) := by decide +kernel
theorem dL_unjoin_14 : decode cL_unjoin 14 = .ok (.iconst 0, 1) := by decide +kernel
theorem dL_unjoin_15 : decode cL_unjoin 15 = .ok (.ireturn, 1) := by decide +kernel
theorem dL_ringAt_0 : decode cL_ringAt 0 = .ok (.aload_n 2, 1) := by decide +kernel
theorem dL_ringAt_1 : decode cL_ringAt 1 = .ok (.iconst 0, 1) := by decide +kernel
theorem dL_ringAt_2 : decode cL_ringAt 2 = .ok (.aload_n 0, 1) := by decide +kernel
theorem dL_ringAt_3 : decode cL_ringAt 3 = .ok (.iload_n 1, 1) := by decide +kernel
theorem dL_ringAt_4 : decode cL_ringAt 4 = .ok (.invokevirtual 97, 3) := by decide +kernel
theorem dL_ringAt_7 : decode cL_ringAt 7 = .ok (.i2l, 1) := by decide +kernel
theorem dL_ringAt_8 : decode cL_ringAt 8 = .ok (.lastore, 1) := by decide +kernel
theorem dL_ringAt_9 : decode cL_ringAt 9 = .ok (.goto 6, 3) := by decide +kernel
theorem dL_ringAt_12 : decode cL_ringAt 12 = .ok (.astore_n 3, 1) := by decide +kernel
theorem dL_ringAt_13 : decode cL_ringAt 13 = .ok (.iconst 1, 1) := by decide +kernel
theorem dL_ringAt_14 : decode cL_ringAt 14 = .ok (.ireturn, 1) := by decide +kernel
theorem dL_ringAt_15 : decode cL_ringAt 15 = .ok (.iconst 0, 1) := by decide +kernel
theorem dL_ringAt_16 : decode cL_ringAt 16 = .ok (.ireturn, 1) := by decide +kernel
theorem dL_sideBits_0 : decode cL_sideBits 0 = .ok (.aload_n 1, 1) := by decide +kernel
theorem dL_sideBits_1 : decode cL_sideBits 1 = .ok (.iconst 0, 1) := by decide +kernel
theorem dL_sideBits_2 : decode cL_sideBits 2 = .ok (.aload_n 0, 1) := by decide +kernel
