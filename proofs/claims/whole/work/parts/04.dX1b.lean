theorem dX1_isStraight_8 : decode cX1_isStraight 8 = .ok (.aload_n 0, 1) := by decide +kernel
theorem dX1_isStraight_9 : decode cX1_isStraight 9 = .ok (.iload_n 2, 1) := by decide +kernel
theorem dX1_isStraight_10 : decode cX1_isStraight 10 = .ok (.invokevirtual 35, 3) := by decide +kernel
theorem dX1_isStraight_13 : decode cX1_isStraight 13 = .ok (.ifCond .ne 51, 3) := by decide +kernel
theorem dX1_isStraight_16 : decode cX1_isStraight 16 = .ok (.aload_n 0, 1) := by decide +kernel
theorem dX1_isStraight_17 : decode cX1_isStraight 17 = .ok (.iload_n 3, 1) := by decide +kernel
theorem dX1_isStraight_18 : decode cX1_isStraight 18 = .ok (.invokevirtual 35, 3) := by decide +kernel
theorem dX1_isStraight_21 : decode cX1_isStraight 21 = .ok (.ifCond .ne 43, 3) := by decide +kernel
theorem dX1_isStraight_24 : decode cX1_isStraight 24 = .ok (.aload_n 0, 1) := by decide +kernel
theorem dX1_isStraight_25 : decode cX1_isStraight 25 = .ok (.aload_n 0, 1) := by decide +kernel
theorem dX1_isStraight_26 : decode cX1_isStraight 26 = .ok (.getfield 7, 3) := by decide +kernel
theorem dX1_isStraight_29 : decode cX1_isStraight 29 = .ok (.iload_n 1, 1) := by decide +kernel
theorem dX1_isStraight_30 : decode cX1_isStraight 30 = .ok (.baload, 1) := by decide +kernel
theorem dX1_isStraight_31 : decode cX1_isStraight 31 = .ok (.ifCond .eq 21, 3) := by decide +kernel
theorem dX1_isStraight_34 : decode cX1_isStraight 34 = .ok (.aload_n 0, 1) := by decide +kernel
theorem dX1_isStraight_35 : decode cX1_isStraight 35 = .ok (.getfield 7, 3) := by decide +kernel
theorem dX1_isStraight_38 : decode cX1_isStraight 38 = .ok (.iload_n 2, 1) := by decide +kernel
theorem dX1_isStraight_39 : decode cX1_isStraight 39 = .ok (.baload, 1) := by decide +kernel
theorem dX1_isStraight_40 : decode cX1_isStraight 40 = .ok (.ifCond .eq 12, 3) := by decide +kernel
theorem dX1_isStraight_43 : decode cX1_isStraight 43 = .ok (.aload_n 0, 1) := by decide +kernel
theorem dX1_isStraight_44 : decode cX1_isStraight 44 = .ok (.getfield 7, 3) := by decide +kernel
theorem dX1_isStraight_47 : decode cX1_isStraight 47 = .ok (.iload_n 3, 1) := by decide +kernel
theorem dX1_isStraight_48 : decode cX1_isStraight 48 = .ok (.baload, 1) := by decide +kernel
theorem dX1_isStraight_49 : decode cX1_isStraight 49 = .ok (.ifCond .ne 7, 3) := by decide +kernel
theorem dX1_isStraight_52 : decode cX1_isStraight 52 = .ok (.iconst 1, 1) := by decide +kernel
theorem dX1_isStraight_53 : decode cX1_isStraight 53 = .ok (.goto 4, 3) := by decide +kernel
theorem dX1_isStraight_56 : decode cX1_isStraight 56 = .ok (.iconst 0, 1) := by decide +kernel
theorem dX1_isStraight_57 : decode cX1_isStraight 57 = .ok (.iconst 2, 1) := by decide +kernel
theorem dX1_isStraight_58 : decode cX1_isStraight 58 = .ok (.invokevirtual 31, 3) := by decide +kernel
theorem dX1_isStraight_61 : decode cX1_isStraight 61 = .ok (.ifCond .eq 5, 3) := by decide +kernel
theorem dX1_isStraight_64 : decode cX1_isStraight 64 = .ok (.iconst 0, 1) := by decide +kernel
theorem dX1_isStraight_65 : decode cX1_isStraight 65 = .ok (.ireturn, 1) := by decide +kernel
theorem dX1_isStraight_66 : decode cX1_isStraight 66 = .ok (.aload_n 0, 1) := by decide +kernel
theorem dX1_isStraight_67 : decode cX1_isStraight 67 = .ok (.iload_n 1, 1) := by decide +kernel
theorem dX1_isStraight_68 : decode cX1_isStraight 68 = .ok (.iload_n 2, 1) := by decide +kernel
theorem dX1_isStraight_69 : decode cX1_isStraight 69 = .ok (.iload_n 3, 1) := by decide +kernel
theorem dX1_isStraight_70 : decode cX1_isStraight 70 = .ok (.invokevirtual 84, 3) := by decide +kernel
theorem dX1_isStraight_73 : decode cX1_isStraight 73 = .ok (.ireturn, 1) := by decide +kernel
theorem dX1_nearestTo_0 : decode cX1_nearestTo 0 = .ok (.iconst (-1), 1) := by decide +kernel
theorem dX1_nearestTo_1 : decode cX1_nearestTo 1 = .ok (.istore_n 2, 1) := by decide +kernel
theorem dX1_nearestTo_2 : decode cX1_nearestTo 2 = .ok (.iconst 0, 1) := by decide +kernel
theorem dX1_nearestTo_3 : decode cX1_nearestTo 3 = .ok (.istore_n 3, 1) := by decide +kernel
theorem dX1_nearestTo_4 : decode cX1_nearestTo 4 = .ok (.iload_n 3, 1) := by decide +kernel
theorem dX1_nearestTo_5 : decode cX1_nearestTo 5 = .ok (.bipush 12, 2) := by decide +kernel
theorem dX1_nearestTo_7 : decode cX1_nearestTo 7 = .ok (.if_icmp .ge 45, 3) := by decide +kernel
theorem dX1_nearestTo_10 : decode cX1_nearestTo 10 = .ok (.iload_n 3, 1) := by decide +kernel
theorem dX1_nearestTo_11 : decode cX1_nearestTo 11 = .ok (.iload_n 1, 1) := by decide +kernel
theorem dX1_nearestTo_12 : decode cX1_nearestTo 12 = .ok (.if_icmp .eq 34, 3) := by decide +kernel
theorem dX1_nearestTo_15 : decode cX1_nearestTo 15 = .ok (.aload_n 0, 1) := by decide +kernel
theorem dX1_nearestTo_16 : decode cX1_nearestTo 16 = .ok (.getfield 7, 3) := by decide +kernel
theorem dX1_nearestTo_19 : decode cX1_nearestTo 19 = .ok (.iload_n 3, 1) := by decide +kernel
theorem dX1_nearestTo_20 : decode cX1_nearestTo 20 = .ok (.baload, 1) := by decide +kernel
theorem dX1_nearestTo_21 : decode cX1_nearestTo 21 = .ok (.ifCond .eq 25, 3) := by decide +kernel
theorem dX1_nearestTo_24 : decode cX1_nearestTo 24 = .ok (.iload_n 2, 1) := by decide +kernel
theorem dX1_nearestTo_25 : decode cX1_nearestTo 25 = .ok (.iconst (-1), 1) := by decide +kernel
theorem dX1_nearestTo_26 : decode cX1_nearestTo 26 = .ok (.if_icmp .eq 18, 3) := by decide +kernel
theorem dX1_nearestTo_29 : decode cX1_nearestTo 29 = .ok (.aload_n 0, 1) := by decide +kernel
theorem dX1_nearestTo_30 : decode cX1_nearestTo 30 = .ok (.iload_n 1, 1) := by decide +kernel
theorem dX1_nearestTo_31 : decode cX1_nearestTo 31 = .ok (.iload_n 3, 1) := by decide +kernel
theorem dX1_nearestTo_32 : decode cX1_nearestTo 32 = .ok (.invokevirtual 80, 3) := by decide +kernel
theorem dX1_nearestTo_35 : decode cX1_nearestTo 35 = .ok (.aload_n 0, 1) := by decide +kernel
theorem dX1_nearestTo_36 : decode cX1_nearestTo 36 = .ok (.iload_n 1, 1) := by decide +kernel
theorem dX1_nearestTo_37 : decode cX1_nearestTo 37 = .ok (.iload_n 2, 1) := by decide +kernel
theorem dX1_nearestTo_38 : decode cX1_nearestTo 38 = .ok (.invokevirtual 80, 3) := by decide +kernel
theorem dX1_nearestTo_41 : decode cX1_nearestTo 41 = .ok (.if_icmp .ge 5, 3) := by decide +kernel
theorem dX1_nearestTo_44 : decode cX1_nearestTo 44 = .ok (.iload_n 3, 1) := by decide +kernel
theorem dX1_nearestTo_45 : decode cX1_nearestTo 45 = .ok (.istore_n 2, 1) := by decide +kernel
theorem dX1_nearestTo_46 : decode cX1_nearestTo 46 = .ok (.iinc 3 1, 3) := by decide +kernel
theorem dX1_nearestTo_49 : decode cX1_nearestTo 49 = .ok (.goto (-45), 3) := by decide +kernel
theorem dX1_nearestTo_52 : decode cX1_nearestTo 52 = .ok (.iload_n 2, 1) := by decide +kernel
theorem dX1_nearestTo_53 : decode cX1_nearestTo 53 = .ok (.ireturn, 1) := by decide +kernel
theorem dX1_nearest_0 : decode cX1_nearest 0 = .ok (.aload_n 0, 1) := by decide +kernel
theorem dX1_nearest_1 : decode cX1_nearest 1 = .ok (.iload_n 1, 1) := by decide +kernel
theorem dX1_nearest_2 : decode cX1_nearest 2 = .ok (.invokevirtual 63, 3) := by decide +kernel
theorem dX1_nearest_5 : decode cX1_nearest 5 = .ok (.ifCond .ne 24, 3) := by decide +kernel
theorem dX1_nearest_8 : decode cX1_nearest 8 = .ok (.aload_n 0, 1) := by decide +kernel
theorem dX1_nearest_9 : decode cX1_nearest 9 = .ok (.aload_n 0, 1) := by decide +kernel
theorem dX1_nearest_10 : decode cX1_nearest 10 = .ok (.invokevirtual 87, 3) := by decide +kernel
theorem dX1_nearest_13 : decode cX1_nearest 13 = .ok (.iconst 1, 1) := by decide +kernel
theorem dX1_nearest_14 : decode cX1_nearest 14 = .ok (.if_icmp .ne 7, 3) := by decide +kernel
theorem dX1_nearest_17 : decode cX1_nearest 17 = .ok (.iconst 1, 1) := by decide +kernel
theorem dX1_nearest_18 : decode cX1_nearest 18 = .ok (.goto 4, 3) := by decide +kernel
theorem dX1_nearest_21 : decode cX1_nearest 21 = .ok (.iconst 0, 1) := by decide +kernel
theorem dX1_nearest_22 : decode cX1_nearest 22 = .ok (.iconst 3, 1) := by decide +kernel
theorem dX1_nearest_23 : decode cX1_nearest 23 = .ok (.invokevirtual 31, 3) := by decide +kernel
theorem dX1_nearest_26 : decode cX1_nearest 26 = .ok (.ifCond .eq 5, 3) := by decide +kernel
theorem dX1_nearest_29 : decode cX1_nearest 29 = .ok (.iconst 0, 1) := by decide +kernel
theorem dX1_nearest_30 : decode cX1_nearest 30 = .ok (.ireturn, 1) := by decide +kernel
theorem dX1_nearest_31 : decode cX1_nearest 31 = .ok (.aload_n 0, 1) := by decide +kernel
theorem dX1_nearest_32 : decode cX1_nearest 32 = .ok (.iload_n 1, 1) := by decide +kernel
theorem dX1_nearest_33 : decode cX1_nearest 33 = .ok (.invokevirtual 91, 3) := by decide +kernel
theorem dX1_nearest_36 : decode cX1_nearest 36 = .ok (.ireturn, 1) := by decide +kernel
theorem dX1_rank_0 : decode cX1_rank 0 = .ok (.aload_n 0, 1) := by decide +kernel
theorem dX1_rank_1 : decode cX1_rank 1 = .ok (.iload_n 1, 1) := by decide +kernel
theorem dX1_rank_2 : decode cX1_rank 2 = .ok (.iload_n 2, 1) := by decide +kernel
theorem dX1_rank_3 : decode cX1_rank 3 = .ok (.invokevirtual 76, 3) := by decide +kernel
theorem dX1_rank_6 : decode cX1_rank 6 = .ok (.ifCond .eq 5, 3) := by decide +kernel
theorem dX1_rank_9 : decode cX1_rank 9 = .ok (.iconst 0, 1) := by decide +kernel
theorem dX1_rank_10 : decode cX1_rank 10 = .ok (.ireturn, 1) := by decide +kernel
theorem dX1_rank_11 : decode cX1_rank 11 = .ok (.iconst 0, 1) := by decide +kernel
theorem dX1_rank_12 : decode cX1_rank 12 = .ok (.istore_n 3, 1) := by decide +kernel
theorem dX1_rank_13 : decode cX1_rank 13 = .ok (.iconst 0, 1) := by decide +kernel
theorem dX1_rank_14 : decode cX1_rank 14 = .ok (.istore 4, 2) := by decide +kernel
theorem dX1_rank_16 : decode cX1_rank 16 = .ok (.iload 4, 2) := by decide +kernel
theorem dX1_rank_18 : decode cX1_rank 18 = .ok (.bipush 12, 2) := by decide +kernel
theorem dX1_rank_20 : decode cX1_rank 20 = .ok (.if_icmp .ge 73, 3) := by decide +kernel
theorem dX1_rank_23 : decode cX1_rank 23 = .ok (.iload 4, 2) := by decide +kernel
theorem dX1_rank_25 : decode cX1_rank 25 = .ok (.iconst 1, 1) := by decide +kernel
theorem dX1_rank_26 : decode cX1_rank 26 = .ok (.iadd, 1) := by decide +kernel
theorem dX1_rank_27 : decode cX1_rank 27 = .ok (.istore 5, 2) := by decide +kernel
theorem dX1_rank_29 : decode cX1_rank 29 = .ok (.iload 5, 2) := by decide +kernel
theorem dX1_rank_31 : decode cX1_rank 31 = .ok (.bipush 12, 2) := by decide +kernel
theorem dX1_rank_33 : decode cX1_rank 33 = .ok (.if_icmp .ge 54, 3) := by decide +kernel
theorem dX1_rank_36 : decode cX1_rank 36 = .ok (.iload_n 3, 1) := by decide +kernel
theorem dX1_rank_37 : decode cX1_rank 37 = .ok (.aload_n 0, 1) := by decide +kernel
theorem dX1_rank_38 : decode cX1_rank 38 = .ok (.getfield 7, 3) := by decide +kernel
theorem dX1_rank_41 : decode cX1_rank 41 = .ok (.iload 4, 2) := by decide +kernel
theorem dX1_rank_43 : decode cX1_rank 43 = .ok (.baload, 1) := by decide +kernel
theorem dX1_rank_44 : decode cX1_rank 44 = .ok (.ifCond .eq 34, 3) := by decide +kernel
theorem dX1_rank_47 : decode cX1_rank 47 = .ok (.aload_n 0, 1) := by decide +kernel
theorem dX1_rank_48 : decode cX1_rank 48 = .ok (.getfield 7, 3) := by decide +kernel
theorem dX1_rank_51 : decode cX1_rank 51 = .ok (.iload 5, 2) := by decide +kernel
theorem dX1_rank_53 : decode cX1_rank 53 = .ok (.baload, 1) := by decide +kernel
theorem dX1_rank_54 : decode cX1_rank 54 = .ok (.ifCond .eq 24, 3) := by decide +kernel
theorem dX1_rank_57 : decode cX1_rank 57 = .ok (.aload_n 0, 1) := by decide +kernel
theorem dX1_rank_58 : decode cX1_rank 58 = .ok (.iload 4, 2) := by decide +kernel
theorem dX1_rank_60 : decode cX1_rank 60 = .ok (.iload 5, 2) := by decide +kernel
theorem dX1_rank_62 : decode cX1_rank 62 = .ok (.invokevirtual 80, 3) := by decide +kernel
theorem dX1_rank_65 : decode cX1_rank 65 = .ok (.aload_n 0, 1) := by decide +kernel
theorem dX1_rank_66 : decode cX1_rank 66 = .ok (.iload_n 1, 1) := by decide +kernel
theorem dX1_rank_67 : decode cX1_rank 67 = .ok (.iload_n 2, 1) := by decide +kernel
theorem dX1_rank_68 : decode cX1_rank 68 = .ok (.invokevirtual 80, 3) := by decide +kernel
theorem dX1_rank_71 : decode cX1_rank 71 = .ok (.if_icmp .ge 7, 3) := by decide +kernel
theorem dX1_rank_74 : decode cX1_rank 74 = .ok (.iconst 1, 1) := by decide +kernel
theorem dX1_rank_75 : decode cX1_rank 75 = .ok (.goto 4, 3) := by decide +kernel
theorem dX1_rank_78 : decode cX1_rank 78 = .ok (.iconst 0, 1) := by decide +kernel
theorem dX1_rank_79 : decode cX1_rank 79 = .ok (.iadd, 1) := by decide +kernel
theorem dX1_rank_80 : decode cX1_rank 80 = .ok (.istore_n 3, 1) := by decide +kernel
theorem dX1_rank_81 : decode cX1_rank 81 = .ok (.iinc 5 1, 3) := by decide +kernel
theorem dX1_rank_84 : decode cX1_rank 84 = .ok (.goto (-55), 3) := by decide +kernel
theorem dX1_rank_87 : decode cX1_rank 87 = .ok (.iinc 4 1, 3) := by decide +kernel
theorem dX1_rank_90 : decode cX1_rank 90 = .ok (.goto (-74), 3) := by decide +kernel
theorem dX1_rank_93 : decode cX1_rank 93 = .ok (.iload_n 3, 1) := by decide +kernel
theorem dX1_rank_94 : decode cX1_rank 94 = .ok (.ireturn, 1) := by decide +kernel
theorem dX1_isIn_0 : decode cX1_isIn 0 = .ok (.aload_n 0, 1) := by decide +kernel
theorem dX1_isIn_1 : decode cX1_isIn 1 = .ok (.iload_n 1, 1) := by decide +kernel
theorem dX1_isIn_2 : decode cX1_isIn 2 = .ok (.iload_n 2, 1) := by decide +kernel
theorem dX1_isIn_3 : decode cX1_isIn 3 = .ok (.invokevirtual 76, 3) := by decide +kernel
theorem dX1_isIn_6 : decode cX1_isIn 6 = .ok (.ifCond .ne 12, 3) := by decide +kernel
theorem dX1_isIn_9 : decode cX1_isIn 9 = .ok (.aload_n 0, 1) := by decide +kernel
theorem dX1_isIn_10 : decode cX1_isIn 10 = .ok (.iload_n 3, 1) := by decide +kernel
theorem dX1_isIn_11 : decode cX1_isIn 11 = .ok (.iconst 3, 1) := by decide +kernel
theorem dX1_isIn_12 : decode cX1_isIn 12 = .ok (.invokevirtual 94, 3) := by decide +kernel
theorem dX1_isIn_15 : decode cX1_isIn 15 = .ok (.ifCond .eq 5, 3) := by decide +kernel
theorem dX1_isIn_18 : decode cX1_isIn 18 = .ok (.iconst 0, 1) := by decide +kernel
theorem dX1_isIn_19 : decode cX1_isIn 19 = .ok (.ireturn, 1) := by decide +kernel
theorem dX1_isIn_20 : decode cX1_isIn 20 = .ok (.aload_n 0, 1) := by decide +kernel
theorem dX1_isIn_21 : decode cX1_isIn 21 = .ok (.iload_n 1, 1) := by decide +kernel
theorem dX1_isIn_22 : decode cX1_isIn 22 = .ok (.iload_n 2, 1) := by decide +kernel
theorem dX1_isIn_23 : decode cX1_isIn 23 = .ok (.invokevirtual 80, 3) := by decide +kernel
theorem dX1_isIn_26 : decode cX1_isIn 26 = .ok (.iload_n 3, 1) := by decide +kernel
theorem dX1_isIn_27 : decode cX1_isIn 27 = .ok (.iload 4, 2) := by decide +kernel
theorem dX1_isIn_29 : decode cX1_isIn 29 = .ok (.invokestatic 97, 3) := by decide +kernel
theorem dX1_isIn_32 : decode cX1_isIn 32 = .ok (.if_icmp .gt 7, 3) := by decide +kernel
theorem dX1_isIn_35 : decode cX1_isIn 35 = .ok (.iconst 1, 1) := by decide +kernel
theorem dX1_isIn_36 : decode cX1_isIn 36 = .ok (.goto 4, 3) := by decide +kernel
theorem dX1_isIn_39 : decode cX1_isIn 39 = .ok (.iconst 0, 1) := by decide +kernel
theorem dX1_isIn_40 : decode cX1_isIn 40 = .ok (.ireturn, 1) := by decide +kernel
theorem dX1_root_0 : decode cX1_root 0 = .ok (.aload_n 0, 1) := by decide +kernel
theorem dX1_root_1 : decode cX1_root 1 = .ok (.iload_n 1, 1) := by decide +kernel
theorem dX1_root_2 : decode cX1_root 2 = .ok (.iconst 1, 1) := by decide +kernel
theorem dX1_root_3 : decode cX1_root 3 = .ok (.invokevirtual 94, 3) := by decide +kernel
theorem dX1_root_6 : decode cX1_root 6 = .ok (.ifCond .ne 7, 3) := by decide +kernel
theorem dX1_root_9 : decode cX1_root 9 = .ok (.iload_n 1, 1) := by decide +kernel
theorem dX1_root_10 : decode cX1_root 10 = .ok (.ifCond .ne 5, 3) := by decide +kernel
theorem dX1_root_13 : decode cX1_root 13 = .ok (.dconst 0, 1) := by decide +kernel
theorem dX1_root_14 : decode cX1_root 14 = .ok (.dreturn, 1) := by decide +kernel
theorem dX1_root_15 : decode cX1_root 15 = .ok (.iload_n 1, 1) := by decide +kernel
theorem dX1_root_16 : decode cX1_root 16 = .ok (.invokestatic 47, 3) := by decide +kernel
theorem dX1_root_19 : decode cX1_root 19 = .ok (.istore_n 3, 1) := by decide +kernel
theorem dX1_root_20 : decode cX1_root 20 = .ok (.iload_n 1, 1) := by decide +kernel
theorem dX1_root_21 : decode cX1_root 21 = .ok (.bipush 52, 2) := by decide +kernel
theorem dX1_root_23 : decode cX1_root 23 = .ok (.iload_n 3, 1) := by decide +kernel
theorem dX1_root_24 : decode cX1_root 24 = .ok (.isub, 1) := by decide +kernel
theorem dX1_root_25 : decode cX1_root 25 = .ok (.invokestatic 55, 3) := by decide +kernel
theorem dX1_root_28 : decode cX1_root 28 = .ok (.l2d, 1) := by decide +kernel
theorem dX1_root_29 : decode cX1_root 29 = .ok (.dstore 4, 2) := by decide +kernel
theorem dX1_root_31 : decode cX1_root 31 = .ok (.iload_n 3, 1) := by decide +kernel
theorem dX1_root_32 : decode cX1_root 32 = .ok (.istore 6, 2) := by decide +kernel
theorem dX1_root_34 : decode cX1_root 34 = .ok (.iload 6, 2) := by decide +kernel
theorem dX1_root_36 : decode cX1_root 36 = .ok (.iload_n 2, 1) := by decide +kernel
theorem dX1_root_37 : decode cX1_root 37 = .ok (.ifCond .eq 8, 3) := by decide +kernel
theorem dX1_root_40 : decode cX1_root 40 = .ok (.bipush 53, 2) := by decide +kernel
theorem dX1_root_42 : decode cX1_root 42 = .ok (.goto 5, 3) := by decide +kernel
theorem dX1_root_45 : decode cX1_root 45 = .ok (.bipush 52, 2) := by decide +kernel
theorem dX1_root_47 : decode cX1_root 47 = .ok (.if_icmp .ge 17, 3) := by decide +kernel
theorem dX1_root_50 : decode cX1_root 50 = .ok (.dload 4, 2) := by decide +kernel
theorem dX1_root_52 : decode cX1_root 52 = .ok (.ldc2_w 101, 3) := by decide +kernel
theorem dX1_root_55 : decode cX1_root 55 = .ok (.ddiv, 1) := by decide +kernel
theorem dX1_root_56 : decode cX1_root 56 = .ok (.dstore 4, 2) := by decide +kernel
theorem dX1_root_58 : decode cX1_root 58 = .ok (.iinc 6 1, 3) := by decide +kernel
theorem dX1_root_61 : decode cX1_root 61 = .ok (.goto (-27), 3) := by decide +kernel
theorem dX1_root_64 : decode cX1_root 64 = .ok (.dload 4, 2) := by decide +kernel
theorem dX1_root_66 : decode cX1_root 66 = .ok (.dreturn, 1) := by decide +kernel
theorem dX1_rootBits_0 : decode cX1_rootBits 0 = .ok (.aload_n 0, 1) := by decide +kernel
theorem dX1_rootBits_1 : decode cX1_rootBits 1 = .ok (.iload_n 1, 1) := by decide +kernel
theorem dX1_rootBits_2 : decode cX1_rootBits 2 = .ok (.iconst 1, 1) := by decide +kernel
theorem dX1_rootBits_3 : decode cX1_rootBits 3 = .ok (.invokevirtual 94, 3) := by decide +kernel
theorem dX1_rootBits_6 : decode cX1_rootBits 6 = .ok (.ifCond .eq 7, 3) := by decide +kernel
theorem dX1_rootBits_9 : decode cX1_rootBits 9 = .ok (.lconst 0, 1) := by decide +kernel
theorem dX1_rootBits_10 : decode cX1_rootBits 10 = .ok (.goto 8, 3) := by decide +kernel
theorem dX1_rootBits_13 : decode cX1_rootBits 13 = .ok (.iload_n 1, 1) := by decide +kernel
theorem dX1_rootBits_14 : decode cX1_rootBits 14 = .ok (.iload_n 2, 1) := by decide +kernel
theorem dX1_rootBits_15 : decode cX1_rootBits 15 = .ok (.invokestatic 103, 3) := by decide +kernel
theorem dX1_rootBits_18 : decode cX1_rootBits 18 = .ok (.lreturn, 1) := by decide +kernel
theorem dX1_rootGrains_0 : decode cX1_rootGrains 0 = .ok (.aload_n 0, 1) := by decide +kernel
theorem dX1_rootGrains_1 : decode cX1_rootGrains 1 = .ok (.iload_n 1, 1) := by decide +kernel
theorem dX1_rootGrains_2 : decode cX1_rootGrains 2 = .ok (.iconst 1, 1) := by decide +kernel
theorem dX1_rootGrains_3 : decode cX1_rootGrains 3 = .ok (.invokevirtual 94, 3) := by decide +kernel
theorem dX1_rootGrains_6 : decode cX1_rootGrains 6 = .ok (.ifCond .eq 7, 3) := by decide +kernel
theorem dX1_rootGrains_9 : decode cX1_rootGrains 9 = .ok (.iconst 0, 1) := by decide +kernel
theorem dX1_rootGrains_10 : decode cX1_rootGrains 10 = .ok (.goto 8, 3) := by decide +kernel
theorem dX1_rootGrains_13 : decode cX1_rootGrains 13 = .ok (.iload_n 1, 1) := by decide +kernel
theorem dX1_rootGrains_14 : decode cX1_rootGrains 14 = .ok (.iload_n 2, 1) := by decide +kernel
theorem dX1_rootGrains_15 : decode cX1_rootGrains 15 = .ok (.invokestatic 97, 3) := by decide +kernel
theorem dX1_rootGrains_18 : decode cX1_rootGrains 18 = .ok (.ireturn, 1) := by decide +kernel
theorem dX1_wholeRoot_0 : decode cX1_wholeRoot 0 = .ok (.aload_n 0, 1) := by decide +kernel
theorem dX1_wholeRoot_1 : decode cX1_wholeRoot 1 = .ok (.iload_n 1, 1) := by decide +kernel
theorem dX1_wholeRoot_2 : decode cX1_wholeRoot 2 = .ok (.iconst 1, 1) := by decide +kernel
theorem dX1_wholeRoot_3 : decode cX1_wholeRoot 3 = .ok (.invokevirtual 94, 3) := by decide +kernel
theorem dX1_wholeRoot_6 : decode cX1_wholeRoot 6 = .ok (.ifCond .eq 7, 3) := by decide +kernel
theorem dX1_wholeRoot_9 : decode cX1_wholeRoot 9 = .ok (.iconst 0, 1) := by decide +kernel
theorem dX1_wholeRoot_10 : decode cX1_wholeRoot 10 = .ok (.goto 8, 3) := by decide +kernel
theorem dX1_wholeRoot_13 : decode cX1_wholeRoot 13 = .ok (.iload_n 1, 1) := by decide +kernel
theorem dX1_wholeRoot_14 : decode cX1_wholeRoot 14 = .ok (.iconst 0, 1) := by decide +kernel
theorem dX1_wholeRoot_15 : decode cX1_wholeRoot 15 = .ok (.invokestatic 107, 3) := by decide +kernel
theorem dX1_wholeRoot_18 : decode cX1_wholeRoot 18 = .ok (.ireturn, 1) := by decide +kernel
theorem dX1_isNearest_0 : decode cX1_isNearest 0 = .ok (.aload_n 0, 1) := by decide +kernel
theorem dX1_isNearest_1 : decode cX1_isNearest 1 = .ok (.iload_n 1, 1) := by decide +kernel
theorem dX1_isNearest_2 : decode cX1_isNearest 2 = .ok (.iconst 1, 1) := by decide +kernel
theorem dX1_isNearest_3 : decode cX1_isNearest 3 = .ok (.invokevirtual 94, 3) := by decide +kernel
theorem dX1_isNearest_6 : decode cX1_isNearest 6 = .ok (.ifCond .ne 7, 3) := by decide +kernel
theorem dX1_isNearest_9 : decode cX1_isNearest 9 = .ok (.iconst 1, 1) := by decide +kernel
theorem dX1_isNearest_10 : decode cX1_isNearest 10 = .ok (.goto 4, 3) := by decide +kernel
theorem dX1_isNearest_13 : decode cX1_isNearest 13 = .ok (.iconst 0, 1) := by decide +kernel
theorem dX1_isNearest_14 : decode cX1_isNearest 14 = .ok (.ireturn, 1) := by decide +kernel
theorem dX1_isHalved_0 : decode cX1_isHalved 0 = .ok (.aload_n 0, 1) := by decide +kernel
theorem dX1_isHalved_1 : decode cX1_isHalved 1 = .ok (.iload_n 1, 1) := by decide +kernel
theorem dX1_isHalved_2 : decode cX1_isHalved 2 = .ok (.iconst 1, 1) := by decide +kernel
theorem dX1_isHalved_3 : decode cX1_isHalved 3 = .ok (.invokevirtual 94, 3) := by decide +kernel
theorem dX1_isHalved_6 : decode cX1_isHalved 6 = .ok (.ifCond .ne 7, 3) := by decide +kernel
theorem dX1_isHalved_9 : decode cX1_isHalved 9 = .ok (.iconst 1, 1) := by decide +kernel
theorem dX1_isHalved_10 : decode cX1_isHalved 10 = .ok (.goto 4, 3) := by decide +kernel
theorem dX1_isHalved_13 : decode cX1_isHalved 13 = .ok (.iconst 0, 1) := by decide +kernel
theorem dX1_isHalved_14 : decode cX1_isHalved 14 = .ok (.ireturn, 1) := by decide +kernel
theorem dX1_between_0 : decode cX1_between 0 = .ok (.aload_n 0, 1) := by decide +kernel
theorem dX1_between_1 : decode cX1_between 1 = .ok (.iload_n 1, 1) := by decide +kernel
theorem dX1_between_2 : decode cX1_between 2 = .ok (.iconst 1, 1) := by decide +kernel
theorem dX1_between_3 : decode cX1_between 3 = .ok (.invokevirtual 94, 3) := by decide +kernel
theorem dX1_between_6 : decode cX1_between 6 = .ok (.ifCond .ne 17, 3) := by decide +kernel
theorem dX1_between_9 : decode cX1_between 9 = .ok (.aload_n 0, 1) := by decide +kernel
theorem dX1_between_10 : decode cX1_between 10 = .ok (.iload_n 2, 1) := by decide +kernel
theorem dX1_between_11 : decode cX1_between 11 = .ok (.iconst 1, 1) := by decide +kernel
theorem dX1_between_12 : decode cX1_between 12 = .ok (.invokevirtual 94, 3) := by decide +kernel
theorem dX1_between_15 : decode cX1_between 15 = .ok (.ifCond .ne 8, 3) := by decide +kernel
theorem dX1_between_18 : decode cX1_between 18 = .ok (.iload_n 2, 1) := by decide +kernel
theorem dX1_between_19 : decode cX1_between 19 = .ok (.iload_n 1, 1) := by decide +kernel
theorem dX1_between_20 : decode cX1_between 20 = .ok (.if_icmp .gt 5, 3) := by decide +kernel
theorem dX1_between_23 : decode cX1_between 23 = .ok (.iconst 0, 1) := by decide +kernel
theorem dX1_between_24 : decode cX1_between 24 = .ok (.ireturn, 1) := by decide +kernel
theorem dX1_between_25 : decode cX1_between 25 = .ok (.iload_n 2, 1) := by decide +kernel
theorem dX1_between_26 : decode cX1_between 26 = .ok (.iload_n 3, 1) := by decide +kernel
theorem dX1_between_27 : decode cX1_between 27 = .ok (.invokestatic 107, 3) := by decide +kernel
theorem dX1_between_30 : decode cX1_between 30 = .ok (.iload_n 1, 1) := by decide +kernel
theorem dX1_between_31 : decode cX1_between 31 = .ok (.iload_n 3, 1) := by decide +kernel
theorem dX1_between_32 : decode cX1_between 32 = .ok (.invokestatic 107, 3) := by decide +kernel
theorem dX1_between_35 : decode cX1_between 35 = .ok (.isub, 1) := by decide +kernel
theorem dX1_between_36 : decode cX1_between 36 = .ok (.ireturn, 1) := by decide +kernel
theorem dX1_join_0 : decode cX1_join 0 = .ok (.aload_n 0, 1) := by decide +kernel
theorem dX1_join_1 : decode cX1_join 1 = .ok (.iload_n 1, 1) := by decide +kernel
theorem dX1_join_2 : decode cX1_join 2 = .ok (.invokevirtual 63, 3) := by decide +kernel
theorem dX1_join_5 : decode cX1_join 5 = .ok (.ifCond .ne 25, 3) := by decide +kernel
theorem dX1_join_8 : decode cX1_join 8 = .ok (.aload_n 0, 1) := by decide +kernel
theorem dX1_join_9 : decode cX1_join 9 = .ok (.aload_n 0, 1) := by decide +kernel
theorem dX1_join_10 : decode cX1_join 10 = .ok (.getfield 60, 3) := by decide +kernel
theorem dX1_join_13 : decode cX1_join 13 = .ok (.bipush 12, 2) := by decide +kernel
theorem dX1_join_15 : decode cX1_join 15 = .ok (.if_icmp .ne 7, 3) := by decide +kernel
theorem dX1_join_18 : decode cX1_join 18 = .ok (.iconst 1, 1) := by decide +kernel
theorem dX1_join_19 : decode cX1_join 19 = .ok (.goto 4, 3) := by decide +kernel
theorem dX1_join_22 : decode cX1_join 22 = .ok (.iconst 0, 1) := by decide +kernel
theorem dX1_join_23 : decode cX1_join 23 = .ok (.iconst 3, 1) := by decide +kernel
theorem dX1_join_24 : decode cX1_join 24 = .ok (.invokevirtual 31, 3) := by decide +kernel
theorem dX1_join_27 : decode cX1_join 27 = .ok (.ifCond .eq 5, 3) := by decide +kernel
theorem dX1_join_30 : decode cX1_join 30 = .ok (.iconst 0, 1) := by decide +kernel
theorem dX1_join_31 : decode cX1_join 31 = .ok (.ireturn, 1) := by decide +kernel
theorem dX1_join_32 : decode cX1_join 32 = .ok (.aload_n 0, 1) := by decide +kernel
theorem dX1_join_33 : decode cX1_join 33 = .ok (.getfield 20, 3) := by decide +kernel
theorem dX1_join_36 : decode cX1_join 36 = .ok (.aload_n 0, 1) := by decide +kernel
theorem dX1_join_37 : decode cX1_join 37 = .ok (.getfield 60, 3) := by decide +kernel
theorem dX1_join_40 : decode cX1_join 40 = .ok (.iload_n 1, 1) := by decide +kernel
theorem dX1_join_41 : decode cX1_join 41 = .ok (.iastore, 1) := by decide +kernel
theorem dX1_join_42 : decode cX1_join 42 = .ok (.aload_n 0, 1) := by decide +kernel
theorem dX1_join_43 : decode cX1_join 43 = .ok (.dup, 1) := by decide +kernel
theorem dX1_join_44 : decode cX1_join 44 = .ok (.getfield 60, 3) := by decide +kernel
theorem dX1_join_47 : decode cX1_join 47 = .ok (.iconst 1, 1) := by decide +kernel
theorem dX1_join_48 : decode cX1_join 48 = .ok (.iadd, 1) := by decide +kernel
theorem dX1_join_49 : decode cX1_join 49 = .ok (.putfield 60, 3) := by decide +kernel
theorem dX1_join_52 : decode cX1_join 52 = .ok (.aload_n 0, 1) := by decide +kernel
theorem dX1_join_53 : decode cX1_join 53 = .ok (.getfield 60, 3) := by decide +kernel
theorem dX1_join_56 : decode cX1_join 56 = .ok (.ireturn, 1) := by decide +kernel
theorem dX1_unjoin_0 : decode cX1_unjoin 0 = .ok (.aload_n 0, 1) := by decide +kernel
theorem dX1_unjoin_1 : decode cX1_unjoin 1 = .ok (.aload_n 0, 1) := by decide +kernel
theorem dX1_unjoin_2 : decode cX1_unjoin 2 = .ok (.getfield 60, 3) := by decide +kernel
theorem dX1_unjoin_5 : decode cX1_unjoin 5 = .ok (.ifCond .ne 7, 3) := by decide +kernel
theorem dX1_unjoin_8 : decode cX1_unjoin 8 = .ok (.iconst 1, 1) := by decide +kernel
theorem dX1_unjoin_9 : decode cX1_unjoin 9 = .ok (.goto 4, 3) := by decide +kernel
theorem dX1_unjoin_12 : decode cX1_unjoin 12 = .ok (.iconst 0, 1) := by decide +kernel
theorem dX1_unjoin_13 : decode cX1_unjoin 13 = .ok (.iconst 1, 1) := by decide +kernel
theorem dX1_unjoin_14 : decode cX1_unjoin 14 = .ok (.invokevirtual 31, 3) := by decide +kernel
theorem dX1_unjoin_17 : decode cX1_unjoin 17 = .ok (.ifCond .eq 5, 3) := by decide +kernel
theorem dX1_unjoin_20 : decode cX1_unjoin 20 = .ok (.iconst 0, 1) := by decide +kernel
theorem dX1_unjoin_21 : decode cX1_unjoin 21 = .ok (.ireturn, 1) := by decide +kernel
theorem dX1_unjoin_22 : decode cX1_unjoin 22 = .ok (.aload_n 0, 1) := by decide +kernel
theorem dX1_unjoin_23 : decode cX1_unjoin 23 = .ok (.dup, 1) := by decide +kernel
theorem dX1_unjoin_24 : decode cX1_unjoin 24 = .ok (.getfield 60, 3) := by decide +kernel
theorem dX1_unjoin_27 : decode cX1_unjoin 27 = .ok (.iconst 1, 1) := by decide +kernel
theorem dX1_unjoin_28 : decode cX1_unjoin 28 = .ok (.isub, 1) := by decide +kernel
theorem dX1_unjoin_29 : decode cX1_unjoin 29 = .ok (.putfield 60, 3) := by decide +kernel
theorem dX1_unjoin_32 : decode cX1_unjoin 32 = .ok (.aload_n 0, 1) := by decide +kernel
theorem dX1_unjoin_33 : decode cX1_unjoin 33 = .ok (.getfield 20, 3) := by decide +kernel
theorem dX1_unjoin_36 : decode cX1_unjoin 36 = .ok (.aload_n 0, 1) := by decide +kernel
theorem dX1_unjoin_37 : decode cX1_unjoin 37 = .ok (.getfield 60, 3) := by decide +kernel
theorem dX1_unjoin_40 : decode cX1_unjoin 40 = .ok (.iaload, 1) := by decide +kernel
theorem dX1_unjoin_41 : decode cX1_unjoin 41 = .ok (.ireturn, 1) := by decide +kernel
theorem dX1_ringAt_0 : decode cX1_ringAt 0 = .ok (.aload_n 0, 1) := by decide +kernel
theorem dX1_ringAt_1 : decode cX1_ringAt 1 = .ok (.iload_n 1, 1) := by decide +kernel
theorem dX1_ringAt_2 : decode cX1_ringAt 2 = .ok (.iconst 0, 1) := by decide +kernel
theorem dX1_ringAt_3 : decode cX1_ringAt 3 = .ok (.aload_n 0, 1) := by decide +kernel
theorem dX1_ringAt_4 : decode cX1_ringAt 4 = .ok (.getfield 60, 3) := by decide +kernel
theorem dX1_ringAt_7 : decode cX1_ringAt 7 = .ok (.iconst 1, 1) := by decide +kernel
theorem dX1_ringAt_8 : decode cX1_ringAt 8 = .ok (.isub, 1) := by decide +kernel
theorem dX1_ringAt_9 : decode cX1_ringAt 9 = .ok (.invokestatic 27, 3) := by decide +kernel
theorem dX1_ringAt_12 : decode cX1_ringAt 12 = .ok (.ifCond .ne 7, 3) := by decide +kernel
theorem dX1_ringAt_15 : decode cX1_ringAt 15 = .ok (.iconst 1, 1) := by decide +kernel
theorem dX1_ringAt_16 : decode cX1_ringAt 16 = .ok (.goto 4, 3) := by decide +kernel
theorem dX1_ringAt_19 : decode cX1_ringAt 19 = .ok (.iconst 0, 1) := by decide +kernel
theorem dX1_ringAt_20 : decode cX1_ringAt 20 = .ok (.iconst 1, 1) := by decide +kernel
theorem dX1_ringAt_21 : decode cX1_ringAt 21 = .ok (.invokevirtual 31, 3) := by decide +kernel
theorem dX1_ringAt_24 : decode cX1_ringAt 24 = .ok (.ifCond .eq 7, 3) := by decide +kernel
theorem dX1_ringAt_27 : decode cX1_ringAt 27 = .ok (.iconst 0, 1) := by decide +kernel
theorem dX1_ringAt_28 : decode cX1_ringAt 28 = .ok (.goto 9, 3) := by decide +kernel
theorem dX1_ringAt_31 : decode cX1_ringAt 31 = .ok (.aload_n 0, 1) := by decide +kernel
theorem dX1_ringAt_32 : decode cX1_ringAt 32 = .ok (.getfield 20, 3) := by decide +kernel
theorem dX1_ringAt_35 : decode cX1_ringAt 35 = .ok (.iload_n 1, 1) := by decide +kernel
theorem dX1_ringAt_36 : decode cX1_ringAt 36 = .ok (.iaload, 1) := by decide +kernel
theorem dX1_ringAt_37 : decode cX1_ringAt 37 = .ok (.ireturn, 1) := by decide +kernel
theorem dX1_behind_0 : decode cX1_behind 0 = .ok (.aload_n 0, 1) := by decide +kernel
theorem dX1_behind_1 : decode cX1_behind 1 = .ok (.getfield 20, 3) := by decide +kernel
theorem dX1_behind_4 : decode cX1_behind 4 = .ok (.iload_n 1, 1) := by decide +kernel
theorem dX1_behind_5 : decode cX1_behind 5 = .ok (.iconst 1, 1) := by decide +kernel
theorem dX1_behind_6 : decode cX1_behind 6 = .ok (.iadd, 1) := by decide +kernel
theorem dX1_behind_7 : decode cX1_behind 7 = .ok (.aload_n 0, 1) := by decide +kernel
theorem dX1_behind_8 : decode cX1_behind 8 = .ok (.getfield 60, 3) := by decide +kernel
theorem dX1_behind_11 : decode cX1_behind 11 = .ok (.if_icmp .ne 7, 3) := by decide +kernel
theorem dX1_behind_14 : decode cX1_behind 14 = .ok (.iconst 0, 1) := by decide +kernel
theorem dX1_behind_15 : decode cX1_behind 15 = .ok (.goto 6, 3) := by decide +kernel
theorem dX1_behind_18 : decode cX1_behind 18 = .ok (.iload_n 1, 1) := by decide +kernel
theorem dX1_behind_19 : decode cX1_behind 19 = .ok (.iconst 1, 1) := by decide +kernel
theorem dX1_behind_20 : decode cX1_behind 20 = .ok (.iadd, 1) := by decide +kernel
theorem dX1_behind_21 : decode cX1_behind 21 = .ok (.iaload, 1) := by decide +kernel
theorem dX1_behind_22 : decode cX1_behind 22 = .ok (.ireturn, 1) := by decide +kernel
theorem dX1_around_0 : decode cX1_around 0 = .ok (.iconst 0, 1) := by decide +kernel
theorem dX1_around_1 : decode cX1_around 1 = .ok (.istore_n 1, 1) := by decide +kernel
theorem dX1_around_2 : decode cX1_around 2 = .ok (.iconst 0, 1) := by decide +kernel
theorem dX1_around_3 : decode cX1_around 3 = .ok (.istore_n 2, 1) := by decide +kernel
theorem dX1_around_4 : decode cX1_around 4 = .ok (.iload_n 2, 1) := by decide +kernel
theorem dX1_around_5 : decode cX1_around 5 = .ok (.aload_n 0, 1) := by decide +kernel
theorem dX1_around_6 : decode cX1_around 6 = .ok (.getfield 60, 3) := by decide +kernel
theorem dX1_around_9 : decode cX1_around 9 = .ok (.if_icmp .ge 27, 3) := by decide +kernel
theorem dX1_around_12 : decode cX1_around 12 = .ok (.iload_n 1, 1) := by decide +kernel
theorem dX1_around_13 : decode cX1_around 13 = .ok (.aload_n 0, 1) := by decide +kernel
theorem dX1_around_14 : decode cX1_around 14 = .ok (.aload_n 0, 1) := by decide +kernel
theorem dX1_around_15 : decode cX1_around 15 = .ok (.getfield 20, 3) := by decide +kernel
theorem dX1_around_18 : decode cX1_around 18 = .ok (.iload_n 2, 1) := by decide +kernel
theorem dX1_around_19 : decode cX1_around 19 = .ok (.iaload, 1) := by decide +kernel
theorem dX1_around_20 : decode cX1_around 20 = .ok (.aload_n 0, 1) := by decide +kernel
theorem dX1_around_21 : decode cX1_around 21 = .ok (.iload_n 2, 1) := by decide +kernel
theorem dX1_around_22 : decode cX1_around 22 = .ok (.invokevirtual 110, 3) := by decide +kernel
theorem dX1_around_25 : decode cX1_around 25 = .ok (.invokevirtual 80, 3) := by decide +kernel
theorem dX1_around_28 : decode cX1_around 28 = .ok (.iadd, 1) := by decide +kernel
theorem dX1_around_29 : decode cX1_around 29 = .ok (.istore_n 1, 1) := by decide +kernel
theorem dX1_around_30 : decode cX1_around 30 = .ok (.iinc 2 1, 3) := by decide +kernel
theorem dX1_around_33 : decode cX1_around 33 = .ok (.goto (-29), 3) := by decide +kernel
theorem dX1_around_36 : decode cX1_around 36 = .ok (.iload_n 1, 1) := by decide +kernel
theorem dX1_around_37 : decode cX1_around 37 = .ok (.ireturn, 1) := by decide +kernel
theorem dX1_doubleArea_0 : decode cX1_doubleArea 0 = .ok (.iconst 0, 1) := by decide +kernel
theorem dX1_doubleArea_1 : decode cX1_doubleArea 1 = .ok (.istore_n 1, 1) := by decide +kernel
theorem dX1_doubleArea_2 : decode cX1_doubleArea 2 = .ok (.iconst 0, 1) := by decide +kernel
theorem dX1_doubleArea_3 : decode cX1_doubleArea 3 = .ok (.istore_n 2, 1) := by decide +kernel
theorem dX1_doubleArea_4 : decode cX1_doubleArea 4 = .ok (.iload_n 2, 1) := by decide +kernel
theorem dX1_doubleArea_5 : decode cX1_doubleArea 5 = .ok (.aload_n 0, 1) := by decide +kernel
theorem dX1_doubleArea_6 : decode cX1_doubleArea 6 = .ok (.getfield 60, 3) := by decide +kernel
theorem dX1_doubleArea_9 : decode cX1_doubleArea 9 = .ok (.if_icmp .ge 57, 3) := by decide +kernel
theorem dX1_doubleArea_12 : decode cX1_doubleArea 12 = .ok (.iload_n 1, 1) := by decide +kernel
theorem dX1_doubleArea_13 : decode cX1_doubleArea 13 = .ok (.aload_n 0, 1) := by decide +kernel
theorem dX1_doubleArea_14 : decode cX1_doubleArea 14 = .ok (.getfield 13, 3) := by decide +kernel
theorem dX1_doubleArea_17 : decode cX1_doubleArea 17 = .ok (.aload_n 0, 1) := by decide +kernel
theorem dX1_doubleArea_18 : decode cX1_doubleArea 18 = .ok (.getfield 20, 3) := by decide +kernel
theorem dX1_doubleArea_21 : decode cX1_doubleArea 21 = .ok (.iload_n 2, 1) := by decide +kernel
theorem dX1_doubleArea_22 : decode cX1_doubleArea 22 = .ok (.iaload, 1) := by decide +kernel
theorem dX1_doubleArea_23 : decode cX1_doubleArea 23 = .ok (.iaload, 1) := by decide +kernel
theorem dX1_doubleArea_24 : decode cX1_doubleArea 24 = .ok (.aload_n 0, 1) := by decide +kernel
theorem dX1_doubleArea_25 : decode cX1_doubleArea 25 = .ok (.getfield 17, 3) := by decide +kernel
theorem dX1_doubleArea_28 : decode cX1_doubleArea 28 = .ok (.aload_n 0, 1) := by decide +kernel
theorem dX1_doubleArea_29 : decode cX1_doubleArea 29 = .ok (.iload_n 2, 1) := by decide +kernel
theorem dX1_doubleArea_30 : decode cX1_doubleArea 30 = .ok (.invokevirtual 110, 3) := by decide +kernel
theorem dX1_doubleArea_33 : decode cX1_doubleArea 33 = .ok (.iaload, 1) := by decide +kernel
theorem dX1_doubleArea_34 : decode cX1_doubleArea 34 = .ok (.imul, 1) := by decide +kernel
theorem dX1_doubleArea_35 : decode cX1_doubleArea 35 = .ok (.aload_n 0, 1) := by decide +kernel
theorem dX1_doubleArea_36 : decode cX1_doubleArea 36 = .ok (.getfield 13, 3) := by decide +kernel
theorem dX1_doubleArea_39 : decode cX1_doubleArea 39 = .ok (.aload_n 0, 1) := by decide +kernel
theorem dX1_doubleArea_40 : decode cX1_doubleArea 40 = .ok (.iload_n 2, 1) := by decide +kernel
theorem dX1_doubleArea_41 : decode cX1_doubleArea 41 = .ok (.invokevirtual 110, 3) := by decide +kernel
theorem dX1_doubleArea_44 : decode cX1_doubleArea 44 = .ok (.iaload, 1) := by decide +kernel
theorem dX1_doubleArea_45 : decode cX1_doubleArea 45 = .ok (.aload_n 0, 1) := by decide +kernel
theorem dX1_doubleArea_46 : decode cX1_doubleArea 46 = .ok (.getfield 17, 3) := by decide +kernel
theorem dX1_doubleArea_49 : decode cX1_doubleArea 49 = .ok (.aload_n 0, 1) := by decide +kernel
theorem dX1_doubleArea_50 : decode cX1_doubleArea 50 = .ok (.getfield 20, 3) := by decide +kernel
theorem dX1_doubleArea_53 : decode cX1_doubleArea 53 = .ok (.iload_n 2, 1) := by decide +kernel
theorem dX1_doubleArea_54 : decode cX1_doubleArea 54 = .ok (.iaload, 1) := by decide +kernel
theorem dX1_doubleArea_55 : decode cX1_doubleArea 55 = .ok (.iaload, 1) := by decide +kernel
theorem dX1_doubleArea_56 : decode cX1_doubleArea 56 = .ok (.imul, 1) := by decide +kernel
theorem dX1_doubleArea_57 : decode cX1_doubleArea 57 = .ok (.isub, 1) := by decide +kernel
theorem dX1_doubleArea_58 : decode cX1_doubleArea 58 = .ok (.iadd, 1) := by decide +kernel
theorem dX1_doubleArea_59 : decode cX1_doubleArea 59 = .ok (.istore_n 1, 1) := by decide +kernel
theorem dX1_doubleArea_60 : decode cX1_doubleArea 60 = .ok (.iinc 2 1, 3) := by decide +kernel
theorem dX1_doubleArea_63 : decode cX1_doubleArea 63 = .ok (.goto (-59), 3) := by decide +kernel
theorem dX1_doubleArea_66 : decode cX1_doubleArea 66 = .ok (.iload_n 1, 1) := by decide +kernel
theorem dX1_doubleArea_67 : decode cX1_doubleArea 67 = .ok (.ireturn, 1) := by decide +kernel
theorem dX1_sideBits_0 : decode cX1_sideBits 0 = .ok (.aload_n 0, 1) := by decide +kernel
theorem dX1_sideBits_1 : decode cX1_sideBits 1 = .ok (.invokevirtual 113, 3) := by decide +kernel
theorem dX1_sideBits_4 : decode cX1_sideBits 4 = .ok (.ifCond .ge 11, 3) := by decide +kernel
theorem dX1_sideBits_7 : decode cX1_sideBits 7 = .ok (.aload_n 0, 1) := by decide +kernel
theorem dX1_sideBits_8 : decode cX1_sideBits 8 = .ok (.invokevirtual 113, 3) := by decide +kernel
theorem dX1_sideBits_11 : decode cX1_sideBits 11 = .ok (.ineg, 1) := by decide +kernel
theorem dX1_sideBits_12 : decode cX1_sideBits 12 = .ok (.goto 7, 3) := by decide +kernel
theorem dX1_sideBits_15 : decode cX1_sideBits 15 = .ok (.aload_n 0, 1) := by decide +kernel
theorem dX1_sideBits_16 : decode cX1_sideBits 16 = .ok (.invokevirtual 113, 3) := by decide +kernel
theorem dX1_sideBits_19 : decode cX1_sideBits 19 = .ok (.istore_n 1, 1) := by decide +kernel
theorem dX1_sideBits_20 : decode cX1_sideBits 20 = .ok (.aload_n 0, 1) := by decide +kernel
theorem dX1_sideBits_21 : decode cX1_sideBits 21 = .ok (.iload_n 1, 1) := by decide +kernel
theorem dX1_sideBits_22 : decode cX1_sideBits 22 = .ok (.sipush 32767, 3) := by decide +kernel
theorem dX1_sideBits_25 : decode cX1_sideBits 25 = .ok (.if_icmp .le 7, 3) := by decide +kernel
theorem dX1_sideBits_28 : decode cX1_sideBits 28 = .ok (.iconst 1, 1) := by decide +kernel
theorem dX1_sideBits_29 : decode cX1_sideBits 29 = .ok (.goto 4, 3) := by decide +kernel
theorem dX1_sideBits_32 : decode cX1_sideBits 32 = .ok (.iconst 0, 1) := by decide +kernel
theorem dX1_sideBits_33 : decode cX1_sideBits 33 = .ok (.iconst 1, 1) := by decide +kernel
theorem dX1_sideBits_34 : decode cX1_sideBits 34 = .ok (.invokevirtual 31, 3) := by decide +kernel
theorem dX1_sideBits_37 : decode cX1_sideBits 37 = .ok (.ifCond .eq 7, 3) := by decide +kernel
theorem dX1_sideBits_40 : decode cX1_sideBits 40 = .ok (.lconst 0, 1) := by decide +kernel
theorem dX1_sideBits_41 : decode cX1_sideBits 41 = .ok (.goto 8, 3) := by decide +kernel
theorem dX1_sideBits_44 : decode cX1_sideBits 44 = .ok (.iload_n 1, 1) := by decide +kernel
theorem dX1_sideBits_45 : decode cX1_sideBits 45 = .ok (.iconst 0, 1) := by decide +kernel
theorem dX1_sideBits_46 : decode cX1_sideBits 46 = .ok (.invokestatic 103, 3) := by decide +kernel
theorem dX1_sideBits_49 : decode cX1_sideBits 49 = .ok (.lreturn, 1) := by decide +kernel
theorem dX1_checksum_0 : decode cX1_checksum 0 = .ok (.ldc2_w 116, 3) := by decide +kernel
theorem dX1_checksum_3 : decode cX1_checksum 3 = .ok (.lstore_n 1, 1) := by decide +kernel
theorem dX1_checksum_4 : decode cX1_checksum 4 = .ok (.iconst 0, 1) := by decide +kernel
theorem dX1_checksum_5 : decode cX1_checksum 5 = .ok (.istore_n 3, 1) := by decide +kernel
theorem dX1_checksum_6 : decode cX1_checksum 6 = .ok (.iload_n 3, 1) := by decide +kernel
theorem dX1_checksum_7 : decode cX1_checksum 7 = .ok (.bipush 12, 2) := by decide +kernel
theorem dX1_checksum_9 : decode cX1_checksum 9 = .ok (.if_icmp .ge 55, 3) := by decide +kernel
theorem dX1_checksum_12 : decode cX1_checksum 12 = .ok (.aload_n 0, 1) := by decide +kernel
theorem dX1_checksum_13 : decode cX1_checksum 13 = .ok (.getfield 7, 3) := by decide +kernel
theorem dX1_checksum_16 : decode cX1_checksum 16 = .ok (.iload_n 3, 1) := by decide +kernel
theorem dX1_checksum_17 : decode cX1_checksum 17 = .ok (.baload, 1) := by decide +kernel
theorem dX1_checksum_18 : decode cX1_checksum 18 = .ok (.ifCond .eq 40, 3) := by decide +kernel
theorem dX1_checksum_21 : decode cX1_checksum 21 = .ok (.ldc2_w 118, 3) := by decide +kernel
theorem dX1_checksum_24 : decode cX1_checksum 24 = .ok (.lload_n 1, 1) := by decide +kernel
theorem dX1_checksum_25 : decode cX1_checksum 25 = .ok (.lmul, 1) := by decide +kernel
theorem dX1_checksum_26 : decode cX1_checksum 26 = .ok (.iload_n 3, 1) := by decide +kernel
theorem dX1_checksum_27 : decode cX1_checksum 27 = .ok (.i2l, 1) := by decide +kernel
theorem dX1_checksum_28 : decode cX1_checksum 28 = .ok (.ladd, 1) := by decide +kernel
theorem dX1_checksum_29 : decode cX1_checksum 29 = .ok (.lconst 1, 1) := by decide +kernel
theorem dX1_checksum_30 : decode cX1_checksum 30 = .ok (.ladd, 1) := by decide +kernel
theorem dX1_checksum_31 : decode cX1_checksum 31 = .ok (.lstore_n 1, 1) := by decide +kernel
theorem dX1_checksum_32 : decode cX1_checksum 32 = .ok (.ldc2_w 118, 3) := by decide +kernel
theorem dX1_checksum_35 : decode cX1_checksum 35 = .ok (.lload_n 1, 1) := by decide +kernel
theorem dX1_checksum_36 : decode cX1_checksum 36 = .ok (.lmul, 1) := by decide +kernel
theorem dX1_checksum_37 : decode cX1_checksum 37 = .ok (.aload_n 0, 1) := by decide +kernel
theorem dX1_checksum_38 : decode cX1_checksum 38 = .ok (.iload_n 3, 1) := by decide +kernel
theorem dX1_checksum_39 : decode cX1_checksum 39 = .ok (.invokevirtual 69, 3) := by decide +kernel
theorem dX1_checksum_42 : decode cX1_checksum 42 = .ok (.i2l, 1) := by decide +kernel
theorem dX1_checksum_43 : decode cX1_checksum 43 = .ok (.ladd, 1) := by decide +kernel
theorem dX1_checksum_44 : decode cX1_checksum 44 = .ok (.lstore_n 1, 1) := by decide +kernel
theorem dX1_checksum_45 : decode cX1_checksum 45 = .ok (.ldc2_w 118, 3) := by decide +kernel
theorem dX1_checksum_48 : decode cX1_checksum 48 = .ok (.lload_n 1, 1) := by decide +kernel
theorem dX1_checksum_49 : decode cX1_checksum 49 = .ok (.lmul, 1) := by decide +kernel
theorem dX1_checksum_50 : decode cX1_checksum 50 = .ok (.aload_n 0, 1) := by decide +kernel
theorem dX1_checksum_51 : decode cX1_checksum 51 = .ok (.iload_n 3, 1) := by decide +kernel
theorem dX1_checksum_52 : decode cX1_checksum 52 = .ok (.invokevirtual 91, 3) := by decide +kernel
theorem dX1_checksum_55 : decode cX1_checksum 55 = .ok (.i2l, 1) := by decide +kernel
theorem dX1_checksum_56 : decode cX1_checksum 56 = .ok (.ladd, 1) := by decide +kernel
theorem dX1_checksum_57 : decode cX1_checksum 57 = .ok (.lstore_n 1, 1) := by decide +kernel
theorem dX1_checksum_58 : decode cX1_checksum 58 = .ok (.iinc 3 1, 3) := by decide +kernel
theorem dX1_checksum_61 : decode cX1_checksum 61 = .ok (.goto (-55), 3) := by decide +kernel
theorem dX1_checksum_64 : decode cX1_checksum 64 = .ok (.iconst 0, 1) := by decide +kernel
theorem dX1_checksum_65 : decode cX1_checksum 65 = .ok (.istore_n 3, 1) := by decide +kernel
theorem dX1_checksum_66 : decode cX1_checksum 66 = .ok (.iload_n 3, 1) := by decide +kernel
theorem dX1_checksum_67 : decode cX1_checksum 67 = .ok (.aload_n 0, 1) := by decide +kernel
theorem dX1_checksum_68 : decode cX1_checksum 68 = .ok (.getfield 60, 3) := by decide +kernel
theorem dX1_checksum_71 : decode cX1_checksum 71 = .ok (.if_icmp .ge 23, 3) := by decide +kernel
theorem dX1_checksum_74 : decode cX1_checksum 74 = .ok (.ldc2_w 118, 3) := by decide +kernel
theorem dX1_checksum_77 : decode cX1_checksum 77 = .ok (.lload_n 1, 1) := by decide +kernel
theorem dX1_checksum_78 : decode cX1_checksum 78 = .ok (.lmul, 1) := by decide +kernel
theorem dX1_checksum_79 : decode cX1_checksum 79 = .ok (.aload_n 0, 1) := by decide +kernel
theorem dX1_checksum_80 : decode cX1_checksum 80 = .ok (.getfield 20, 3) := by decide +kernel
theorem dX1_checksum_83 : decode cX1_checksum 83 = .ok (.iload_n 3, 1) := by decide +kernel
theorem dX1_checksum_84 : decode cX1_checksum 84 = .ok (.iaload, 1) := by decide +kernel
theorem dX1_checksum_85 : decode cX1_checksum 85 = .ok (.i2l, 1) := by decide +kernel
theorem dX1_checksum_86 : decode cX1_checksum 86 = .ok (.ladd, 1) := by decide +kernel
theorem dX1_checksum_87 : decode cX1_checksum 87 = .ok (.lstore_n 1, 1) := by decide +kernel
theorem dX1_checksum_88 : decode cX1_checksum 88 = .ok (.iinc 3 1, 3) := by decide +kernel
theorem dX1_checksum_91 : decode cX1_checksum 91 = .ok (.goto (-25), 3) := by decide +kernel
theorem dX1_checksum_94 : decode cX1_checksum 94 = .ok (.ldc2_w 118, 3) := by decide +kernel
theorem dX1_checksum_97 : decode cX1_checksum 97 = .ok (.lload_n 1, 1) := by decide +kernel
theorem dX1_checksum_98 : decode cX1_checksum 98 = .ok (.lmul, 1) := by decide +kernel
theorem dX1_checksum_99 : decode cX1_checksum 99 = .ok (.aload_n 0, 1) := by decide +kernel
theorem dX1_checksum_100 : decode cX1_checksum 100 = .ok (.invokevirtual 120, 3) := by decide +kernel
theorem dX1_checksum_103 : decode cX1_checksum 103 = .ok (.i2l, 1) := by decide +kernel
theorem dX1_checksum_104 : decode cX1_checksum 104 = .ok (.ladd, 1) := by decide +kernel
theorem dX1_checksum_105 : decode cX1_checksum 105 = .ok (.lstore_n 1, 1) := by decide +kernel
theorem dX1_checksum_106 : decode cX1_checksum 106 = .ok (.ldc2_w 118, 3) := by decide +kernel
theorem dX1_checksum_109 : decode cX1_checksum 109 = .ok (.lload_n 1, 1) := by decide +kernel
theorem dX1_checksum_110 : decode cX1_checksum 110 = .ok (.lmul, 1) := by decide +kernel
theorem dX1_checksum_111 : decode cX1_checksum 111 = .ok (.aload_n 0, 1) := by decide +kernel
theorem dX1_checksum_112 : decode cX1_checksum 112 = .ok (.getfield 72, 3) := by decide +kernel
theorem dX1_checksum_115 : decode cX1_checksum 115 = .ok (.ifCond .eq 7, 3) := by decide +kernel
theorem dX1_checksum_118 : decode cX1_checksum 118 = .ok (.iconst 1, 1) := by decide +kernel
theorem dX1_checksum_119 : decode cX1_checksum 119 = .ok (.goto 4, 3) := by decide +kernel
theorem dX1_checksum_122 : decode cX1_checksum 122 = .ok (.iconst 0, 1) := by decide +kernel
theorem dX1_checksum_123 : decode cX1_checksum 123 = .ok (.i2l, 1) := by decide +kernel
theorem dX1_checksum_124 : decode cX1_checksum 124 = .ok (.ladd, 1) := by decide +kernel
theorem dX1_checksum_125 : decode cX1_checksum 125 = .ok (.lreturn, 1) := by decide +kernel
theorem dX1_isSound_0 : decode cX1_isSound 0 = .ok (.iconst 1, 1) := by decide +kernel
theorem dX1_isSound_1 : decode cX1_isSound 1 = .ok (.istore_n 1, 1) := by decide +kernel
theorem dX1_isSound_2 : decode cX1_isSound 2 = .ok (.iconst 0, 1) := by decide +kernel
theorem dX1_isSound_3 : decode cX1_isSound 3 = .ok (.istore_n 2, 1) := by decide +kernel
theorem dX1_isSound_4 : decode cX1_isSound 4 = .ok (.iload_n 2, 1) := by decide +kernel
theorem dX1_isSound_5 : decode cX1_isSound 5 = .ok (.bipush 12, 2) := by decide +kernel
theorem dX1_isSound_7 : decode cX1_isSound 7 = .ok (.if_icmp .ge 88, 3) := by decide +kernel
theorem dX1_isSound_10 : decode cX1_isSound 10 = .ok (.iconst 0, 1) := by decide +kernel
theorem dX1_isSound_11 : decode cX1_isSound 11 = .ok (.istore_n 3, 1) := by decide +kernel
theorem dX1_isSound_12 : decode cX1_isSound 12 = .ok (.iload_n 3, 1) := by decide +kernel
theorem dX1_isSound_13 : decode cX1_isSound 13 = .ok (.bipush 12, 2) := by decide +kernel
theorem dX1_isSound_15 : decode cX1_isSound 15 = .ok (.if_icmp .ge 74, 3) := by decide +kernel
theorem dX1_isSound_18 : decode cX1_isSound 18 = .ok (.iconst 0, 1) := by decide +kernel
theorem dX1_isSound_19 : decode cX1_isSound 19 = .ok (.istore 4, 2) := by decide +kernel
theorem dX1_isSound_21 : decode cX1_isSound 21 = .ok (.iload 4, 2) := by decide +kernel
theorem dX1_isSound_23 : decode cX1_isSound 23 = .ok (.bipush 12, 2) := by decide +kernel
theorem dX1_isSound_25 : decode cX1_isSound 25 = .ok (.if_icmp .ge 58, 3) := by decide +kernel
theorem dX1_isSound_28 : decode cX1_isSound 28 = .ok (.iload_n 1, 1) := by decide +kernel
theorem dX1_isSound_29 : decode cX1_isSound 29 = .ok (.ifCond .eq 46, 3) := by decide +kernel
theorem dX1_isSound_32 : decode cX1_isSound 32 = .ok (.aload_n 0, 1) := by decide +kernel
theorem dX1_isSound_33 : decode cX1_isSound 33 = .ok (.getfield 7, 3) := by decide +kernel
theorem dX1_isSound_36 : decode cX1_isSound 36 = .ok (.iload_n 2, 1) := by decide +kernel
theorem dX1_isSound_37 : decode cX1_isSound 37 = .ok (.baload, 1) := by decide +kernel
theorem dX1_isSound_38 : decode cX1_isSound 38 = .ok (.ifCond .eq 33, 3) := by decide +kernel
theorem dX1_isSound_41 : decode cX1_isSound 41 = .ok (.aload_n 0, 1) := by decide +kernel
theorem dX1_isSound_42 : decode cX1_isSound 42 = .ok (.getfield 7, 3) := by decide +kernel
theorem dX1_isSound_45 : decode cX1_isSound 45 = .ok (.iload_n 3, 1) := by decide +kernel
theorem dX1_isSound_46 : decode cX1_isSound 46 = .ok (.baload, 1) := by decide +kernel
theorem dX1_isSound_47 : decode cX1_isSound 47 = .ok (.ifCond .eq 24, 3) := by decide +kernel
theorem dX1_isSound_50 : decode cX1_isSound 50 = .ok (.aload_n 0, 1) := by decide +kernel
theorem dX1_isSound_51 : decode cX1_isSound 51 = .ok (.getfield 7, 3) := by decide +kernel
theorem dX1_isSound_54 : decode cX1_isSound 54 = .ok (.iload 4, 2) := by decide +kernel
theorem dX1_isSound_56 : decode cX1_isSound 56 = .ok (.baload, 1) := by decide +kernel
theorem dX1_isSound_57 : decode cX1_isSound 57 = .ok (.ifCond .eq 14, 3) := by decide +kernel
theorem dX1_isSound_60 : decode cX1_isSound 60 = .ok (.aload_n 0, 1) := by decide +kernel
theorem dX1_isSound_61 : decode cX1_isSound 61 = .ok (.iload_n 2, 1) := by decide +kernel
theorem dX1_isSound_62 : decode cX1_isSound 62 = .ok (.iload_n 3, 1) := by decide +kernel
theorem dX1_isSound_63 : decode cX1_isSound 63 = .ok (.iload 4, 2) := by decide +kernel
theorem dX1_isSound_65 : decode cX1_isSound 65 = .ok (.invokevirtual 84, 3) := by decide +kernel
theorem dX1_isSound_68 : decode cX1_isSound 68 = .ok (.ifCond .eq 7, 3) := by decide +kernel
theorem dX1_isSound_71 : decode cX1_isSound 71 = .ok (.iconst 1, 1) := by decide +kernel
theorem dX1_isSound_72 : decode cX1_isSound 72 = .ok (.goto 4, 3) := by decide +kernel
theorem dX1_isSound_75 : decode cX1_isSound 75 = .ok (.iconst 0, 1) := by decide +kernel
theorem dX1_isSound_76 : decode cX1_isSound 76 = .ok (.istore_n 1, 1) := by decide +kernel
theorem dX1_isSound_77 : decode cX1_isSound 77 = .ok (.iinc 4 1, 3) := by decide +kernel
theorem dX1_isSound_80 : decode cX1_isSound 80 = .ok (.goto (-59), 3) := by decide +kernel
theorem dX1_isSound_83 : decode cX1_isSound 83 = .ok (.iinc 3 1, 3) := by decide +kernel
theorem dX1_isSound_86 : decode cX1_isSound 86 = .ok (.goto (-74), 3) := by decide +kernel
theorem dX1_isSound_89 : decode cX1_isSound 89 = .ok (.iinc 2 1, 3) := by decide +kernel
theorem dX1_isSound_92 : decode cX1_isSound 92 = .ok (.goto (-88), 3) := by decide +kernel
theorem dX1_isSound_95 : decode cX1_isSound 95 = .ok (.iload_n 1, 1) := by decide +kernel
theorem dX1_isSound_96 : decode cX1_isSound 96 = .ok (.ireturn, 1) := by decide +kernel
