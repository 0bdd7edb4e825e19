theorem dX0_root_9 : decode cX0_root 9 = .ok (.invokestatic 122, 3) := by decide +kernel
theorem dX0_root_12 : decode cX0_root 12 = .ok (.invokestatic 126, 3) := by decide +kernel
theorem dX0_root_15 : decode cX0_root 15 = .ok (.dreturn, 1) := by decide +kernel
theorem dX0_rootBits_0 : decode cX0_rootBits 0 = .ok (.iload_n 1, 1) := by decide +kernel
theorem dX0_rootBits_1 : decode cX0_rootBits 1 = .ok (.invokestatic 112, 3) := by decide +kernel
theorem dX0_rootBits_4 : decode cX0_rootBits 4 = .ok (.iload_n 1, 1) := by decide +kernel
theorem dX0_rootBits_5 : decode cX0_rootBits 5 = .ok (.iload_n 2, 1) := by decide +kernel
theorem dX0_rootBits_6 : decode cX0_rootBits 6 = .ok (.invokestatic 115, 3) := by decide +kernel
theorem dX0_rootBits_9 : decode cX0_rootBits 9 = .ok (.invokestatic 122, 3) := by decide +kernel
theorem dX0_rootBits_12 : decode cX0_rootBits 12 = .ok (.lreturn, 1) := by decide +kernel
theorem dX0_rootGrains_0 : decode cX0_rootGrains 0 = .ok (.iload_n 1, 1) := by decide +kernel
theorem dX0_rootGrains_1 : decode cX0_rootGrains 1 = .ok (.invokestatic 112, 3) := by decide +kernel
theorem dX0_rootGrains_4 : decode cX0_rootGrains 4 = .ok (.iload_n 1, 1) := by decide +kernel
theorem dX0_rootGrains_5 : decode cX0_rootGrains 5 = .ok (.iload_n 2, 1) := by decide +kernel
theorem dX0_rootGrains_6 : decode cX0_rootGrains 6 = .ok (.invokestatic 115, 3) := by decide +kernel
theorem dX0_rootGrains_9 : decode cX0_rootGrains 9 = .ok (.invokestatic 119, 3) := by decide +kernel
theorem dX0_rootGrains_12 : decode cX0_rootGrains 12 = .ok (.ireturn, 1) := by decide +kernel
theorem dX0_wholeRoot_0 : decode cX0_wholeRoot 0 = .ok (.iload_n 1, 1) := by decide +kernel
theorem dX0_wholeRoot_1 : decode cX0_wholeRoot 1 = .ok (.invokestatic 112, 3) := by decide +kernel
theorem dX0_wholeRoot_4 : decode cX0_wholeRoot 4 = .ok (.iload_n 1, 1) := by decide +kernel
theorem dX0_wholeRoot_5 : decode cX0_wholeRoot 5 = .ok (.invokestatic 130, 3) := by decide +kernel
theorem dX0_wholeRoot_8 : decode cX0_wholeRoot 8 = .ok (.ireturn, 1) := by decide +kernel
theorem dX0_isNearest_0 : decode cX0_isNearest 0 = .ok (.iload_n 1, 1) := by decide +kernel
theorem dX0_isNearest_1 : decode cX0_isNearest 1 = .ok (.invokestatic 112, 3) := by decide +kernel
theorem dX0_isNearest_4 : decode cX0_isNearest 4 = .ok (.iload_n 1, 1) := by decide +kernel
theorem dX0_isNearest_5 : decode cX0_isNearest 5 = .ok (.iload_n 2, 1) := by decide +kernel
theorem dX0_isNearest_6 : decode cX0_isNearest 6 = .ok (.invokestatic 115, 3) := by decide +kernel
theorem dX0_isNearest_9 : decode cX0_isNearest 9 = .ok (.istore_n 3, 1) := by decide +kernel
theorem dX0_isNearest_10 : decode cX0_isNearest 10 = .ok (.iload_n 3, 1) := by decide +kernel
theorem dX0_isNearest_11 : decode cX0_isNearest 11 = .ok (.invokestatic 122, 3) := by decide +kernel
theorem dX0_isNearest_14 : decode cX0_isNearest 14 = .ok (.lstore 4, 2) := by decide +kernel
theorem dX0_isNearest_16 : decode cX0_isNearest 16 = .ok (.iload_n 3, 1) := by decide +kernel
theorem dX0_isNearest_17 : decode cX0_isNearest 17 = .ok (.ifCond .eq 10, 3) := by decide +kernel
theorem dX0_isNearest_20 : decode cX0_isNearest 20 = .ok (.lload 4, 2) := by decide +kernel
theorem dX0_isNearest_22 : decode cX0_isNearest 22 = .ok (.lconst 0, 1) := by decide +kernel
theorem dX0_isNearest_23 : decode cX0_isNearest 23 = .ok (.lcmp, 1) := by decide +kernel
theorem dX0_isNearest_24 : decode cX0_isNearest 24 = .ok (.ifCond .ne 20, 3) := by decide +kernel
theorem dX0_isNearest_27 : decode cX0_isNearest 27 = .ok (.iload_n 3, 1) := by decide +kernel
theorem dX0_isNearest_28 : decode cX0_isNearest 28 = .ok (.ifCond .ne 14, 3) := by decide +kernel
theorem dX0_isNearest_31 : decode cX0_isNearest 31 = .ok (.lload 4, 2) := by decide +kernel
theorem dX0_isNearest_33 : decode cX0_isNearest 33 = .ok (.lconst 0, 1) := by decide +kernel
theorem dX0_isNearest_34 : decode cX0_isNearest 34 = .ok (.lcmp, 1) := by decide +kernel
theorem dX0_isNearest_35 : decode cX0_isNearest 35 = .ok (.ifCond .ne 7, 3) := by decide +kernel
theorem dX0_isNearest_38 : decode cX0_isNearest 38 = .ok (.iconst 1, 1) := by decide +kernel
theorem dX0_isNearest_39 : decode cX0_isNearest 39 = .ok (.goto 4, 3) := by decide +kernel
theorem dX0_isNearest_42 : decode cX0_isNearest 42 = .ok (.iconst 0, 1) := by decide +kernel
theorem dX0_isNearest_43 : decode cX0_isNearest 43 = .ok (.ireturn, 1) := by decide +kernel
theorem dX0_isNearest_44 : decode cX0_isNearest 44 = .ok (.ldc2_w 133, 3) := by decide +kernel
theorem dX0_isNearest_47 : decode cX0_isNearest 47 = .ok (.lload 4, 2) := by decide +kernel
theorem dX0_isNearest_49 : decode cX0_isNearest 49 = .ok (.invokestatic 96, 3) := by decide +kernel
theorem dX0_isNearest_52 : decode cX0_isNearest 52 = .ok (.lmul, 1) := by decide +kernel
theorem dX0_isNearest_53 : decode cX0_isNearest 53 = .ok (.lstore 6, 2) := by decide +kernel
theorem dX0_isNearest_55 : decode cX0_isNearest 55 = .ok (.lload 4, 2) := by decide +kernel
theorem dX0_isNearest_57 : decode cX0_isNearest 57 = .ok (.invokestatic 99, 3) := by decide +kernel
theorem dX0_isNearest_60 : decode cX0_isNearest 60 = .ok (.iconst 1, 1) := by decide +kernel
theorem dX0_isNearest_61 : decode cX0_isNearest 61 = .ok (.iadd, 1) := by decide +kernel
theorem dX0_isNearest_62 : decode cX0_isNearest 62 = .ok (.istore 8, 2) := by decide +kernel
theorem dX0_isNearest_64 : decode cX0_isNearest 64 = .ok (.lload 6, 2) := by decide +kernel
theorem dX0_isNearest_66 : decode cX0_isNearest 66 = .ok (.lconst 1, 1) := by decide +kernel
theorem dX0_isNearest_67 : decode cX0_isNearest 67 = .ok (.lsub, 1) := by decide +kernel
theorem dX0_isNearest_68 : decode cX0_isNearest 68 = .ok (.iload 8, 2) := by decide +kernel
theorem dX0_isNearest_70 : decode cX0_isNearest 70 = .ok (.iload_n 3, 1) := by decide +kernel
theorem dX0_isNearest_71 : decode cX0_isNearest 71 = .ok (.invokestatic 103, 3) := by decide +kernel
theorem dX0_isNearest_74 : decode cX0_isNearest 74 = .ok (.ifCond .ge 20, 3) := by decide +kernel
theorem dX0_isNearest_77 : decode cX0_isNearest 77 = .ok (.lload 6, 2) := by decide +kernel
theorem dX0_isNearest_79 : decode cX0_isNearest 79 = .ok (.lconst 1, 1) := by decide +kernel
theorem dX0_isNearest_80 : decode cX0_isNearest 80 = .ok (.ladd, 1) := by decide +kernel
theorem dX0_isNearest_81 : decode cX0_isNearest 81 = .ok (.iload 8, 2) := by decide +kernel
theorem dX0_isNearest_83 : decode cX0_isNearest 83 = .ok (.iload_n 3, 1) := by decide +kernel
theorem dX0_isNearest_84 : decode cX0_isNearest 84 = .ok (.invokestatic 103, 3) := by decide +kernel
theorem dX0_isNearest_87 : decode cX0_isNearest 87 = .ok (.ifCond .le 7, 3) := by decide +kernel
theorem dX0_isNearest_90 : decode cX0_isNearest 90 = .ok (.iconst 1, 1) := by decide +kernel
theorem dX0_isNearest_91 : decode cX0_isNearest 91 = .ok (.goto 4, 3) := by decide +kernel
theorem dX0_isNearest_94 : decode cX0_isNearest 94 = .ok (.iconst 0, 1) := by decide +kernel
theorem dX0_isNearest_95 : decode cX0_isNearest 95 = .ok (.ireturn, 1) := by decide +kernel
theorem dX0_isHalved_0 : decode cX0_isHalved 0 = .ok (.iload_n 1, 1) := by decide +kernel
theorem dX0_isHalved_1 : decode cX0_isHalved 1 = .ok (.invokestatic 112, 3) := by decide +kernel
theorem dX0_isHalved_4 : decode cX0_isHalved 4 = .ok (.iload_n 1, 1) := by decide +kernel
theorem dX0_isHalved_5 : decode cX0_isHalved 5 = .ok (.iconst 1, 1) := by decide +kernel
theorem dX0_isHalved_6 : decode cX0_isHalved 6 = .ok (.invokestatic 115, 3) := by decide +kernel
theorem dX0_isHalved_9 : decode cX0_isHalved 9 = .ok (.invokestatic 122, 3) := by decide +kernel
theorem dX0_isHalved_12 : decode cX0_isHalved 12 = .ok (.invokestatic 88, 3) := by decide +kernel
theorem dX0_isHalved_15 : decode cX0_isHalved 15 = .ok (.iload_n 1, 1) := by decide +kernel
theorem dX0_isHalved_16 : decode cX0_isHalved 16 = .ok (.iconst 0, 1) := by decide +kernel
theorem dX0_isHalved_17 : decode cX0_isHalved 17 = .ok (.invokestatic 115, 3) := by decide +kernel
theorem dX0_isHalved_20 : decode cX0_isHalved 20 = .ok (.invokestatic 122, 3) := by decide +kernel
theorem dX0_isHalved_23 : decode cX0_isHalved 23 = .ok (.lcmp, 1) := by decide +kernel
theorem dX0_isHalved_24 : decode cX0_isHalved 24 = .ok (.ifCond .ne 7, 3) := by decide +kernel
theorem dX0_isHalved_27 : decode cX0_isHalved 27 = .ok (.iconst 1, 1) := by decide +kernel
theorem dX0_isHalved_28 : decode cX0_isHalved 28 = .ok (.goto 4, 3) := by decide +kernel
theorem dX0_isHalved_31 : decode cX0_isHalved 31 = .ok (.iconst 0, 1) := by decide +kernel
theorem dX0_isHalved_32 : decode cX0_isHalved 32 = .ok (.ireturn, 1) := by decide +kernel
theorem dX0_between_0 : decode cX0_between 0 = .ok (.iload_n 1, 1) := by decide +kernel
theorem dX0_between_1 : decode cX0_between 1 = .ok (.invokestatic 112, 3) := by decide +kernel
theorem dX0_between_4 : decode cX0_between 4 = .ok (.iload_n 2, 1) := by decide +kernel
theorem dX0_between_5 : decode cX0_between 5 = .ok (.invokestatic 112, 3) := by decide +kernel
theorem dX0_between_8 : decode cX0_between 8 = .ok (.iload_n 2, 1) := by decide +kernel
theorem dX0_between_9 : decode cX0_between 9 = .ok (.iload_n 1, 1) := by decide +kernel
theorem dX0_between_10 : decode cX0_between 10 = .ok (.if_icmp .gt 5, 3) := by decide +kernel
theorem dX0_between_13 : decode cX0_between 13 = .ok (.iconst 0, 1) := by decide +kernel
theorem dX0_between_14 : decode cX0_between 14 = .ok (.ireturn, 1) := by decide +kernel
theorem dX0_between_15 : decode cX0_between 15 = .ok (.iload_n 3, 1) := by decide +kernel
theorem dX0_between_16 : decode cX0_between 16 = .ok (.ifCond .eq 19, 3) := by decide +kernel
theorem dX0_between_19 : decode cX0_between 19 = .ok (.iload_n 2, 1) := by decide +kernel
theorem dX0_between_20 : decode cX0_between 20 = .ok (.iconst 2, 1) := by decide +kernel
theorem dX0_between_21 : decode cX0_between 21 = .ok (.ishr, 1) := by decide +kernel
theorem dX0_between_22 : decode cX0_between 22 = .ok (.invokestatic 130, 3) := by decide +kernel
theorem dX0_between_25 : decode cX0_between 25 = .ok (.iload_n 1, 1) := by decide +kernel
theorem dX0_between_26 : decode cX0_between 26 = .ok (.iconst 2, 1) := by decide +kernel
theorem dX0_between_27 : decode cX0_between 27 = .ok (.ishr, 1) := by decide +kernel
theorem dX0_between_28 : decode cX0_between 28 = .ok (.invokestatic 130, 3) := by decide +kernel
theorem dX0_between_31 : decode cX0_between 31 = .ok (.isub, 1) := by decide +kernel
theorem dX0_between_32 : decode cX0_between 32 = .ok (.goto 12, 3) := by decide +kernel
theorem dX0_between_35 : decode cX0_between 35 = .ok (.iload_n 2, 1) := by decide +kernel
theorem dX0_between_36 : decode cX0_between 36 = .ok (.invokestatic 130, 3) := by decide +kernel
theorem dX0_between_39 : decode cX0_between 39 = .ok (.iload_n 1, 1) := by decide +kernel
theorem dX0_between_40 : decode cX0_between 40 = .ok (.invokestatic 130, 3) := by decide +kernel
theorem dX0_between_43 : decode cX0_between 43 = .ok (.isub, 1) := by decide +kernel
theorem dX0_between_44 : decode cX0_between 44 = .ok (.ireturn, 1) := by decide +kernel
theorem dX0_join_0 : decode cX0_join 0 = .ok (.iload_n 1, 1) := by decide +kernel
theorem dX0_join_1 : decode cX0_join 1 = .ok (.invokestatic 31, 3) := by decide +kernel
theorem dX0_join_4 : decode cX0_join 4 = .ok (.aload_n 0, 1) := by decide +kernel
theorem dX0_join_5 : decode cX0_join 5 = .ok (.iload_n 1, 1) := by decide +kernel
theorem dX0_join_6 : decode cX0_join 6 = .ok (.invokevirtual 53, 3) := by decide +kernel
theorem dX0_join_9 : decode cX0_join 9 = .ok (.aload_n 0, 1) := by decide +kernel
theorem dX0_join_10 : decode cX0_join 10 = .ok (.getfield 23, 3) := by decide +kernel
theorem dX0_join_13 : decode cX0_join 13 = .ok (.ifCond .lt 12, 3) := by decide +kernel
theorem dX0_join_16 : decode cX0_join 16 = .ok (.aload_n 0, 1) := by decide +kernel
theorem dX0_join_17 : decode cX0_join 17 = .ok (.getfield 23, 3) := by decide +kernel
theorem dX0_join_20 : decode cX0_join 20 = .ok (.bipush 12, 2) := by decide +kernel
theorem dX0_join_22 : decode cX0_join 22 = .ok (.if_icmp .lt 13, 3) := by decide +kernel
theorem dX0_join_25 : decode cX0_join 25 = .ok (.new 59, 3) := by decide +kernel
theorem dX0_join_28 : decode cX0_join 28 = .ok (.dup, 1) := by decide +kernel
theorem dX0_join_29 : decode cX0_join 29 = .ok (.ldc 135, 2) := by decide +kernel
theorem dX0_join_31 : decode cX0_join 31 = .ok (.invokespecial 63, 3) := by decide +kernel
theorem dX0_join_34 : decode cX0_join 34 = .ok (.athrow, 1) := by decide +kernel
theorem dX0_join_35 : decode cX0_join 35 = .ok (.aload_n 0, 1) := by decide +kernel
theorem dX0_join_36 : decode cX0_join 36 = .ok (.getfield 20, 3) := by decide +kernel
theorem dX0_join_39 : decode cX0_join 39 = .ok (.aload_n 0, 1) := by decide +kernel
theorem dX0_join_40 : decode cX0_join 40 = .ok (.getfield 23, 3) := by decide +kernel
theorem dX0_join_43 : decode cX0_join 43 = .ok (.iload_n 1, 1) := by decide +kernel
theorem dX0_join_44 : decode cX0_join 44 = .ok (.iastore, 1) := by decide +kernel
theorem dX0_join_45 : decode cX0_join 45 = .ok (.aload_n 0, 1) := by decide +kernel
theorem dX0_join_46 : decode cX0_join 46 = .ok (.dup, 1) := by decide +kernel
theorem dX0_join_47 : decode cX0_join 47 = .ok (.getfield 23, 3) := by decide +kernel
theorem dX0_join_50 : decode cX0_join 50 = .ok (.iconst 1, 1) := by decide +kernel
theorem dX0_join_51 : decode cX0_join 51 = .ok (.iadd, 1) := by decide +kernel
theorem dX0_join_52 : decode cX0_join 52 = .ok (.putfield 23, 3) := by decide +kernel
theorem dX0_join_55 : decode cX0_join 55 = .ok (.aload_n 0, 1) := by decide +kernel
theorem dX0_join_56 : decode cX0_join 56 = .ok (.getfield 23, 3) := by decide +kernel
theorem dX0_join_59 : decode cX0_join 59 = .ok (.ireturn, 1) := by decide +kernel
theorem dX0_unjoin_0 : decode cX0_unjoin 0 = .ok (.aload_n 0, 1) := by decide +kernel
theorem dX0_unjoin_1 : decode cX0_unjoin 1 = .ok (.getfield 23, 3) := by decide +kernel
theorem dX0_unjoin_4 : decode cX0_unjoin 4 = .ok (.ifCond .gt 13, 3) := by decide +kernel
theorem dX0_unjoin_7 : decode cX0_unjoin 7 = .ok (.new 59, 3) := by decide +kernel
theorem dX0_unjoin_10 : decode cX0_unjoin 10 = .ok (.dup, 1) := by decide +kernel
theorem dX0_unjoin_11 : decode cX0_unjoin 11 = .ok (.ldc 137, 2) := by decide +kernel
theorem dX0_unjoin_13 : decode cX0_unjoin 13 = .ok (.invokespecial 63, 3) := by decide +kernel
theorem dX0_unjoin_16 : decode cX0_unjoin 16 = .ok (.athrow, 1) := by decide +kernel
theorem dX0_unjoin_17 : decode cX0_unjoin 17 = .ok (.aload_n 0, 1) := by decide +kernel
theorem dX0_unjoin_18 : decode cX0_unjoin 18 = .ok (.dup, 1) := by decide +kernel
theorem dX0_unjoin_19 : decode cX0_unjoin 19 = .ok (.getfield 23, 3) := by decide +kernel
theorem dX0_unjoin_22 : decode cX0_unjoin 22 = .ok (.iconst 1, 1) := by decide +kernel
theorem dX0_unjoin_23 : decode cX0_unjoin 23 = .ok (.isub, 1) := by decide +kernel
theorem dX0_unjoin_24 : decode cX0_unjoin 24 = .ok (.putfield 23, 3) := by decide +kernel
theorem dX0_unjoin_27 : decode cX0_unjoin 27 = .ok (.aload_n 0, 1) := by decide +kernel
theorem dX0_unjoin_28 : decode cX0_unjoin 28 = .ok (.aload_n 0, 1) := by decide +kernel
theorem dX0_unjoin_29 : decode cX0_unjoin 29 = .ok (.getfield 23, 3) := by decide +kernel
theorem dX0_unjoin_32 : decode cX0_unjoin 32 = .ok (.invokevirtual 139, 3) := by decide +kernel
theorem dX0_unjoin_35 : decode cX0_unjoin 35 = .ok (.ireturn, 1) := by decide +kernel
theorem dX0_ringAt_0 : decode cX0_ringAt 0 = .ok (.iload_n 1, 1) := by decide +kernel
theorem dX0_ringAt_1 : decode cX0_ringAt 1 = .ok (.ifCond .lt 11, 3) := by decide +kernel
theorem dX0_ringAt_4 : decode cX0_ringAt 4 = .ok (.iload_n 1, 1) := by decide +kernel
theorem dX0_ringAt_5 : decode cX0_ringAt 5 = .ok (.aload_n 0, 1) := by decide +kernel
theorem dX0_ringAt_6 : decode cX0_ringAt 6 = .ok (.getfield 23, 3) := by decide +kernel
theorem dX0_ringAt_9 : decode cX0_ringAt 9 = .ok (.if_icmp .lt 13, 3) := by decide +kernel
theorem dX0_ringAt_12 : decode cX0_ringAt 12 = .ok (.new 142, 3) := by decide +kernel
theorem dX0_ringAt_15 : decode cX0_ringAt 15 = .ok (.dup, 1) := by decide +kernel
theorem dX0_ringAt_16 : decode cX0_ringAt 16 = .ok (.ldc 144, 2) := by decide +kernel
theorem dX0_ringAt_18 : decode cX0_ringAt 18 = .ok (.invokespecial 146, 3) := by decide +kernel
theorem dX0_ringAt_21 : decode cX0_ringAt 21 = .ok (.athrow, 1) := by decide +kernel
theorem dX0_ringAt_22 : decode cX0_ringAt 22 = .ok (.aload_n 0, 1) := by decide +kernel
theorem dX0_ringAt_23 : decode cX0_ringAt 23 = .ok (.iload_n 1, 1) := by decide +kernel
theorem dX0_ringAt_24 : decode cX0_ringAt 24 = .ok (.invokevirtual 139, 3) := by decide +kernel
theorem dX0_ringAt_27 : decode cX0_ringAt 27 = .ok (.ireturn, 1) := by decide +kernel
theorem dX0_around_0 : decode cX0_around 0 = .ok (.iconst 0, 1) := by decide +kernel
theorem dX0_around_1 : decode cX0_around 1 = .ok (.istore_n 1, 1) := by decide +kernel
theorem dX0_around_2 : decode cX0_around 2 = .ok (.iconst 0, 1) := by decide +kernel
theorem dX0_around_3 : decode cX0_around 3 = .ok (.istore_n 2, 1) := by decide +kernel
theorem dX0_around_4 : decode cX0_around 4 = .ok (.iload_n 2, 1) := by decide +kernel
theorem dX0_around_5 : decode cX0_around 5 = .ok (.aload_n 0, 1) := by decide +kernel
theorem dX0_around_6 : decode cX0_around 6 = .ok (.getfield 23, 3) := by decide +kernel
theorem dX0_around_9 : decode cX0_around 9 = .ok (.if_icmp .ge 30, 3) := by decide +kernel
theorem dX0_around_12 : decode cX0_around 12 = .ok (.iload_n 1, 1) := by decide +kernel
theorem dX0_around_13 : decode cX0_around 13 = .ok (.aload_n 0, 1) := by decide +kernel
theorem dX0_around_14 : decode cX0_around 14 = .ok (.aload_n 0, 1) := by decide +kernel
theorem dX0_around_15 : decode cX0_around 15 = .ok (.iload_n 2, 1) := by decide +kernel
theorem dX0_around_16 : decode cX0_around 16 = .ok (.invokevirtual 139, 3) := by decide +kernel
theorem dX0_around_19 : decode cX0_around 19 = .ok (.aload_n 0, 1) := by decide +kernel
theorem dX0_around_20 : decode cX0_around 20 = .ok (.aload_n 0, 1) := by decide +kernel
theorem dX0_around_21 : decode cX0_around 21 = .ok (.iload_n 2, 1) := by decide +kernel
theorem dX0_around_22 : decode cX0_around 22 = .ok (.invokevirtual 147, 3) := by decide +kernel
theorem dX0_around_25 : decode cX0_around 25 = .ok (.invokevirtual 139, 3) := by decide +kernel
theorem dX0_around_28 : decode cX0_around 28 = .ok (.invokevirtual 80, 3) := by decide +kernel
theorem dX0_around_31 : decode cX0_around 31 = .ok (.iadd, 1) := by decide +kernel
theorem dX0_around_32 : decode cX0_around 32 = .ok (.istore_n 1, 1) := by decide +kernel
theorem dX0_around_33 : decode cX0_around 33 = .ok (.iinc 2 1, 3) := by decide +kernel
theorem dX0_around_36 : decode cX0_around 36 = .ok (.goto (-32), 3) := by decide +kernel
theorem dX0_around_39 : decode cX0_around 39 = .ok (.iload_n 1, 1) := by decide +kernel
theorem dX0_around_40 : decode cX0_around 40 = .ok (.ireturn, 1) := by decide +kernel
theorem dX0_doubleArea_0 : decode cX0_doubleArea 0 = .ok (.iconst 0, 1) := by decide +kernel
theorem dX0_doubleArea_1 : decode cX0_doubleArea 1 = .ok (.istore_n 1, 1) := by decide +kernel
theorem dX0_doubleArea_2 : decode cX0_doubleArea 2 = .ok (.iconst 0, 1) := by decide +kernel
theorem dX0_doubleArea_3 : decode cX0_doubleArea 3 = .ok (.istore_n 2, 1) := by decide +kernel
theorem dX0_doubleArea_4 : decode cX0_doubleArea 4 = .ok (.iload_n 2, 1) := by decide +kernel
theorem dX0_doubleArea_5 : decode cX0_doubleArea 5 = .ok (.aload_n 0, 1) := by decide +kernel
theorem dX0_doubleArea_6 : decode cX0_doubleArea 6 = .ok (.getfield 23, 3) := by decide +kernel
theorem dX0_doubleArea_9 : decode cX0_doubleArea 9 = .ok (.if_icmp .ge 54, 3) := by decide +kernel
theorem dX0_doubleArea_12 : decode cX0_doubleArea 12 = .ok (.aload_n 0, 1) := by decide +kernel
theorem dX0_doubleArea_13 : decode cX0_doubleArea 13 = .ok (.iload_n 2, 1) := by decide +kernel
theorem dX0_doubleArea_14 : decode cX0_doubleArea 14 = .ok (.invokevirtual 139, 3) := by decide +kernel
theorem dX0_doubleArea_17 : decode cX0_doubleArea 17 = .ok (.istore_n 3, 1) := by decide +kernel
theorem dX0_doubleArea_18 : decode cX0_doubleArea 18 = .ok (.aload_n 0, 1) := by decide +kernel
theorem dX0_doubleArea_19 : decode cX0_doubleArea 19 = .ok (.aload_n 0, 1) := by decide +kernel
theorem dX0_doubleArea_20 : decode cX0_doubleArea 20 = .ok (.iload_n 2, 1) := by decide +kernel
theorem dX0_doubleArea_21 : decode cX0_doubleArea 21 = .ok (.invokevirtual 147, 3) := by decide +kernel
theorem dX0_doubleArea_24 : decode cX0_doubleArea 24 = .ok (.invokevirtual 139, 3) := by decide +kernel
theorem dX0_doubleArea_27 : decode cX0_doubleArea 27 = .ok (.istore 4, 2) := by decide +kernel
theorem dX0_doubleArea_29 : decode cX0_doubleArea 29 = .ok (.iload_n 1, 1) := by decide +kernel
theorem dX0_doubleArea_30 : decode cX0_doubleArea 30 = .ok (.aload_n 0, 1) := by decide +kernel
theorem dX0_doubleArea_31 : decode cX0_doubleArea 31 = .ok (.iload_n 3, 1) := by decide +kernel
theorem dX0_doubleArea_32 : decode cX0_doubleArea 32 = .ok (.invokevirtual 69, 3) := by decide +kernel
theorem dX0_doubleArea_35 : decode cX0_doubleArea 35 = .ok (.aload_n 0, 1) := by decide +kernel
theorem dX0_doubleArea_36 : decode cX0_doubleArea 36 = .ok (.iload 4, 2) := by decide +kernel
theorem dX0_doubleArea_38 : decode cX0_doubleArea 38 = .ok (.invokevirtual 73, 3) := by decide +kernel
theorem dX0_doubleArea_41 : decode cX0_doubleArea 41 = .ok (.imul, 1) := by decide +kernel
theorem dX0_doubleArea_42 : decode cX0_doubleArea 42 = .ok (.aload_n 0, 1) := by decide +kernel
theorem dX0_doubleArea_43 : decode cX0_doubleArea 43 = .ok (.iload 4, 2) := by decide +kernel
theorem dX0_doubleArea_45 : decode cX0_doubleArea 45 = .ok (.invokevirtual 69, 3) := by decide +kernel
theorem dX0_doubleArea_48 : decode cX0_doubleArea 48 = .ok (.aload_n 0, 1) := by decide +kernel
theorem dX0_doubleArea_49 : decode cX0_doubleArea 49 = .ok (.iload_n 3, 1) := by decide +kernel
theorem dX0_doubleArea_50 : decode cX0_doubleArea 50 = .ok (.invokevirtual 73, 3) := by decide +kernel
theorem dX0_doubleArea_53 : decode cX0_doubleArea 53 = .ok (.imul, 1) := by decide +kernel
theorem dX0_doubleArea_54 : decode cX0_doubleArea 54 = .ok (.isub, 1) := by decide +kernel
theorem dX0_doubleArea_55 : decode cX0_doubleArea 55 = .ok (.iadd, 1) := by decide +kernel
theorem dX0_doubleArea_56 : decode cX0_doubleArea 56 = .ok (.istore_n 1, 1) := by decide +kernel
theorem dX0_doubleArea_57 : decode cX0_doubleArea 57 = .ok (.iinc 2 1, 3) := by decide +kernel
theorem dX0_doubleArea_60 : decode cX0_doubleArea 60 = .ok (.goto (-56), 3) := by decide +kernel
theorem dX0_doubleArea_63 : decode cX0_doubleArea 63 = .ok (.iload_n 1, 1) := by decide +kernel
theorem dX0_doubleArea_64 : decode cX0_doubleArea 64 = .ok (.ireturn, 1) := by decide +kernel
theorem dX0_sideBits_0 : decode cX0_sideBits 0 = .ok (.aload_n 0, 1) := by decide +kernel
theorem dX0_sideBits_1 : decode cX0_sideBits 1 = .ok (.invokevirtual 150, 3) := by decide +kernel
theorem dX0_sideBits_4 : decode cX0_sideBits 4 = .ok (.invokestatic 154, 3) := by decide +kernel
theorem dX0_sideBits_7 : decode cX0_sideBits 7 = .ok (.istore_n 1, 1) := by decide +kernel
theorem dX0_sideBits_8 : decode cX0_sideBits 8 = .ok (.iload_n 1, 1) := by decide +kernel
theorem dX0_sideBits_9 : decode cX0_sideBits 9 = .ok (.invokestatic 159, 3) := by decide +kernel
theorem dX0_sideBits_12 : decode cX0_sideBits 12 = .ok (.ifCond .ne 13, 3) := by decide +kernel
theorem dX0_sideBits_15 : decode cX0_sideBits 15 = .ok (.new 59, 3) := by decide +kernel
theorem dX0_sideBits_18 : decode cX0_sideBits 18 = .ok (.dup, 1) := by decide +kernel
theorem dX0_sideBits_19 : decode cX0_sideBits 19 = .ok (.ldc 162, 2) := by decide +kernel
theorem dX0_sideBits_21 : decode cX0_sideBits 21 = .ok (.invokespecial 63, 3) := by decide +kernel
theorem dX0_sideBits_24 : decode cX0_sideBits 24 = .ok (.athrow, 1) := by decide +kernel
theorem dX0_sideBits_25 : decode cX0_sideBits 25 = .ok (.iload_n 1, 1) := by decide +kernel
theorem dX0_sideBits_26 : decode cX0_sideBits 26 = .ok (.iconst 0, 1) := by decide +kernel
theorem dX0_sideBits_27 : decode cX0_sideBits 27 = .ok (.invokestatic 115, 3) := by decide +kernel
theorem dX0_sideBits_30 : decode cX0_sideBits 30 = .ok (.invokestatic 122, 3) := by decide +kernel
theorem dX0_sideBits_33 : decode cX0_sideBits 33 = .ok (.lreturn, 1) := by decide +kernel
theorem dX0_checksum_0 : decode cX0_checksum 0 = .ok (.ldc2_w 164, 3) := by decide +kernel
theorem dX0_checksum_3 : decode cX0_checksum 3 = .ok (.lstore_n 1, 1) := by decide +kernel
theorem dX0_checksum_4 : decode cX0_checksum 4 = .ok (.iconst 0, 1) := by decide +kernel
theorem dX0_checksum_5 : decode cX0_checksum 5 = .ok (.istore_n 3, 1) := by decide +kernel
theorem dX0_checksum_6 : decode cX0_checksum 6 = .ok (.iload_n 3, 1) := by decide +kernel
theorem dX0_checksum_7 : decode cX0_checksum 7 = .ok (.bipush 12, 2) := by decide +kernel
theorem dX0_checksum_9 : decode cX0_checksum 9 = .ok (.if_icmp .ge 64, 3) := by decide +kernel
theorem dX0_checksum_12 : decode cX0_checksum 12 = .ok (.aload_n 0, 1) := by decide +kernel
theorem dX0_checksum_13 : decode cX0_checksum 13 = .ok (.iload_n 3, 1) := by decide +kernel
theorem dX0_checksum_14 : decode cX0_checksum 14 = .ok (.invokevirtual 46, 3) := by decide +kernel
theorem dX0_checksum_17 : decode cX0_checksum 17 = .ok (.ifCond .eq 50, 3) := by decide +kernel
theorem dX0_checksum_20 : decode cX0_checksum 20 = .ok (.ldc2_w 166, 3) := by decide +kernel
theorem dX0_checksum_23 : decode cX0_checksum 23 = .ok (.lload_n 1, 1) := by decide +kernel
theorem dX0_checksum_24 : decode cX0_checksum 24 = .ok (.lmul, 1) := by decide +kernel
theorem dX0_checksum_25 : decode cX0_checksum 25 = .ok (.iload_n 3, 1) := by decide +kernel
theorem dX0_checksum_26 : decode cX0_checksum 26 = .ok (.i2l, 1) := by decide +kernel
theorem dX0_checksum_27 : decode cX0_checksum 27 = .ok (.ladd, 1) := by decide +kernel
theorem dX0_checksum_28 : decode cX0_checksum 28 = .ok (.lconst 1, 1) := by decide +kernel
theorem dX0_checksum_29 : decode cX0_checksum 29 = .ok (.ladd, 1) := by decide +kernel
theorem dX0_checksum_30 : decode cX0_checksum 30 = .ok (.lstore_n 1, 1) := by decide +kernel
theorem dX0_checksum_31 : decode cX0_checksum 31 = .ok (.ldc2_w 166, 3) := by decide +kernel
theorem dX0_checksum_34 : decode cX0_checksum 34 = .ok (.lload_n 1, 1) := by decide +kernel
theorem dX0_checksum_35 : decode cX0_checksum 35 = .ok (.lmul, 1) := by decide +kernel
theorem dX0_checksum_36 : decode cX0_checksum 36 = .ok (.aload_n 0, 1) := by decide +kernel
theorem dX0_checksum_37 : decode cX0_checksum 37 = .ok (.iload_n 3, 1) := by decide +kernel
theorem dX0_checksum_38 : decode cX0_checksum 38 = .ok (.invokevirtual 73, 3) := by decide +kernel
theorem dX0_checksum_41 : decode cX0_checksum 41 = .ok (.bipush 91, 2) := by decide +kernel
theorem dX0_checksum_43 : decode cX0_checksum 43 = .ok (.imul, 1) := by decide +kernel
theorem dX0_checksum_44 : decode cX0_checksum 44 = .ok (.i2l, 1) := by decide +kernel
theorem dX0_checksum_45 : decode cX0_checksum 45 = .ok (.ladd, 1) := by decide +kernel
theorem dX0_checksum_46 : decode cX0_checksum 46 = .ok (.aload_n 0, 1) := by decide +kernel
theorem dX0_checksum_47 : decode cX0_checksum 47 = .ok (.iload_n 3, 1) := by decide +kernel
theorem dX0_checksum_48 : decode cX0_checksum 48 = .ok (.invokevirtual 69, 3) := by decide +kernel
theorem dX0_checksum_51 : decode cX0_checksum 51 = .ok (.i2l, 1) := by decide +kernel
theorem dX0_checksum_52 : decode cX0_checksum 52 = .ok (.ladd, 1) := by decide +kernel
theorem dX0_checksum_53 : decode cX0_checksum 53 = .ok (.lstore_n 1, 1) := by decide +kernel
theorem dX0_checksum_54 : decode cX0_checksum 54 = .ok (.ldc2_w 166, 3) := by decide +kernel
theorem dX0_checksum_57 : decode cX0_checksum 57 = .ok (.lload_n 1, 1) := by decide +kernel
theorem dX0_checksum_58 : decode cX0_checksum 58 = .ok (.lmul, 1) := by decide +kernel
theorem dX0_checksum_59 : decode cX0_checksum 59 = .ok (.aload_n 0, 1) := by decide +kernel
theorem dX0_checksum_60 : decode cX0_checksum 60 = .ok (.iload_n 3, 1) := by decide +kernel
theorem dX0_checksum_61 : decode cX0_checksum 61 = .ok (.invokevirtual 107, 3) := by decide +kernel
theorem dX0_checksum_64 : decode cX0_checksum 64 = .ok (.i2l, 1) := by decide +kernel
theorem dX0_checksum_65 : decode cX0_checksum 65 = .ok (.ladd, 1) := by decide +kernel
theorem dX0_checksum_66 : decode cX0_checksum 66 = .ok (.lstore_n 1, 1) := by decide +kernel
theorem dX0_checksum_67 : decode cX0_checksum 67 = .ok (.iinc 3 1, 3) := by decide +kernel
theorem dX0_checksum_70 : decode cX0_checksum 70 = .ok (.goto (-64), 3) := by decide +kernel
theorem dX0_checksum_73 : decode cX0_checksum 73 = .ok (.iconst 0, 1) := by decide +kernel
theorem dX0_checksum_74 : decode cX0_checksum 74 = .ok (.istore_n 3, 1) := by decide +kernel
theorem dX0_checksum_75 : decode cX0_checksum 75 = .ok (.iload_n 3, 1) := by decide +kernel
theorem dX0_checksum_76 : decode cX0_checksum 76 = .ok (.aload_n 0, 1) := by decide +kernel
theorem dX0_checksum_77 : decode cX0_checksum 77 = .ok (.getfield 23, 3) := by decide +kernel
theorem dX0_checksum_80 : decode cX0_checksum 80 = .ok (.if_icmp .ge 22, 3) := by decide +kernel
theorem dX0_checksum_83 : decode cX0_checksum 83 = .ok (.ldc2_w 166, 3) := by decide +kernel
theorem dX0_checksum_86 : decode cX0_checksum 86 = .ok (.lload_n 1, 1) := by decide +kernel
theorem dX0_checksum_87 : decode cX0_checksum 87 = .ok (.lmul, 1) := by decide +kernel
theorem dX0_checksum_88 : decode cX0_checksum 88 = .ok (.aload_n 0, 1) := by decide +kernel
theorem dX0_checksum_89 : decode cX0_checksum 89 = .ok (.iload_n 3, 1) := by decide +kernel
theorem dX0_checksum_90 : decode cX0_checksum 90 = .ok (.invokevirtual 139, 3) := by decide +kernel
theorem dX0_checksum_93 : decode cX0_checksum 93 = .ok (.i2l, 1) := by decide +kernel
theorem dX0_checksum_94 : decode cX0_checksum 94 = .ok (.ladd, 1) := by decide +kernel
theorem dX0_checksum_95 : decode cX0_checksum 95 = .ok (.lstore_n 1, 1) := by decide +kernel
theorem dX0_checksum_96 : decode cX0_checksum 96 = .ok (.iinc 3 1, 3) := by decide +kernel
theorem dX0_checksum_99 : decode cX0_checksum 99 = .ok (.goto (-24), 3) := by decide +kernel
theorem dX0_checksum_102 : decode cX0_checksum 102 = .ok (.ldc2_w 166, 3) := by decide +kernel
theorem dX0_checksum_105 : decode cX0_checksum 105 = .ok (.lload_n 1, 1) := by decide +kernel
theorem dX0_checksum_106 : decode cX0_checksum 106 = .ok (.lmul, 1) := by decide +kernel
theorem dX0_checksum_107 : decode cX0_checksum 107 = .ok (.aload_n 0, 1) := by decide +kernel
theorem dX0_checksum_108 : decode cX0_checksum 108 = .ok (.invokevirtual 168, 3) := by decide +kernel
theorem dX0_checksum_111 : decode cX0_checksum 111 = .ok (.i2l, 1) := by decide +kernel
theorem dX0_checksum_112 : decode cX0_checksum 112 = .ok (.ladd, 1) := by decide +kernel
theorem dX0_checksum_113 : decode cX0_checksum 113 = .ok (.lstore_n 1, 1) := by decide +kernel
theorem dX0_checksum_114 : decode cX0_checksum 114 = .ok (.ldc2_w 166, 3) := by decide +kernel
theorem dX0_checksum_117 : decode cX0_checksum 117 = .ok (.lload_n 1, 1) := by decide +kernel
theorem dX0_checksum_118 : decode cX0_checksum 118 = .ok (.lmul, 1) := by decide +kernel
theorem dX0_checksum_119 : decode cX0_checksum 119 = .ok (.aload_n 0, 1) := by decide +kernel
theorem dX0_checksum_120 : decode cX0_checksum 120 = .ok (.getfield 27, 3) := by decide +kernel
theorem dX0_checksum_123 : decode cX0_checksum 123 = .ok (.ifCond .eq 7, 3) := by decide +kernel
theorem dX0_checksum_126 : decode cX0_checksum 126 = .ok (.iconst 1, 1) := by decide +kernel
theorem dX0_checksum_127 : decode cX0_checksum 127 = .ok (.goto 4, 3) := by decide +kernel
theorem dX0_checksum_130 : decode cX0_checksum 130 = .ok (.iconst 0, 1) := by decide +kernel
theorem dX0_checksum_131 : decode cX0_checksum 131 = .ok (.i2l, 1) := by decide +kernel
theorem dX0_checksum_132 : decode cX0_checksum 132 = .ok (.ladd, 1) := by decide +kernel
theorem dX0_checksum_133 : decode cX0_checksum 133 = .ok (.lreturn, 1) := by decide +kernel
theorem dX0_isSound_0 : decode cX0_isSound 0 = .ok (.aload_n 0, 1) := by decide +kernel
theorem dX0_isSound_1 : decode cX0_isSound 1 = .ok (.invokevirtual 171, 3) := by decide +kernel
theorem dX0_isSound_4 : decode cX0_isSound 4 = .ok (.ifCond .eq 21, 3) := by decide +kernel
theorem dX0_isSound_7 : decode cX0_isSound 7 = .ok (.aload_n 0, 1) := by decide +kernel
theorem dX0_isSound_8 : decode cX0_isSound 8 = .ok (.invokevirtual 175, 3) := by decide +kernel
theorem dX0_isSound_11 : decode cX0_isSound 11 = .ok (.ifCond .eq 14, 3) := by decide +kernel
theorem dX0_isSound_14 : decode cX0_isSound 14 = .ok (.aload_n 0, 1) := by decide +kernel
theorem dX0_isSound_15 : decode cX0_isSound 15 = .ok (.invokevirtual 178, 3) := by decide +kernel
theorem dX0_isSound_18 : decode cX0_isSound 18 = .ok (.ifCond .eq 7, 3) := by decide +kernel
theorem dX0_isSound_21 : decode cX0_isSound 21 = .ok (.iconst 1, 1) := by decide +kernel
theorem dX0_isSound_22 : decode cX0_isSound 22 = .ok (.goto 4, 3) := by decide +kernel
theorem dX0_isSound_25 : decode cX0_isSound 25 = .ok (.iconst 0, 1) := by decide +kernel
theorem dX0_isSound_26 : decode cX0_isSound 26 = .ok (.ireturn, 1) := by decide +kernel
theorem dX0_arePairsSound_0 : decode cX0_arePairsSound 0 = .ok (.iconst 0, 1) := by decide +kernel
theorem dX0_arePairsSound_1 : decode cX0_arePairsSound 1 = .ok (.istore_n 1, 1) := by decide +kernel
theorem dX0_arePairsSound_2 : decode cX0_arePairsSound 2 = .ok (.iload_n 1, 1) := by decide +kernel
theorem dX0_arePairsSound_3 : decode cX0_arePairsSound 3 = .ok (.bipush 12, 2) := by decide +kernel
theorem dX0_arePairsSound_5 : decode cX0_arePairsSound 5 = .ok (.if_icmp .ge 70, 3) := by decide +kernel
theorem dX0_arePairsSound_8 : decode cX0_arePairsSound 8 = .ok (.iload_n 1, 1) := by decide +kernel
theorem dX0_arePairsSound_9 : decode cX0_arePairsSound 9 = .ok (.iconst 1, 1) := by decide +kernel
theorem dX0_arePairsSound_10 : decode cX0_arePairsSound 10 = .ok (.iadd, 1) := by decide +kernel
theorem dX0_arePairsSound_11 : decode cX0_arePairsSound 11 = .ok (.istore_n 2, 1) := by decide +kernel
theorem dX0_arePairsSound_12 : decode cX0_arePairsSound 12 = .ok (.iload_n 2, 1) := by decide +kernel
theorem dX0_arePairsSound_13 : decode cX0_arePairsSound 13 = .ok (.bipush 12, 2) := by decide +kernel
theorem dX0_arePairsSound_15 : decode cX0_arePairsSound 15 = .ok (.if_icmp .ge 54, 3) := by decide +kernel
theorem dX0_arePairsSound_18 : decode cX0_arePairsSound 18 = .ok (.aload_n 0, 1) := by decide +kernel
theorem dX0_arePairsSound_19 : decode cX0_arePairsSound 19 = .ok (.iload_n 1, 1) := by decide +kernel
theorem dX0_arePairsSound_20 : decode cX0_arePairsSound 20 = .ok (.invokevirtual 46, 3) := by decide +kernel
theorem dX0_arePairsSound_23 : decode cX0_arePairsSound 23 = .ok (.ifCond .eq 40, 3) := by decide +kernel
theorem dX0_arePairsSound_26 : decode cX0_arePairsSound 26 = .ok (.aload_n 0, 1) := by decide +kernel
theorem dX0_arePairsSound_27 : decode cX0_arePairsSound 27 = .ok (.iload_n 2, 1) := by decide +kernel
theorem dX0_arePairsSound_28 : decode cX0_arePairsSound 28 = .ok (.invokevirtual 46, 3) := by decide +kernel
theorem dX0_arePairsSound_31 : decode cX0_arePairsSound 31 = .ok (.ifCond .eq 32, 3) := by decide +kernel
theorem dX0_arePairsSound_34 : decode cX0_arePairsSound 34 = .ok (.aload_n 0, 1) := by decide +kernel
theorem dX0_arePairsSound_35 : decode cX0_arePairsSound 35 = .ok (.iload_n 1, 1) := by decide +kernel
theorem dX0_arePairsSound_36 : decode cX0_arePairsSound 36 = .ok (.iload_n 2, 1) := by decide +kernel
theorem dX0_arePairsSound_37 : decode cX0_arePairsSound 37 = .ok (.invokevirtual 181, 3) := by decide +kernel
theorem dX0_arePairsSound_40 : decode cX0_arePairsSound 40 = .ok (.ifCond .eq 21, 3) := by decide +kernel
theorem dX0_arePairsSound_43 : decode cX0_arePairsSound 43 = .ok (.aload_n 0, 1) := by decide +kernel
theorem dX0_arePairsSound_44 : decode cX0_arePairsSound 44 = .ok (.iload_n 1, 1) := by decide +kernel
theorem dX0_arePairsSound_45 : decode cX0_arePairsSound 45 = .ok (.iload_n 2, 1) := by decide +kernel
theorem dX0_arePairsSound_46 : decode cX0_arePairsSound 46 = .ok (.invokevirtual 185, 3) := by decide +kernel
theorem dX0_arePairsSound_49 : decode cX0_arePairsSound 49 = .ok (.ifCond .eq 12, 3) := by decide +kernel
theorem dX0_arePairsSound_52 : decode cX0_arePairsSound 52 = .ok (.aload_n 0, 1) := by decide +kernel
theorem dX0_arePairsSound_53 : decode cX0_arePairsSound 53 = .ok (.iload_n 1, 1) := by decide +kernel
theorem dX0_arePairsSound_54 : decode cX0_arePairsSound 54 = .ok (.iload_n 2, 1) := by decide +kernel
theorem dX0_arePairsSound_55 : decode cX0_arePairsSound 55 = .ok (.invokevirtual 188, 3) := by decide +kernel
theorem dX0_arePairsSound_58 : decode cX0_arePairsSound 58 = .ok (.ifCond .ne 5, 3) := by decide +kernel
theorem dX0_arePairsSound_61 : decode cX0_arePairsSound 61 = .ok (.iconst 0, 1) := by decide +kernel
theorem dX0_arePairsSound_62 : decode cX0_arePairsSound 62 = .ok (.ireturn, 1) := by decide +kernel
theorem dX0_arePairsSound_63 : decode cX0_arePairsSound 63 = .ok (.iinc 2 1, 3) := by decide +kernel
theorem dX0_arePairsSound_66 : decode cX0_arePairsSound 66 = .ok (.goto (-54), 3) := by decide +kernel
theorem dX0_arePairsSound_69 : decode cX0_arePairsSound 69 = .ok (.iinc 1 1, 3) := by decide +kernel
theorem dX0_arePairsSound_72 : decode cX0_arePairsSound 72 = .ok (.goto (-70), 3) := by decide +kernel
theorem dX0_arePairsSound_75 : decode cX0_arePairsSound 75 = .ok (.iconst 1, 1) := by decide +kernel
theorem dX0_arePairsSound_76 : decode cX0_arePairsSound 76 = .ok (.ireturn, 1) := by decide +kernel
theorem dX0_areThreesSound_0 : decode cX0_areThreesSound 0 = .ok (.iconst 0, 1) := by decide +kernel
theorem dX0_areThreesSound_1 : decode cX0_areThreesSound 1 = .ok (.istore_n 1, 1) := by decide +kernel
theorem dX0_areThreesSound_2 : decode cX0_areThreesSound 2 = .ok (.iload_n 1, 1) := by decide +kernel
theorem dX0_areThreesSound_3 : decode cX0_areThreesSound 3 = .ok (.bipush 12, 2) := by decide +kernel
theorem dX0_areThreesSound_5 : decode cX0_areThreesSound 5 = .ok (.if_icmp .ge 52, 3) := by decide +kernel
theorem dX0_areThreesSound_8 : decode cX0_areThreesSound 8 = .ok (.iload_n 1, 1) := by decide +kernel
theorem dX0_areThreesSound_9 : decode cX0_areThreesSound 9 = .ok (.iconst 1, 1) := by decide +kernel
theorem dX0_areThreesSound_10 : decode cX0_areThreesSound 10 = .ok (.iadd, 1) := by decide +kernel
theorem dX0_areThreesSound_11 : decode cX0_areThreesSound 11 = .ok (.istore_n 2, 1) := by decide +kernel
theorem dX0_areThreesSound_12 : decode cX0_areThreesSound 12 = .ok (.iload_n 2, 1) := by decide +kernel
theorem dX0_areThreesSound_13 : decode cX0_areThreesSound 13 = .ok (.bipush 12, 2) := by decide +kernel
theorem dX0_areThreesSound_15 : decode cX0_areThreesSound 15 = .ok (.if_icmp .ge 36, 3) := by decide +kernel
theorem dX0_areThreesSound_18 : decode cX0_areThreesSound 18 = .ok (.aload_n 0, 1) := by decide +kernel
theorem dX0_areThreesSound_19 : decode cX0_areThreesSound 19 = .ok (.iload_n 1, 1) := by decide +kernel
theorem dX0_areThreesSound_20 : decode cX0_areThreesSound 20 = .ok (.invokevirtual 46, 3) := by decide +kernel
theorem dX0_areThreesSound_23 : decode cX0_areThreesSound 23 = .ok (.ifCond .eq 22, 3) := by decide +kernel
theorem dX0_areThreesSound_26 : decode cX0_areThreesSound 26 = .ok (.aload_n 0, 1) := by decide +kernel
theorem dX0_areThreesSound_27 : decode cX0_areThreesSound 27 = .ok (.iload_n 2, 1) := by decide +kernel
theorem dX0_areThreesSound_28 : decode cX0_areThreesSound 28 = .ok (.invokevirtual 46, 3) := by decide +kernel
theorem dX0_areThreesSound_31 : decode cX0_areThreesSound 31 = .ok (.ifCond .eq 14, 3) := by decide +kernel
theorem dX0_areThreesSound_34 : decode cX0_areThreesSound 34 = .ok (.aload_n 0, 1) := by decide +kernel
theorem dX0_areThreesSound_35 : decode cX0_areThreesSound 35 = .ok (.iload_n 1, 1) := by decide +kernel
theorem dX0_areThreesSound_36 : decode cX0_areThreesSound 36 = .ok (.iload_n 2, 1) := by decide +kernel
theorem dX0_areThreesSound_37 : decode cX0_areThreesSound 37 = .ok (.invokevirtual 191, 3) := by decide +kernel
theorem dX0_areThreesSound_40 : decode cX0_areThreesSound 40 = .ok (.ifCond .ne 5, 3) := by decide +kernel
theorem dX0_areThreesSound_43 : decode cX0_areThreesSound 43 = .ok (.iconst 0, 1) := by decide +kernel
theorem dX0_areThreesSound_44 : decode cX0_areThreesSound 44 = .ok (.ireturn, 1) := by decide +kernel
theorem dX0_areThreesSound_45 : decode cX0_areThreesSound 45 = .ok (.iinc 2 1, 3) := by decide +kernel
theorem dX0_areThreesSound_48 : decode cX0_areThreesSound 48 = .ok (.goto (-36), 3) := by decide +kernel
theorem dX0_areThreesSound_51 : decode cX0_areThreesSound 51 = .ok (.iinc 1 1, 3) := by decide +kernel
theorem dX0_areThreesSound_54 : decode cX0_areThreesSound 54 = .ok (.goto (-52), 3) := by decide +kernel
theorem dX0_areThreesSound_57 : decode cX0_areThreesSound 57 = .ok (.iconst 1, 1) := by decide +kernel
theorem dX0_areThreesSound_58 : decode cX0_areThreesSound 58 = .ok (.ireturn, 1) := by decide +kernel
theorem dX0_isStraightByAll_0 : decode cX0_isStraightByAll 0 = .ok (.iconst 0, 1) := by decide +kernel
theorem dX0_isStraightByAll_1 : decode cX0_isStraightByAll 1 = .ok (.istore_n 3, 1) := by decide +kernel
theorem dX0_isStraightByAll_2 : decode cX0_isStraightByAll 2 = .ok (.iload_n 3, 1) := by decide +kernel
theorem dX0_isStraightByAll_3 : decode cX0_isStraightByAll 3 = .ok (.bipush 12, 2) := by decide +kernel
theorem dX0_isStraightByAll_5 : decode cX0_isStraightByAll 5 = .ok (.if_icmp .ge 39, 3) := by decide +kernel
theorem dX0_isStraightByAll_8 : decode cX0_isStraightByAll 8 = .ok (.iload_n 3, 1) := by decide +kernel
theorem dX0_isStraightByAll_9 : decode cX0_isStraightByAll 9 = .ok (.iload_n 1, 1) := by decide +kernel
theorem dX0_isStraightByAll_10 : decode cX0_isStraightByAll 10 = .ok (.if_icmp .eq 28, 3) := by decide +kernel
theorem dX0_isStraightByAll_13 : decode cX0_isStraightByAll 13 = .ok (.iload_n 3, 1) := by decide +kernel
theorem dX0_isStraightByAll_14 : decode cX0_isStraightByAll 14 = .ok (.iload_n 2, 1) := by decide +kernel
theorem dX0_isStraightByAll_15 : decode cX0_isStraightByAll 15 = .ok (.if_icmp .eq 23, 3) := by decide +kernel
theorem dX0_isStraightByAll_18 : decode cX0_isStraightByAll 18 = .ok (.aload_n 0, 1) := by decide +kernel
theorem dX0_isStraightByAll_19 : decode cX0_isStraightByAll 19 = .ok (.iload_n 3, 1) := by decide +kernel
theorem dX0_isStraightByAll_20 : decode cX0_isStraightByAll 20 = .ok (.invokevirtual 46, 3) := by decide +kernel
theorem dX0_isStraightByAll_23 : decode cX0_isStraightByAll 23 = .ok (.ifCond .eq 15, 3) := by decide +kernel
theorem dX0_isStraightByAll_26 : decode cX0_isStraightByAll 26 = .ok (.aload_n 0, 1) := by decide +kernel
theorem dX0_isStraightByAll_27 : decode cX0_isStraightByAll 27 = .ok (.iload_n 1, 1) := by decide +kernel
theorem dX0_isStraightByAll_28 : decode cX0_isStraightByAll 28 = .ok (.iload_n 3, 1) := by decide +kernel
theorem dX0_isStraightByAll_29 : decode cX0_isStraightByAll 29 = .ok (.iload_n 2, 1) := by decide +kernel
theorem dX0_isStraightByAll_30 : decode cX0_isStraightByAll 30 = .ok (.invokevirtual 194, 3) := by decide +kernel
theorem dX0_isStraightByAll_33 : decode cX0_isStraightByAll 33 = .ok (.ifCond .ne 5, 3) := by decide +kernel
theorem dX0_isStraightByAll_36 : decode cX0_isStraightByAll 36 = .ok (.iconst 0, 1) := by decide +kernel
theorem dX0_isStraightByAll_37 : decode cX0_isStraightByAll 37 = .ok (.ireturn, 1) := by decide +kernel
theorem dX0_isStraightByAll_38 : decode cX0_isStraightByAll 38 = .ok (.iinc 3 1, 3) := by decide +kernel
theorem dX0_isStraightByAll_41 : decode cX0_isStraightByAll 41 = .ok (.goto (-39), 3) := by decide +kernel
theorem dX0_isStraightByAll_44 : decode cX0_isStraightByAll 44 = .ok (.iconst 1, 1) := by decide +kernel
theorem dX0_isStraightByAll_45 : decode cX0_isStraightByAll 45 = .ok (.ireturn, 1) := by decide +kernel
theorem dX0_isAreaSound_0 : decode cX0_isAreaSound 0 = .ok (.aload_n 0, 1) := by decide +kernel
theorem dX0_isAreaSound_1 : decode cX0_isAreaSound 1 = .ok (.invokevirtual 150, 3) := by decide +kernel
theorem dX0_isAreaSound_4 : decode cX0_isAreaSound 4 = .ok (.invokestatic 154, 3) := by decide +kernel
theorem dX0_isAreaSound_7 : decode cX0_isAreaSound 7 = .ok (.istore_n 1, 1) := by decide +kernel
theorem dX0_isAreaSound_8 : decode cX0_isAreaSound 8 = .ok (.iload_n 1, 1) := by decide +kernel
theorem dX0_isAreaSound_9 : decode cX0_isAreaSound 9 = .ok (.invokestatic 159, 3) := by decide +kernel
theorem dX0_isAreaSound_12 : decode cX0_isAreaSound 12 = .ok (.ifCond .ne 5, 3) := by decide +kernel
theorem dX0_isAreaSound_15 : decode cX0_isAreaSound 15 = .ok (.iconst 1, 1) := by decide +kernel
theorem dX0_isAreaSound_16 : decode cX0_isAreaSound 16 = .ok (.ireturn, 1) := by decide +kernel
theorem dX0_isAreaSound_17 : decode cX0_isAreaSound 17 = .ok (.aload_n 0, 1) := by decide +kernel
theorem dX0_isAreaSound_18 : decode cX0_isAreaSound 18 = .ok (.iload_n 1, 1) := by decide +kernel
theorem dX0_isAreaSound_19 : decode cX0_isAreaSound 19 = .ok (.invokevirtual 198, 3) := by decide +kernel
theorem dX0_isAreaSound_22 : decode cX0_isAreaSound 22 = .ok (.ifCond .ne 5, 3) := by decide +kernel
theorem dX0_isAreaSound_25 : decode cX0_isAreaSound 25 = .ok (.iconst 0, 1) := by decide +kernel
theorem dX0_isAreaSound_26 : decode cX0_isAreaSound 26 = .ok (.ireturn, 1) := by decide +kernel
theorem dX0_isAreaSound_27 : decode cX0_isAreaSound 27 = .ok (.iload_n 1, 1) := by decide +kernel
theorem dX0_isAreaSound_28 : decode cX0_isAreaSound 28 = .ok (.ifCond .eq 31, 3) := by decide +kernel
theorem dX0_isAreaSound_31 : decode cX0_isAreaSound 31 = .ok (.aload_n 0, 1) := by decide +kernel
theorem dX0_isAreaSound_32 : decode cX0_isAreaSound 32 = .ok (.iload_n 1, 1) := by decide +kernel
theorem dX0_isAreaSound_33 : decode cX0_isAreaSound 33 = .ok (.iconst 1, 1) := by decide +kernel
theorem dX0_isAreaSound_34 : decode cX0_isAreaSound 34 = .ok (.isub, 1) := by decide +kernel
theorem dX0_isAreaSound_35 : decode cX0_isAreaSound 35 = .ok (.invokevirtual 198, 3) := by decide +kernel
theorem dX0_isAreaSound_38 : decode cX0_isAreaSound 38 = .ok (.ifCond .eq 25, 3) := by decide +kernel
theorem dX0_isAreaSound_41 : decode cX0_isAreaSound 41 = .ok (.aload_n 0, 1) := by decide +kernel
theorem dX0_isAreaSound_42 : decode cX0_isAreaSound 42 = .ok (.iload_n 1, 1) := by decide +kernel
theorem dX0_isAreaSound_43 : decode cX0_isAreaSound 43 = .ok (.iconst 0, 1) := by decide +kernel
theorem dX0_isAreaSound_44 : decode cX0_isAreaSound 44 = .ok (.invokevirtual 201, 3) := by decide +kernel
theorem dX0_isAreaSound_47 : decode cX0_isAreaSound 47 = .ok (.aload_n 0, 1) := by decide +kernel
theorem dX0_isAreaSound_48 : decode cX0_isAreaSound 48 = .ok (.iload_n 1, 1) := by decide +kernel
theorem dX0_isAreaSound_49 : decode cX0_isAreaSound 49 = .ok (.iconst 1, 1) := by decide +kernel
theorem dX0_isAreaSound_50 : decode cX0_isAreaSound 50 = .ok (.isub, 1) := by decide +kernel
theorem dX0_isAreaSound_51 : decode cX0_isAreaSound 51 = .ok (.iconst 0, 1) := by decide +kernel
theorem dX0_isAreaSound_52 : decode cX0_isAreaSound 52 = .ok (.invokevirtual 201, 3) := by decide +kernel
theorem dX0_isAreaSound_55 : decode cX0_isAreaSound 55 = .ok (.dcmp .l, 1) := by decide +kernel
theorem dX0_isAreaSound_56 : decode cX0_isAreaSound 56 = .ok (.ifCond .le 7, 3) := by decide +kernel
theorem dX0_isAreaSound_59 : decode cX0_isAreaSound 59 = .ok (.iconst 1, 1) := by decide +kernel
theorem dX0_isAreaSound_60 : decode cX0_isAreaSound 60 = .ok (.goto 4, 3) := by decide +kernel
