theorem dX0_isAreaSound_63 : decode cX0_isAreaSound 63 = .ok (.iconst 0, 1) := by decide +kernel
theorem dX0_isAreaSound_64 : decode cX0_isAreaSound 64 = .ok (.ireturn, 1) := by decide +kernel
theorem dX0_isRootSound_0 : decode cX0_isRootSound 0 = .ok (.aload_n 0, 1) := by decide +kernel
theorem dX0_isRootSound_1 : decode cX0_isRootSound 1 = .ok (.iload_n 1, 1) := by decide +kernel
theorem dX0_isRootSound_2 : decode cX0_isRootSound 2 = .ok (.iconst 0, 1) := by decide +kernel
theorem dX0_isRootSound_3 : decode cX0_isRootSound 3 = .ok (.invokevirtual 205, 3) := by decide +kernel
theorem dX0_isRootSound_6 : decode cX0_isRootSound 6 = .ok (.ifCond .eq 24, 3) := by decide +kernel
theorem dX0_isRootSound_9 : decode cX0_isRootSound 9 = .ok (.aload_n 0, 1) := by decide +kernel
theorem dX0_isRootSound_10 : decode cX0_isRootSound 10 = .ok (.iload_n 1, 1) := by decide +kernel
theorem dX0_isRootSound_11 : decode cX0_isRootSound 11 = .ok (.iconst 1, 1) := by decide +kernel
theorem dX0_isRootSound_12 : decode cX0_isRootSound 12 = .ok (.invokevirtual 205, 3) := by decide +kernel
theorem dX0_isRootSound_15 : decode cX0_isRootSound 15 = .ok (.ifCond .eq 15, 3) := by decide +kernel
theorem dX0_isRootSound_18 : decode cX0_isRootSound 18 = .ok (.aload_n 0, 1) := by decide +kernel
theorem dX0_isRootSound_19 : decode cX0_isRootSound 19 = .ok (.iload_n 1, 1) := by decide +kernel
theorem dX0_isRootSound_20 : decode cX0_isRootSound 20 = .ok (.invokevirtual 209, 3) := by decide +kernel
theorem dX0_isRootSound_23 : decode cX0_isRootSound 23 = .ok (.ifCond .eq 7, 3) := by decide +kernel
theorem dX0_isRootSound_26 : decode cX0_isRootSound 26 = .ok (.iconst 1, 1) := by decide +kernel
theorem dX0_isRootSound_27 : decode cX0_isRootSound 27 = .ok (.goto 4, 3) := by decide +kernel
theorem dX0_isRootSound_30 : decode cX0_isRootSound 30 = .ok (.iconst 0, 1) := by decide +kernel
theorem dX0_isRootSound_31 : decode cX0_isRootSound 31 = .ok (.ireturn, 1) := by decide +kernel
theorem dX0_isPeg_0 : decode cX0_isPeg 0 = .ok (.iload_n 0, 1) := by decide +kernel
theorem dX0_isPeg_1 : decode cX0_isPeg 1 = .ok (.ifCond .lt 13, 3) := by decide +kernel
theorem dX0_isPeg_4 : decode cX0_isPeg 4 = .ok (.iload_n 0, 1) := by decide +kernel
theorem dX0_isPeg_5 : decode cX0_isPeg 5 = .ok (.bipush 12, 2) := by decide +kernel
theorem dX0_isPeg_7 : decode cX0_isPeg 7 = .ok (.if_icmp .ge 7, 3) := by decide +kernel
theorem dX0_isPeg_10 : decode cX0_isPeg 10 = .ok (.iconst 1, 1) := by decide +kernel
theorem dX0_isPeg_11 : decode cX0_isPeg 11 = .ok (.goto 4, 3) := by decide +kernel
theorem dX0_isPeg_14 : decode cX0_isPeg 14 = .ok (.iconst 0, 1) := by decide +kernel
theorem dX0_isPeg_15 : decode cX0_isPeg 15 = .ok (.ireturn, 1) := by decide +kernel
theorem dX0_isPlace_0 : decode cX0_isPlace 0 = .ok (.iload_n 0, 1) := by decide +kernel
theorem dX0_isPlace_1 : decode cX0_isPlace 1 = .ok (.ifCond .lt 13, 3) := by decide +kernel
theorem dX0_isPlace_4 : decode cX0_isPlace 4 = .ok (.iload_n 0, 1) := by decide +kernel
theorem dX0_isPlace_5 : decode cX0_isPlace 5 = .ok (.bipush 91, 2) := by decide +kernel
theorem dX0_isPlace_7 : decode cX0_isPlace 7 = .ok (.if_icmp .ge 7, 3) := by decide +kernel
theorem dX0_isPlace_10 : decode cX0_isPlace 10 = .ok (.iconst 1, 1) := by decide +kernel
theorem dX0_isPlace_11 : decode cX0_isPlace 11 = .ok (.goto 4, 3) := by decide +kernel
theorem dX0_isPlace_14 : decode cX0_isPlace 14 = .ok (.iconst 0, 1) := by decide +kernel
theorem dX0_isPlace_15 : decode cX0_isPlace 15 = .ok (.ireturn, 1) := by decide +kernel
theorem dX0_isNumber_0 : decode cX0_isNumber 0 = .ok (.iload_n 0, 1) := by decide +kernel
theorem dX0_isNumber_1 : decode cX0_isNumber 1 = .ok (.ifCond .lt 14, 3) := by decide +kernel
theorem dX0_isNumber_4 : decode cX0_isNumber 4 = .ok (.iload_n 0, 1) := by decide +kernel
theorem dX0_isNumber_5 : decode cX0_isNumber 5 = .ok (.sipush 32767, 3) := by decide +kernel
theorem dX0_isNumber_8 : decode cX0_isNumber 8 = .ok (.if_icmp .gt 7, 3) := by decide +kernel
theorem dX0_isNumber_11 : decode cX0_isNumber 11 = .ok (.iconst 1, 1) := by decide +kernel
theorem dX0_isNumber_12 : decode cX0_isNumber 12 = .ok (.goto 4, 3) := by decide +kernel
theorem dX0_isNumber_15 : decode cX0_isNumber 15 = .ok (.iconst 0, 1) := by decide +kernel
theorem dX0_isNumber_16 : decode cX0_isNumber 16 = .ok (.ireturn, 1) := by decide +kernel
theorem dX0_requirePeg_0 : decode cX0_requirePeg 0 = .ok (.iload_n 0, 1) := by decide +kernel
theorem dX0_requirePeg_1 : decode cX0_requirePeg 1 = .ok (.invokestatic 64, 3) := by decide +kernel
theorem dX0_requirePeg_4 : decode cX0_requirePeg 4 = .ok (.ifCond .ne 13, 3) := by decide +kernel
theorem dX0_requirePeg_7 : decode cX0_requirePeg 7 = .ok (.new 142, 3) := by decide +kernel
theorem dX0_requirePeg_10 : decode cX0_requirePeg 10 = .ok (.dup, 1) := by decide +kernel
theorem dX0_requirePeg_11 : decode cX0_requirePeg 11 = .ok (.ldc 212, 2) := by decide +kernel
theorem dX0_requirePeg_13 : decode cX0_requirePeg 13 = .ok (.invokespecial 146, 3) := by decide +kernel
theorem dX0_requirePeg_16 : decode cX0_requirePeg 16 = .ok (.athrow, 1) := by decide +kernel
theorem dX0_requirePeg_17 : decode cX0_requirePeg 17 = .ok (.return_, 1) := by decide +kernel
theorem dX0_requireStanding_0 : decode cX0_requireStanding 0 = .ok (.aload_n 0, 1) := by decide +kernel
theorem dX0_requireStanding_1 : decode cX0_requireStanding 1 = .ok (.iload_n 1, 1) := by decide +kernel
theorem dX0_requireStanding_2 : decode cX0_requireStanding 2 = .ok (.invokevirtual 46, 3) := by decide +kernel
theorem dX0_requireStanding_5 : decode cX0_requireStanding 5 = .ok (.ifCond .ne 13, 3) := by decide +kernel
theorem dX0_requireStanding_8 : decode cX0_requireStanding 8 = .ok (.new 214, 3) := by decide +kernel
theorem dX0_requireStanding_11 : decode cX0_requireStanding 11 = .ok (.dup, 1) := by decide +kernel
theorem dX0_requireStanding_12 : decode cX0_requireStanding 12 = .ok (.ldc 216, 2) := by decide +kernel
theorem dX0_requireStanding_14 : decode cX0_requireStanding 14 = .ok (.invokespecial 218, 3) := by decide +kernel
theorem dX0_requireStanding_17 : decode cX0_requireStanding 17 = .ok (.athrow, 1) := by decide +kernel
theorem dX0_requireStanding_18 : decode cX0_requireStanding 18 = .ok (.return_, 1) := by decide +kernel
theorem dX0_requireTwo_0 : decode cX0_requireTwo 0 = .ok (.iload_n 1, 1) := by decide +kernel
theorem dX0_requireTwo_1 : decode cX0_requireTwo 1 = .ok (.invokestatic 31, 3) := by decide +kernel
theorem dX0_requireTwo_4 : decode cX0_requireTwo 4 = .ok (.iload_n 2, 1) := by decide +kernel
theorem dX0_requireTwo_5 : decode cX0_requireTwo 5 = .ok (.invokestatic 31, 3) := by decide +kernel
theorem dX0_requireTwo_8 : decode cX0_requireTwo 8 = .ok (.aload_n 0, 1) := by decide +kernel
theorem dX0_requireTwo_9 : decode cX0_requireTwo 9 = .ok (.iload_n 1, 1) := by decide +kernel
theorem dX0_requireTwo_10 : decode cX0_requireTwo 10 = .ok (.invokevirtual 53, 3) := by decide +kernel
theorem dX0_requireTwo_13 : decode cX0_requireTwo 13 = .ok (.aload_n 0, 1) := by decide +kernel
theorem dX0_requireTwo_14 : decode cX0_requireTwo 14 = .ok (.iload_n 2, 1) := by decide +kernel
theorem dX0_requireTwo_15 : decode cX0_requireTwo 15 = .ok (.invokevirtual 53, 3) := by decide +kernel
theorem dX0_requireTwo_18 : decode cX0_requireTwo 18 = .ok (.return_, 1) := by decide +kernel
theorem dX0_requireNumber_0 : decode cX0_requireNumber 0 = .ok (.iload_n 0, 1) := by decide +kernel
theorem dX0_requireNumber_1 : decode cX0_requireNumber 1 = .ok (.invokestatic 159, 3) := by decide +kernel
theorem dX0_requireNumber_4 : decode cX0_requireNumber 4 = .ok (.ifCond .ne 13, 3) := by decide +kernel
theorem dX0_requireNumber_7 : decode cX0_requireNumber 7 = .ok (.new 39, 3) := by decide +kernel
theorem dX0_requireNumber_10 : decode cX0_requireNumber 10 = .ok (.dup, 1) := by decide +kernel
theorem dX0_requireNumber_11 : decode cX0_requireNumber 11 = .ok (.ldc 219, 2) := by decide +kernel
theorem dX0_requireNumber_13 : decode cX0_requireNumber 13 = .ok (.invokespecial 43, 3) := by decide +kernel
theorem dX0_requireNumber_16 : decode cX0_requireNumber 16 = .ok (.athrow, 1) := by decide +kernel
theorem dX0_requireNumber_17 : decode cX0_requireNumber 17 = .ok (.return_, 1) := by decide +kernel
theorem dX0_stands_0 : decode cX0_stands 0 = .ok (.iload_n 1, 1) := by decide +kernel
theorem dX0_stands_1 : decode cX0_stands 1 = .ok (.invokestatic 64, 3) := by decide +kernel
theorem dX0_stands_4 : decode cX0_stands 4 = .ok (.ifCond .eq 16, 3) := by decide +kernel
theorem dX0_stands_7 : decode cX0_stands 7 = .ok (.aload_n 0, 1) := by decide +kernel
theorem dX0_stands_8 : decode cX0_stands 8 = .ok (.getfield 9, 3) := by decide +kernel
theorem dX0_stands_11 : decode cX0_stands 11 = .ok (.iload_n 1, 1) := by decide +kernel
theorem dX0_stands_12 : decode cX0_stands 12 = .ok (.baload, 1) := by decide +kernel
theorem dX0_stands_13 : decode cX0_stands 13 = .ok (.ifCond .eq 7, 3) := by decide +kernel
theorem dX0_stands_16 : decode cX0_stands 16 = .ok (.iconst 1, 1) := by decide +kernel
theorem dX0_stands_17 : decode cX0_stands 17 = .ok (.goto 4, 3) := by decide +kernel
theorem dX0_stands_20 : decode cX0_stands 20 = .ok (.iconst 0, 1) := by decide +kernel
theorem dX0_stands_21 : decode cX0_stands 21 = .ok (.ireturn, 1) := by decide +kernel
theorem dX0_across_0 : decode cX0_across 0 = .ok (.iload_n 1, 1) := by decide +kernel
theorem dX0_across_1 : decode cX0_across 1 = .ok (.invokestatic 64, 3) := by decide +kernel
theorem dX0_across_4 : decode cX0_across 4 = .ok (.ifCond .eq 12, 3) := by decide +kernel
theorem dX0_across_7 : decode cX0_across 7 = .ok (.aload_n 0, 1) := by decide +kernel
theorem dX0_across_8 : decode cX0_across 8 = .ok (.getfield 13, 3) := by decide +kernel
theorem dX0_across_11 : decode cX0_across 11 = .ok (.iload_n 1, 1) := by decide +kernel
theorem dX0_across_12 : decode cX0_across 12 = .ok (.iaload, 1) := by decide +kernel
theorem dX0_across_13 : decode cX0_across 13 = .ok (.goto 4, 3) := by decide +kernel
theorem dX0_across_16 : decode cX0_across 16 = .ok (.iconst 0, 1) := by decide +kernel
theorem dX0_across_17 : decode cX0_across 17 = .ok (.ireturn, 1) := by decide +kernel
theorem dX0_up_0 : decode cX0_up 0 = .ok (.iload_n 1, 1) := by decide +kernel
theorem dX0_up_1 : decode cX0_up 1 = .ok (.invokestatic 64, 3) := by decide +kernel
theorem dX0_up_4 : decode cX0_up 4 = .ok (.ifCond .eq 12, 3) := by decide +kernel
theorem dX0_up_7 : decode cX0_up 7 = .ok (.aload_n 0, 1) := by decide +kernel
theorem dX0_up_8 : decode cX0_up 8 = .ok (.getfield 17, 3) := by decide +kernel
theorem dX0_up_11 : decode cX0_up 11 = .ok (.iload_n 1, 1) := by decide +kernel
theorem dX0_up_12 : decode cX0_up 12 = .ok (.iaload, 1) := by decide +kernel
theorem dX0_up_13 : decode cX0_up 13 = .ok (.goto 4, 3) := by decide +kernel
theorem dX0_up_16 : decode cX0_up 16 = .ok (.iconst 0, 1) := by decide +kernel
theorem dX0_up_17 : decode cX0_up 17 = .ok (.ireturn, 1) := by decide +kernel
theorem dX0_moveTo_0 : decode cX0_moveTo 0 = .ok (.iload_n 1, 1) := by decide +kernel
theorem dX0_moveTo_1 : decode cX0_moveTo 1 = .ok (.invokestatic 64, 3) := by decide +kernel
theorem dX0_moveTo_4 : decode cX0_moveTo 4 = .ok (.ifCond .eq 24, 3) := by decide +kernel
theorem dX0_moveTo_7 : decode cX0_moveTo 7 = .ok (.aload_n 0, 1) := by decide +kernel
theorem dX0_moveTo_8 : decode cX0_moveTo 8 = .ok (.getfield 9, 3) := by decide +kernel
theorem dX0_moveTo_11 : decode cX0_moveTo 11 = .ok (.iload_n 1, 1) := by decide +kernel
theorem dX0_moveTo_12 : decode cX0_moveTo 12 = .ok (.iconst 1, 1) := by decide +kernel
theorem dX0_moveTo_13 : decode cX0_moveTo 13 = .ok (.bastore, 1) := by decide +kernel
theorem dX0_moveTo_14 : decode cX0_moveTo 14 = .ok (.aload_n 0, 1) := by decide +kernel
theorem dX0_moveTo_15 : decode cX0_moveTo 15 = .ok (.getfield 13, 3) := by decide +kernel
theorem dX0_moveTo_18 : decode cX0_moveTo 18 = .ok (.iload_n 1, 1) := by decide +kernel
theorem dX0_moveTo_19 : decode cX0_moveTo 19 = .ok (.iload_n 2, 1) := by decide +kernel
theorem dX0_moveTo_20 : decode cX0_moveTo 20 = .ok (.iastore, 1) := by decide +kernel
theorem dX0_moveTo_21 : decode cX0_moveTo 21 = .ok (.aload_n 0, 1) := by decide +kernel
theorem dX0_moveTo_22 : decode cX0_moveTo 22 = .ok (.getfield 17, 3) := by decide +kernel
theorem dX0_moveTo_25 : decode cX0_moveTo 25 = .ok (.iload_n 1, 1) := by decide +kernel
theorem dX0_moveTo_26 : decode cX0_moveTo 26 = .ok (.iload_n 3, 1) := by decide +kernel
theorem dX0_moveTo_27 : decode cX0_moveTo 27 = .ok (.iastore, 1) := by decide +kernel
theorem dX0_moveTo_28 : decode cX0_moveTo 28 = .ok (.return_, 1) := by decide +kernel
theorem dX0_pegInRing_0 : decode cX0_pegInRing 0 = .ok (.iload_n 1, 1) := by decide +kernel
theorem dX0_pegInRing_1 : decode cX0_pegInRing 1 = .ok (.ifCond .lt 18, 3) := by decide +kernel
theorem dX0_pegInRing_4 : decode cX0_pegInRing 4 = .ok (.iload_n 1, 1) := by decide +kernel
theorem dX0_pegInRing_5 : decode cX0_pegInRing 5 = .ok (.bipush 12, 2) := by decide +kernel
theorem dX0_pegInRing_7 : decode cX0_pegInRing 7 = .ok (.if_icmp .ge 12, 3) := by decide +kernel
theorem dX0_pegInRing_10 : decode cX0_pegInRing 10 = .ok (.aload_n 0, 1) := by decide +kernel
theorem dX0_pegInRing_11 : decode cX0_pegInRing 11 = .ok (.getfield 20, 3) := by decide +kernel
theorem dX0_pegInRing_14 : decode cX0_pegInRing 14 = .ok (.iload_n 1, 1) := by decide +kernel
theorem dX0_pegInRing_15 : decode cX0_pegInRing 15 = .ok (.iaload, 1) := by decide +kernel
theorem dX0_pegInRing_16 : decode cX0_pegInRing 16 = .ok (.goto 4, 3) := by decide +kernel
theorem dX0_pegInRing_19 : decode cX0_pegInRing 19 = .ok (.iconst (-1), 1) := by decide +kernel
theorem dX0_pegInRing_20 : decode cX0_pegInRing 20 = .ok (.ireturn, 1) := by decide +kernel
theorem dX0_placeAfter_0 : decode cX0_placeAfter 0 = .ok (.iload_n 1, 1) := by decide +kernel
theorem dX0_placeAfter_1 : decode cX0_placeAfter 1 = .ok (.iconst 1, 1) := by decide +kernel
theorem dX0_placeAfter_2 : decode cX0_placeAfter 2 = .ok (.iadd, 1) := by decide +kernel
theorem dX0_placeAfter_3 : decode cX0_placeAfter 3 = .ok (.aload_n 0, 1) := by decide +kernel
theorem dX0_placeAfter_4 : decode cX0_placeAfter 4 = .ok (.getfield 23, 3) := by decide +kernel
theorem dX0_placeAfter_7 : decode cX0_placeAfter 7 = .ok (.if_icmp .ge 9, 3) := by decide +kernel
theorem dX0_placeAfter_10 : decode cX0_placeAfter 10 = .ok (.iload_n 1, 1) := by decide +kernel
theorem dX0_placeAfter_11 : decode cX0_placeAfter 11 = .ok (.iconst 1, 1) := by decide +kernel
theorem dX0_placeAfter_12 : decode cX0_placeAfter 12 = .ok (.iadd, 1) := by decide +kernel
theorem dX0_placeAfter_13 : decode cX0_placeAfter 13 = .ok (.goto 4, 3) := by decide +kernel
theorem dX0_placeAfter_16 : decode cX0_placeAfter 16 = .ok (.iconst 0, 1) := by decide +kernel
theorem dX0_placeAfter_17 : decode cX0_placeAfter 17 = .ok (.ireturn, 1) := by decide +kernel
theorem dX0_isInRing_0 : decode cX0_isInRing 0 = .ok (.iconst 0, 1) := by decide +kernel
theorem dX0_isInRing_1 : decode cX0_isInRing 1 = .ok (.istore_n 2, 1) := by decide +kernel
theorem dX0_isInRing_2 : decode cX0_isInRing 2 = .ok (.iload_n 2, 1) := by decide +kernel
theorem dX0_isInRing_3 : decode cX0_isInRing 3 = .ok (.aload_n 0, 1) := by decide +kernel
theorem dX0_isInRing_4 : decode cX0_isInRing 4 = .ok (.getfield 23, 3) := by decide +kernel
theorem dX0_isInRing_7 : decode cX0_isInRing 7 = .ok (.if_icmp .ge 20, 3) := by decide +kernel
theorem dX0_isInRing_10 : decode cX0_isInRing 10 = .ok (.aload_n 0, 1) := by decide +kernel
theorem dX0_isInRing_11 : decode cX0_isInRing 11 = .ok (.iload_n 2, 1) := by decide +kernel
theorem dX0_isInRing_12 : decode cX0_isInRing 12 = .ok (.invokevirtual 139, 3) := by decide +kernel
theorem dX0_isInRing_15 : decode cX0_isInRing 15 = .ok (.iload_n 1, 1) := by decide +kernel
theorem dX0_isInRing_16 : decode cX0_isInRing 16 = .ok (.if_icmp .ne 5, 3) := by decide +kernel
theorem dX0_isInRing_19 : decode cX0_isInRing 19 = .ok (.iconst 1, 1) := by decide +kernel
theorem dX0_isInRing_20 : decode cX0_isInRing 20 = .ok (.ireturn, 1) := by decide +kernel
theorem dX0_isInRing_21 : decode cX0_isInRing 21 = .ok (.iinc 2 1, 3) := by decide +kernel
theorem dX0_isInRing_24 : decode cX0_isInRing 24 = .ok (.goto (-22), 3) := by decide +kernel
theorem dX0_isInRing_27 : decode cX0_isInRing 27 = .ok (.iconst 0, 1) := by decide +kernel
theorem dX0_isInRing_28 : decode cX0_isInRing 28 = .ok (.ireturn, 1) := by decide +kernel
theorem dX0_nearestOther_0 : decode cX0_nearestOther 0 = .ok (.iconst (-1), 1) := by decide +kernel
theorem dX0_nearestOther_1 : decode cX0_nearestOther 1 = .ok (.istore_n 2, 1) := by decide +kernel
theorem dX0_nearestOther_2 : decode cX0_nearestOther 2 = .ok (.iconst 0, 1) := by decide +kernel
theorem dX0_nearestOther_3 : decode cX0_nearestOther 3 = .ok (.istore_n 3, 1) := by decide +kernel
theorem dX0_nearestOther_4 : decode cX0_nearestOther 4 = .ok (.iconst 0, 1) := by decide +kernel
theorem dX0_nearestOther_5 : decode cX0_nearestOther 5 = .ok (.istore 4, 2) := by decide +kernel
theorem dX0_nearestOther_7 : decode cX0_nearestOther 7 = .ok (.iload 4, 2) := by decide +kernel
theorem dX0_nearestOther_9 : decode cX0_nearestOther 9 = .ok (.bipush 12, 2) := by decide +kernel
theorem dX0_nearestOther_11 : decode cX0_nearestOther 11 = .ok (.if_icmp .ge 50, 3) := by decide +kernel
theorem dX0_nearestOther_14 : decode cX0_nearestOther 14 = .ok (.iload 4, 2) := by decide +kernel
theorem dX0_nearestOther_16 : decode cX0_nearestOther 16 = .ok (.iload_n 1, 1) := by decide +kernel
theorem dX0_nearestOther_17 : decode cX0_nearestOther 17 = .ok (.if_icmp .eq 38, 3) := by decide +kernel
theorem dX0_nearestOther_20 : decode cX0_nearestOther 20 = .ok (.aload_n 0, 1) := by decide +kernel
theorem dX0_nearestOther_21 : decode cX0_nearestOther 21 = .ok (.iload 4, 2) := by decide +kernel
theorem dX0_nearestOther_23 : decode cX0_nearestOther 23 = .ok (.invokevirtual 46, 3) := by decide +kernel
theorem dX0_nearestOther_26 : decode cX0_nearestOther 26 = .ok (.ifCond .eq 29, 3) := by decide +kernel
theorem dX0_nearestOther_29 : decode cX0_nearestOther 29 = .ok (.aload_n 0, 1) := by decide +kernel
theorem dX0_nearestOther_30 : decode cX0_nearestOther 30 = .ok (.iload_n 1, 1) := by decide +kernel
theorem dX0_nearestOther_31 : decode cX0_nearestOther 31 = .ok (.iload 4, 2) := by decide +kernel
theorem dX0_nearestOther_33 : decode cX0_nearestOther 33 = .ok (.invokevirtual 80, 3) := by decide +kernel
theorem dX0_nearestOther_36 : decode cX0_nearestOther 36 = .ok (.istore 5, 2) := by decide +kernel
theorem dX0_nearestOther_38 : decode cX0_nearestOther 38 = .ok (.iload_n 2, 1) := by decide +kernel
theorem dX0_nearestOther_39 : decode cX0_nearestOther 39 = .ok (.iconst (-1), 1) := by decide +kernel
theorem dX0_nearestOther_40 : decode cX0_nearestOther 40 = .ok (.if_icmp .eq 9, 3) := by decide +kernel
theorem dX0_nearestOther_43 : decode cX0_nearestOther 43 = .ok (.iload 5, 2) := by decide +kernel
theorem dX0_nearestOther_45 : decode cX0_nearestOther 45 = .ok (.iload_n 3, 1) := by decide +kernel
theorem dX0_nearestOther_46 : decode cX0_nearestOther 46 = .ok (.if_icmp .ge 9, 3) := by decide +kernel
theorem dX0_nearestOther_49 : decode cX0_nearestOther 49 = .ok (.iload 4, 2) := by decide +kernel
theorem dX0_nearestOther_51 : decode cX0_nearestOther 51 = .ok (.istore_n 2, 1) := by decide +kernel
theorem dX0_nearestOther_52 : decode cX0_nearestOther 52 = .ok (.iload 5, 2) := by decide +kernel
theorem dX0_nearestOther_54 : decode cX0_nearestOther 54 = .ok (.istore_n 3, 1) := by decide +kernel
theorem dX0_nearestOther_55 : decode cX0_nearestOther 55 = .ok (.iinc 4 1, 3) := by decide +kernel
theorem dX0_nearestOther_58 : decode cX0_nearestOther 58 = .ok (.goto (-51), 3) := by decide +kernel
theorem dX0_nearestOther_61 : decode cX0_nearestOther 61 = .ok (.iload_n 2, 1) := by decide +kernel
theorem dX0_nearestOther_62 : decode cX0_nearestOther 62 = .ok (.ireturn, 1) := by decide +kernel
theorem dX0_stretchGrains_0 : decode cX0_stretchGrains 0 = .ok (.aload_n 0, 1) := by decide +kernel
theorem dX0_stretchGrains_1 : decode cX0_stretchGrains 1 = .ok (.iload_n 2, 1) := by decide +kernel
theorem dX0_stretchGrains_2 : decode cX0_stretchGrains 2 = .ok (.invokevirtual 69, 3) := by decide +kernel
theorem dX0_stretchGrains_5 : decode cX0_stretchGrains 5 = .ok (.aload_n 0, 1) := by decide +kernel
theorem dX0_stretchGrains_6 : decode cX0_stretchGrains 6 = .ok (.iload_n 1, 1) := by decide +kernel
theorem dX0_stretchGrains_7 : decode cX0_stretchGrains 7 = .ok (.invokevirtual 69, 3) := by decide +kernel
theorem dX0_stretchGrains_10 : decode cX0_stretchGrains 10 = .ok (.isub, 1) := by decide +kernel
theorem dX0_stretchGrains_11 : decode cX0_stretchGrains 11 = .ok (.aload_n 0, 1) := by decide +kernel
theorem dX0_stretchGrains_12 : decode cX0_stretchGrains 12 = .ok (.iload_n 2, 1) := by decide +kernel
theorem dX0_stretchGrains_13 : decode cX0_stretchGrains 13 = .ok (.invokevirtual 73, 3) := by decide +kernel
theorem dX0_stretchGrains_16 : decode cX0_stretchGrains 16 = .ok (.aload_n 0, 1) := by decide +kernel
theorem dX0_stretchGrains_17 : decode cX0_stretchGrains 17 = .ok (.iload_n 1, 1) := by decide +kernel
theorem dX0_stretchGrains_18 : decode cX0_stretchGrains 18 = .ok (.invokevirtual 73, 3) := by decide +kernel
theorem dX0_stretchGrains_21 : decode cX0_stretchGrains 21 = .ok (.isub, 1) := by decide +kernel
theorem dX0_stretchGrains_22 : decode cX0_stretchGrains 22 = .ok (.aload_n 0, 1) := by decide +kernel
theorem dX0_stretchGrains_23 : decode cX0_stretchGrains 23 = .ok (.getfield 27, 3) := by decide +kernel
theorem dX0_stretchGrains_26 : decode cX0_stretchGrains 26 = .ok (.invokestatic 92, 3) := by decide +kernel
theorem dX0_stretchGrains_29 : decode cX0_stretchGrains 29 = .ok (.invokestatic 119, 3) := by decide +kernel
theorem dX0_stretchGrains_32 : decode cX0_stretchGrains 32 = .ok (.ireturn, 1) := by decide +kernel
theorem dX0_sixteenthsOf_0 : decode cX0_sixteenthsOf 0 = .ok (.iload_n 1, 1) := by decide +kernel
theorem dX0_sixteenthsOf_1 : decode cX0_sixteenthsOf 1 = .ok (.ifCond .eq 9, 3) := by decide +kernel
theorem dX0_sixteenthsOf_4 : decode cX0_sixteenthsOf 4 = .ok (.iconst 4, 1) := by decide +kernel
theorem dX0_sixteenthsOf_5 : decode cX0_sixteenthsOf 5 = .ok (.iload_n 0, 1) := by decide +kernel
theorem dX0_sixteenthsOf_6 : decode cX0_sixteenthsOf 6 = .ok (.imul, 1) := by decide +kernel
theorem dX0_sixteenthsOf_7 : decode cX0_sixteenthsOf 7 = .ok (.goto 7, 3) := by decide +kernel
theorem dX0_sixteenthsOf_10 : decode cX0_sixteenthsOf 10 = .ok (.bipush 16, 2) := by decide +kernel
theorem dX0_sixteenthsOf_12 : decode cX0_sixteenthsOf 12 = .ok (.iload_n 0, 1) := by decide +kernel
theorem dX0_sixteenthsOf_13 : decode cX0_sixteenthsOf 13 = .ok (.imul, 1) := by decide +kernel
theorem dX0_sixteenthsOf_14 : decode cX0_sixteenthsOf 14 = .ok (.ireturn, 1) := by decide +kernel
theorem dX0_squareSum_0 : decode cX0_squareSum 0 = .ok (.iload_n 0, 1) := by decide +kernel
theorem dX0_squareSum_1 : decode cX0_squareSum 1 = .ok (.iload_n 0, 1) := by decide +kernel
theorem dX0_squareSum_2 : decode cX0_squareSum 2 = .ok (.imul, 1) := by decide +kernel
theorem dX0_squareSum_3 : decode cX0_squareSum 3 = .ok (.iload_n 1, 1) := by decide +kernel
theorem dX0_squareSum_4 : decode cX0_squareSum 4 = .ok (.iload_n 1, 1) := by decide +kernel
theorem dX0_squareSum_5 : decode cX0_squareSum 5 = .ok (.imul, 1) := by decide +kernel
theorem dX0_squareSum_6 : decode cX0_squareSum 6 = .ok (.iadd, 1) := by decide +kernel
theorem dX0_squareSum_7 : decode cX0_squareSum 7 = .ok (.istore_n 3, 1) := by decide +kernel
theorem dX0_squareSum_8 : decode cX0_squareSum 8 = .ok (.iload_n 2, 1) := by decide +kernel
theorem dX0_squareSum_9 : decode cX0_squareSum 9 = .ok (.ifCond .eq 9, 3) := by decide +kernel
theorem dX0_squareSum_12 : decode cX0_squareSum 12 = .ok (.iconst 4, 1) := by decide +kernel
theorem dX0_squareSum_13 : decode cX0_squareSum 13 = .ok (.iload_n 3, 1) := by decide +kernel
theorem dX0_squareSum_14 : decode cX0_squareSum 14 = .ok (.imul, 1) := by decide +kernel
theorem dX0_squareSum_15 : decode cX0_squareSum 15 = .ok (.goto 4, 3) := by decide +kernel
theorem dX0_squareSum_18 : decode cX0_squareSum 18 = .ok (.iload_n 3, 1) := by decide +kernel
theorem dX0_squareSum_19 : decode cX0_squareSum 19 = .ok (.ireturn, 1) := by decide +kernel
theorem dX0_hypotenuseBits_0 : decode cX0_hypotenuseBits 0 = .ok (.iload_n 0, 1) := by decide +kernel
theorem dX0_hypotenuseBits_1 : decode cX0_hypotenuseBits 1 = .ok (.iload_n 1, 1) := by decide +kernel
theorem dX0_hypotenuseBits_2 : decode cX0_hypotenuseBits 2 = .ok (.iload_n 2, 1) := by decide +kernel
theorem dX0_hypotenuseBits_3 : decode cX0_hypotenuseBits 3 = .ok (.invokestatic 92, 3) := by decide +kernel
theorem dX0_hypotenuseBits_6 : decode cX0_hypotenuseBits 6 = .ok (.invokestatic 122, 3) := by decide +kernel
theorem dX0_hypotenuseBits_9 : decode cX0_hypotenuseBits 9 = .ok (.lreturn, 1) := by decide +kernel
theorem dX0_wholePart_0 : decode cX0_wholePart 0 = .ok (.iload_n 0, 1) := by decide +kernel
theorem dX0_wholePart_1 : decode cX0_wholePart 1 = .ok (.iconst 0, 1) := by decide +kernel
theorem dX0_wholePart_2 : decode cX0_wholePart 2 = .ok (.invokestatic 221, 3) := by decide +kernel
theorem dX0_wholePart_5 : decode cX0_wholePart 5 = .ok (.l2i, 1) := by decide +kernel
theorem dX0_wholePart_6 : decode cX0_wholePart 6 = .ok (.ireturn, 1) := by decide +kernel
theorem dX0_grainsOfRoot_0 : decode cX0_grainsOfRoot 0 = .ok (.iload_n 0, 1) := by decide +kernel
theorem dX0_grainsOfRoot_1 : decode cX0_grainsOfRoot 1 = .ok (.bipush 15, 2) := by decide +kernel
theorem dX0_grainsOfRoot_3 : decode cX0_grainsOfRoot 3 = .ok (.invokestatic 221, 3) := by decide +kernel
theorem dX0_grainsOfRoot_6 : decode cX0_grainsOfRoot 6 = .ok (.lconst 1, 1) := by decide +kernel
theorem dX0_grainsOfRoot_7 : decode cX0_grainsOfRoot 7 = .ok (.ladd, 1) := by decide +kernel
theorem dX0_grainsOfRoot_8 : decode cX0_grainsOfRoot 8 = .ok (.iconst 1, 1) := by decide +kernel
theorem dX0_grainsOfRoot_9 : decode cX0_grainsOfRoot 9 = .ok (.lshr, 1) := by decide +kernel
theorem dX0_grainsOfRoot_10 : decode cX0_grainsOfRoot 10 = .ok (.l2i, 1) := by decide +kernel
theorem dX0_grainsOfRoot_11 : decode cX0_grainsOfRoot 11 = .ok (.ireturn, 1) := by decide +kernel
theorem dX0_rootDigits_0 : decode cX0_rootDigits 0 = .ok (.lconst 0, 1) := by decide +kernel
theorem dX0_rootDigits_1 : decode cX0_rootDigits 1 = .ok (.lstore_n 2, 1) := by decide +kernel
theorem dX0_rootDigits_2 : decode cX0_rootDigits 2 = .ok (.lconst 0, 1) := by decide +kernel
theorem dX0_rootDigits_3 : decode cX0_rootDigits 3 = .ok (.lstore 4, 2) := by decide +kernel
theorem dX0_rootDigits_5 : decode cX0_rootDigits 5 = .ok (.bipush 9, 2) := by decide +kernel
theorem dX0_rootDigits_7 : decode cX0_rootDigits 7 = .ok (.istore 6, 2) := by decide +kernel
theorem dX0_rootDigits_9 : decode cX0_rootDigits 9 = .ok (.iload 6, 2) := by decide +kernel
theorem dX0_rootDigits_11 : decode cX0_rootDigits 11 = .ok (.iload_n 1, 1) := by decide +kernel
theorem dX0_rootDigits_12 : decode cX0_rootDigits 12 = .ok (.ineg, 1) := by decide +kernel
theorem dX0_rootDigits_13 : decode cX0_rootDigits 13 = .ok (.if_icmp .lt 64, 3) := by decide +kernel
theorem dX0_rootDigits_16 : decode cX0_rootDigits 16 = .ok (.lload 4, 2) := by decide +kernel
theorem dX0_rootDigits_18 : decode cX0_rootDigits 18 = .ok (.iconst 2, 1) := by decide +kernel
theorem dX0_rootDigits_19 : decode cX0_rootDigits 19 = .ok (.lshl, 1) := by decide +kernel
theorem dX0_rootDigits_20 : decode cX0_rootDigits 20 = .ok (.iload 6, 2) := by decide +kernel
theorem dX0_rootDigits_22 : decode cX0_rootDigits 22 = .ok (.ifCond .lt 14, 3) := by decide +kernel
theorem dX0_rootDigits_25 : decode cX0_rootDigits 25 = .ok (.iload_n 0, 1) := by decide +kernel
theorem dX0_rootDigits_26 : decode cX0_rootDigits 26 = .ok (.iconst 2, 1) := by decide +kernel
theorem dX0_rootDigits_27 : decode cX0_rootDigits 27 = .ok (.iload 6, 2) := by decide +kernel
theorem dX0_rootDigits_29 : decode cX0_rootDigits 29 = .ok (.imul, 1) := by decide +kernel
theorem dX0_rootDigits_30 : decode cX0_rootDigits 30 = .ok (.ishr, 1) := by decide +kernel
theorem dX0_rootDigits_31 : decode cX0_rootDigits 31 = .ok (.iconst 3, 1) := by decide +kernel
theorem dX0_rootDigits_32 : decode cX0_rootDigits 32 = .ok (.iand, 1) := by decide +kernel
theorem dX0_rootDigits_33 : decode cX0_rootDigits 33 = .ok (.goto 4, 3) := by decide +kernel
theorem dX0_rootDigits_36 : decode cX0_rootDigits 36 = .ok (.iconst 0, 1) := by decide +kernel
theorem dX0_rootDigits_37 : decode cX0_rootDigits 37 = .ok (.i2l, 1) := by decide +kernel
theorem dX0_rootDigits_38 : decode cX0_rootDigits 38 = .ok (.ladd, 1) := by decide +kernel
theorem dX0_rootDigits_39 : decode cX0_rootDigits 39 = .ok (.lstore 4, 2) := by decide +kernel
theorem dX0_rootDigits_41 : decode cX0_rootDigits 41 = .ok (.lload_n 2, 1) := by decide +kernel
theorem dX0_rootDigits_42 : decode cX0_rootDigits 42 = .ok (.iconst 2, 1) := by decide +kernel
theorem dX0_rootDigits_43 : decode cX0_rootDigits 43 = .ok (.lshl, 1) := by decide +kernel
theorem dX0_rootDigits_44 : decode cX0_rootDigits 44 = .ok (.lconst 1, 1) := by decide +kernel
theorem dX0_rootDigits_45 : decode cX0_rootDigits 45 = .ok (.ladd, 1) := by decide +kernel
theorem dX0_rootDigits_46 : decode cX0_rootDigits 46 = .ok (.lstore 7, 2) := by decide +kernel
theorem dX0_rootDigits_48 : decode cX0_rootDigits 48 = .ok (.lload_n 2, 1) := by decide +kernel
theorem dX0_rootDigits_49 : decode cX0_rootDigits 49 = .ok (.iconst 1, 1) := by decide +kernel
theorem dX0_rootDigits_50 : decode cX0_rootDigits 50 = .ok (.lshl, 1) := by decide +kernel
theorem dX0_rootDigits_51 : decode cX0_rootDigits 51 = .ok (.lstore_n 2, 1) := by decide +kernel
theorem dX0_rootDigits_52 : decode cX0_rootDigits 52 = .ok (.lload 4, 2) := by decide +kernel
theorem dX0_rootDigits_54 : decode cX0_rootDigits 54 = .ok (.lload 7, 2) := by decide +kernel
theorem dX0_rootDigits_56 : decode cX0_rootDigits 56 = .ok (.lcmp, 1) := by decide +kernel
theorem dX0_rootDigits_57 : decode cX0_rootDigits 57 = .ok (.ifCond .lt 14, 3) := by decide +kernel
theorem dX0_rootDigits_60 : decode cX0_rootDigits 60 = .ok (.lload 4, 2) := by decide +kernel
theorem dX0_rootDigits_62 : decode cX0_rootDigits 62 = .ok (.lload 7, 2) := by decide +kernel
theorem dX0_rootDigits_64 : decode cX0_rootDigits 64 = .ok (.lsub, 1) := by decide +kernel
theorem dX0_rootDigits_65 : decode cX0_rootDigits 65 = .ok (.lstore 4, 2) := by decide +kernel
theorem dX0_rootDigits_67 : decode cX0_rootDigits 67 = .ok (.lload_n 2, 1) := by decide +kernel
theorem dX0_rootDigits_68 : decode cX0_rootDigits 68 = .ok (.lconst 1, 1) := by decide +kernel
theorem dX0_rootDigits_69 : decode cX0_rootDigits 69 = .ok (.ladd, 1) := by decide +kernel
theorem dX0_rootDigits_70 : decode cX0_rootDigits 70 = .ok (.lstore_n 2, 1) := by decide +kernel
theorem dX0_rootDigits_71 : decode cX0_rootDigits 71 = .ok (.iinc 6 (-1), 3) := by decide +kernel
theorem dX0_rootDigits_74 : decode cX0_rootDigits 74 = .ok (.goto (-65), 3) := by decide +kernel
theorem dX0_rootDigits_77 : decode cX0_rootDigits 77 = .ok (.lload_n 2, 1) := by decide +kernel
theorem dX0_rootDigits_78 : decode cX0_rootDigits 78 = .ok (.lreturn, 1) := by decide +kernel
theorem dX0_bitsOfRoot_0 : decode cX0_bitsOfRoot 0 = .ok (.iload_n 0, 1) := by decide +kernel
theorem dX0_bitsOfRoot_1 : decode cX0_bitsOfRoot 1 = .ok (.ifCond .gt 5, 3) := by decide +kernel
theorem dX0_bitsOfRoot_4 : decode cX0_bitsOfRoot 4 = .ok (.lconst 0, 1) := by decide +kernel
theorem dX0_bitsOfRoot_5 : decode cX0_bitsOfRoot 5 = .ok (.lreturn, 1) := by decide +kernel
theorem dX0_bitsOfRoot_6 : decode cX0_bitsOfRoot 6 = .ok (.iload_n 0, 1) := by decide +kernel
theorem dX0_bitsOfRoot_7 : decode cX0_bitsOfRoot 7 = .ok (.invokestatic 225, 3) := by decide +kernel
theorem dX0_bitsOfRoot_10 : decode cX0_bitsOfRoot 10 = .ok (.istore_n 1, 1) := by decide +kernel
theorem dX0_bitsOfRoot_11 : decode cX0_bitsOfRoot 11 = .ok (.iload_n 0, 1) := by decide +kernel
theorem dX0_bitsOfRoot_12 : decode cX0_bitsOfRoot 12 = .ok (.bipush 53, 2) := by decide +kernel
theorem dX0_bitsOfRoot_14 : decode cX0_bitsOfRoot 14 = .ok (.iload_n 1, 1) := by decide +kernel
theorem dX0_bitsOfRoot_15 : decode cX0_bitsOfRoot 15 = .ok (.isub, 1) := by decide +kernel
theorem dX0_bitsOfRoot_16 : decode cX0_bitsOfRoot 16 = .ok (.invokestatic 221, 3) := by decide +kernel
theorem dX0_bitsOfRoot_19 : decode cX0_bitsOfRoot 19 = .ok (.lconst 1, 1) := by decide +kernel
theorem dX0_bitsOfRoot_20 : decode cX0_bitsOfRoot 20 = .ok (.ladd, 1) := by decide +kernel
theorem dX0_bitsOfRoot_21 : decode cX0_bitsOfRoot 21 = .ok (.iconst 1, 1) := by decide +kernel
theorem dX0_bitsOfRoot_22 : decode cX0_bitsOfRoot 22 = .ok (.lshr, 1) := by decide +kernel
theorem dX0_bitsOfRoot_23 : decode cX0_bitsOfRoot 23 = .ok (.lstore_n 2, 1) := by decide +kernel
theorem dX0_bitsOfRoot_24 : decode cX0_bitsOfRoot 24 = .ok (.sipush 1023, 3) := by decide +kernel
theorem dX0_bitsOfRoot_27 : decode cX0_bitsOfRoot 27 = .ok (.iload_n 1, 1) := by decide +kernel
theorem dX0_bitsOfRoot_28 : decode cX0_bitsOfRoot 28 = .ok (.iadd, 1) := by decide +kernel
theorem dX0_bitsOfRoot_29 : decode cX0_bitsOfRoot 29 = .ok (.iconst 2, 1) := by decide +kernel
theorem dX0_bitsOfRoot_30 : decode cX0_bitsOfRoot 30 = .ok (.isub, 1) := by decide +kernel
theorem dX0_bitsOfRoot_31 : decode cX0_bitsOfRoot 31 = .ok (.i2l, 1) := by decide +kernel
theorem dX0_bitsOfRoot_32 : decode cX0_bitsOfRoot 32 = .ok (.lstore 4, 2) := by decide +kernel
theorem dX0_bitsOfRoot_34 : decode cX0_bitsOfRoot 34 = .ok (.lload 4, 2) := by decide +kernel
theorem dX0_bitsOfRoot_36 : decode cX0_bitsOfRoot 36 = .ok (.bipush 52, 2) := by decide +kernel
theorem dX0_bitsOfRoot_38 : decode cX0_bitsOfRoot 38 = .ok (.lshl, 1) := by decide +kernel
theorem dX0_bitsOfRoot_39 : decode cX0_bitsOfRoot 39 = .ok (.lload_n 2, 1) := by decide +kernel
theorem dX0_bitsOfRoot_40 : decode cX0_bitsOfRoot 40 = .ok (.ldc2_w 228, 3) := by decide +kernel
theorem dX0_bitsOfRoot_43 : decode cX0_bitsOfRoot 43 = .ok (.lsub, 1) := by decide +kernel
theorem dX0_bitsOfRoot_44 : decode cX0_bitsOfRoot 44 = .ok (.ladd, 1) := by decide +kernel
theorem dX0_bitsOfRoot_45 : decode cX0_bitsOfRoot 45 = .ok (.lreturn, 1) := by decide +kernel
theorem dX0_highestPair_0 : decode cX0_highestPair 0 = .ok (.bipush 9, 2) := by decide +kernel
theorem dX0_highestPair_2 : decode cX0_highestPair 2 = .ok (.istore_n 1, 1) := by decide +kernel
theorem dX0_highestPair_3 : decode cX0_highestPair 3 = .ok (.iload_n 1, 1) := by decide +kernel
theorem dX0_highestPair_4 : decode cX0_highestPair 4 = .ok (.ifCond .le 17, 3) := by decide +kernel
theorem dX0_highestPair_7 : decode cX0_highestPair 7 = .ok (.iload_n 0, 1) := by decide +kernel
theorem dX0_highestPair_8 : decode cX0_highestPair 8 = .ok (.iconst 2, 1) := by decide +kernel
theorem dX0_highestPair_9 : decode cX0_highestPair 9 = .ok (.iload_n 1, 1) := by decide +kernel
theorem dX0_highestPair_10 : decode cX0_highestPair 10 = .ok (.imul, 1) := by decide +kernel
theorem dX0_highestPair_11 : decode cX0_highestPair 11 = .ok (.ishr, 1) := by decide +kernel
theorem dX0_highestPair_12 : decode cX0_highestPair 12 = .ok (.ifCond .ne 9, 3) := by decide +kernel
theorem dX0_highestPair_15 : decode cX0_highestPair 15 = .ok (.iinc 1 (-1), 3) := by decide +kernel
theorem dX0_highestPair_18 : decode cX0_highestPair 18 = .ok (.goto (-15), 3) := by decide +kernel
theorem dX0_highestPair_21 : decode cX0_highestPair 21 = .ok (.iload_n 1, 1) := by decide +kernel
theorem dX0_highestPair_22 : decode cX0_highestPair 22 = .ok (.ireturn, 1) := by decide +kernel
theorem dX0_unitsOf_0 : decode cX0_unitsOf 0 = .ok (.lload_n 0, 1) := by decide +kernel
theorem dX0_unitsOf_1 : decode cX0_unitsOf 1 = .ok (.ldc2_w 230, 3) := by decide +kernel
theorem dX0_unitsOf_4 : decode cX0_unitsOf 4 = .ok (.land, 1) := by decide +kernel
theorem dX0_unitsOf_5 : decode cX0_unitsOf 5 = .ok (.ldc2_w 228, 3) := by decide +kernel
theorem dX0_unitsOf_8 : decode cX0_unitsOf 8 = .ok (.lor, 1) := by decide +kernel
theorem dX0_unitsOf_9 : decode cX0_unitsOf 9 = .ok (.lreturn, 1) := by decide +kernel
theorem dX0_placesAfterPoint_0 : decode cX0_placesAfterPoint 0 = .ok (.sipush 1075, 3) := by decide +kernel
theorem dX0_placesAfterPoint_3 : decode cX0_placesAfterPoint 3 = .ok (.lload_n 0, 1) := by decide +kernel
theorem dX0_placesAfterPoint_4 : decode cX0_placesAfterPoint 4 = .ok (.bipush 52, 2) := by decide +kernel
theorem dX0_placesAfterPoint_6 : decode cX0_placesAfterPoint 6 = .ok (.lushr, 1) := by decide +kernel
theorem dX0_placesAfterPoint_7 : decode cX0_placesAfterPoint 7 = .ok (.l2i, 1) := by decide +kernel
theorem dX0_placesAfterPoint_8 : decode cX0_placesAfterPoint 8 = .ok (.isub, 1) := by decide +kernel
theorem dX0_placesAfterPoint_9 : decode cX0_placesAfterPoint 9 = .ok (.ireturn, 1) := by decide +kernel
theorem dX0_twice_0 : decode cX0_twice 0 = .ok (.lload_n 0, 1) := by decide +kernel
theorem dX0_twice_1 : decode cX0_twice 1 = .ok (.lconst 0, 1) := by decide +kernel
theorem dX0_twice_2 : decode cX0_twice 2 = .ok (.lcmp, 1) := by decide +kernel
theorem dX0_twice_3 : decode cX0_twice 3 = .ok (.ifCond .ne 7, 3) := by decide +kernel
theorem dX0_twice_6 : decode cX0_twice 6 = .ok (.lconst 0, 1) := by decide +kernel
theorem dX0_twice_7 : decode cX0_twice 7 = .ok (.goto 8, 3) := by decide +kernel
theorem dX0_twice_10 : decode cX0_twice 10 = .ok (.lload_n 0, 1) := by decide +kernel
theorem dX0_twice_11 : decode cX0_twice 11 = .ok (.ldc2_w 228, 3) := by decide +kernel
theorem dX0_twice_14 : decode cX0_twice 14 = .ok (.ladd, 1) := by decide +kernel
theorem dX0_twice_15 : decode cX0_twice 15 = .ok (.lreturn, 1) := by decide +kernel
theorem dX0_doubleOf_0 : decode cX0_doubleOf 0 = .ok (.lload_n 0, 1) := by decide +kernel
theorem dX0_doubleOf_1 : decode cX0_doubleOf 1 = .ok (.lconst 0, 1) := by decide +kernel
theorem dX0_doubleOf_2 : decode cX0_doubleOf 2 = .ok (.lcmp, 1) := by decide +kernel
theorem dX0_doubleOf_3 : decode cX0_doubleOf 3 = .ok (.ifCond .ne 5, 3) := by decide +kernel
theorem dX0_doubleOf_6 : decode cX0_doubleOf 6 = .ok (.dconst 0, 1) := by decide +kernel
theorem dX0_doubleOf_7 : decode cX0_doubleOf 7 = .ok (.dreturn, 1) := by decide +kernel
theorem dX0_doubleOf_8 : decode cX0_doubleOf 8 = .ok (.lconst 1, 1) := by decide +kernel
theorem dX0_doubleOf_9 : decode cX0_doubleOf 9 = .ok (.lload_n 0, 1) := by decide +kernel
theorem dX0_doubleOf_10 : decode cX0_doubleOf 10 = .ok (.invokestatic 99, 3) := by decide +kernel
theorem dX0_doubleOf_13 : decode cX0_doubleOf 13 = .ok (.lshl, 1) := by decide +kernel
theorem dX0_doubleOf_14 : decode cX0_doubleOf 14 = .ok (.l2d, 1) := by decide +kernel
theorem dX0_doubleOf_15 : decode cX0_doubleOf 15 = .ok (.dstore_n 2, 1) := by decide +kernel
theorem dX0_doubleOf_16 : decode cX0_doubleOf 16 = .ok (.dload_n 2, 1) := by decide +kernel
theorem dX0_doubleOf_17 : decode cX0_doubleOf 17 = .ok (.dconst 1, 1) := by decide +kernel
theorem dX0_doubleOf_18 : decode cX0_doubleOf 18 = .ok (.dcmp .l, 1) := by decide +kernel
theorem dX0_doubleOf_19 : decode cX0_doubleOf 19 = .ok (.ifCond .lt 13, 3) := by decide +kernel
theorem dX0_doubleOf_22 : decode cX0_doubleOf 22 = .ok (.lload_n 0, 1) := by decide +kernel
theorem dX0_doubleOf_23 : decode cX0_doubleOf 23 = .ok (.invokestatic 96, 3) := by decide +kernel
theorem dX0_doubleOf_26 : decode cX0_doubleOf 26 = .ok (.l2d, 1) := by decide +kernel
theorem dX0_doubleOf_27 : decode cX0_doubleOf 27 = .ok (.dload_n 2, 1) := by decide +kernel
theorem dX0_doubleOf_28 : decode cX0_doubleOf 28 = .ok (.ddiv, 1) := by decide +kernel
theorem dX0_doubleOf_29 : decode cX0_doubleOf 29 = .ok (.goto 4, 3) := by decide +kernel
theorem dX0_doubleOf_32 : decode cX0_doubleOf 32 = .ok (.dconst 0, 1) := by decide +kernel
theorem dX0_doubleOf_33 : decode cX0_doubleOf 33 = .ok (.dreturn, 1) := by decide +kernel
theorem dX0_compareSquare_0 : decode cX0_compareSquare 0 = .ok (.lload_n 0, 1) := by decide +kernel
theorem dX0_compareSquare_1 : decode cX0_compareSquare 1 = .ok (.bipush 27, 2) := by decide +kernel
theorem dX0_compareSquare_3 : decode cX0_compareSquare 3 = .ok (.lshr, 1) := by decide +kernel
theorem dX0_compareSquare_4 : decode cX0_compareSquare 4 = .ok (.lstore 4, 2) := by decide +kernel
theorem dX0_compareSquare_6 : decode cX0_compareSquare 6 = .ok (.lload_n 0, 1) := by decide +kernel
theorem dX0_compareSquare_7 : decode cX0_compareSquare 7 = .ok (.ldc2_w 232, 3) := by decide +kernel
theorem dX0_compareSquare_10 : decode cX0_compareSquare 10 = .ok (.land, 1) := by decide +kernel
theorem dX0_compareSquare_11 : decode cX0_compareSquare 11 = .ok (.lstore 6, 2) := by decide +kernel
theorem dX0_compareSquare_13 : decode cX0_compareSquare 13 = .ok (.ldc2_w 133, 3) := by decide +kernel
theorem dX0_compareSquare_16 : decode cX0_compareSquare 16 = .ok (.lload 4, 2) := by decide +kernel
theorem dX0_compareSquare_18 : decode cX0_compareSquare 18 = .ok (.lmul, 1) := by decide +kernel
theorem dX0_compareSquare_19 : decode cX0_compareSquare 19 = .ok (.lload 6, 2) := by decide +kernel
theorem dX0_compareSquare_21 : decode cX0_compareSquare 21 = .ok (.lmul, 1) := by decide +kernel
theorem dX0_compareSquare_22 : decode cX0_compareSquare 22 = .ok (.lstore 8, 2) := by decide +kernel
theorem dX0_compareSquare_24 : decode cX0_compareSquare 24 = .ok (.lload 6, 2) := by decide +kernel
theorem dX0_compareSquare_26 : decode cX0_compareSquare 26 = .ok (.lload 6, 2) := by decide +kernel
theorem dX0_compareSquare_28 : decode cX0_compareSquare 28 = .ok (.lmul, 1) := by decide +kernel
theorem dX0_compareSquare_29 : decode cX0_compareSquare 29 = .ok (.lload 8, 2) := by decide +kernel
theorem dX0_compareSquare_31 : decode cX0_compareSquare 31 = .ok (.ldc2_w 232, 3) := by decide +kernel
theorem dX0_compareSquare_34 : decode cX0_compareSquare 34 = .ok (.land, 1) := by decide +kernel
theorem dX0_compareSquare_35 : decode cX0_compareSquare 35 = .ok (.bipush 27, 2) := by decide +kernel
theorem dX0_compareSquare_37 : decode cX0_compareSquare 37 = .ok (.lshl, 1) := by decide +kernel
theorem dX0_compareSquare_38 : decode cX0_compareSquare 38 = .ok (.ladd, 1) := by decide +kernel
theorem dX0_compareSquare_39 : decode cX0_compareSquare 39 = .ok (.lstore 10, 2) := by decide +kernel
theorem dX0_compareSquare_41 : decode cX0_compareSquare 41 = .ok (.lload 4, 2) := by decide +kernel
theorem dX0_compareSquare_43 : decode cX0_compareSquare 43 = .ok (.lload 4, 2) := by decide +kernel
theorem dX0_compareSquare_45 : decode cX0_compareSquare 45 = .ok (.lmul, 1) := by decide +kernel
theorem dX0_compareSquare_46 : decode cX0_compareSquare 46 = .ok (.lload 8, 2) := by decide +kernel
theorem dX0_compareSquare_48 : decode cX0_compareSquare 48 = .ok (.bipush 27, 2) := by decide +kernel
theorem dX0_compareSquare_50 : decode cX0_compareSquare 50 = .ok (.lshr, 1) := by decide +kernel
theorem dX0_compareSquare_51 : decode cX0_compareSquare 51 = .ok (.ladd, 1) := by decide +kernel
theorem dX0_compareSquare_52 : decode cX0_compareSquare 52 = .ok (.lload 10, 2) := by decide +kernel
theorem dX0_compareSquare_54 : decode cX0_compareSquare 54 = .ok (.bipush 54, 2) := by decide +kernel
theorem dX0_compareSquare_56 : decode cX0_compareSquare 56 = .ok (.lshr, 1) := by decide +kernel
theorem dX0_compareSquare_57 : decode cX0_compareSquare 57 = .ok (.ladd, 1) := by decide +kernel
theorem dX0_compareSquare_58 : decode cX0_compareSquare 58 = .ok (.lstore 12, 2) := by decide +kernel
theorem dX0_compareSquare_60 : decode cX0_compareSquare 60 = .ok (.lload 10, 2) := by decide +kernel
theorem dX0_compareSquare_62 : decode cX0_compareSquare 62 = .ok (.ldc2_w 234, 3) := by decide +kernel
theorem dX0_compareSquare_65 : decode cX0_compareSquare 65 = .ok (.land, 1) := by decide +kernel
theorem dX0_compareSquare_66 : decode cX0_compareSquare 66 = .ok (.lconst 0, 1) := by decide +kernel
theorem dX0_compareSquare_67 : decode cX0_compareSquare 67 = .ok (.lcmp, 1) := by decide +kernel
theorem dX0_compareSquare_68 : decode cX0_compareSquare 68 = .ok (.ifCond .eq 7, 3) := by decide +kernel
theorem dX0_compareSquare_71 : decode cX0_compareSquare 71 = .ok (.iconst 1, 1) := by decide +kernel
theorem dX0_compareSquare_72 : decode cX0_compareSquare 72 = .ok (.goto 4, 3) := by decide +kernel
theorem dX0_compareSquare_75 : decode cX0_compareSquare 75 = .ok (.iconst 0, 1) := by decide +kernel
theorem dX0_compareSquare_76 : decode cX0_compareSquare 76 = .ok (.istore 14, 2) := by decide +kernel
theorem dX0_compareSquare_78 : decode cX0_compareSquare 78 = .ok (.iload_n 3, 1) := by decide +kernel
theorem dX0_compareSquare_79 : decode cX0_compareSquare 79 = .ok (.i2l, 1) := by decide +kernel
theorem dX0_compareSquare_80 : decode cX0_compareSquare 80 = .ok (.iconst 2, 1) := by decide +kernel
theorem dX0_compareSquare_81 : decode cX0_compareSquare 81 = .ok (.iload_n 2, 1) := by decide +kernel
theorem dX0_compareSquare_82 : decode cX0_compareSquare 82 = .ok (.imul, 1) := by decide +kernel
theorem dX0_compareSquare_83 : decode cX0_compareSquare 83 = .ok (.iconst 4, 1) := by decide +kernel
theorem dX0_compareSquare_84 : decode cX0_compareSquare 84 = .ok (.isub, 1) := by decide +kernel
theorem dX0_compareSquare_85 : decode cX0_compareSquare 85 = .ok (.bipush 54, 2) := by decide +kernel
theorem dX0_compareSquare_87 : decode cX0_compareSquare 87 = .ok (.isub, 1) := by decide +kernel
theorem dX0_compareSquare_88 : decode cX0_compareSquare 88 = .ok (.lshl, 1) := by decide +kernel
theorem dX0_compareSquare_89 : decode cX0_compareSquare 89 = .ok (.lstore 15, 2) := by decide +kernel
theorem dX0_compareSquare_91 : decode cX0_compareSquare 91 = .ok (.lload 12, 2) := by decide +kernel
theorem dX0_compareSquare_93 : decode cX0_compareSquare 93 = .ok (.lload 15, 2) := by decide +kernel
theorem dX0_compareSquare_95 : decode cX0_compareSquare 95 = .ok (.lcmp, 1) := by decide +kernel
theorem dX0_compareSquare_96 : decode cX0_compareSquare 96 = .ok (.ifCond .eq 17, 3) := by decide +kernel
theorem dX0_compareSquare_99 : decode cX0_compareSquare 99 = .ok (.lload 12, 2) := by decide +kernel
theorem dX0_compareSquare_101 : decode cX0_compareSquare 101 = .ok (.lload 15, 2) := by decide +kernel
theorem dX0_compareSquare_103 : decode cX0_compareSquare 103 = .ok (.lcmp, 1) := by decide +kernel
theorem dX0_compareSquare_104 : decode cX0_compareSquare 104 = .ok (.ifCond .ge 7, 3) := by decide +kernel
theorem dX0_compareSquare_107 : decode cX0_compareSquare 107 = .ok (.iconst (-1), 1) := by decide +kernel
theorem dX0_compareSquare_108 : decode cX0_compareSquare 108 = .ok (.goto 4, 3) := by decide +kernel
theorem dX0_compareSquare_111 : decode cX0_compareSquare 111 = .ok (.iconst 1, 1) := by decide +kernel
theorem dX0_compareSquare_112 : decode cX0_compareSquare 112 = .ok (.ireturn, 1) := by decide +kernel
theorem dX0_compareSquare_113 : decode cX0_compareSquare 113 = .ok (.iload 14, 2) := by decide +kernel
theorem dX0_compareSquare_115 : decode cX0_compareSquare 115 = .ok (.ifCond .eq 7, 3) := by decide +kernel
theorem dX0_compareSquare_118 : decode cX0_compareSquare 118 = .ok (.iconst 1, 1) := by decide +kernel
theorem dX0_compareSquare_119 : decode cX0_compareSquare 119 = .ok (.goto 4, 3) := by decide +kernel
theorem dX0_compareSquare_122 : decode cX0_compareSquare 122 = .ok (.iconst 0, 1) := by decide +kernel
theorem dX0_compareSquare_123 : decode cX0_compareSquare 123 = .ok (.ireturn, 1) := by decide +kernel
