theorem dX1_init_0 : decode cX1_init 0 = .ok (.aload_n 0, 1) := by decide +kernel
theorem dX1_init_1 : decode cX1_init 1 = .ok (.invokespecial 1, 3) := by decide +kernel
theorem dX1_init_4 : decode cX1_init 4 = .ok (.aload_n 0, 1) := by decide +kernel
theorem dX1_init_5 : decode cX1_init 5 = .ok (.bipush 12, 2) := by decide +kernel
theorem dX1_init_7 : decode cX1_init 7 = .ok (.newarray .boolean, 2) := by decide +kernel
theorem dX1_init_9 : decode cX1_init 9 = .ok (.putfield 7, 3) := by decide +kernel
theorem dX1_init_12 : decode cX1_init 12 = .ok (.aload_n 0, 1) := by decide +kernel
theorem dX1_init_13 : decode cX1_init 13 = .ok (.bipush 12, 2) := by decide +kernel
theorem dX1_init_15 : decode cX1_init 15 = .ok (.newarray .int, 2) := by decide +kernel
theorem dX1_init_17 : decode cX1_init 17 = .ok (.putfield 13, 3) := by decide +kernel
theorem dX1_init_20 : decode cX1_init 20 = .ok (.aload_n 0, 1) := by decide +kernel
theorem dX1_init_21 : decode cX1_init 21 = .ok (.bipush 12, 2) := by decide +kernel
theorem dX1_init_23 : decode cX1_init 23 = .ok (.newarray .int, 2) := by decide +kernel
theorem dX1_init_25 : decode cX1_init 25 = .ok (.putfield 17, 3) := by decide +kernel
theorem dX1_init_28 : decode cX1_init 28 = .ok (.aload_n 0, 1) := by decide +kernel
theorem dX1_init_29 : decode cX1_init 29 = .ok (.bipush 12, 2) := by decide +kernel
theorem dX1_init_31 : decode cX1_init 31 = .ok (.newarray .int, 2) := by decide +kernel
theorem dX1_init_33 : decode cX1_init 33 = .ok (.putfield 20, 3) := by decide +kernel
theorem dX1_init_36 : decode cX1_init 36 = .ok (.aload_n 0, 1) := by decide +kernel
theorem dX1_init_37 : decode cX1_init 37 = .ok (.iconst 0, 1) := by decide +kernel
theorem dX1_init_38 : decode cX1_init 38 = .ok (.putfield 23, 3) := by decide +kernel
theorem dX1_init_41 : decode cX1_init 41 = .ok (.return_, 1) := by decide +kernel
theorem dX1_thrown_0 : decode cX1_thrown 0 = .ok (.aload_n 0, 1) := by decide +kernel
theorem dX1_thrown_1 : decode cX1_thrown 1 = .ok (.getfield 23, 3) := by decide +kernel
theorem dX1_thrown_4 : decode cX1_thrown 4 = .ok (.ireturn, 1) := by decide +kernel
theorem dX1_isThrown_0 : decode cX1_isThrown 0 = .ok (.aload_n 0, 1) := by decide +kernel
theorem dX1_isThrown_1 : decode cX1_isThrown 1 = .ok (.iload_n 1, 1) := by decide +kernel
theorem dX1_isThrown_2 : decode cX1_isThrown 2 = .ok (.ifCond .eq 7, 3) := by decide +kernel
theorem dX1_isThrown_5 : decode cX1_isThrown 5 = .ok (.iload_n 2, 1) := by decide +kernel
theorem dX1_isThrown_6 : decode cX1_isThrown 6 = .ok (.goto 4, 3) := by decide +kernel
theorem dX1_isThrown_9 : decode cX1_isThrown 9 = .ok (.iconst 0, 1) := by decide +kernel
theorem dX1_isThrown_10 : decode cX1_isThrown 10 = .ok (.putfield 23, 3) := by decide +kernel
theorem dX1_isThrown_13 : decode cX1_isThrown 13 = .ok (.iload_n 1, 1) := by decide +kernel
theorem dX1_isThrown_14 : decode cX1_isThrown 14 = .ok (.ireturn, 1) := by decide +kernel
theorem dX1_lies_0 : decode cX1_lies 0 = .ok (.iload_n 1, 1) := by decide +kernel
theorem dX1_lies_1 : decode cX1_lies 1 = .ok (.iload_n 0, 1) := by decide +kernel
theorem dX1_lies_2 : decode cX1_lies 2 = .ok (.if_icmp .gt 12, 3) := by decide +kernel
theorem dX1_lies_5 : decode cX1_lies 5 = .ok (.iload_n 0, 1) := by decide +kernel
theorem dX1_lies_6 : decode cX1_lies 6 = .ok (.iload_n 2, 1) := by decide +kernel
theorem dX1_lies_7 : decode cX1_lies 7 = .ok (.if_icmp .gt 7, 3) := by decide +kernel
theorem dX1_lies_10 : decode cX1_lies 10 = .ok (.iconst 1, 1) := by decide +kernel
theorem dX1_lies_11 : decode cX1_lies 11 = .ok (.goto 4, 3) := by decide +kernel
theorem dX1_lies_14 : decode cX1_lies 14 = .ok (.iconst 0, 1) := by decide +kernel
theorem dX1_lies_15 : decode cX1_lies 15 = .ok (.ireturn, 1) := by decide +kernel
theorem dX1_isNoNumber_0 : decode cX1_isNoNumber 0 = .ok (.aload_n 0, 1) := by decide +kernel
theorem dX1_isNoNumber_1 : decode cX1_isNoNumber 1 = .ok (.iload_n 1, 1) := by decide +kernel
theorem dX1_isNoNumber_2 : decode cX1_isNoNumber 2 = .ok (.iconst 0, 1) := by decide +kernel
theorem dX1_isNoNumber_3 : decode cX1_isNoNumber 3 = .ok (.bipush 11, 2) := by decide +kernel
theorem dX1_isNoNumber_5 : decode cX1_isNoNumber 5 = .ok (.invokestatic 27, 3) := by decide +kernel
theorem dX1_isNoNumber_8 : decode cX1_isNoNumber 8 = .ok (.ifCond .ne 7, 3) := by decide +kernel
theorem dX1_isNoNumber_11 : decode cX1_isNoNumber 11 = .ok (.iconst 1, 1) := by decide +kernel
theorem dX1_isNoNumber_12 : decode cX1_isNoNumber 12 = .ok (.goto 4, 3) := by decide +kernel
theorem dX1_isNoNumber_15 : decode cX1_isNoNumber 15 = .ok (.iconst 0, 1) := by decide +kernel
theorem dX1_isNoNumber_16 : decode cX1_isNoNumber 16 = .ok (.iconst 1, 1) := by decide +kernel
theorem dX1_isNoNumber_17 : decode cX1_isNoNumber 17 = .ok (.invokevirtual 31, 3) := by decide +kernel
theorem dX1_isNoNumber_20 : decode cX1_isNoNumber 20 = .ok (.ireturn, 1) := by decide +kernel
theorem dX1_isNoPeg_0 : decode cX1_isNoPeg 0 = .ok (.aload_n 0, 1) := by decide +kernel
theorem dX1_isNoPeg_1 : decode cX1_isNoPeg 1 = .ok (.iload_n 1, 1) := by decide +kernel
theorem dX1_isNoPeg_2 : decode cX1_isNoPeg 2 = .ok (.invokevirtual 35, 3) := by decide +kernel
theorem dX1_isNoPeg_5 : decode cX1_isNoPeg 5 = .ok (.ifCond .ne 25, 3) := by decide +kernel
theorem dX1_isNoPeg_8 : decode cX1_isNoPeg 8 = .ok (.aload_n 0, 1) := by decide +kernel
theorem dX1_isNoPeg_9 : decode cX1_isNoPeg 9 = .ok (.aload_n 0, 1) := by decide +kernel
theorem dX1_isNoPeg_10 : decode cX1_isNoPeg 10 = .ok (.getfield 7, 3) := by decide +kernel
theorem dX1_isNoPeg_13 : decode cX1_isNoPeg 13 = .ok (.iload_n 1, 1) := by decide +kernel
theorem dX1_isNoPeg_14 : decode cX1_isNoPeg 14 = .ok (.baload, 1) := by decide +kernel
theorem dX1_isNoPeg_15 : decode cX1_isNoPeg 15 = .ok (.ifCond .ne 7, 3) := by decide +kernel
theorem dX1_isNoPeg_18 : decode cX1_isNoPeg 18 = .ok (.iconst 1, 1) := by decide +kernel
theorem dX1_isNoPeg_19 : decode cX1_isNoPeg 19 = .ok (.goto 4, 3) := by decide +kernel
theorem dX1_isNoPeg_22 : decode cX1_isNoPeg 22 = .ok (.iconst 0, 1) := by decide +kernel
theorem dX1_isNoPeg_23 : decode cX1_isNoPeg 23 = .ok (.iconst 2, 1) := by decide +kernel
theorem dX1_isNoPeg_24 : decode cX1_isNoPeg 24 = .ok (.invokevirtual 31, 3) := by decide +kernel
theorem dX1_isNoPeg_27 : decode cX1_isNoPeg 27 = .ok (.ifCond .eq 7, 3) := by decide +kernel
theorem dX1_isNoPeg_30 : decode cX1_isNoPeg 30 = .ok (.iconst 1, 1) := by decide +kernel
theorem dX1_isNoPeg_31 : decode cX1_isNoPeg 31 = .ok (.goto 4, 3) := by decide +kernel
theorem dX1_isNoPeg_34 : decode cX1_isNoPeg 34 = .ok (.iconst 0, 1) := by decide +kernel
theorem dX1_isNoPeg_35 : decode cX1_isNoPeg 35 = .ok (.ireturn, 1) := by decide +kernel
theorem dX1_isNoPair_0 : decode cX1_isNoPair 0 = .ok (.aload_n 0, 1) := by decide +kernel
theorem dX1_isNoPair_1 : decode cX1_isNoPair 1 = .ok (.iload_n 1, 1) := by decide +kernel
theorem dX1_isNoPair_2 : decode cX1_isNoPair 2 = .ok (.invokevirtual 35, 3) := by decide +kernel
theorem dX1_isNoPair_5 : decode cX1_isNoPair 5 = .ok (.ifCond .ne 42, 3) := by decide +kernel
theorem dX1_isNoPair_8 : decode cX1_isNoPair 8 = .ok (.aload_n 0, 1) := by decide +kernel
theorem dX1_isNoPair_9 : decode cX1_isNoPair 9 = .ok (.iload_n 2, 1) := by decide +kernel
theorem dX1_isNoPair_10 : decode cX1_isNoPair 10 = .ok (.invokevirtual 35, 3) := by decide +kernel
theorem dX1_isNoPair_13 : decode cX1_isNoPair 13 = .ok (.ifCond .ne 34, 3) := by decide +kernel
theorem dX1_isNoPair_16 : decode cX1_isNoPair 16 = .ok (.aload_n 0, 1) := by decide +kernel
theorem dX1_isNoPair_17 : decode cX1_isNoPair 17 = .ok (.aload_n 0, 1) := by decide +kernel
theorem dX1_isNoPair_18 : decode cX1_isNoPair 18 = .ok (.getfield 7, 3) := by decide +kernel
theorem dX1_isNoPair_21 : decode cX1_isNoPair 21 = .ok (.iload_n 1, 1) := by decide +kernel
theorem dX1_isNoPair_22 : decode cX1_isNoPair 22 = .ok (.baload, 1) := by decide +kernel
theorem dX1_isNoPair_23 : decode cX1_isNoPair 23 = .ok (.ifCond .eq 12, 3) := by decide +kernel
theorem dX1_isNoPair_26 : decode cX1_isNoPair 26 = .ok (.aload_n 0, 1) := by decide +kernel
theorem dX1_isNoPair_27 : decode cX1_isNoPair 27 = .ok (.getfield 7, 3) := by decide +kernel
theorem dX1_isNoPair_30 : decode cX1_isNoPair 30 = .ok (.iload_n 2, 1) := by decide +kernel
theorem dX1_isNoPair_31 : decode cX1_isNoPair 31 = .ok (.baload, 1) := by decide +kernel
theorem dX1_isNoPair_32 : decode cX1_isNoPair 32 = .ok (.ifCond .ne 7, 3) := by decide +kernel
theorem dX1_isNoPair_35 : decode cX1_isNoPair 35 = .ok (.iconst 1, 1) := by decide +kernel
theorem dX1_isNoPair_36 : decode cX1_isNoPair 36 = .ok (.goto 4, 3) := by decide +kernel
theorem dX1_isNoPair_39 : decode cX1_isNoPair 39 = .ok (.iconst 0, 1) := by decide +kernel
theorem dX1_isNoPair_40 : decode cX1_isNoPair 40 = .ok (.iconst 2, 1) := by decide +kernel
theorem dX1_isNoPair_41 : decode cX1_isNoPair 41 = .ok (.invokevirtual 31, 3) := by decide +kernel
theorem dX1_isNoPair_44 : decode cX1_isNoPair 44 = .ok (.ifCond .eq 7, 3) := by decide +kernel
theorem dX1_isNoPair_47 : decode cX1_isNoPair 47 = .ok (.iconst 1, 1) := by decide +kernel
theorem dX1_isNoPair_48 : decode cX1_isNoPair 48 = .ok (.goto 4, 3) := by decide +kernel
theorem dX1_isNoPair_51 : decode cX1_isNoPair 51 = .ok (.iconst 0, 1) := by decide +kernel
theorem dX1_isNoPair_52 : decode cX1_isNoPair 52 = .ok (.ireturn, 1) := by decide +kernel
theorem dX1_isNoAsked_0 : decode cX1_isNoAsked 0 = .ok (.aload_n 0, 1) := by decide +kernel
theorem dX1_isNoAsked_1 : decode cX1_isNoAsked 1 = .ok (.iload_n 1, 1) := by decide +kernel
theorem dX1_isNoAsked_2 : decode cX1_isNoAsked 2 = .ok (.iconst 0, 1) := by decide +kernel
theorem dX1_isNoAsked_3 : decode cX1_isNoAsked 3 = .ok (.sipush 32767, 3) := by decide +kernel
theorem dX1_isNoAsked_6 : decode cX1_isNoAsked 6 = .ok (.invokestatic 27, 3) := by decide +kernel
theorem dX1_isNoAsked_9 : decode cX1_isNoAsked 9 = .ok (.ifCond .ne 7, 3) := by decide +kernel
theorem dX1_isNoAsked_12 : decode cX1_isNoAsked 12 = .ok (.iconst 1, 1) := by decide +kernel
theorem dX1_isNoAsked_13 : decode cX1_isNoAsked 13 = .ok (.goto 4, 3) := by decide +kernel
theorem dX1_isNoAsked_16 : decode cX1_isNoAsked 16 = .ok (.iconst 0, 1) := by decide +kernel
theorem dX1_isNoAsked_17 : decode cX1_isNoAsked 17 = .ok (.iload_n 2, 1) := by decide +kernel
theorem dX1_isNoAsked_18 : decode cX1_isNoAsked 18 = .ok (.invokevirtual 31, 3) := by decide +kernel
theorem dX1_isNoAsked_21 : decode cX1_isNoAsked 21 = .ok (.ireturn, 1) := by decide +kernel
theorem dX1_rooted_0 : decode cX1_rooted 0 = .ok (.lconst 0, 1) := by decide +kernel
theorem dX1_rooted_1 : decode cX1_rooted 1 = .ok (.lstore_n 2, 1) := by decide +kernel
theorem dX1_rooted_2 : decode cX1_rooted 2 = .ok (.lconst 0, 1) := by decide +kernel
theorem dX1_rooted_3 : decode cX1_rooted 3 = .ok (.lstore 4, 2) := by decide +kernel
theorem dX1_rooted_5 : decode cX1_rooted 5 = .ok (.bipush 7, 2) := by decide +kernel
theorem dX1_rooted_7 : decode cX1_rooted 7 = .ok (.istore 6, 2) := by decide +kernel
theorem dX1_rooted_9 : decode cX1_rooted 9 = .ok (.iload 6, 2) := by decide +kernel
theorem dX1_rooted_11 : decode cX1_rooted 11 = .ok (.iload_n 1, 1) := by decide +kernel
theorem dX1_rooted_12 : decode cX1_rooted 12 = .ok (.ineg, 1) := by decide +kernel
theorem dX1_rooted_13 : decode cX1_rooted 13 = .ok (.if_icmp .lt 74, 3) := by decide +kernel
theorem dX1_rooted_16 : decode cX1_rooted 16 = .ok (.iload 6, 2) := by decide +kernel
theorem dX1_rooted_18 : decode cX1_rooted 18 = .ok (.ifCond .lt 14, 3) := by decide +kernel
theorem dX1_rooted_21 : decode cX1_rooted 21 = .ok (.iload_n 0, 1) := by decide +kernel
theorem dX1_rooted_22 : decode cX1_rooted 22 = .ok (.iconst 2, 1) := by decide +kernel
theorem dX1_rooted_23 : decode cX1_rooted 23 = .ok (.iload 6, 2) := by decide +kernel
theorem dX1_rooted_25 : decode cX1_rooted 25 = .ok (.imul, 1) := by decide +kernel
theorem dX1_rooted_26 : decode cX1_rooted 26 = .ok (.ishr, 1) := by decide +kernel
theorem dX1_rooted_27 : decode cX1_rooted 27 = .ok (.iconst 3, 1) := by decide +kernel
theorem dX1_rooted_28 : decode cX1_rooted 28 = .ok (.iand, 1) := by decide +kernel
theorem dX1_rooted_29 : decode cX1_rooted 29 = .ok (.goto 4, 3) := by decide +kernel
theorem dX1_rooted_32 : decode cX1_rooted 32 = .ok (.iconst 0, 1) := by decide +kernel
theorem dX1_rooted_33 : decode cX1_rooted 33 = .ok (.istore 7, 2) := by decide +kernel
theorem dX1_rooted_35 : decode cX1_rooted 35 = .ok (.ldc2_w 39, 3) := by decide +kernel
theorem dX1_rooted_38 : decode cX1_rooted 38 = .ok (.lload 4, 2) := by decide +kernel
theorem dX1_rooted_40 : decode cX1_rooted 40 = .ok (.lmul, 1) := by decide +kernel
theorem dX1_rooted_41 : decode cX1_rooted 41 = .ok (.iload 7, 2) := by decide +kernel
theorem dX1_rooted_43 : decode cX1_rooted 43 = .ok (.i2l, 1) := by decide +kernel
theorem dX1_rooted_44 : decode cX1_rooted 44 = .ok (.ladd, 1) := by decide +kernel
theorem dX1_rooted_45 : decode cX1_rooted 45 = .ok (.lstore 4, 2) := by decide +kernel
theorem dX1_rooted_47 : decode cX1_rooted 47 = .ok (.ldc2_w 39, 3) := by decide +kernel
theorem dX1_rooted_50 : decode cX1_rooted 50 = .ok (.lload_n 2, 1) := by decide +kernel
theorem dX1_rooted_51 : decode cX1_rooted 51 = .ok (.lmul, 1) := by decide +kernel
theorem dX1_rooted_52 : decode cX1_rooted 52 = .ok (.lconst 1, 1) := by decide +kernel
theorem dX1_rooted_53 : decode cX1_rooted 53 = .ok (.ladd, 1) := by decide +kernel
theorem dX1_rooted_54 : decode cX1_rooted 54 = .ok (.lstore 8, 2) := by decide +kernel
theorem dX1_rooted_56 : decode cX1_rooted 56 = .ok (.ldc2_w 41, 3) := by decide +kernel
theorem dX1_rooted_59 : decode cX1_rooted 59 = .ok (.lload_n 2, 1) := by decide +kernel
theorem dX1_rooted_60 : decode cX1_rooted 60 = .ok (.lmul, 1) := by decide +kernel
theorem dX1_rooted_61 : decode cX1_rooted 61 = .ok (.lstore_n 2, 1) := by decide +kernel
theorem dX1_rooted_62 : decode cX1_rooted 62 = .ok (.lload 4, 2) := by decide +kernel
theorem dX1_rooted_64 : decode cX1_rooted 64 = .ok (.lload 8, 2) := by decide +kernel
theorem dX1_rooted_66 : decode cX1_rooted 66 = .ok (.lcmp, 1) := by decide +kernel
theorem dX1_rooted_67 : decode cX1_rooted 67 = .ok (.ifCond .lt 14, 3) := by decide +kernel
theorem dX1_rooted_70 : decode cX1_rooted 70 = .ok (.lload 4, 2) := by decide +kernel
theorem dX1_rooted_72 : decode cX1_rooted 72 = .ok (.lload 8, 2) := by decide +kernel
theorem dX1_rooted_74 : decode cX1_rooted 74 = .ok (.lsub, 1) := by decide +kernel
theorem dX1_rooted_75 : decode cX1_rooted 75 = .ok (.lstore 4, 2) := by decide +kernel
theorem dX1_rooted_77 : decode cX1_rooted 77 = .ok (.lload_n 2, 1) := by decide +kernel
theorem dX1_rooted_78 : decode cX1_rooted 78 = .ok (.lconst 1, 1) := by decide +kernel
theorem dX1_rooted_79 : decode cX1_rooted 79 = .ok (.ladd, 1) := by decide +kernel
theorem dX1_rooted_80 : decode cX1_rooted 80 = .ok (.lstore_n 2, 1) := by decide +kernel
theorem dX1_rooted_81 : decode cX1_rooted 81 = .ok (.iinc 6 (-1), 3) := by decide +kernel
theorem dX1_rooted_84 : decode cX1_rooted 84 = .ok (.goto (-75), 3) := by decide +kernel
theorem dX1_rooted_87 : decode cX1_rooted 87 = .ok (.lload_n 2, 1) := by decide +kernel
theorem dX1_rooted_88 : decode cX1_rooted 88 = .ok (.lreturn, 1) := by decide +kernel
theorem dX1_near_0 : decode cX1_near 0 = .ok (.iload_n 0, 1) := by decide +kernel
theorem dX1_near_1 : decode cX1_near 1 = .ok (.iload_n 1, 1) := by decide +kernel
theorem dX1_near_2 : decode cX1_near 2 = .ok (.iconst 1, 1) := by decide +kernel
theorem dX1_near_3 : decode cX1_near 3 = .ok (.iadd, 1) := by decide +kernel
theorem dX1_near_4 : decode cX1_near 4 = .ok (.invokestatic 43, 3) := by decide +kernel
theorem dX1_near_7 : decode cX1_near 7 = .ok (.lconst 1, 1) := by decide +kernel
theorem dX1_near_8 : decode cX1_near 8 = .ok (.ladd, 1) := by decide +kernel
theorem dX1_near_9 : decode cX1_near 9 = .ok (.ldc2_w 41, 3) := by decide +kernel
theorem dX1_near_12 : decode cX1_near 12 = .ok (.ldiv, 1) := by decide +kernel
theorem dX1_near_13 : decode cX1_near 13 = .ok (.lreturn, 1) := by decide +kernel
theorem dX1_powerOf_0 : decode cX1_powerOf 0 = .ok (.iload_n 0, 1) := by decide +kernel
theorem dX1_powerOf_1 : decode cX1_powerOf 1 = .ok (.iconst 0, 1) := by decide +kernel
theorem dX1_powerOf_2 : decode cX1_powerOf 2 = .ok (.invokestatic 43, 3) := by decide +kernel
theorem dX1_powerOf_5 : decode cX1_powerOf 5 = .ok (.lstore_n 1, 1) := by decide +kernel
theorem dX1_powerOf_6 : decode cX1_powerOf 6 = .ok (.iconst 0, 1) := by decide +kernel
theorem dX1_powerOf_7 : decode cX1_powerOf 7 = .ok (.istore_n 3, 1) := by decide +kernel
theorem dX1_powerOf_8 : decode cX1_powerOf 8 = .ok (.lload_n 1, 1) := by decide +kernel
theorem dX1_powerOf_9 : decode cX1_powerOf 9 = .ok (.iload_n 3, 1) := by decide +kernel
theorem dX1_powerOf_10 : decode cX1_powerOf 10 = .ok (.iconst 1, 1) := by decide +kernel
theorem dX1_powerOf_11 : decode cX1_powerOf 11 = .ok (.iadd, 1) := by decide +kernel
theorem dX1_powerOf_12 : decode cX1_powerOf 12 = .ok (.lshr, 1) := by decide +kernel
theorem dX1_powerOf_13 : decode cX1_powerOf 13 = .ok (.lconst 0, 1) := by decide +kernel
theorem dX1_powerOf_14 : decode cX1_powerOf 14 = .ok (.lcmp, 1) := by decide +kernel
theorem dX1_powerOf_15 : decode cX1_powerOf 15 = .ok (.ifCond .le 9, 3) := by decide +kernel
theorem dX1_powerOf_18 : decode cX1_powerOf 18 = .ok (.iinc 3 1, 3) := by decide +kernel
theorem dX1_powerOf_21 : decode cX1_powerOf 21 = .ok (.goto (-13), 3) := by decide +kernel
theorem dX1_powerOf_24 : decode cX1_powerOf 24 = .ok (.iload_n 3, 1) := by decide +kernel
theorem dX1_powerOf_25 : decode cX1_powerOf 25 = .ok (.ireturn, 1) := by decide +kernel
theorem dX1_bitsOf_0 : decode cX1_bitsOf 0 = .ok (.iload_n 0, 1) := by decide +kernel
theorem dX1_bitsOf_1 : decode cX1_bitsOf 1 = .ok (.ifCond .ne 5, 3) := by decide +kernel
theorem dX1_bitsOf_4 : decode cX1_bitsOf 4 = .ok (.lconst 0, 1) := by decide +kernel
theorem dX1_bitsOf_5 : decode cX1_bitsOf 5 = .ok (.lreturn, 1) := by decide +kernel
theorem dX1_bitsOf_6 : decode cX1_bitsOf 6 = .ok (.iload_n 0, 1) := by decide +kernel
theorem dX1_bitsOf_7 : decode cX1_bitsOf 7 = .ok (.invokestatic 47, 3) := by decide +kernel
theorem dX1_bitsOf_10 : decode cX1_bitsOf 10 = .ok (.istore_n 2, 1) := by decide +kernel
theorem dX1_bitsOf_11 : decode cX1_bitsOf 11 = .ok (.iload_n 2, 1) := by decide +kernel
theorem dX1_bitsOf_12 : decode cX1_bitsOf 12 = .ok (.i2l, 1) := by decide +kernel
theorem dX1_bitsOf_13 : decode cX1_bitsOf 13 = .ok (.iload_n 1, 1) := by decide +kernel
theorem dX1_bitsOf_14 : decode cX1_bitsOf 14 = .ok (.ifCond .eq 9, 3) := by decide +kernel
theorem dX1_bitsOf_17 : decode cX1_bitsOf 17 = .ok (.ldc2_w 51, 3) := by decide +kernel
theorem dX1_bitsOf_20 : decode cX1_bitsOf 20 = .ok (.goto 6, 3) := by decide +kernel
theorem dX1_bitsOf_23 : decode cX1_bitsOf 23 = .ok (.ldc2_w 53, 3) := by decide +kernel
theorem dX1_bitsOf_26 : decode cX1_bitsOf 26 = .ok (.ladd, 1) := by decide +kernel
theorem dX1_bitsOf_27 : decode cX1_bitsOf 27 = .ok (.lstore_n 3, 1) := by decide +kernel
theorem dX1_bitsOf_28 : decode cX1_bitsOf 28 = .ok (.lload_n 3, 1) := by decide +kernel
theorem dX1_bitsOf_29 : decode cX1_bitsOf 29 = .ok (.bipush 52, 2) := by decide +kernel
theorem dX1_bitsOf_31 : decode cX1_bitsOf 31 = .ok (.lshl, 1) := by decide +kernel
theorem dX1_bitsOf_32 : decode cX1_bitsOf 32 = .ok (.iload_n 0, 1) := by decide +kernel
theorem dX1_bitsOf_33 : decode cX1_bitsOf 33 = .ok (.bipush 52, 2) := by decide +kernel
theorem dX1_bitsOf_35 : decode cX1_bitsOf 35 = .ok (.iload_n 2, 1) := by decide +kernel
theorem dX1_bitsOf_36 : decode cX1_bitsOf 36 = .ok (.isub, 1) := by decide +kernel
theorem dX1_bitsOf_37 : decode cX1_bitsOf 37 = .ok (.invokestatic 55, 3) := by decide +kernel
theorem dX1_bitsOf_40 : decode cX1_bitsOf 40 = .ok (.ladd, 1) := by decide +kernel
theorem dX1_bitsOf_41 : decode cX1_bitsOf 41 = .ok (.ldc2_w 58, 3) := by decide +kernel
theorem dX1_bitsOf_44 : decode cX1_bitsOf 44 = .ok (.lsub, 1) := by decide +kernel
theorem dX1_bitsOf_45 : decode cX1_bitsOf 45 = .ok (.lreturn, 1) := by decide +kernel
theorem dX1_rootGrainsOf_0 : decode cX1_rootGrainsOf 0 = .ok (.iload_n 0, 1) := by decide +kernel
theorem dX1_rootGrainsOf_1 : decode cX1_rootGrainsOf 1 = .ok (.iload_n 1, 1) := by decide +kernel
theorem dX1_rootGrainsOf_2 : decode cX1_rootGrainsOf 2 = .ok (.ifCond .eq 8, 3) := by decide +kernel
theorem dX1_rootGrainsOf_5 : decode cX1_rootGrainsOf 5 = .ok (.bipush 15, 2) := by decide +kernel
theorem dX1_rootGrainsOf_7 : decode cX1_rootGrainsOf 7 = .ok (.goto 5, 3) := by decide +kernel
theorem dX1_rootGrainsOf_10 : decode cX1_rootGrainsOf 10 = .ok (.bipush 16, 2) := by decide +kernel
theorem dX1_rootGrainsOf_12 : decode cX1_rootGrainsOf 12 = .ok (.invokestatic 55, 3) := by decide +kernel
theorem dX1_rootGrainsOf_15 : decode cX1_rootGrainsOf 15 = .ok (.l2i, 1) := by decide +kernel
theorem dX1_rootGrainsOf_16 : decode cX1_rootGrainsOf 16 = .ok (.ireturn, 1) := by decide +kernel
theorem dX1_wholeOf_0 : decode cX1_wholeOf 0 = .ok (.iload_n 1, 1) := by decide +kernel
theorem dX1_wholeOf_1 : decode cX1_wholeOf 1 = .ok (.ifCond .eq 9, 3) := by decide +kernel
theorem dX1_wholeOf_4 : decode cX1_wholeOf 4 = .ok (.iload_n 0, 1) := by decide +kernel
theorem dX1_wholeOf_5 : decode cX1_wholeOf 5 = .ok (.iconst 4, 1) := by decide +kernel
theorem dX1_wholeOf_6 : decode cX1_wholeOf 6 = .ok (.idiv, 1) := by decide +kernel
theorem dX1_wholeOf_7 : decode cX1_wholeOf 7 = .ok (.goto 4, 3) := by decide +kernel
theorem dX1_wholeOf_10 : decode cX1_wholeOf 10 = .ok (.iload_n 0, 1) := by decide +kernel
theorem dX1_wholeOf_11 : decode cX1_wholeOf 11 = .ok (.iconst 0, 1) := by decide +kernel
theorem dX1_wholeOf_12 : decode cX1_wholeOf 12 = .ok (.invokestatic 43, 3) := by decide +kernel
theorem dX1_wholeOf_15 : decode cX1_wholeOf 15 = .ok (.l2i, 1) := by decide +kernel
theorem dX1_wholeOf_16 : decode cX1_wholeOf 16 = .ok (.ireturn, 1) := by decide +kernel
theorem dX1_put_0 : decode cX1_put 0 = .ok (.aload_n 0, 1) := by decide +kernel
theorem dX1_put_1 : decode cX1_put 1 = .ok (.iload_n 1, 1) := by decide +kernel
theorem dX1_put_2 : decode cX1_put 2 = .ok (.invokevirtual 35, 3) := by decide +kernel
theorem dX1_put_5 : decode cX1_put 5 = .ok (.ifCond .ne 36, 3) := by decide +kernel
theorem dX1_put_8 : decode cX1_put 8 = .ok (.aload_n 0, 1) := by decide +kernel
theorem dX1_put_9 : decode cX1_put 9 = .ok (.iload_n 2, 1) := by decide +kernel
theorem dX1_put_10 : decode cX1_put 10 = .ok (.iconst 0, 1) := by decide +kernel
theorem dX1_put_11 : decode cX1_put 11 = .ok (.bipush 90, 2) := by decide +kernel
theorem dX1_put_13 : decode cX1_put 13 = .ok (.invokestatic 27, 3) := by decide +kernel
theorem dX1_put_16 : decode cX1_put 16 = .ok (.ifCond .eq 13, 3) := by decide +kernel
theorem dX1_put_19 : decode cX1_put 19 = .ok (.iload_n 3, 1) := by decide +kernel
theorem dX1_put_20 : decode cX1_put 20 = .ok (.iconst 0, 1) := by decide +kernel
theorem dX1_put_21 : decode cX1_put 21 = .ok (.bipush 90, 2) := by decide +kernel
theorem dX1_put_23 : decode cX1_put 23 = .ok (.invokestatic 27, 3) := by decide +kernel
theorem dX1_put_26 : decode cX1_put 26 = .ok (.ifCond .ne 7, 3) := by decide +kernel
theorem dX1_put_29 : decode cX1_put 29 = .ok (.iconst 1, 1) := by decide +kernel
theorem dX1_put_30 : decode cX1_put 30 = .ok (.goto 4, 3) := by decide +kernel
theorem dX1_put_33 : decode cX1_put 33 = .ok (.iconst 0, 1) := by decide +kernel
theorem dX1_put_34 : decode cX1_put 34 = .ok (.iconst 2, 1) := by decide +kernel
theorem dX1_put_35 : decode cX1_put 35 = .ok (.invokevirtual 31, 3) := by decide +kernel
theorem dX1_put_38 : decode cX1_put 38 = .ok (.ifCond .eq 5, 3) := by decide +kernel
theorem dX1_put_41 : decode cX1_put 41 = .ok (.iconst 0, 1) := by decide +kernel
theorem dX1_put_42 : decode cX1_put 42 = .ok (.ireturn, 1) := by decide +kernel
theorem dX1_put_43 : decode cX1_put 43 = .ok (.aload_n 0, 1) := by decide +kernel
theorem dX1_put_44 : decode cX1_put 44 = .ok (.getfield 7, 3) := by decide +kernel
theorem dX1_put_47 : decode cX1_put 47 = .ok (.iload_n 1, 1) := by decide +kernel
theorem dX1_put_48 : decode cX1_put 48 = .ok (.baload, 1) := by decide +kernel
theorem dX1_put_49 : decode cX1_put 49 = .ok (.ifCond .ne 7, 3) := by decide +kernel
theorem dX1_put_52 : decode cX1_put 52 = .ok (.iconst 1, 1) := by decide +kernel
theorem dX1_put_53 : decode cX1_put 53 = .ok (.goto 4, 3) := by decide +kernel
theorem dX1_put_56 : decode cX1_put 56 = .ok (.iconst 0, 1) := by decide +kernel
theorem dX1_put_57 : decode cX1_put 57 = .ok (.istore 4, 2) := by decide +kernel
theorem dX1_put_59 : decode cX1_put 59 = .ok (.aload_n 0, 1) := by decide +kernel
theorem dX1_put_60 : decode cX1_put 60 = .ok (.getfield 7, 3) := by decide +kernel
theorem dX1_put_63 : decode cX1_put 63 = .ok (.iload_n 1, 1) := by decide +kernel
theorem dX1_put_64 : decode cX1_put 64 = .ok (.iconst 1, 1) := by decide +kernel
theorem dX1_put_65 : decode cX1_put 65 = .ok (.bastore, 1) := by decide +kernel
theorem dX1_put_66 : decode cX1_put 66 = .ok (.aload_n 0, 1) := by decide +kernel
theorem dX1_put_67 : decode cX1_put 67 = .ok (.getfield 13, 3) := by decide +kernel
theorem dX1_put_70 : decode cX1_put 70 = .ok (.iload_n 1, 1) := by decide +kernel
theorem dX1_put_71 : decode cX1_put 71 = .ok (.iload_n 2, 1) := by decide +kernel
theorem dX1_put_72 : decode cX1_put 72 = .ok (.iastore, 1) := by decide +kernel
theorem dX1_put_73 : decode cX1_put 73 = .ok (.aload_n 0, 1) := by decide +kernel
theorem dX1_put_74 : decode cX1_put 74 = .ok (.getfield 17, 3) := by decide +kernel
theorem dX1_put_77 : decode cX1_put 77 = .ok (.iload_n 1, 1) := by decide +kernel
theorem dX1_put_78 : decode cX1_put 78 = .ok (.iload_n 3, 1) := by decide +kernel
theorem dX1_put_79 : decode cX1_put 79 = .ok (.iastore, 1) := by decide +kernel
theorem dX1_put_80 : decode cX1_put 80 = .ok (.iload 4, 2) := by decide +kernel
theorem dX1_put_82 : decode cX1_put 82 = .ok (.ireturn, 1) := by decide +kernel
theorem dX1_isInRing_0 : decode cX1_isInRing 0 = .ok (.iconst 0, 1) := by decide +kernel
theorem dX1_isInRing_1 : decode cX1_isInRing 1 = .ok (.istore_n 2, 1) := by decide +kernel
theorem dX1_isInRing_2 : decode cX1_isInRing 2 = .ok (.iconst 0, 1) := by decide +kernel
theorem dX1_isInRing_3 : decode cX1_isInRing 3 = .ok (.istore_n 3, 1) := by decide +kernel
theorem dX1_isInRing_4 : decode cX1_isInRing 4 = .ok (.iload_n 3, 1) := by decide +kernel
theorem dX1_isInRing_5 : decode cX1_isInRing 5 = .ok (.aload_n 0, 1) := by decide +kernel
theorem dX1_isInRing_6 : decode cX1_isInRing 6 = .ok (.getfield 60, 3) := by decide +kernel
theorem dX1_isInRing_9 : decode cX1_isInRing 9 = .ok (.if_icmp .ge 29, 3) := by decide +kernel
theorem dX1_isInRing_12 : decode cX1_isInRing 12 = .ok (.iload_n 2, 1) := by decide +kernel
theorem dX1_isInRing_13 : decode cX1_isInRing 13 = .ok (.ifCond .ne 13, 3) := by decide +kernel
theorem dX1_isInRing_16 : decode cX1_isInRing 16 = .ok (.aload_n 0, 1) := by decide +kernel
theorem dX1_isInRing_17 : decode cX1_isInRing 17 = .ok (.getfield 20, 3) := by decide +kernel
theorem dX1_isInRing_20 : decode cX1_isInRing 20 = .ok (.iload_n 3, 1) := by decide +kernel
theorem dX1_isInRing_21 : decode cX1_isInRing 21 = .ok (.iaload, 1) := by decide +kernel
theorem dX1_isInRing_22 : decode cX1_isInRing 22 = .ok (.iload_n 1, 1) := by decide +kernel
theorem dX1_isInRing_23 : decode cX1_isInRing 23 = .ok (.if_icmp .ne 7, 3) := by decide +kernel
theorem dX1_isInRing_26 : decode cX1_isInRing 26 = .ok (.iconst 1, 1) := by decide +kernel
theorem dX1_isInRing_27 : decode cX1_isInRing 27 = .ok (.goto 4, 3) := by decide +kernel
theorem dX1_isInRing_30 : decode cX1_isInRing 30 = .ok (.iconst 0, 1) := by decide +kernel
theorem dX1_isInRing_31 : decode cX1_isInRing 31 = .ok (.istore_n 2, 1) := by decide +kernel
theorem dX1_isInRing_32 : decode cX1_isInRing 32 = .ok (.iinc 3 1, 3) := by decide +kernel
theorem dX1_isInRing_35 : decode cX1_isInRing 35 = .ok (.goto (-31), 3) := by decide +kernel
theorem dX1_isInRing_38 : decode cX1_isInRing 38 = .ok (.iload_n 2, 1) := by decide +kernel
theorem dX1_isInRing_39 : decode cX1_isInRing 39 = .ok (.ireturn, 1) := by decide +kernel
theorem dX1_take_0 : decode cX1_take 0 = .ok (.aload_n 0, 1) := by decide +kernel
theorem dX1_take_1 : decode cX1_take 1 = .ok (.iload_n 1, 1) := by decide +kernel
theorem dX1_take_2 : decode cX1_take 2 = .ok (.invokevirtual 63, 3) := by decide +kernel
theorem dX1_take_5 : decode cX1_take 5 = .ok (.ifCond .ne 23, 3) := by decide +kernel
theorem dX1_take_8 : decode cX1_take 8 = .ok (.aload_n 0, 1) := by decide +kernel
theorem dX1_take_9 : decode cX1_take 9 = .ok (.aload_n 0, 1) := by decide +kernel
theorem dX1_take_10 : decode cX1_take 10 = .ok (.iload_n 1, 1) := by decide +kernel
theorem dX1_take_11 : decode cX1_take 11 = .ok (.invokevirtual 66, 3) := by decide +kernel
theorem dX1_take_14 : decode cX1_take 14 = .ok (.iconst 3, 1) := by decide +kernel
theorem dX1_take_15 : decode cX1_take 15 = .ok (.invokevirtual 31, 3) := by decide +kernel
theorem dX1_take_18 : decode cX1_take 18 = .ok (.ifCond .ne 10, 3) := by decide +kernel
theorem dX1_take_21 : decode cX1_take 21 = .ok (.aload_n 0, 1) := by decide +kernel
theorem dX1_take_22 : decode cX1_take 22 = .ok (.getfield 7, 3) := by decide +kernel
theorem dX1_take_25 : decode cX1_take 25 = .ok (.iload_n 1, 1) := by decide +kernel
theorem dX1_take_26 : decode cX1_take 26 = .ok (.iconst 0, 1) := by decide +kernel
theorem dX1_take_27 : decode cX1_take 27 = .ok (.bastore, 1) := by decide +kernel
theorem dX1_take_28 : decode cX1_take 28 = .ok (.return_, 1) := by decide +kernel
theorem dX1_step_0 : decode cX1_step 0 = .ok (.aload_n 0, 1) := by decide +kernel
theorem dX1_step_1 : decode cX1_step 1 = .ok (.iload_n 1, 1) := by decide +kernel
theorem dX1_step_2 : decode cX1_step 2 = .ok (.invokevirtual 63, 3) := by decide +kernel
theorem dX1_step_5 : decode cX1_step 5 = .ok (.ifCond .ne 40, 3) := by decide +kernel
theorem dX1_step_8 : decode cX1_step 8 = .ok (.aload_n 0, 1) := by decide +kernel
theorem dX1_step_9 : decode cX1_step 9 = .ok (.iload_n 2, 1) := by decide +kernel
theorem dX1_step_10 : decode cX1_step 10 = .ok (.bipush 110, 2) := by decide +kernel
theorem dX1_step_12 : decode cX1_step 12 = .ok (.if_icmp .eq 25, 3) := by decide +kernel
theorem dX1_step_15 : decode cX1_step 15 = .ok (.iload_n 2, 1) := by decide +kernel
theorem dX1_step_16 : decode cX1_step 16 = .ok (.bipush 115, 2) := by decide +kernel
theorem dX1_step_18 : decode cX1_step 18 = .ok (.if_icmp .eq 19, 3) := by decide +kernel
theorem dX1_step_21 : decode cX1_step 21 = .ok (.iload_n 2, 1) := by decide +kernel
theorem dX1_step_22 : decode cX1_step 22 = .ok (.bipush 101, 2) := by decide +kernel
theorem dX1_step_24 : decode cX1_step 24 = .ok (.if_icmp .eq 13, 3) := by decide +kernel
theorem dX1_step_27 : decode cX1_step 27 = .ok (.iload_n 2, 1) := by decide +kernel
theorem dX1_step_28 : decode cX1_step 28 = .ok (.bipush 119, 2) := by decide +kernel
theorem dX1_step_30 : decode cX1_step 30 = .ok (.if_icmp .eq 7, 3) := by decide +kernel
theorem dX1_step_33 : decode cX1_step 33 = .ok (.iconst 1, 1) := by decide +kernel
theorem dX1_step_34 : decode cX1_step 34 = .ok (.goto 4, 3) := by decide +kernel
theorem dX1_step_37 : decode cX1_step 37 = .ok (.iconst 0, 1) := by decide +kernel
theorem dX1_step_38 : decode cX1_step 38 = .ok (.iconst 3, 1) := by decide +kernel
theorem dX1_step_39 : decode cX1_step 39 = .ok (.invokevirtual 31, 3) := by decide +kernel
theorem dX1_step_42 : decode cX1_step 42 = .ok (.ifCond .eq 5, 3) := by decide +kernel
theorem dX1_step_45 : decode cX1_step 45 = .ok (.iconst 0, 1) := by decide +kernel
theorem dX1_step_46 : decode cX1_step 46 = .ok (.ireturn, 1) := by decide +kernel
theorem dX1_step_47 : decode cX1_step 47 = .ok (.iload_n 2, 1) := by decide +kernel
theorem dX1_step_48 : decode cX1_step 48 = .ok (.bipush 101, 2) := by decide +kernel
theorem dX1_step_50 : decode cX1_step 50 = .ok (.if_icmp .ne 7, 3) := by decide +kernel
theorem dX1_step_53 : decode cX1_step 53 = .ok (.iconst 1, 1) := by decide +kernel
theorem dX1_step_54 : decode cX1_step 54 = .ok (.goto 14, 3) := by decide +kernel
theorem dX1_step_57 : decode cX1_step 57 = .ok (.iload_n 2, 1) := by decide +kernel
theorem dX1_step_58 : decode cX1_step 58 = .ok (.bipush 119, 2) := by decide +kernel
theorem dX1_step_60 : decode cX1_step 60 = .ok (.if_icmp .ne 7, 3) := by decide +kernel
theorem dX1_step_63 : decode cX1_step 63 = .ok (.iconst (-1), 1) := by decide +kernel
theorem dX1_step_64 : decode cX1_step 64 = .ok (.goto 4, 3) := by decide +kernel
theorem dX1_step_67 : decode cX1_step 67 = .ok (.iconst 0, 1) := by decide +kernel
theorem dX1_step_68 : decode cX1_step 68 = .ok (.istore_n 3, 1) := by decide +kernel
theorem dX1_step_69 : decode cX1_step 69 = .ok (.iload_n 2, 1) := by decide +kernel
theorem dX1_step_70 : decode cX1_step 70 = .ok (.bipush 110, 2) := by decide +kernel
theorem dX1_step_72 : decode cX1_step 72 = .ok (.if_icmp .ne 7, 3) := by decide +kernel
theorem dX1_step_75 : decode cX1_step 75 = .ok (.iconst 1, 1) := by decide +kernel
theorem dX1_step_76 : decode cX1_step 76 = .ok (.goto 14, 3) := by decide +kernel
theorem dX1_step_79 : decode cX1_step 79 = .ok (.iload_n 2, 1) := by decide +kernel
theorem dX1_step_80 : decode cX1_step 80 = .ok (.bipush 115, 2) := by decide +kernel
theorem dX1_step_82 : decode cX1_step 82 = .ok (.if_icmp .ne 7, 3) := by decide +kernel
theorem dX1_step_85 : decode cX1_step 85 = .ok (.iconst (-1), 1) := by decide +kernel
theorem dX1_step_86 : decode cX1_step 86 = .ok (.goto 4, 3) := by decide +kernel
theorem dX1_step_89 : decode cX1_step 89 = .ok (.iconst 0, 1) := by decide +kernel
theorem dX1_step_90 : decode cX1_step 90 = .ok (.istore 4, 2) := by decide +kernel
theorem dX1_step_92 : decode cX1_step 92 = .ok (.aload_n 0, 1) := by decide +kernel
theorem dX1_step_93 : decode cX1_step 93 = .ok (.getfield 13, 3) := by decide +kernel
theorem dX1_step_96 : decode cX1_step 96 = .ok (.iload_n 1, 1) := by decide +kernel
theorem dX1_step_97 : decode cX1_step 97 = .ok (.iaload, 1) := by decide +kernel
theorem dX1_step_98 : decode cX1_step 98 = .ok (.iload_n 3, 1) := by decide +kernel
theorem dX1_step_99 : decode cX1_step 99 = .ok (.iadd, 1) := by decide +kernel
theorem dX1_step_100 : decode cX1_step 100 = .ok (.iconst 0, 1) := by decide +kernel
theorem dX1_step_101 : decode cX1_step 101 = .ok (.bipush 90, 2) := by decide +kernel
theorem dX1_step_103 : decode cX1_step 103 = .ok (.invokestatic 27, 3) := by decide +kernel
theorem dX1_step_106 : decode cX1_step 106 = .ok (.ifCond .eq 21, 3) := by decide +kernel
theorem dX1_step_109 : decode cX1_step 109 = .ok (.aload_n 0, 1) := by decide +kernel
theorem dX1_step_110 : decode cX1_step 110 = .ok (.getfield 17, 3) := by decide +kernel
theorem dX1_step_113 : decode cX1_step 113 = .ok (.iload_n 1, 1) := by decide +kernel
theorem dX1_step_114 : decode cX1_step 114 = .ok (.iaload, 1) := by decide +kernel
theorem dX1_step_115 : decode cX1_step 115 = .ok (.iload 4, 2) := by decide +kernel
theorem dX1_step_117 : decode cX1_step 117 = .ok (.iadd, 1) := by decide +kernel
theorem dX1_step_118 : decode cX1_step 118 = .ok (.iconst 0, 1) := by decide +kernel
theorem dX1_step_119 : decode cX1_step 119 = .ok (.bipush 90, 2) := by decide +kernel
theorem dX1_step_121 : decode cX1_step 121 = .ok (.invokestatic 27, 3) := by decide +kernel
theorem dX1_step_124 : decode cX1_step 124 = .ok (.ifCond .ne 5, 3) := by decide +kernel
theorem dX1_step_127 : decode cX1_step 127 = .ok (.iconst 0, 1) := by decide +kernel
theorem dX1_step_128 : decode cX1_step 128 = .ok (.ireturn, 1) := by decide +kernel
theorem dX1_step_129 : decode cX1_step 129 = .ok (.aload_n 0, 1) := by decide +kernel
theorem dX1_step_130 : decode cX1_step 130 = .ok (.getfield 13, 3) := by decide +kernel
theorem dX1_step_133 : decode cX1_step 133 = .ok (.iload_n 1, 1) := by decide +kernel
theorem dX1_step_134 : decode cX1_step 134 = .ok (.dup2, 1) := by decide +kernel
theorem dX1_step_135 : decode cX1_step 135 = .ok (.iaload, 1) := by decide +kernel
theorem dX1_step_136 : decode cX1_step 136 = .ok (.iload_n 3, 1) := by decide +kernel
theorem dX1_step_137 : decode cX1_step 137 = .ok (.iadd, 1) := by decide +kernel
theorem dX1_step_138 : decode cX1_step 138 = .ok (.iastore, 1) := by decide +kernel
theorem dX1_step_139 : decode cX1_step 139 = .ok (.aload_n 0, 1) := by decide +kernel
theorem dX1_step_140 : decode cX1_step 140 = .ok (.getfield 17, 3) := by decide +kernel
theorem dX1_step_143 : decode cX1_step 143 = .ok (.iload_n 1, 1) := by decide +kernel
theorem dX1_step_144 : decode cX1_step 144 = .ok (.dup2, 1) := by decide +kernel
theorem dX1_step_145 : decode cX1_step 145 = .ok (.iaload, 1) := by decide +kernel
theorem dX1_step_146 : decode cX1_step 146 = .ok (.iload 4, 2) := by decide +kernel
theorem dX1_step_148 : decode cX1_step 148 = .ok (.iadd, 1) := by decide +kernel
theorem dX1_step_149 : decode cX1_step 149 = .ok (.iastore, 1) := by decide +kernel
theorem dX1_step_150 : decode cX1_step 150 = .ok (.iconst 1, 1) := by decide +kernel
theorem dX1_step_151 : decode cX1_step 151 = .ok (.ireturn, 1) := by decide +kernel
theorem dX1_isThere_0 : decode cX1_isThere 0 = .ok (.aload_n 0, 1) := by decide +kernel
theorem dX1_isThere_1 : decode cX1_isThere 1 = .ok (.iload_n 1, 1) := by decide +kernel
theorem dX1_isThere_2 : decode cX1_isThere 2 = .ok (.invokevirtual 35, 3) := by decide +kernel
theorem dX1_isThere_5 : decode cX1_isThere 5 = .ok (.ifCond .ne 16, 3) := by decide +kernel
theorem dX1_isThere_8 : decode cX1_isThere 8 = .ok (.aload_n 0, 1) := by decide +kernel
theorem dX1_isThere_9 : decode cX1_isThere 9 = .ok (.getfield 7, 3) := by decide +kernel
theorem dX1_isThere_12 : decode cX1_isThere 12 = .ok (.iload_n 1, 1) := by decide +kernel
theorem dX1_isThere_13 : decode cX1_isThere 13 = .ok (.baload, 1) := by decide +kernel
theorem dX1_isThere_14 : decode cX1_isThere 14 = .ok (.ifCond .eq 7, 3) := by decide +kernel
theorem dX1_isThere_17 : decode cX1_isThere 17 = .ok (.iconst 1, 1) := by decide +kernel
theorem dX1_isThere_18 : decode cX1_isThere 18 = .ok (.goto 4, 3) := by decide +kernel
theorem dX1_isThere_21 : decode cX1_isThere 21 = .ok (.iconst 0, 1) := by decide +kernel
theorem dX1_isThere_22 : decode cX1_isThere 22 = .ok (.ireturn, 1) := by decide +kernel
theorem dX1_placed_0 : decode cX1_placed 0 = .ok (.bipush 91, 2) := by decide +kernel
theorem dX1_placed_2 : decode cX1_placed 2 = .ok (.aload_n 0, 1) := by decide +kernel
theorem dX1_placed_3 : decode cX1_placed 3 = .ok (.getfield 17, 3) := by decide +kernel
theorem dX1_placed_6 : decode cX1_placed 6 = .ok (.iload_n 1, 1) := by decide +kernel
theorem dX1_placed_7 : decode cX1_placed 7 = .ok (.iaload, 1) := by decide +kernel
theorem dX1_placed_8 : decode cX1_placed 8 = .ok (.imul, 1) := by decide +kernel
theorem dX1_placed_9 : decode cX1_placed 9 = .ok (.aload_n 0, 1) := by decide +kernel
theorem dX1_placed_10 : decode cX1_placed 10 = .ok (.getfield 13, 3) := by decide +kernel
theorem dX1_placed_13 : decode cX1_placed 13 = .ok (.iload_n 1, 1) := by decide +kernel
theorem dX1_placed_14 : decode cX1_placed 14 = .ok (.iaload, 1) := by decide +kernel
theorem dX1_placed_15 : decode cX1_placed 15 = .ok (.iadd, 1) := by decide +kernel
theorem dX1_placed_16 : decode cX1_placed 16 = .ok (.ireturn, 1) := by decide +kernel
theorem dX1_placeOf_0 : decode cX1_placeOf 0 = .ok (.aload_n 0, 1) := by decide +kernel
theorem dX1_placeOf_1 : decode cX1_placeOf 1 = .ok (.iload_n 1, 1) := by decide +kernel
theorem dX1_placeOf_2 : decode cX1_placeOf 2 = .ok (.invokevirtual 63, 3) := by decide +kernel
theorem dX1_placeOf_5 : decode cX1_placeOf 5 = .ok (.ifCond .eq 7, 3) := by decide +kernel
theorem dX1_placeOf_8 : decode cX1_placeOf 8 = .ok (.iconst 0, 1) := by decide +kernel
theorem dX1_placeOf_9 : decode cX1_placeOf 9 = .ok (.goto 8, 3) := by decide +kernel
theorem dX1_placeOf_12 : decode cX1_placeOf 12 = .ok (.aload_n 0, 1) := by decide +kernel
theorem dX1_placeOf_13 : decode cX1_placeOf 13 = .ok (.iload_n 1, 1) := by decide +kernel
theorem dX1_placeOf_14 : decode cX1_placeOf 14 = .ok (.invokevirtual 69, 3) := by decide +kernel
theorem dX1_placeOf_17 : decode cX1_placeOf 17 = .ok (.ireturn, 1) := by decide +kernel
theorem dX1_count_0 : decode cX1_count 0 = .ok (.iconst 0, 1) := by decide +kernel
theorem dX1_count_1 : decode cX1_count 1 = .ok (.istore_n 1, 1) := by decide +kernel
theorem dX1_count_2 : decode cX1_count 2 = .ok (.iconst 0, 1) := by decide +kernel
theorem dX1_count_3 : decode cX1_count 3 = .ok (.istore_n 2, 1) := by decide +kernel
theorem dX1_count_4 : decode cX1_count 4 = .ok (.iload_n 2, 1) := by decide +kernel
theorem dX1_count_5 : decode cX1_count 5 = .ok (.bipush 12, 2) := by decide +kernel
theorem dX1_count_7 : decode cX1_count 7 = .ok (.if_icmp .ge 26, 3) := by decide +kernel
theorem dX1_count_10 : decode cX1_count 10 = .ok (.iload_n 1, 1) := by decide +kernel
theorem dX1_count_11 : decode cX1_count 11 = .ok (.aload_n 0, 1) := by decide +kernel
theorem dX1_count_12 : decode cX1_count 12 = .ok (.getfield 7, 3) := by decide +kernel
theorem dX1_count_15 : decode cX1_count 15 = .ok (.iload_n 2, 1) := by decide +kernel
theorem dX1_count_16 : decode cX1_count 16 = .ok (.baload, 1) := by decide +kernel
theorem dX1_count_17 : decode cX1_count 17 = .ok (.ifCond .eq 7, 3) := by decide +kernel
theorem dX1_count_20 : decode cX1_count 20 = .ok (.iconst 1, 1) := by decide +kernel
theorem dX1_count_21 : decode cX1_count 21 = .ok (.goto 4, 3) := by decide +kernel
theorem dX1_count_24 : decode cX1_count 24 = .ok (.iconst 0, 1) := by decide +kernel
theorem dX1_count_25 : decode cX1_count 25 = .ok (.iadd, 1) := by decide +kernel
theorem dX1_count_26 : decode cX1_count 26 = .ok (.istore_n 1, 1) := by decide +kernel
theorem dX1_count_27 : decode cX1_count 27 = .ok (.iinc 2 1, 3) := by decide +kernel
theorem dX1_count_30 : decode cX1_count 30 = .ok (.goto (-26), 3) := by decide +kernel
theorem dX1_count_33 : decode cX1_count 33 = .ok (.iload_n 1, 1) := by decide +kernel
theorem dX1_count_34 : decode cX1_count 34 = .ok (.ireturn, 1) := by decide +kernel
theorem dX1_widen_0 : decode cX1_widen 0 = .ok (.aload_n 0, 1) := by decide +kernel
theorem dX1_widen_1 : decode cX1_widen 1 = .ok (.getfield 72, 3) := by decide +kernel
theorem dX1_widen_4 : decode cX1_widen 4 = .ok (.istore_n 2, 1) := by decide +kernel
theorem dX1_widen_5 : decode cX1_widen 5 = .ok (.aload_n 0, 1) := by decide +kernel
theorem dX1_widen_6 : decode cX1_widen 6 = .ok (.iload_n 1, 1) := by decide +kernel
theorem dX1_widen_7 : decode cX1_widen 7 = .ok (.putfield 72, 3) := by decide +kernel
theorem dX1_widen_10 : decode cX1_widen 10 = .ok (.iload_n 2, 1) := by decide +kernel
theorem dX1_widen_11 : decode cX1_widen 11 = .ok (.iload_n 1, 1) := by decide +kernel
theorem dX1_widen_12 : decode cX1_widen 12 = .ok (.if_icmp .eq 7, 3) := by decide +kernel
theorem dX1_widen_15 : decode cX1_widen 15 = .ok (.iconst 1, 1) := by decide +kernel
theorem dX1_widen_16 : decode cX1_widen 16 = .ok (.goto 4, 3) := by decide +kernel
theorem dX1_widen_19 : decode cX1_widen 19 = .ok (.iconst 0, 1) := by decide +kernel
theorem dX1_widen_20 : decode cX1_widen 20 = .ok (.ireturn, 1) := by decide +kernel
theorem dX1_grainsOf_0 : decode cX1_grainsOf 0 = .ok (.aload_n 0, 1) := by decide +kernel
theorem dX1_grainsOf_1 : decode cX1_grainsOf 1 = .ok (.getfield 13, 3) := by decide +kernel
theorem dX1_grainsOf_4 : decode cX1_grainsOf 4 = .ok (.iload_n 2, 1) := by decide +kernel
theorem dX1_grainsOf_5 : decode cX1_grainsOf 5 = .ok (.iaload, 1) := by decide +kernel
theorem dX1_grainsOf_6 : decode cX1_grainsOf 6 = .ok (.aload_n 0, 1) := by decide +kernel
theorem dX1_grainsOf_7 : decode cX1_grainsOf 7 = .ok (.getfield 13, 3) := by decide +kernel
theorem dX1_grainsOf_10 : decode cX1_grainsOf 10 = .ok (.iload_n 1, 1) := by decide +kernel
theorem dX1_grainsOf_11 : decode cX1_grainsOf 11 = .ok (.iaload, 1) := by decide +kernel
theorem dX1_grainsOf_12 : decode cX1_grainsOf 12 = .ok (.isub, 1) := by decide +kernel
theorem dX1_grainsOf_13 : decode cX1_grainsOf 13 = .ok (.istore_n 3, 1) := by decide +kernel
theorem dX1_grainsOf_14 : decode cX1_grainsOf 14 = .ok (.aload_n 0, 1) := by decide +kernel
theorem dX1_grainsOf_15 : decode cX1_grainsOf 15 = .ok (.getfield 17, 3) := by decide +kernel
theorem dX1_grainsOf_18 : decode cX1_grainsOf 18 = .ok (.iload_n 2, 1) := by decide +kernel
theorem dX1_grainsOf_19 : decode cX1_grainsOf 19 = .ok (.iaload, 1) := by decide +kernel
theorem dX1_grainsOf_20 : decode cX1_grainsOf 20 = .ok (.aload_n 0, 1) := by decide +kernel
theorem dX1_grainsOf_21 : decode cX1_grainsOf 21 = .ok (.getfield 17, 3) := by decide +kernel
theorem dX1_grainsOf_24 : decode cX1_grainsOf 24 = .ok (.iload_n 1, 1) := by decide +kernel
theorem dX1_grainsOf_25 : decode cX1_grainsOf 25 = .ok (.iaload, 1) := by decide +kernel
theorem dX1_grainsOf_26 : decode cX1_grainsOf 26 = .ok (.isub, 1) := by decide +kernel
theorem dX1_grainsOf_27 : decode cX1_grainsOf 27 = .ok (.istore 4, 2) := by decide +kernel
theorem dX1_grainsOf_29 : decode cX1_grainsOf 29 = .ok (.iload_n 3, 1) := by decide +kernel
theorem dX1_grainsOf_30 : decode cX1_grainsOf 30 = .ok (.iload_n 3, 1) := by decide +kernel
theorem dX1_grainsOf_31 : decode cX1_grainsOf 31 = .ok (.imul, 1) := by decide +kernel
theorem dX1_grainsOf_32 : decode cX1_grainsOf 32 = .ok (.iload 4, 2) := by decide +kernel
theorem dX1_grainsOf_34 : decode cX1_grainsOf 34 = .ok (.iload 4, 2) := by decide +kernel
theorem dX1_grainsOf_36 : decode cX1_grainsOf 36 = .ok (.imul, 1) := by decide +kernel
theorem dX1_grainsOf_37 : decode cX1_grainsOf 37 = .ok (.iadd, 1) := by decide +kernel
theorem dX1_grainsOf_38 : decode cX1_grainsOf 38 = .ok (.aload_n 0, 1) := by decide +kernel
theorem dX1_grainsOf_39 : decode cX1_grainsOf 39 = .ok (.getfield 72, 3) := by decide +kernel
theorem dX1_grainsOf_42 : decode cX1_grainsOf 42 = .ok (.ifCond .eq 8, 3) := by decide +kernel
theorem dX1_grainsOf_45 : decode cX1_grainsOf 45 = .ok (.bipush 15, 2) := by decide +kernel
theorem dX1_grainsOf_47 : decode cX1_grainsOf 47 = .ok (.goto 5, 3) := by decide +kernel
theorem dX1_grainsOf_50 : decode cX1_grainsOf 50 = .ok (.bipush 14, 2) := by decide +kernel
theorem dX1_grainsOf_52 : decode cX1_grainsOf 52 = .ok (.invokestatic 55, 3) := by decide +kernel
theorem dX1_grainsOf_55 : decode cX1_grainsOf 55 = .ok (.l2i, 1) := by decide +kernel
theorem dX1_grainsOf_56 : decode cX1_grainsOf 56 = .ok (.ireturn, 1) := by decide +kernel
theorem dX1_stretch_0 : decode cX1_stretch 0 = .ok (.aload_n 0, 1) := by decide +kernel
theorem dX1_stretch_1 : decode cX1_stretch 1 = .ok (.iload_n 1, 1) := by decide +kernel
theorem dX1_stretch_2 : decode cX1_stretch 2 = .ok (.iload_n 2, 1) := by decide +kernel
theorem dX1_stretch_3 : decode cX1_stretch 3 = .ok (.invokevirtual 76, 3) := by decide +kernel
theorem dX1_stretch_6 : decode cX1_stretch 6 = .ok (.ifCond .eq 7, 3) := by decide +kernel
theorem dX1_stretch_9 : decode cX1_stretch 9 = .ok (.iconst 0, 1) := by decide +kernel
theorem dX1_stretch_10 : decode cX1_stretch 10 = .ok (.goto 9, 3) := by decide +kernel
theorem dX1_stretch_13 : decode cX1_stretch 13 = .ok (.aload_n 0, 1) := by decide +kernel
theorem dX1_stretch_14 : decode cX1_stretch 14 = .ok (.iload_n 1, 1) := by decide +kernel
theorem dX1_stretch_15 : decode cX1_stretch 15 = .ok (.iload_n 2, 1) := by decide +kernel
theorem dX1_stretch_16 : decode cX1_stretch 16 = .ok (.invokevirtual 80, 3) := by decide +kernel
theorem dX1_stretch_19 : decode cX1_stretch 19 = .ok (.ireturn, 1) := by decide +kernel
theorem dX1_isSteady_0 : decode cX1_isSteady 0 = .ok (.aload_n 0, 1) := by decide +kernel
theorem dX1_isSteady_1 : decode cX1_isSteady 1 = .ok (.iload_n 1, 1) := by decide +kernel
theorem dX1_isSteady_2 : decode cX1_isSteady 2 = .ok (.iload_n 2, 1) := by decide +kernel
theorem dX1_isSteady_3 : decode cX1_isSteady 3 = .ok (.invokevirtual 76, 3) := by decide +kernel
theorem dX1_isSteady_6 : decode cX1_isSteady 6 = .ok (.ifCond .ne 7, 3) := by decide +kernel
theorem dX1_isSteady_9 : decode cX1_isSteady 9 = .ok (.iconst 1, 1) := by decide +kernel
theorem dX1_isSteady_10 : decode cX1_isSteady 10 = .ok (.goto 4, 3) := by decide +kernel
theorem dX1_isSteady_13 : decode cX1_isSteady 13 = .ok (.iconst 0, 1) := by decide +kernel
theorem dX1_isSteady_14 : decode cX1_isSteady 14 = .ok (.ireturn, 1) := by decide +kernel
theorem dX1_isDoubled_0 : decode cX1_isDoubled 0 = .ok (.aload_n 0, 1) := by decide +kernel
theorem dX1_isDoubled_1 : decode cX1_isDoubled 1 = .ok (.iload_n 1, 1) := by decide +kernel
theorem dX1_isDoubled_2 : decode cX1_isDoubled 2 = .ok (.iload_n 2, 1) := by decide +kernel
theorem dX1_isDoubled_3 : decode cX1_isDoubled 3 = .ok (.invokevirtual 76, 3) := by decide +kernel
theorem dX1_isDoubled_6 : decode cX1_isDoubled 6 = .ok (.ifCond .ne 7, 3) := by decide +kernel
theorem dX1_isDoubled_9 : decode cX1_isDoubled 9 = .ok (.iconst 1, 1) := by decide +kernel
theorem dX1_isDoubled_10 : decode cX1_isDoubled 10 = .ok (.goto 4, 3) := by decide +kernel
theorem dX1_isDoubled_13 : decode cX1_isDoubled 13 = .ok (.iconst 0, 1) := by decide +kernel
theorem dX1_isDoubled_14 : decode cX1_isDoubled 14 = .ok (.ireturn, 1) := by decide +kernel
theorem dX1_isClose_0 : decode cX1_isClose 0 = .ok (.aload_n 0, 1) := by decide +kernel
theorem dX1_isClose_1 : decode cX1_isClose 1 = .ok (.iload_n 1, 1) := by decide +kernel
theorem dX1_isClose_2 : decode cX1_isClose 2 = .ok (.iload_n 2, 1) := by decide +kernel
theorem dX1_isClose_3 : decode cX1_isClose 3 = .ok (.invokevirtual 76, 3) := by decide +kernel
theorem dX1_isClose_6 : decode cX1_isClose 6 = .ok (.ifCond .ne 7, 3) := by decide +kernel
theorem dX1_isClose_9 : decode cX1_isClose 9 = .ok (.iconst 1, 1) := by decide +kernel
theorem dX1_isClose_10 : decode cX1_isClose 10 = .ok (.goto 4, 3) := by decide +kernel
theorem dX1_isClose_13 : decode cX1_isClose 13 = .ok (.iconst 0, 1) := by decide +kernel
theorem dX1_isClose_14 : decode cX1_isClose 14 = .ok (.ireturn, 1) := by decide +kernel
theorem dX1_isNoLonger_0 : decode cX1_isNoLonger 0 = .ok (.aload_n 0, 1) := by decide +kernel
theorem dX1_isNoLonger_1 : decode cX1_isNoLonger 1 = .ok (.iload_n 1, 1) := by decide +kernel
theorem dX1_isNoLonger_2 : decode cX1_isNoLonger 2 = .ok (.iload_n 3, 1) := by decide +kernel
theorem dX1_isNoLonger_3 : decode cX1_isNoLonger 3 = .ok (.invokevirtual 80, 3) := by decide +kernel
theorem dX1_isNoLonger_6 : decode cX1_isNoLonger 6 = .ok (.aload_n 0, 1) := by decide +kernel
theorem dX1_isNoLonger_7 : decode cX1_isNoLonger 7 = .ok (.iload_n 1, 1) := by decide +kernel
theorem dX1_isNoLonger_8 : decode cX1_isNoLonger 8 = .ok (.iload_n 2, 1) := by decide +kernel
theorem dX1_isNoLonger_9 : decode cX1_isNoLonger 9 = .ok (.invokevirtual 80, 3) := by decide +kernel
theorem dX1_isNoLonger_12 : decode cX1_isNoLonger 12 = .ok (.aload_n 0, 1) := by decide +kernel
theorem dX1_isNoLonger_13 : decode cX1_isNoLonger 13 = .ok (.iload_n 2, 1) := by decide +kernel
theorem dX1_isNoLonger_14 : decode cX1_isNoLonger 14 = .ok (.iload_n 3, 1) := by decide +kernel
theorem dX1_isNoLonger_15 : decode cX1_isNoLonger 15 = .ok (.invokevirtual 80, 3) := by decide +kernel
theorem dX1_isNoLonger_18 : decode cX1_isNoLonger 18 = .ok (.iadd, 1) := by decide +kernel
theorem dX1_isNoLonger_19 : decode cX1_isNoLonger 19 = .ok (.iconst 1, 1) := by decide +kernel
theorem dX1_isNoLonger_20 : decode cX1_isNoLonger 20 = .ok (.iadd, 1) := by decide +kernel
theorem dX1_isNoLonger_21 : decode cX1_isNoLonger 21 = .ok (.if_icmp .gt 7, 3) := by decide +kernel
theorem dX1_isNoLonger_24 : decode cX1_isNoLonger 24 = .ok (.iconst 1, 1) := by decide +kernel
theorem dX1_isNoLonger_25 : decode cX1_isNoLonger 25 = .ok (.goto 4, 3) := by decide +kernel
theorem dX1_isNoLonger_28 : decode cX1_isNoLonger 28 = .ok (.iconst 0, 1) := by decide +kernel
theorem dX1_isNoLonger_29 : decode cX1_isNoLonger 29 = .ok (.ireturn, 1) := by decide +kernel
theorem dX1_isStraight_0 : decode cX1_isStraight 0 = .ok (.aload_n 0, 1) := by decide +kernel
theorem dX1_isStraight_1 : decode cX1_isStraight 1 = .ok (.iload_n 1, 1) := by decide +kernel
theorem dX1_isStraight_2 : decode cX1_isStraight 2 = .ok (.invokevirtual 35, 3) := by decide +kernel
theorem dX1_isStraight_5 : decode cX1_isStraight 5 = .ok (.ifCond .ne 59, 3) := by decide +kernel
