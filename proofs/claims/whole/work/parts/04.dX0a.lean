theorem dX0_init_0 : decode cX0_init 0 = .ok (.aload_n 0, 1) := by decide +kernel
theorem dX0_init_1 : decode cX0_init 1 = .ok (.invokespecial 3, 3) := by decide +kernel
theorem dX0_init_4 : decode cX0_init 4 = .ok (.aload_n 0, 1) := by decide +kernel
theorem dX0_init_5 : decode cX0_init 5 = .ok (.bipush 12, 2) := by decide +kernel
theorem dX0_init_7 : decode cX0_init 7 = .ok (.newarray .boolean, 2) := by decide +kernel
theorem dX0_init_9 : decode cX0_init 9 = .ok (.putfield 9, 3) := by decide +kernel
theorem dX0_init_12 : decode cX0_init 12 = .ok (.aload_n 0, 1) := by decide +kernel
theorem dX0_init_13 : decode cX0_init 13 = .ok (.bipush 12, 2) := by decide +kernel
theorem dX0_init_15 : decode cX0_init 15 = .ok (.newarray .int, 2) := by decide +kernel
theorem dX0_init_17 : decode cX0_init 17 = .ok (.putfield 13, 3) := by decide +kernel
theorem dX0_init_20 : decode cX0_init 20 = .ok (.aload_n 0, 1) := by decide +kernel
theorem dX0_init_21 : decode cX0_init 21 = .ok (.bipush 12, 2) := by decide +kernel
theorem dX0_init_23 : decode cX0_init 23 = .ok (.newarray .int, 2) := by decide +kernel
theorem dX0_init_25 : decode cX0_init 25 = .ok (.putfield 17, 3) := by decide +kernel
theorem dX0_init_28 : decode cX0_init 28 = .ok (.aload_n 0, 1) := by decide +kernel
theorem dX0_init_29 : decode cX0_init 29 = .ok (.bipush 12, 2) := by decide +kernel
theorem dX0_init_31 : decode cX0_init 31 = .ok (.newarray .int, 2) := by decide +kernel
theorem dX0_init_33 : decode cX0_init 33 = .ok (.putfield 20, 3) := by decide +kernel
theorem dX0_init_36 : decode cX0_init 36 = .ok (.aload_n 0, 1) := by decide +kernel
theorem dX0_init_37 : decode cX0_init 37 = .ok (.iconst 0, 1) := by decide +kernel
theorem dX0_init_38 : decode cX0_init 38 = .ok (.putfield 23, 3) := by decide +kernel
theorem dX0_init_41 : decode cX0_init 41 = .ok (.aload_n 0, 1) := by decide +kernel
theorem dX0_init_42 : decode cX0_init 42 = .ok (.iconst 0, 1) := by decide +kernel
theorem dX0_init_43 : decode cX0_init 43 = .ok (.putfield 27, 3) := by decide +kernel
theorem dX0_init_46 : decode cX0_init 46 = .ok (.return_, 1) := by decide +kernel
theorem dX0_put_0 : decode cX0_put 0 = .ok (.iload_n 1, 1) := by decide +kernel
theorem dX0_put_1 : decode cX0_put 1 = .ok (.invokestatic 31, 3) := by decide +kernel
theorem dX0_put_4 : decode cX0_put 4 = .ok (.iload_n 2, 1) := by decide +kernel
theorem dX0_put_5 : decode cX0_put 5 = .ok (.invokestatic 35, 3) := by decide +kernel
theorem dX0_put_8 : decode cX0_put 8 = .ok (.ifCond .eq 10, 3) := by decide +kernel
theorem dX0_put_11 : decode cX0_put 11 = .ok (.iload_n 3, 1) := by decide +kernel
theorem dX0_put_12 : decode cX0_put 12 = .ok (.invokestatic 35, 3) := by decide +kernel
theorem dX0_put_15 : decode cX0_put 15 = .ok (.ifCond .ne 13, 3) := by decide +kernel
theorem dX0_put_18 : decode cX0_put 18 = .ok (.new 39, 3) := by decide +kernel
theorem dX0_put_21 : decode cX0_put 21 = .ok (.dup, 1) := by decide +kernel
theorem dX0_put_22 : decode cX0_put 22 = .ok (.ldc 41, 2) := by decide +kernel
theorem dX0_put_24 : decode cX0_put 24 = .ok (.invokespecial 43, 3) := by decide +kernel
theorem dX0_put_27 : decode cX0_put 27 = .ok (.athrow, 1) := by decide +kernel
theorem dX0_put_28 : decode cX0_put 28 = .ok (.aload_n 0, 1) := by decide +kernel
theorem dX0_put_29 : decode cX0_put 29 = .ok (.iload_n 1, 1) := by decide +kernel
theorem dX0_put_30 : decode cX0_put 30 = .ok (.invokevirtual 46, 3) := by decide +kernel
theorem dX0_put_33 : decode cX0_put 33 = .ok (.ifCond .ne 7, 3) := by decide +kernel
theorem dX0_put_36 : decode cX0_put 36 = .ok (.iconst 1, 1) := by decide +kernel
theorem dX0_put_37 : decode cX0_put 37 = .ok (.goto 4, 3) := by decide +kernel
theorem dX0_put_40 : decode cX0_put 40 = .ok (.iconst 0, 1) := by decide +kernel
theorem dX0_put_41 : decode cX0_put 41 = .ok (.istore 4, 2) := by decide +kernel
theorem dX0_put_43 : decode cX0_put 43 = .ok (.aload_n 0, 1) := by decide +kernel
theorem dX0_put_44 : decode cX0_put 44 = .ok (.iload_n 1, 1) := by decide +kernel
theorem dX0_put_45 : decode cX0_put 45 = .ok (.iload_n 2, 1) := by decide +kernel
theorem dX0_put_46 : decode cX0_put 46 = .ok (.iload_n 3, 1) := by decide +kernel
theorem dX0_put_47 : decode cX0_put 47 = .ok (.invokevirtual 49, 3) := by decide +kernel
theorem dX0_put_50 : decode cX0_put 50 = .ok (.iload 4, 2) := by decide +kernel
theorem dX0_put_52 : decode cX0_put 52 = .ok (.ireturn, 1) := by decide +kernel
theorem dX0_take_0 : decode cX0_take 0 = .ok (.iload_n 1, 1) := by decide +kernel
theorem dX0_take_1 : decode cX0_take 1 = .ok (.invokestatic 31, 3) := by decide +kernel
theorem dX0_take_4 : decode cX0_take 4 = .ok (.aload_n 0, 1) := by decide +kernel
theorem dX0_take_5 : decode cX0_take 5 = .ok (.iload_n 1, 1) := by decide +kernel
theorem dX0_take_6 : decode cX0_take 6 = .ok (.invokevirtual 53, 3) := by decide +kernel
theorem dX0_take_9 : decode cX0_take 9 = .ok (.aload_n 0, 1) := by decide +kernel
theorem dX0_take_10 : decode cX0_take 10 = .ok (.iload_n 1, 1) := by decide +kernel
theorem dX0_take_11 : decode cX0_take 11 = .ok (.invokevirtual 56, 3) := by decide +kernel
theorem dX0_take_14 : decode cX0_take 14 = .ok (.ifCond .eq 13, 3) := by decide +kernel
theorem dX0_take_17 : decode cX0_take 17 = .ok (.new 59, 3) := by decide +kernel
theorem dX0_take_20 : decode cX0_take 20 = .ok (.dup, 1) := by decide +kernel
theorem dX0_take_21 : decode cX0_take 21 = .ok (.ldc 61, 2) := by decide +kernel
theorem dX0_take_23 : decode cX0_take 23 = .ok (.invokespecial 63, 3) := by decide +kernel
theorem dX0_take_26 : decode cX0_take 26 = .ok (.athrow, 1) := by decide +kernel
theorem dX0_take_27 : decode cX0_take 27 = .ok (.iload_n 1, 1) := by decide +kernel
theorem dX0_take_28 : decode cX0_take 28 = .ok (.invokestatic 64, 3) := by decide +kernel
theorem dX0_take_31 : decode cX0_take 31 = .ok (.ifCond .eq 10, 3) := by decide +kernel
theorem dX0_take_34 : decode cX0_take 34 = .ok (.aload_n 0, 1) := by decide +kernel
theorem dX0_take_35 : decode cX0_take 35 = .ok (.getfield 9, 3) := by decide +kernel
theorem dX0_take_38 : decode cX0_take 38 = .ok (.iload_n 1, 1) := by decide +kernel
theorem dX0_take_39 : decode cX0_take 39 = .ok (.iconst 0, 1) := by decide +kernel
theorem dX0_take_40 : decode cX0_take 40 = .ok (.bastore, 1) := by decide +kernel
theorem dX0_take_41 : decode cX0_take 41 = .ok (.return_, 1) := by decide +kernel
theorem dX0_step_0 : decode cX0_step 0 = .ok (.iload_n 1, 1) := by decide +kernel
theorem dX0_step_1 : decode cX0_step 1 = .ok (.invokestatic 31, 3) := by decide +kernel
theorem dX0_step_4 : decode cX0_step 4 = .ok (.aload_n 0, 1) := by decide +kernel
theorem dX0_step_5 : decode cX0_step 5 = .ok (.iload_n 1, 1) := by decide +kernel
theorem dX0_step_6 : decode cX0_step 6 = .ok (.invokevirtual 53, 3) := by decide +kernel
theorem dX0_step_9 : decode cX0_step 9 = .ok (.iload_n 2, 1) := by decide +kernel
theorem dX0_step_10 : decode cX0_step 10 = .ok (.bipush 110, 2) := by decide +kernel
theorem dX0_step_12 : decode cX0_step 12 = .ok (.if_icmp .eq 31, 3) := by decide +kernel
theorem dX0_step_15 : decode cX0_step 15 = .ok (.iload_n 2, 1) := by decide +kernel
theorem dX0_step_16 : decode cX0_step 16 = .ok (.bipush 115, 2) := by decide +kernel
theorem dX0_step_18 : decode cX0_step 18 = .ok (.if_icmp .eq 25, 3) := by decide +kernel
theorem dX0_step_21 : decode cX0_step 21 = .ok (.iload_n 2, 1) := by decide +kernel
theorem dX0_step_22 : decode cX0_step 22 = .ok (.bipush 101, 2) := by decide +kernel
theorem dX0_step_24 : decode cX0_step 24 = .ok (.if_icmp .eq 19, 3) := by decide +kernel
theorem dX0_step_27 : decode cX0_step 27 = .ok (.iload_n 2, 1) := by decide +kernel
theorem dX0_step_28 : decode cX0_step 28 = .ok (.bipush 119, 2) := by decide +kernel
theorem dX0_step_30 : decode cX0_step 30 = .ok (.if_icmp .eq 13, 3) := by decide +kernel
theorem dX0_step_33 : decode cX0_step 33 = .ok (.new 39, 3) := by decide +kernel
theorem dX0_step_36 : decode cX0_step 36 = .ok (.dup, 1) := by decide +kernel
theorem dX0_step_37 : decode cX0_step 37 = .ok (.ldc 67, 2) := by decide +kernel
theorem dX0_step_39 : decode cX0_step 39 = .ok (.invokespecial 43, 3) := by decide +kernel
theorem dX0_step_42 : decode cX0_step 42 = .ok (.athrow, 1) := by decide +kernel
theorem dX0_step_43 : decode cX0_step 43 = .ok (.aload_n 0, 1) := by decide +kernel
theorem dX0_step_44 : decode cX0_step 44 = .ok (.iload_n 1, 1) := by decide +kernel
theorem dX0_step_45 : decode cX0_step 45 = .ok (.invokevirtual 69, 3) := by decide +kernel
theorem dX0_step_48 : decode cX0_step 48 = .ok (.iload_n 2, 1) := by decide +kernel
theorem dX0_step_49 : decode cX0_step 49 = .ok (.bipush 101, 2) := by decide +kernel
theorem dX0_step_51 : decode cX0_step 51 = .ok (.if_icmp .ne 7, 3) := by decide +kernel
theorem dX0_step_54 : decode cX0_step 54 = .ok (.iconst 1, 1) := by decide +kernel
theorem dX0_step_55 : decode cX0_step 55 = .ok (.goto 14, 3) := by decide +kernel
theorem dX0_step_58 : decode cX0_step 58 = .ok (.iload_n 2, 1) := by decide +kernel
theorem dX0_step_59 : decode cX0_step 59 = .ok (.bipush 119, 2) := by decide +kernel
theorem dX0_step_61 : decode cX0_step 61 = .ok (.if_icmp .ne 7, 3) := by decide +kernel
theorem dX0_step_64 : decode cX0_step 64 = .ok (.iconst (-1), 1) := by decide +kernel
theorem dX0_step_65 : decode cX0_step 65 = .ok (.goto 4, 3) := by decide +kernel
theorem dX0_step_68 : decode cX0_step 68 = .ok (.iconst 0, 1) := by decide +kernel
theorem dX0_step_69 : decode cX0_step 69 = .ok (.iadd, 1) := by decide +kernel
theorem dX0_step_70 : decode cX0_step 70 = .ok (.istore_n 3, 1) := by decide +kernel
theorem dX0_step_71 : decode cX0_step 71 = .ok (.aload_n 0, 1) := by decide +kernel
theorem dX0_step_72 : decode cX0_step 72 = .ok (.iload_n 1, 1) := by decide +kernel
theorem dX0_step_73 : decode cX0_step 73 = .ok (.invokevirtual 73, 3) := by decide +kernel
theorem dX0_step_76 : decode cX0_step 76 = .ok (.iload_n 2, 1) := by decide +kernel
theorem dX0_step_77 : decode cX0_step 77 = .ok (.bipush 110, 2) := by decide +kernel
theorem dX0_step_79 : decode cX0_step 79 = .ok (.if_icmp .ne 7, 3) := by decide +kernel
theorem dX0_step_82 : decode cX0_step 82 = .ok (.iconst 1, 1) := by decide +kernel
theorem dX0_step_83 : decode cX0_step 83 = .ok (.goto 14, 3) := by decide +kernel
theorem dX0_step_86 : decode cX0_step 86 = .ok (.iload_n 2, 1) := by decide +kernel
theorem dX0_step_87 : decode cX0_step 87 = .ok (.bipush 115, 2) := by decide +kernel
theorem dX0_step_89 : decode cX0_step 89 = .ok (.if_icmp .ne 7, 3) := by decide +kernel
theorem dX0_step_92 : decode cX0_step 92 = .ok (.iconst (-1), 1) := by decide +kernel
theorem dX0_step_93 : decode cX0_step 93 = .ok (.goto 4, 3) := by decide +kernel
theorem dX0_step_96 : decode cX0_step 96 = .ok (.iconst 0, 1) := by decide +kernel
theorem dX0_step_97 : decode cX0_step 97 = .ok (.iadd, 1) := by decide +kernel
theorem dX0_step_98 : decode cX0_step 98 = .ok (.istore 4, 2) := by decide +kernel
theorem dX0_step_100 : decode cX0_step 100 = .ok (.iload_n 3, 1) := by decide +kernel
theorem dX0_step_101 : decode cX0_step 101 = .ok (.invokestatic 35, 3) := by decide +kernel
theorem dX0_step_104 : decode cX0_step 104 = .ok (.ifCond .eq 11, 3) := by decide +kernel
theorem dX0_step_107 : decode cX0_step 107 = .ok (.iload 4, 2) := by decide +kernel
theorem dX0_step_109 : decode cX0_step 109 = .ok (.invokestatic 35, 3) := by decide +kernel
theorem dX0_step_112 : decode cX0_step 112 = .ok (.ifCond .ne 5, 3) := by decide +kernel
theorem dX0_step_115 : decode cX0_step 115 = .ok (.iconst 0, 1) := by decide +kernel
theorem dX0_step_116 : decode cX0_step 116 = .ok (.ireturn, 1) := by decide +kernel
theorem dX0_step_117 : decode cX0_step 117 = .ok (.aload_n 0, 1) := by decide +kernel
theorem dX0_step_118 : decode cX0_step 118 = .ok (.iload_n 1, 1) := by decide +kernel
theorem dX0_step_119 : decode cX0_step 119 = .ok (.iload_n 3, 1) := by decide +kernel
theorem dX0_step_120 : decode cX0_step 120 = .ok (.iload 4, 2) := by decide +kernel
theorem dX0_step_122 : decode cX0_step 122 = .ok (.invokevirtual 49, 3) := by decide +kernel
theorem dX0_step_125 : decode cX0_step 125 = .ok (.iconst 1, 1) := by decide +kernel
theorem dX0_step_126 : decode cX0_step 126 = .ok (.ireturn, 1) := by decide +kernel
theorem dX0_isThere_0 : decode cX0_isThere 0 = .ok (.iload_n 1, 1) := by decide +kernel
theorem dX0_isThere_1 : decode cX0_isThere 1 = .ok (.invokestatic 31, 3) := by decide +kernel
theorem dX0_isThere_4 : decode cX0_isThere 4 = .ok (.aload_n 0, 1) := by decide +kernel
theorem dX0_isThere_5 : decode cX0_isThere 5 = .ok (.iload_n 1, 1) := by decide +kernel
theorem dX0_isThere_6 : decode cX0_isThere 6 = .ok (.invokevirtual 46, 3) := by decide +kernel
theorem dX0_isThere_9 : decode cX0_isThere 9 = .ok (.ireturn, 1) := by decide +kernel
theorem dX0_placeOf_0 : decode cX0_placeOf 0 = .ok (.iload_n 1, 1) := by decide +kernel
theorem dX0_placeOf_1 : decode cX0_placeOf 1 = .ok (.invokestatic 31, 3) := by decide +kernel
theorem dX0_placeOf_4 : decode cX0_placeOf 4 = .ok (.aload_n 0, 1) := by decide +kernel
theorem dX0_placeOf_5 : decode cX0_placeOf 5 = .ok (.iload_n 1, 1) := by decide +kernel
theorem dX0_placeOf_6 : decode cX0_placeOf 6 = .ok (.invokevirtual 53, 3) := by decide +kernel
theorem dX0_placeOf_9 : decode cX0_placeOf 9 = .ok (.aload_n 0, 1) := by decide +kernel
theorem dX0_placeOf_10 : decode cX0_placeOf 10 = .ok (.iload_n 1, 1) := by decide +kernel
theorem dX0_placeOf_11 : decode cX0_placeOf 11 = .ok (.invokevirtual 73, 3) := by decide +kernel
theorem dX0_placeOf_14 : decode cX0_placeOf 14 = .ok (.bipush 91, 2) := by decide +kernel
theorem dX0_placeOf_16 : decode cX0_placeOf 16 = .ok (.imul, 1) := by decide +kernel
theorem dX0_placeOf_17 : decode cX0_placeOf 17 = .ok (.aload_n 0, 1) := by decide +kernel
theorem dX0_placeOf_18 : decode cX0_placeOf 18 = .ok (.iload_n 1, 1) := by decide +kernel
theorem dX0_placeOf_19 : decode cX0_placeOf 19 = .ok (.invokevirtual 69, 3) := by decide +kernel
theorem dX0_placeOf_22 : decode cX0_placeOf 22 = .ok (.iadd, 1) := by decide +kernel
theorem dX0_placeOf_23 : decode cX0_placeOf 23 = .ok (.ireturn, 1) := by decide +kernel
theorem dX0_count_0 : decode cX0_count 0 = .ok (.iconst 0, 1) := by decide +kernel
theorem dX0_count_1 : decode cX0_count 1 = .ok (.istore_n 1, 1) := by decide +kernel
theorem dX0_count_2 : decode cX0_count 2 = .ok (.iconst 0, 1) := by decide +kernel
theorem dX0_count_3 : decode cX0_count 3 = .ok (.istore_n 2, 1) := by decide +kernel
theorem dX0_count_4 : decode cX0_count 4 = .ok (.iload_n 2, 1) := by decide +kernel
theorem dX0_count_5 : decode cX0_count 5 = .ok (.bipush 12, 2) := by decide +kernel
theorem dX0_count_7 : decode cX0_count 7 = .ok (.if_icmp .ge 20, 3) := by decide +kernel
theorem dX0_count_10 : decode cX0_count 10 = .ok (.aload_n 0, 1) := by decide +kernel
theorem dX0_count_11 : decode cX0_count 11 = .ok (.iload_n 2, 1) := by decide +kernel
theorem dX0_count_12 : decode cX0_count 12 = .ok (.invokevirtual 46, 3) := by decide +kernel
theorem dX0_count_15 : decode cX0_count 15 = .ok (.ifCond .eq 6, 3) := by decide +kernel
theorem dX0_count_18 : decode cX0_count 18 = .ok (.iinc 1 1, 3) := by decide +kernel
theorem dX0_count_21 : decode cX0_count 21 = .ok (.iinc 2 1, 3) := by decide +kernel
theorem dX0_count_24 : decode cX0_count 24 = .ok (.goto (-20), 3) := by decide +kernel
theorem dX0_count_27 : decode cX0_count 27 = .ok (.iload_n 1, 1) := by decide +kernel
theorem dX0_count_28 : decode cX0_count 28 = .ok (.ireturn, 1) := by decide +kernel
theorem dX0_widen_0 : decode cX0_widen 0 = .ok (.aload_n 0, 1) := by decide +kernel
theorem dX0_widen_1 : decode cX0_widen 1 = .ok (.getfield 27, 3) := by decide +kernel
theorem dX0_widen_4 : decode cX0_widen 4 = .ok (.iload_n 1, 1) := by decide +kernel
theorem dX0_widen_5 : decode cX0_widen 5 = .ok (.if_icmp .eq 7, 3) := by decide +kernel
theorem dX0_widen_8 : decode cX0_widen 8 = .ok (.iconst 1, 1) := by decide +kernel
theorem dX0_widen_9 : decode cX0_widen 9 = .ok (.goto 4, 3) := by decide +kernel
theorem dX0_widen_12 : decode cX0_widen 12 = .ok (.iconst 0, 1) := by decide +kernel
theorem dX0_widen_13 : decode cX0_widen 13 = .ok (.istore_n 2, 1) := by decide +kernel
theorem dX0_widen_14 : decode cX0_widen 14 = .ok (.aload_n 0, 1) := by decide +kernel
theorem dX0_widen_15 : decode cX0_widen 15 = .ok (.iload_n 1, 1) := by decide +kernel
theorem dX0_widen_16 : decode cX0_widen 16 = .ok (.putfield 27, 3) := by decide +kernel
theorem dX0_widen_19 : decode cX0_widen 19 = .ok (.iload_n 2, 1) := by decide +kernel
theorem dX0_widen_20 : decode cX0_widen 20 = .ok (.ireturn, 1) := by decide +kernel
theorem dX0_stretch_0 : decode cX0_stretch 0 = .ok (.aload_n 0, 1) := by decide +kernel
theorem dX0_stretch_1 : decode cX0_stretch 1 = .ok (.iload_n 1, 1) := by decide +kernel
theorem dX0_stretch_2 : decode cX0_stretch 2 = .ok (.iload_n 2, 1) := by decide +kernel
theorem dX0_stretch_3 : decode cX0_stretch 3 = .ok (.invokevirtual 76, 3) := by decide +kernel
theorem dX0_stretch_6 : decode cX0_stretch 6 = .ok (.aload_n 0, 1) := by decide +kernel
theorem dX0_stretch_7 : decode cX0_stretch 7 = .ok (.iload_n 1, 1) := by decide +kernel
theorem dX0_stretch_8 : decode cX0_stretch 8 = .ok (.iload_n 2, 1) := by decide +kernel
theorem dX0_stretch_9 : decode cX0_stretch 9 = .ok (.invokevirtual 80, 3) := by decide +kernel
theorem dX0_stretch_12 : decode cX0_stretch 12 = .ok (.ireturn, 1) := by decide +kernel
theorem dX0_isSteady_0 : decode cX0_isSteady 0 = .ok (.aload_n 0, 1) := by decide +kernel
theorem dX0_isSteady_1 : decode cX0_isSteady 1 = .ok (.iload_n 1, 1) := by decide +kernel
theorem dX0_isSteady_2 : decode cX0_isSteady 2 = .ok (.iload_n 2, 1) := by decide +kernel
theorem dX0_isSteady_3 : decode cX0_isSteady 3 = .ok (.invokevirtual 76, 3) := by decide +kernel
theorem dX0_isSteady_6 : decode cX0_isSteady 6 = .ok (.aload_n 0, 1) := by decide +kernel
theorem dX0_isSteady_7 : decode cX0_isSteady 7 = .ok (.iload_n 2, 1) := by decide +kernel
theorem dX0_isSteady_8 : decode cX0_isSteady 8 = .ok (.invokevirtual 69, 3) := by decide +kernel
theorem dX0_isSteady_11 : decode cX0_isSteady 11 = .ok (.aload_n 0, 1) := by decide +kernel
theorem dX0_isSteady_12 : decode cX0_isSteady 12 = .ok (.iload_n 1, 1) := by decide +kernel
theorem dX0_isSteady_13 : decode cX0_isSteady 13 = .ok (.invokevirtual 69, 3) := by decide +kernel
theorem dX0_isSteady_16 : decode cX0_isSteady 16 = .ok (.isub, 1) := by decide +kernel
theorem dX0_isSteady_17 : decode cX0_isSteady 17 = .ok (.istore_n 3, 1) := by decide +kernel
theorem dX0_isSteady_18 : decode cX0_isSteady 18 = .ok (.aload_n 0, 1) := by decide +kernel
theorem dX0_isSteady_19 : decode cX0_isSteady 19 = .ok (.iload_n 2, 1) := by decide +kernel
theorem dX0_isSteady_20 : decode cX0_isSteady 20 = .ok (.invokevirtual 73, 3) := by decide +kernel
theorem dX0_isSteady_23 : decode cX0_isSteady 23 = .ok (.aload_n 0, 1) := by decide +kernel
theorem dX0_isSteady_24 : decode cX0_isSteady 24 = .ok (.iload_n 1, 1) := by decide +kernel
theorem dX0_isSteady_25 : decode cX0_isSteady 25 = .ok (.invokevirtual 73, 3) := by decide +kernel
theorem dX0_isSteady_28 : decode cX0_isSteady 28 = .ok (.isub, 1) := by decide +kernel
theorem dX0_isSteady_29 : decode cX0_isSteady 29 = .ok (.istore 4, 2) := by decide +kernel
theorem dX0_isSteady_31 : decode cX0_isSteady 31 = .ok (.iload_n 3, 1) := by decide +kernel
theorem dX0_isSteady_32 : decode cX0_isSteady 32 = .ok (.iload 4, 2) := by decide +kernel
theorem dX0_isSteady_34 : decode cX0_isSteady 34 = .ok (.aload_n 0, 1) := by decide +kernel
theorem dX0_isSteady_35 : decode cX0_isSteady 35 = .ok (.getfield 27, 3) := by decide +kernel
theorem dX0_isSteady_38 : decode cX0_isSteady 38 = .ok (.invokestatic 84, 3) := by decide +kernel
theorem dX0_isSteady_41 : decode cX0_isSteady 41 = .ok (.lstore 5, 2) := by decide +kernel
theorem dX0_isSteady_43 : decode cX0_isSteady 43 = .ok (.iconst 0, 1) := by decide +kernel
theorem dX0_isSteady_44 : decode cX0_isSteady 44 = .ok (.istore 7, 2) := by decide +kernel
theorem dX0_isSteady_46 : decode cX0_isSteady 46 = .ok (.iload 7, 2) := by decide +kernel
theorem dX0_isSteady_48 : decode cX0_isSteady 48 = .ok (.iconst 4, 1) := by decide +kernel
theorem dX0_isSteady_49 : decode cX0_isSteady 49 = .ok (.if_icmp .ge 77, 3) := by decide +kernel
theorem dX0_isSteady_52 : decode cX0_isSteady 52 = .ok (.iload 7, 2) := by decide +kernel
theorem dX0_isSteady_54 : decode cX0_isSteady 54 = .ok (.iconst 1, 1) := by decide +kernel
theorem dX0_isSteady_55 : decode cX0_isSteady 55 = .ok (.iand, 1) := by decide +kernel
theorem dX0_isSteady_56 : decode cX0_isSteady 56 = .ok (.ifCond .ne 7, 3) := by decide +kernel
theorem dX0_isSteady_59 : decode cX0_isSteady 59 = .ok (.iload_n 3, 1) := by decide +kernel
theorem dX0_isSteady_60 : decode cX0_isSteady 60 = .ok (.goto 5, 3) := by decide +kernel
theorem dX0_isSteady_63 : decode cX0_isSteady 63 = .ok (.iload_n 3, 1) := by decide +kernel
theorem dX0_isSteady_64 : decode cX0_isSteady 64 = .ok (.ineg, 1) := by decide +kernel
theorem dX0_isSteady_65 : decode cX0_isSteady 65 = .ok (.istore 8, 2) := by decide +kernel
theorem dX0_isSteady_67 : decode cX0_isSteady 67 = .ok (.iload 7, 2) := by decide +kernel
theorem dX0_isSteady_69 : decode cX0_isSteady 69 = .ok (.iconst 2, 1) := by decide +kernel
theorem dX0_isSteady_70 : decode cX0_isSteady 70 = .ok (.iand, 1) := by decide +kernel
theorem dX0_isSteady_71 : decode cX0_isSteady 71 = .ok (.ifCond .ne 8, 3) := by decide +kernel
theorem dX0_isSteady_74 : decode cX0_isSteady 74 = .ok (.iload 4, 2) := by decide +kernel
theorem dX0_isSteady_76 : decode cX0_isSteady 76 = .ok (.goto 6, 3) := by decide +kernel
theorem dX0_isSteady_79 : decode cX0_isSteady 79 = .ok (.iload 4, 2) := by decide +kernel
theorem dX0_isSteady_81 : decode cX0_isSteady 81 = .ok (.ineg, 1) := by decide +kernel
theorem dX0_isSteady_82 : decode cX0_isSteady 82 = .ok (.istore 9, 2) := by decide +kernel
theorem dX0_isSteady_84 : decode cX0_isSteady 84 = .ok (.iload 8, 2) := by decide +kernel
theorem dX0_isSteady_86 : decode cX0_isSteady 86 = .ok (.iload 9, 2) := by decide +kernel
theorem dX0_isSteady_88 : decode cX0_isSteady 88 = .ok (.aload_n 0, 1) := by decide +kernel
theorem dX0_isSteady_89 : decode cX0_isSteady 89 = .ok (.getfield 27, 3) := by decide +kernel
theorem dX0_isSteady_92 : decode cX0_isSteady 92 = .ok (.invokestatic 84, 3) := by decide +kernel
theorem dX0_isSteady_95 : decode cX0_isSteady 95 = .ok (.lload 5, 2) := by decide +kernel
theorem dX0_isSteady_97 : decode cX0_isSteady 97 = .ok (.lcmp, 1) := by decide +kernel
theorem dX0_isSteady_98 : decode cX0_isSteady 98 = .ok (.ifCond .ne 20, 3) := by decide +kernel
theorem dX0_isSteady_101 : decode cX0_isSteady 101 = .ok (.iload 9, 2) := by decide +kernel
theorem dX0_isSteady_103 : decode cX0_isSteady 103 = .ok (.iload 8, 2) := by decide +kernel
theorem dX0_isSteady_105 : decode cX0_isSteady 105 = .ok (.aload_n 0, 1) := by decide +kernel
theorem dX0_isSteady_106 : decode cX0_isSteady 106 = .ok (.getfield 27, 3) := by decide +kernel
theorem dX0_isSteady_109 : decode cX0_isSteady 109 = .ok (.invokestatic 84, 3) := by decide +kernel
theorem dX0_isSteady_112 : decode cX0_isSteady 112 = .ok (.lload 5, 2) := by decide +kernel
theorem dX0_isSteady_114 : decode cX0_isSteady 114 = .ok (.lcmp, 1) := by decide +kernel
theorem dX0_isSteady_115 : decode cX0_isSteady 115 = .ok (.ifCond .eq 5, 3) := by decide +kernel
theorem dX0_isSteady_118 : decode cX0_isSteady 118 = .ok (.iconst 0, 1) := by decide +kernel
theorem dX0_isSteady_119 : decode cX0_isSteady 119 = .ok (.ireturn, 1) := by decide +kernel
theorem dX0_isSteady_120 : decode cX0_isSteady 120 = .ok (.iinc 7 1, 3) := by decide +kernel
theorem dX0_isSteady_123 : decode cX0_isSteady 123 = .ok (.goto (-77), 3) := by decide +kernel
theorem dX0_isSteady_126 : decode cX0_isSteady 126 = .ok (.iconst 1, 1) := by decide +kernel
theorem dX0_isSteady_127 : decode cX0_isSteady 127 = .ok (.ireturn, 1) := by decide +kernel
theorem dX0_isDoubled_0 : decode cX0_isDoubled 0 = .ok (.aload_n 0, 1) := by decide +kernel
theorem dX0_isDoubled_1 : decode cX0_isDoubled 1 = .ok (.iload_n 1, 1) := by decide +kernel
theorem dX0_isDoubled_2 : decode cX0_isDoubled 2 = .ok (.iload_n 2, 1) := by decide +kernel
theorem dX0_isDoubled_3 : decode cX0_isDoubled 3 = .ok (.invokevirtual 76, 3) := by decide +kernel
theorem dX0_isDoubled_6 : decode cX0_isDoubled 6 = .ok (.aload_n 0, 1) := by decide +kernel
theorem dX0_isDoubled_7 : decode cX0_isDoubled 7 = .ok (.iload_n 2, 1) := by decide +kernel
theorem dX0_isDoubled_8 : decode cX0_isDoubled 8 = .ok (.invokevirtual 69, 3) := by decide +kernel
theorem dX0_isDoubled_11 : decode cX0_isDoubled 11 = .ok (.aload_n 0, 1) := by decide +kernel
theorem dX0_isDoubled_12 : decode cX0_isDoubled 12 = .ok (.iload_n 1, 1) := by decide +kernel
theorem dX0_isDoubled_13 : decode cX0_isDoubled 13 = .ok (.invokevirtual 69, 3) := by decide +kernel
theorem dX0_isDoubled_16 : decode cX0_isDoubled 16 = .ok (.isub, 1) := by decide +kernel
theorem dX0_isDoubled_17 : decode cX0_isDoubled 17 = .ok (.istore_n 3, 1) := by decide +kernel
theorem dX0_isDoubled_18 : decode cX0_isDoubled 18 = .ok (.aload_n 0, 1) := by decide +kernel
theorem dX0_isDoubled_19 : decode cX0_isDoubled 19 = .ok (.iload_n 2, 1) := by decide +kernel
theorem dX0_isDoubled_20 : decode cX0_isDoubled 20 = .ok (.invokevirtual 73, 3) := by decide +kernel
theorem dX0_isDoubled_23 : decode cX0_isDoubled 23 = .ok (.aload_n 0, 1) := by decide +kernel
theorem dX0_isDoubled_24 : decode cX0_isDoubled 24 = .ok (.iload_n 1, 1) := by decide +kernel
theorem dX0_isDoubled_25 : decode cX0_isDoubled 25 = .ok (.invokevirtual 73, 3) := by decide +kernel
theorem dX0_isDoubled_28 : decode cX0_isDoubled 28 = .ok (.isub, 1) := by decide +kernel
theorem dX0_isDoubled_29 : decode cX0_isDoubled 29 = .ok (.istore 4, 2) := by decide +kernel
theorem dX0_isDoubled_31 : decode cX0_isDoubled 31 = .ok (.iload_n 3, 1) := by decide +kernel
theorem dX0_isDoubled_32 : decode cX0_isDoubled 32 = .ok (.iload 4, 2) := by decide +kernel
theorem dX0_isDoubled_34 : decode cX0_isDoubled 34 = .ok (.iconst 1, 1) := by decide +kernel
theorem dX0_isDoubled_35 : decode cX0_isDoubled 35 = .ok (.invokestatic 84, 3) := by decide +kernel
theorem dX0_isDoubled_38 : decode cX0_isDoubled 38 = .ok (.iload_n 3, 1) := by decide +kernel
theorem dX0_isDoubled_39 : decode cX0_isDoubled 39 = .ok (.iload 4, 2) := by decide +kernel
theorem dX0_isDoubled_41 : decode cX0_isDoubled 41 = .ok (.iconst 0, 1) := by decide +kernel
theorem dX0_isDoubled_42 : decode cX0_isDoubled 42 = .ok (.invokestatic 84, 3) := by decide +kernel
theorem dX0_isDoubled_45 : decode cX0_isDoubled 45 = .ok (.invokestatic 88, 3) := by decide +kernel
theorem dX0_isDoubled_48 : decode cX0_isDoubled 48 = .ok (.lcmp, 1) := by decide +kernel
theorem dX0_isDoubled_49 : decode cX0_isDoubled 49 = .ok (.ifCond .ne 7, 3) := by decide +kernel
theorem dX0_isDoubled_52 : decode cX0_isDoubled 52 = .ok (.iconst 1, 1) := by decide +kernel
theorem dX0_isDoubled_53 : decode cX0_isDoubled 53 = .ok (.goto 4, 3) := by decide +kernel
theorem dX0_isDoubled_56 : decode cX0_isDoubled 56 = .ok (.iconst 0, 1) := by decide +kernel
theorem dX0_isDoubled_57 : decode cX0_isDoubled 57 = .ok (.ireturn, 1) := by decide +kernel
theorem dX0_isClose_0 : decode cX0_isClose 0 = .ok (.aload_n 0, 1) := by decide +kernel
theorem dX0_isClose_1 : decode cX0_isClose 1 = .ok (.iload_n 1, 1) := by decide +kernel
theorem dX0_isClose_2 : decode cX0_isClose 2 = .ok (.iload_n 2, 1) := by decide +kernel
theorem dX0_isClose_3 : decode cX0_isClose 3 = .ok (.invokevirtual 76, 3) := by decide +kernel
theorem dX0_isClose_6 : decode cX0_isClose 6 = .ok (.aload_n 0, 1) := by decide +kernel
theorem dX0_isClose_7 : decode cX0_isClose 7 = .ok (.iload_n 2, 1) := by decide +kernel
theorem dX0_isClose_8 : decode cX0_isClose 8 = .ok (.invokevirtual 69, 3) := by decide +kernel
theorem dX0_isClose_11 : decode cX0_isClose 11 = .ok (.aload_n 0, 1) := by decide +kernel
theorem dX0_isClose_12 : decode cX0_isClose 12 = .ok (.iload_n 1, 1) := by decide +kernel
theorem dX0_isClose_13 : decode cX0_isClose 13 = .ok (.invokevirtual 69, 3) := by decide +kernel
theorem dX0_isClose_16 : decode cX0_isClose 16 = .ok (.isub, 1) := by decide +kernel
theorem dX0_isClose_17 : decode cX0_isClose 17 = .ok (.istore_n 3, 1) := by decide +kernel
theorem dX0_isClose_18 : decode cX0_isClose 18 = .ok (.aload_n 0, 1) := by decide +kernel
theorem dX0_isClose_19 : decode cX0_isClose 19 = .ok (.iload_n 2, 1) := by decide +kernel
theorem dX0_isClose_20 : decode cX0_isClose 20 = .ok (.invokevirtual 73, 3) := by decide +kernel
theorem dX0_isClose_23 : decode cX0_isClose 23 = .ok (.aload_n 0, 1) := by decide +kernel
theorem dX0_isClose_24 : decode cX0_isClose 24 = .ok (.iload_n 1, 1) := by decide +kernel
theorem dX0_isClose_25 : decode cX0_isClose 25 = .ok (.invokevirtual 73, 3) := by decide +kernel
theorem dX0_isClose_28 : decode cX0_isClose 28 = .ok (.isub, 1) := by decide +kernel
theorem dX0_isClose_29 : decode cX0_isClose 29 = .ok (.istore 4, 2) := by decide +kernel
theorem dX0_isClose_31 : decode cX0_isClose 31 = .ok (.iload_n 3, 1) := by decide +kernel
theorem dX0_isClose_32 : decode cX0_isClose 32 = .ok (.iload 4, 2) := by decide +kernel
theorem dX0_isClose_34 : decode cX0_isClose 34 = .ok (.aload_n 0, 1) := by decide +kernel
theorem dX0_isClose_35 : decode cX0_isClose 35 = .ok (.getfield 27, 3) := by decide +kernel
theorem dX0_isClose_38 : decode cX0_isClose 38 = .ok (.invokestatic 84, 3) := by decide +kernel
theorem dX0_isClose_41 : decode cX0_isClose 41 = .ok (.lstore 5, 2) := by decide +kernel
theorem dX0_isClose_43 : decode cX0_isClose 43 = .ok (.iload_n 3, 1) := by decide +kernel
theorem dX0_isClose_44 : decode cX0_isClose 44 = .ok (.iload 4, 2) := by decide +kernel
theorem dX0_isClose_46 : decode cX0_isClose 46 = .ok (.aload_n 0, 1) := by decide +kernel
theorem dX0_isClose_47 : decode cX0_isClose 47 = .ok (.getfield 27, 3) := by decide +kernel
theorem dX0_isClose_50 : decode cX0_isClose 50 = .ok (.invokestatic 92, 3) := by decide +kernel
theorem dX0_isClose_53 : decode cX0_isClose 53 = .ok (.istore 7, 2) := by decide +kernel
theorem dX0_isClose_55 : decode cX0_isClose 55 = .ok (.iload 7, 2) := by decide +kernel
theorem dX0_isClose_57 : decode cX0_isClose 57 = .ok (.ifCond .eq 10, 3) := by decide +kernel
theorem dX0_isClose_60 : decode cX0_isClose 60 = .ok (.lload 5, 2) := by decide +kernel
theorem dX0_isClose_62 : decode cX0_isClose 62 = .ok (.lconst 0, 1) := by decide +kernel
theorem dX0_isClose_63 : decode cX0_isClose 63 = .ok (.lcmp, 1) := by decide +kernel
theorem dX0_isClose_64 : decode cX0_isClose 64 = .ok (.ifCond .ne 21, 3) := by decide +kernel
theorem dX0_isClose_67 : decode cX0_isClose 67 = .ok (.iload 7, 2) := by decide +kernel
theorem dX0_isClose_69 : decode cX0_isClose 69 = .ok (.ifCond .ne 14, 3) := by decide +kernel
theorem dX0_isClose_72 : decode cX0_isClose 72 = .ok (.lload 5, 2) := by decide +kernel
theorem dX0_isClose_74 : decode cX0_isClose 74 = .ok (.lconst 0, 1) := by decide +kernel
theorem dX0_isClose_75 : decode cX0_isClose 75 = .ok (.lcmp, 1) := by decide +kernel
theorem dX0_isClose_76 : decode cX0_isClose 76 = .ok (.ifCond .ne 7, 3) := by decide +kernel
theorem dX0_isClose_79 : decode cX0_isClose 79 = .ok (.iconst 1, 1) := by decide +kernel
theorem dX0_isClose_80 : decode cX0_isClose 80 = .ok (.goto 4, 3) := by decide +kernel
theorem dX0_isClose_83 : decode cX0_isClose 83 = .ok (.iconst 0, 1) := by decide +kernel
theorem dX0_isClose_84 : decode cX0_isClose 84 = .ok (.ireturn, 1) := by decide +kernel
theorem dX0_isClose_85 : decode cX0_isClose 85 = .ok (.lload 5, 2) := by decide +kernel
theorem dX0_isClose_87 : decode cX0_isClose 87 = .ok (.invokestatic 96, 3) := by decide +kernel
theorem dX0_isClose_90 : decode cX0_isClose 90 = .ok (.lstore 8, 2) := by decide +kernel
theorem dX0_isClose_92 : decode cX0_isClose 92 = .ok (.lload 5, 2) := by decide +kernel
theorem dX0_isClose_94 : decode cX0_isClose 94 = .ok (.invokestatic 99, 3) := by decide +kernel
theorem dX0_isClose_97 : decode cX0_isClose 97 = .ok (.istore 10, 2) := by decide +kernel
theorem dX0_isClose_99 : decode cX0_isClose 99 = .ok (.lload 8, 2) := by decide +kernel
theorem dX0_isClose_101 : decode cX0_isClose 101 = .ok (.lconst 1, 1) := by decide +kernel
theorem dX0_isClose_102 : decode cX0_isClose 102 = .ok (.lsub, 1) := by decide +kernel
theorem dX0_isClose_103 : decode cX0_isClose 103 = .ok (.iload 10, 2) := by decide +kernel
theorem dX0_isClose_105 : decode cX0_isClose 105 = .ok (.iload 7, 2) := by decide +kernel
theorem dX0_isClose_107 : decode cX0_isClose 107 = .ok (.invokestatic 103, 3) := by decide +kernel
theorem dX0_isClose_110 : decode cX0_isClose 110 = .ok (.ifCond .gt 21, 3) := by decide +kernel
theorem dX0_isClose_113 : decode cX0_isClose 113 = .ok (.lload 8, 2) := by decide +kernel
theorem dX0_isClose_115 : decode cX0_isClose 115 = .ok (.lconst 1, 1) := by decide +kernel
theorem dX0_isClose_116 : decode cX0_isClose 116 = .ok (.ladd, 1) := by decide +kernel
theorem dX0_isClose_117 : decode cX0_isClose 117 = .ok (.iload 10, 2) := by decide +kernel
theorem dX0_isClose_119 : decode cX0_isClose 119 = .ok (.iload 7, 2) := by decide +kernel
theorem dX0_isClose_121 : decode cX0_isClose 121 = .ok (.invokestatic 103, 3) := by decide +kernel
theorem dX0_isClose_124 : decode cX0_isClose 124 = .ok (.ifCond .lt 7, 3) := by decide +kernel
theorem dX0_isClose_127 : decode cX0_isClose 127 = .ok (.iconst 1, 1) := by decide +kernel
theorem dX0_isClose_128 : decode cX0_isClose 128 = .ok (.goto 4, 3) := by decide +kernel
theorem dX0_isClose_131 : decode cX0_isClose 131 = .ok (.iconst 0, 1) := by decide +kernel
theorem dX0_isClose_132 : decode cX0_isClose 132 = .ok (.ireturn, 1) := by decide +kernel
theorem dX0_isStraight_0 : decode cX0_isStraight 0 = .ok (.iload_n 1, 1) := by decide +kernel
theorem dX0_isStraight_1 : decode cX0_isStraight 1 = .ok (.invokestatic 31, 3) := by decide +kernel
theorem dX0_isStraight_4 : decode cX0_isStraight 4 = .ok (.iload_n 2, 1) := by decide +kernel
theorem dX0_isStraight_5 : decode cX0_isStraight 5 = .ok (.invokestatic 31, 3) := by decide +kernel
theorem dX0_isStraight_8 : decode cX0_isStraight 8 = .ok (.iload_n 3, 1) := by decide +kernel
theorem dX0_isStraight_9 : decode cX0_isStraight 9 = .ok (.invokestatic 31, 3) := by decide +kernel
theorem dX0_isStraight_12 : decode cX0_isStraight 12 = .ok (.aload_n 0, 1) := by decide +kernel
theorem dX0_isStraight_13 : decode cX0_isStraight 13 = .ok (.iload_n 1, 1) := by decide +kernel
theorem dX0_isStraight_14 : decode cX0_isStraight 14 = .ok (.invokevirtual 53, 3) := by decide +kernel
theorem dX0_isStraight_17 : decode cX0_isStraight 17 = .ok (.aload_n 0, 1) := by decide +kernel
theorem dX0_isStraight_18 : decode cX0_isStraight 18 = .ok (.iload_n 2, 1) := by decide +kernel
theorem dX0_isStraight_19 : decode cX0_isStraight 19 = .ok (.invokevirtual 53, 3) := by decide +kernel
theorem dX0_isStraight_22 : decode cX0_isStraight 22 = .ok (.aload_n 0, 1) := by decide +kernel
theorem dX0_isStraight_23 : decode cX0_isStraight 23 = .ok (.iload_n 3, 1) := by decide +kernel
theorem dX0_isStraight_24 : decode cX0_isStraight 24 = .ok (.invokevirtual 53, 3) := by decide +kernel
theorem dX0_isStraight_27 : decode cX0_isStraight 27 = .ok (.aload_n 0, 1) := by decide +kernel
theorem dX0_isStraight_28 : decode cX0_isStraight 28 = .ok (.iload_n 1, 1) := by decide +kernel
theorem dX0_isStraight_29 : decode cX0_isStraight 29 = .ok (.iload_n 3, 1) := by decide +kernel
theorem dX0_isStraight_30 : decode cX0_isStraight 30 = .ok (.invokevirtual 80, 3) := by decide +kernel
theorem dX0_isStraight_33 : decode cX0_isStraight 33 = .ok (.aload_n 0, 1) := by decide +kernel
theorem dX0_isStraight_34 : decode cX0_isStraight 34 = .ok (.iload_n 1, 1) := by decide +kernel
theorem dX0_isStraight_35 : decode cX0_isStraight 35 = .ok (.iload_n 2, 1) := by decide +kernel
theorem dX0_isStraight_36 : decode cX0_isStraight 36 = .ok (.invokevirtual 80, 3) := by decide +kernel
theorem dX0_isStraight_39 : decode cX0_isStraight 39 = .ok (.aload_n 0, 1) := by decide +kernel
theorem dX0_isStraight_40 : decode cX0_isStraight 40 = .ok (.iload_n 2, 1) := by decide +kernel
theorem dX0_isStraight_41 : decode cX0_isStraight 41 = .ok (.iload_n 3, 1) := by decide +kernel
theorem dX0_isStraight_42 : decode cX0_isStraight 42 = .ok (.invokevirtual 80, 3) := by decide +kernel
theorem dX0_isStraight_45 : decode cX0_isStraight 45 = .ok (.iadd, 1) := by decide +kernel
theorem dX0_isStraight_46 : decode cX0_isStraight 46 = .ok (.iconst 1, 1) := by decide +kernel
theorem dX0_isStraight_47 : decode cX0_isStraight 47 = .ok (.iadd, 1) := by decide +kernel
theorem dX0_isStraight_48 : decode cX0_isStraight 48 = .ok (.if_icmp .gt 7, 3) := by decide +kernel
theorem dX0_isStraight_51 : decode cX0_isStraight 51 = .ok (.iconst 1, 1) := by decide +kernel
theorem dX0_isStraight_52 : decode cX0_isStraight 52 = .ok (.goto 4, 3) := by decide +kernel
theorem dX0_isStraight_55 : decode cX0_isStraight 55 = .ok (.iconst 0, 1) := by decide +kernel
theorem dX0_isStraight_56 : decode cX0_isStraight 56 = .ok (.ireturn, 1) := by decide +kernel
theorem dX0_nearest_0 : decode cX0_nearest 0 = .ok (.iload_n 1, 1) := by decide +kernel
theorem dX0_nearest_1 : decode cX0_nearest 1 = .ok (.invokestatic 31, 3) := by decide +kernel
theorem dX0_nearest_4 : decode cX0_nearest 4 = .ok (.aload_n 0, 1) := by decide +kernel
theorem dX0_nearest_5 : decode cX0_nearest 5 = .ok (.iload_n 1, 1) := by decide +kernel
theorem dX0_nearest_6 : decode cX0_nearest 6 = .ok (.invokevirtual 53, 3) := by decide +kernel
theorem dX0_nearest_9 : decode cX0_nearest 9 = .ok (.aload_n 0, 1) := by decide +kernel
theorem dX0_nearest_10 : decode cX0_nearest 10 = .ok (.iload_n 1, 1) := by decide +kernel
theorem dX0_nearest_11 : decode cX0_nearest 11 = .ok (.invokevirtual 107, 3) := by decide +kernel
theorem dX0_nearest_14 : decode cX0_nearest 14 = .ok (.istore_n 2, 1) := by decide +kernel
theorem dX0_nearest_15 : decode cX0_nearest 15 = .ok (.iload_n 2, 1) := by decide +kernel
theorem dX0_nearest_16 : decode cX0_nearest 16 = .ok (.iconst (-1), 1) := by decide +kernel
theorem dX0_nearest_17 : decode cX0_nearest 17 = .ok (.if_icmp .ne 13, 3) := by decide +kernel
theorem dX0_nearest_20 : decode cX0_nearest 20 = .ok (.new 59, 3) := by decide +kernel
theorem dX0_nearest_23 : decode cX0_nearest 23 = .ok (.dup, 1) := by decide +kernel
theorem dX0_nearest_24 : decode cX0_nearest 24 = .ok (.ldc 110, 2) := by decide +kernel
theorem dX0_nearest_26 : decode cX0_nearest 26 = .ok (.invokespecial 63, 3) := by decide +kernel
theorem dX0_nearest_29 : decode cX0_nearest 29 = .ok (.athrow, 1) := by decide +kernel
theorem dX0_nearest_30 : decode cX0_nearest 30 = .ok (.iload_n 2, 1) := by decide +kernel
theorem dX0_nearest_31 : decode cX0_nearest 31 = .ok (.ireturn, 1) := by decide +kernel
theorem dX0_rank_0 : decode cX0_rank 0 = .ok (.aload_n 0, 1) := by decide +kernel
theorem dX0_rank_1 : decode cX0_rank 1 = .ok (.iload_n 1, 1) := by decide +kernel
theorem dX0_rank_2 : decode cX0_rank 2 = .ok (.iload_n 2, 1) := by decide +kernel
theorem dX0_rank_3 : decode cX0_rank 3 = .ok (.invokevirtual 76, 3) := by decide +kernel
theorem dX0_rank_6 : decode cX0_rank 6 = .ok (.aload_n 0, 1) := by decide +kernel
theorem dX0_rank_7 : decode cX0_rank 7 = .ok (.iload_n 1, 1) := by decide +kernel
theorem dX0_rank_8 : decode cX0_rank 8 = .ok (.iload_n 2, 1) := by decide +kernel
theorem dX0_rank_9 : decode cX0_rank 9 = .ok (.invokevirtual 80, 3) := by decide +kernel
theorem dX0_rank_12 : decode cX0_rank 12 = .ok (.istore_n 3, 1) := by decide +kernel
theorem dX0_rank_13 : decode cX0_rank 13 = .ok (.iconst 0, 1) := by decide +kernel
theorem dX0_rank_14 : decode cX0_rank 14 = .ok (.istore 4, 2) := by decide +kernel
theorem dX0_rank_16 : decode cX0_rank 16 = .ok (.iconst 0, 1) := by decide +kernel
theorem dX0_rank_17 : decode cX0_rank 17 = .ok (.istore 5, 2) := by decide +kernel
theorem dX0_rank_19 : decode cX0_rank 19 = .ok (.iload 5, 2) := by decide +kernel
theorem dX0_rank_21 : decode cX0_rank 21 = .ok (.bipush 12, 2) := by decide +kernel
theorem dX0_rank_23 : decode cX0_rank 23 = .ok (.if_icmp .ge 61, 3) := by decide +kernel
theorem dX0_rank_26 : decode cX0_rank 26 = .ok (.iload 5, 2) := by decide +kernel
theorem dX0_rank_28 : decode cX0_rank 28 = .ok (.iconst 1, 1) := by decide +kernel
theorem dX0_rank_29 : decode cX0_rank 29 = .ok (.iadd, 1) := by decide +kernel
theorem dX0_rank_30 : decode cX0_rank 30 = .ok (.istore 6, 2) := by decide +kernel
theorem dX0_rank_32 : decode cX0_rank 32 = .ok (.iload 6, 2) := by decide +kernel
theorem dX0_rank_34 : decode cX0_rank 34 = .ok (.bipush 12, 2) := by decide +kernel
theorem dX0_rank_36 : decode cX0_rank 36 = .ok (.if_icmp .ge 42, 3) := by decide +kernel
theorem dX0_rank_39 : decode cX0_rank 39 = .ok (.aload_n 0, 1) := by decide +kernel
theorem dX0_rank_40 : decode cX0_rank 40 = .ok (.iload 5, 2) := by decide +kernel
theorem dX0_rank_42 : decode cX0_rank 42 = .ok (.invokevirtual 46, 3) := by decide +kernel
theorem dX0_rank_45 : decode cX0_rank 45 = .ok (.ifCond .eq 27, 3) := by decide +kernel
theorem dX0_rank_48 : decode cX0_rank 48 = .ok (.aload_n 0, 1) := by decide +kernel
theorem dX0_rank_49 : decode cX0_rank 49 = .ok (.iload 6, 2) := by decide +kernel
theorem dX0_rank_51 : decode cX0_rank 51 = .ok (.invokevirtual 46, 3) := by decide +kernel
theorem dX0_rank_54 : decode cX0_rank 54 = .ok (.ifCond .eq 18, 3) := by decide +kernel
theorem dX0_rank_57 : decode cX0_rank 57 = .ok (.aload_n 0, 1) := by decide +kernel
theorem dX0_rank_58 : decode cX0_rank 58 = .ok (.iload 5, 2) := by decide +kernel
theorem dX0_rank_60 : decode cX0_rank 60 = .ok (.iload 6, 2) := by decide +kernel
theorem dX0_rank_62 : decode cX0_rank 62 = .ok (.invokevirtual 80, 3) := by decide +kernel
theorem dX0_rank_65 : decode cX0_rank 65 = .ok (.iload_n 3, 1) := by decide +kernel
theorem dX0_rank_66 : decode cX0_rank 66 = .ok (.if_icmp .ge 6, 3) := by decide +kernel
theorem dX0_rank_69 : decode cX0_rank 69 = .ok (.iinc 4 1, 3) := by decide +kernel
theorem dX0_rank_72 : decode cX0_rank 72 = .ok (.iinc 6 1, 3) := by decide +kernel
theorem dX0_rank_75 : decode cX0_rank 75 = .ok (.goto (-43), 3) := by decide +kernel
theorem dX0_rank_78 : decode cX0_rank 78 = .ok (.iinc 5 1, 3) := by decide +kernel
theorem dX0_rank_81 : decode cX0_rank 81 = .ok (.goto (-62), 3) := by decide +kernel
theorem dX0_rank_84 : decode cX0_rank 84 = .ok (.iload 4, 2) := by decide +kernel
theorem dX0_rank_86 : decode cX0_rank 86 = .ok (.ireturn, 1) := by decide +kernel
theorem dX0_isIn_0 : decode cX0_isIn 0 = .ok (.aload_n 0, 1) := by decide +kernel
theorem dX0_isIn_1 : decode cX0_isIn 1 = .ok (.iload_n 1, 1) := by decide +kernel
theorem dX0_isIn_2 : decode cX0_isIn 2 = .ok (.iload_n 2, 1) := by decide +kernel
theorem dX0_isIn_3 : decode cX0_isIn 3 = .ok (.invokevirtual 76, 3) := by decide +kernel
theorem dX0_isIn_6 : decode cX0_isIn 6 = .ok (.iload_n 3, 1) := by decide +kernel
theorem dX0_isIn_7 : decode cX0_isIn 7 = .ok (.invokestatic 112, 3) := by decide +kernel
theorem dX0_isIn_10 : decode cX0_isIn 10 = .ok (.aload_n 0, 1) := by decide +kernel
theorem dX0_isIn_11 : decode cX0_isIn 11 = .ok (.iload_n 1, 1) := by decide +kernel
theorem dX0_isIn_12 : decode cX0_isIn 12 = .ok (.iload_n 2, 1) := by decide +kernel
theorem dX0_isIn_13 : decode cX0_isIn 13 = .ok (.invokevirtual 80, 3) := by decide +kernel
theorem dX0_isIn_16 : decode cX0_isIn 16 = .ok (.iload_n 3, 1) := by decide +kernel
theorem dX0_isIn_17 : decode cX0_isIn 17 = .ok (.iload 4, 2) := by decide +kernel
theorem dX0_isIn_19 : decode cX0_isIn 19 = .ok (.invokestatic 115, 3) := by decide +kernel
theorem dX0_isIn_22 : decode cX0_isIn 22 = .ok (.invokestatic 119, 3) := by decide +kernel
theorem dX0_isIn_25 : decode cX0_isIn 25 = .ok (.if_icmp .gt 7, 3) := by decide +kernel
theorem dX0_isIn_28 : decode cX0_isIn 28 = .ok (.iconst 1, 1) := by decide +kernel
theorem dX0_isIn_29 : decode cX0_isIn 29 = .ok (.goto 4, 3) := by decide +kernel
theorem dX0_isIn_32 : decode cX0_isIn 32 = .ok (.iconst 0, 1) := by decide +kernel
theorem dX0_isIn_33 : decode cX0_isIn 33 = .ok (.ireturn, 1) := by decide +kernel
theorem dX0_root_0 : decode cX0_root 0 = .ok (.iload_n 1, 1) := by decide +kernel
theorem dX0_root_1 : decode cX0_root 1 = .ok (.invokestatic 112, 3) := by decide +kernel
theorem dX0_root_4 : decode cX0_root 4 = .ok (.iload_n 1, 1) := by decide +kernel
theorem dX0_root_5 : decode cX0_root 5 = .ok (.iload_n 2, 1) := by decide +kernel
theorem dX0_root_6 : decode cX0_root 6 = .ok (.invokestatic 115, 3) := by decide +kernel
