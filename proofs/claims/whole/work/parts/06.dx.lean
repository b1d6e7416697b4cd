theorem dX0_init_0 : decode cX0_init 0 = .ok (.aload_n 0, 1) := by decide +kernel
theorem dX0_init_1 : decode cX0_init 1 = .ok (.invokespecial 1, 3) := by decide +kernel
theorem dX0_init_4 : decode cX0_init 4 = .ok (.aload_n 0, 1) := by decide +kernel
theorem dX0_init_5 : decode cX0_init 5 = .ok (.bipush 100, 2) := by decide +kernel
theorem dX0_init_7 : decode cX0_init 7 = .ok (.newarray .long, 2) := by decide +kernel
theorem dX0_init_9 : decode cX0_init 9 = .ok (.putfield 9, 3) := by decide +kernel
theorem dX0_init_12 : decode cX0_init 12 = .ok (.aload_n 0, 1) := by decide +kernel
theorem dX0_init_13 : decode cX0_init 13 = .ok (.bipush 100, 2) := by decide +kernel
theorem dX0_init_15 : decode cX0_init 15 = .ok (.newarray .long, 2) := by decide +kernel
theorem dX0_init_17 : decode cX0_init 17 = .ok (.putfield 13, 3) := by decide +kernel
theorem dX0_init_20 : decode cX0_init 20 = .ok (.aload_n 0, 1) := by decide +kernel
theorem dX0_init_21 : decode cX0_init 21 = .ok (.iconst 0, 1) := by decide +kernel
theorem dX0_init_22 : decode cX0_init 22 = .ok (.putfield 16, 3) := by decide +kernel
theorem dX0_init_25 : decode cX0_init 25 = .ok (.aload_n 0, 1) := by decide +kernel
theorem dX0_init_26 : decode cX0_init 26 = .ok (.bipush 8, 2) := by decide +kernel
theorem dX0_init_28 : decode cX0_init 28 = .ok (.newarray .int, 2) := by decide +kernel
theorem dX0_init_30 : decode cX0_init 30 = .ok (.putfield 20, 3) := by decide +kernel
theorem dX0_init_33 : decode cX0_init 33 = .ok (.aload_n 0, 1) := by decide +kernel
theorem dX0_init_34 : decode cX0_init 34 = .ok (.bipush 8, 2) := by decide +kernel
theorem dX0_init_36 : decode cX0_init 36 = .ok (.newarray .long, 2) := by decide +kernel
theorem dX0_init_38 : decode cX0_init 38 = .ok (.putfield 24, 3) := by decide +kernel
theorem dX0_init_41 : decode cX0_init 41 = .ok (.aload_n 0, 1) := by decide +kernel
theorem dX0_init_42 : decode cX0_init 42 = .ok (.bipush 8, 2) := by decide +kernel
theorem dX0_init_44 : decode cX0_init 44 = .ok (.newarray .long, 2) := by decide +kernel
theorem dX0_init_46 : decode cX0_init 46 = .ok (.putfield 27, 3) := by decide +kernel
theorem dX0_init_49 : decode cX0_init 49 = .ok (.iconst 0, 1) := by decide +kernel
theorem dX0_init_50 : decode cX0_init 50 = .ok (.istore_n 1, 1) := by decide +kernel
theorem dX0_init_51 : decode cX0_init 51 = .ok (.iload_n 1, 1) := by decide +kernel
theorem dX0_init_52 : decode cX0_init 52 = .ok (.bipush 8, 2) := by decide +kernel
theorem dX0_init_54 : decode cX0_init 54 = .ok (.if_icmp .ge 16, 3) := by decide +kernel
theorem dX0_init_57 : decode cX0_init 57 = .ok (.aload_n 0, 1) := by decide +kernel
theorem dX0_init_58 : decode cX0_init 58 = .ok (.getfield 20, 3) := by decide +kernel
theorem dX0_init_61 : decode cX0_init 61 = .ok (.iload_n 1, 1) := by decide +kernel
theorem dX0_init_62 : decode cX0_init 62 = .ok (.iconst (-1), 1) := by decide +kernel
theorem dX0_init_63 : decode cX0_init 63 = .ok (.iastore, 1) := by decide +kernel
theorem dX0_init_64 : decode cX0_init 64 = .ok (.iinc 1 1, 3) := by decide +kernel
theorem dX0_init_67 : decode cX0_init 67 = .ok (.goto (-16), 3) := by decide +kernel
theorem dX0_init_70 : decode cX0_init 70 = .ok (.return_, 1) := by decide +kernel
theorem dX0_crash_0 : decode cX0_crash 0 = .ok (.iconst 0, 1) := by decide +kernel
theorem dX0_crash_1 : decode cX0_crash 1 = .ok (.istore_n 1, 1) := by decide +kernel
theorem dX0_crash_2 : decode cX0_crash 2 = .ok (.iconst 0, 1) := by decide +kernel
theorem dX0_crash_3 : decode cX0_crash 3 = .ok (.istore_n 2, 1) := by decide +kernel
theorem dX0_crash_4 : decode cX0_crash 4 = .ok (.iload_n 2, 1) := by decide +kernel
theorem dX0_crash_5 : decode cX0_crash 5 = .ok (.bipush 8, 2) := by decide +kernel
theorem dX0_crash_7 : decode cX0_crash 7 = .ok (.if_icmp .ge 29, 3) := by decide +kernel
theorem dX0_crash_10 : decode cX0_crash 10 = .ok (.aload_n 0, 1) := by decide +kernel
theorem dX0_crash_11 : decode cX0_crash 11 = .ok (.getfield 20, 3) := by decide +kernel
theorem dX0_crash_14 : decode cX0_crash 14 = .ok (.iload_n 2, 1) := by decide +kernel
theorem dX0_crash_15 : decode cX0_crash 15 = .ok (.iaload, 1) := by decide +kernel
theorem dX0_crash_16 : decode cX0_crash 16 = .ok (.iconst (-1), 1) := by decide +kernel
theorem dX0_crash_17 : decode cX0_crash 17 = .ok (.if_icmp .eq 13, 3) := by decide +kernel
theorem dX0_crash_20 : decode cX0_crash 20 = .ok (.aload_n 0, 1) := by decide +kernel
theorem dX0_crash_21 : decode cX0_crash 21 = .ok (.getfield 20, 3) := by decide +kernel
theorem dX0_crash_24 : decode cX0_crash 24 = .ok (.iload_n 2, 1) := by decide +kernel
theorem dX0_crash_25 : decode cX0_crash 25 = .ok (.iconst (-1), 1) := by decide +kernel
theorem dX0_crash_26 : decode cX0_crash 26 = .ok (.iastore, 1) := by decide +kernel
theorem dX0_crash_27 : decode cX0_crash 27 = .ok (.iinc 1 1, 3) := by decide +kernel
theorem dX0_crash_30 : decode cX0_crash 30 = .ok (.iinc 2 1, 3) := by decide +kernel
theorem dX0_crash_33 : decode cX0_crash 33 = .ok (.goto (-29), 3) := by decide +kernel
theorem dX0_crash_36 : decode cX0_crash 36 = .ok (.iload_n 1, 1) := by decide +kernel
theorem dX0_crash_37 : decode cX0_crash 37 = .ok (.ireturn, 1) := by decide +kernel
theorem dX0_size_0 : decode cX0_size 0 = .ok (.aload_n 0, 1) := by decide +kernel
theorem dX0_size_1 : decode cX0_size 1 = .ok (.getfield 16, 3) := by decide +kernel
theorem dX0_size_4 : decode cX0_size 4 = .ok (.ireturn, 1) := by decide +kernel
theorem dX0_count_0 : decode cX0_count 0 = .ok (.iconst 0, 1) := by decide +kernel
theorem dX0_count_1 : decode cX0_count 1 = .ok (.istore 5, 2) := by decide +kernel
theorem dX0_count_3 : decode cX0_count 3 = .ok (.aload_n 0, 1) := by decide +kernel
theorem dX0_count_4 : decode cX0_count 4 = .ok (.lload_n 1, 1) := by decide +kernel
theorem dX0_count_5 : decode cX0_count 5 = .ok (.invokevirtual 52, 3) := by decide +kernel
theorem dX0_count_8 : decode cX0_count 8 = .ok (.istore 6, 2) := by decide +kernel
theorem dX0_count_10 : decode cX0_count 10 = .ok (.iload 6, 2) := by decide +kernel
theorem dX0_count_12 : decode cX0_count 12 = .ok (.aload_n 0, 1) := by decide +kernel
theorem dX0_count_13 : decode cX0_count 13 = .ok (.getfield 16, 3) := by decide +kernel
theorem dX0_count_16 : decode cX0_count 16 = .ok (.if_icmp .ge 24, 3) := by decide +kernel
theorem dX0_count_19 : decode cX0_count 19 = .ok (.aload_n 0, 1) := by decide +kernel
theorem dX0_count_20 : decode cX0_count 20 = .ok (.getfield 9, 3) := by decide +kernel
theorem dX0_count_23 : decode cX0_count 23 = .ok (.iload 6, 2) := by decide +kernel
theorem dX0_count_25 : decode cX0_count 25 = .ok (.laload, 1) := by decide +kernel
theorem dX0_count_26 : decode cX0_count 26 = .ok (.lload_n 3, 1) := by decide +kernel
theorem dX0_count_27 : decode cX0_count 27 = .ok (.lcmp, 1) := by decide +kernel
theorem dX0_count_28 : decode cX0_count 28 = .ok (.ifCond .gt 12, 3) := by decide +kernel
theorem dX0_count_31 : decode cX0_count 31 = .ok (.iinc 5 1, 3) := by decide +kernel
theorem dX0_count_34 : decode cX0_count 34 = .ok (.iinc 6 1, 3) := by decide +kernel
theorem dX0_count_37 : decode cX0_count 37 = .ok (.goto (-27), 3) := by decide +kernel
theorem dX0_count_40 : decode cX0_count 40 = .ok (.iload 5, 2) := by decide +kernel
theorem dX0_count_42 : decode cX0_count 42 = .ok (.ireturn, 1) := by decide +kernel
theorem dX0_placeOf_0 : decode cX0_placeOf 0 = .ok (.iconst 0, 1) := by decide +kernel
theorem dX0_placeOf_1 : decode cX0_placeOf 1 = .ok (.istore_n 3, 1) := by decide +kernel
theorem dX0_placeOf_2 : decode cX0_placeOf 2 = .ok (.iload_n 3, 1) := by decide +kernel
theorem dX0_placeOf_3 : decode cX0_placeOf 3 = .ok (.aload_n 0, 1) := by decide +kernel
theorem dX0_placeOf_4 : decode cX0_placeOf 4 = .ok (.getfield 16, 3) := by decide +kernel
theorem dX0_placeOf_7 : decode cX0_placeOf 7 = .ok (.if_icmp .ge 20, 3) := by decide +kernel
theorem dX0_placeOf_10 : decode cX0_placeOf 10 = .ok (.aload_n 0, 1) := by decide +kernel
theorem dX0_placeOf_11 : decode cX0_placeOf 11 = .ok (.getfield 9, 3) := by decide +kernel
theorem dX0_placeOf_14 : decode cX0_placeOf 14 = .ok (.iload_n 3, 1) := by decide +kernel
theorem dX0_placeOf_15 : decode cX0_placeOf 15 = .ok (.laload, 1) := by decide +kernel
theorem dX0_placeOf_16 : decode cX0_placeOf 16 = .ok (.lload_n 1, 1) := by decide +kernel
theorem dX0_placeOf_17 : decode cX0_placeOf 17 = .ok (.lcmp, 1) := by decide +kernel
theorem dX0_placeOf_18 : decode cX0_placeOf 18 = .ok (.ifCond .ge 9, 3) := by decide +kernel
theorem dX0_placeOf_21 : decode cX0_placeOf 21 = .ok (.iinc 3 1, 3) := by decide +kernel
theorem dX0_placeOf_24 : decode cX0_placeOf 24 = .ok (.goto (-22), 3) := by decide +kernel
theorem dX0_placeOf_27 : decode cX0_placeOf 27 = .ok (.iload_n 3, 1) := by decide +kernel
theorem dX0_placeOf_28 : decode cX0_placeOf 28 = .ok (.ireturn, 1) := by decide +kernel
theorem dX0_sum_0 : decode cX0_sum 0 = .ok (.lconst 0, 1) := by decide +kernel
theorem dX0_sum_1 : decode cX0_sum 1 = .ok (.lstore 5, 2) := by decide +kernel
theorem dX0_sum_3 : decode cX0_sum 3 = .ok (.aload_n 0, 1) := by decide +kernel
theorem dX0_sum_4 : decode cX0_sum 4 = .ok (.lload_n 1, 1) := by decide +kernel
theorem dX0_sum_5 : decode cX0_sum 5 = .ok (.invokevirtual 52, 3) := by decide +kernel
theorem dX0_sum_8 : decode cX0_sum 8 = .ok (.istore 7, 2) := by decide +kernel
theorem dX0_sum_10 : decode cX0_sum 10 = .ok (.iload 7, 2) := by decide +kernel
theorem dX0_sum_12 : decode cX0_sum 12 = .ok (.aload_n 0, 1) := by decide +kernel
theorem dX0_sum_13 : decode cX0_sum 13 = .ok (.getfield 16, 3) := by decide +kernel
theorem dX0_sum_16 : decode cX0_sum 16 = .ok (.if_icmp .ge 33, 3) := by decide +kernel
theorem dX0_sum_19 : decode cX0_sum 19 = .ok (.aload_n 0, 1) := by decide +kernel
theorem dX0_sum_20 : decode cX0_sum 20 = .ok (.getfield 9, 3) := by decide +kernel
theorem dX0_sum_23 : decode cX0_sum 23 = .ok (.iload 7, 2) := by decide +kernel
theorem dX0_sum_25 : decode cX0_sum 25 = .ok (.laload, 1) := by decide +kernel
theorem dX0_sum_26 : decode cX0_sum 26 = .ok (.lload_n 3, 1) := by decide +kernel
theorem dX0_sum_27 : decode cX0_sum 27 = .ok (.lcmp, 1) := by decide +kernel
theorem dX0_sum_28 : decode cX0_sum 28 = .ok (.ifCond .gt 21, 3) := by decide +kernel
theorem dX0_sum_31 : decode cX0_sum 31 = .ok (.lload 5, 2) := by decide +kernel
theorem dX0_sum_33 : decode cX0_sum 33 = .ok (.aload_n 0, 1) := by decide +kernel
theorem dX0_sum_34 : decode cX0_sum 34 = .ok (.getfield 13, 3) := by decide +kernel
theorem dX0_sum_37 : decode cX0_sum 37 = .ok (.iload 7, 2) := by decide +kernel
theorem dX0_sum_39 : decode cX0_sum 39 = .ok (.laload, 1) := by decide +kernel
theorem dX0_sum_40 : decode cX0_sum 40 = .ok (.ladd, 1) := by decide +kernel
theorem dX0_sum_41 : decode cX0_sum 41 = .ok (.lstore 5, 2) := by decide +kernel
theorem dX0_sum_43 : decode cX0_sum 43 = .ok (.iinc 7 1, 3) := by decide +kernel
theorem dX0_sum_46 : decode cX0_sum 46 = .ok (.goto (-36), 3) := by decide +kernel
theorem dX0_sum_49 : decode cX0_sum 49 = .ok (.lload 5, 2) := by decide +kernel
theorem dX0_sum_51 : decode cX0_sum 51 = .ok (.lreturn, 1) := by decide +kernel
theorem dX0_begin_0 : decode cX0_begin 0 = .ok (.iload_n 1, 1) := by decide +kernel
theorem dX0_begin_1 : decode cX0_begin 1 = .ok (.invokestatic 30, 3) := by decide +kernel
theorem dX0_begin_4 : decode cX0_begin 4 = .ok (.iload_n 2, 1) := by decide +kernel
theorem dX0_begin_5 : decode cX0_begin 5 = .ok (.ifCond .lt 8, 3) := by decide +kernel
theorem dX0_begin_8 : decode cX0_begin 8 = .ok (.iload_n 2, 1) := by decide +kernel
theorem dX0_begin_9 : decode cX0_begin 9 = .ok (.iconst 3, 1) := by decide +kernel
theorem dX0_begin_10 : decode cX0_begin 10 = .ok (.if_icmp .le 13, 3) := by decide +kernel
theorem dX0_begin_13 : decode cX0_begin 13 = .ok (.new 34, 3) := by decide +kernel
theorem dX0_begin_16 : decode cX0_begin 16 = .ok (.dup, 1) := by decide +kernel
theorem dX0_begin_17 : decode cX0_begin 17 = .ok (.ldc 36, 2) := by decide +kernel
theorem dX0_begin_19 : decode cX0_begin 19 = .ok (.invokespecial 38, 3) := by decide +kernel
theorem dX0_begin_22 : decode cX0_begin 22 = .ok (.athrow, 1) := by decide +kernel
theorem dX0_begin_23 : decode cX0_begin 23 = .ok (.aload_n 0, 1) := by decide +kernel
theorem dX0_begin_24 : decode cX0_begin 24 = .ok (.getfield 20, 3) := by decide +kernel
theorem dX0_begin_27 : decode cX0_begin 27 = .ok (.iload_n 1, 1) := by decide +kernel
theorem dX0_begin_28 : decode cX0_begin 28 = .ok (.iaload, 1) := by decide +kernel
theorem dX0_begin_29 : decode cX0_begin 29 = .ok (.iconst (-1), 1) := by decide +kernel
theorem dX0_begin_30 : decode cX0_begin 30 = .ok (.if_icmp .eq 13, 3) := by decide +kernel
theorem dX0_begin_33 : decode cX0_begin 33 = .ok (.new 41, 3) := by decide +kernel
theorem dX0_begin_36 : decode cX0_begin 36 = .ok (.dup, 1) := by decide +kernel
theorem dX0_begin_37 : decode cX0_begin 37 = .ok (.ldc 43, 2) := by decide +kernel
theorem dX0_begin_39 : decode cX0_begin 39 = .ok (.invokespecial 45, 3) := by decide +kernel
theorem dX0_begin_42 : decode cX0_begin 42 = .ok (.athrow, 1) := by decide +kernel
theorem dX0_begin_43 : decode cX0_begin 43 = .ok (.aload_n 0, 1) := by decide +kernel
theorem dX0_begin_44 : decode cX0_begin 44 = .ok (.getfield 20, 3) := by decide +kernel
theorem dX0_begin_47 : decode cX0_begin 47 = .ok (.iload_n 1, 1) := by decide +kernel
theorem dX0_begin_48 : decode cX0_begin 48 = .ok (.iload_n 2, 1) := by decide +kernel
theorem dX0_begin_49 : decode cX0_begin 49 = .ok (.iastore, 1) := by decide +kernel
theorem dX0_begin_50 : decode cX0_begin 50 = .ok (.aload_n 0, 1) := by decide +kernel
theorem dX0_begin_51 : decode cX0_begin 51 = .ok (.getfield 24, 3) := by decide +kernel
theorem dX0_begin_54 : decode cX0_begin 54 = .ok (.iload_n 1, 1) := by decide +kernel
theorem dX0_begin_55 : decode cX0_begin 55 = .ok (.lload_n 3, 1) := by decide +kernel
theorem dX0_begin_56 : decode cX0_begin 56 = .ok (.lastore, 1) := by decide +kernel
theorem dX0_begin_57 : decode cX0_begin 57 = .ok (.aload_n 0, 1) := by decide +kernel
theorem dX0_begin_58 : decode cX0_begin 58 = .ok (.getfield 27, 3) := by decide +kernel
theorem dX0_begin_61 : decode cX0_begin 61 = .ok (.iload_n 1, 1) := by decide +kernel
theorem dX0_begin_62 : decode cX0_begin 62 = .ok (.lload 5, 2) := by decide +kernel
theorem dX0_begin_64 : decode cX0_begin 64 = .ok (.lastore, 1) := by decide +kernel
theorem dX0_begin_65 : decode cX0_begin 65 = .ok (.return_, 1) := by decide +kernel
theorem dX0_requireSlot_0 : decode cX0_requireSlot 0 = .ok (.iload_n 0, 1) := by decide +kernel
theorem dX0_requireSlot_1 : decode cX0_requireSlot 1 = .ok (.ifCond .lt 9, 3) := by decide +kernel
theorem dX0_requireSlot_4 : decode cX0_requireSlot 4 = .ok (.iload_n 0, 1) := by decide +kernel
theorem dX0_requireSlot_5 : decode cX0_requireSlot 5 = .ok (.bipush 8, 2) := by decide +kernel
theorem dX0_requireSlot_7 : decode cX0_requireSlot 7 = .ok (.if_icmp .lt 13, 3) := by decide +kernel
theorem dX0_requireSlot_10 : decode cX0_requireSlot 10 = .ok (.new 34, 3) := by decide +kernel
theorem dX0_requireSlot_13 : decode cX0_requireSlot 13 = .ok (.dup, 1) := by decide +kernel
theorem dX0_requireSlot_14 : decode cX0_requireSlot 14 = .ok (.ldc 75, 2) := by decide +kernel
theorem dX0_requireSlot_16 : decode cX0_requireSlot 16 = .ok (.invokespecial 38, 3) := by decide +kernel
theorem dX0_requireSlot_19 : decode cX0_requireSlot 19 = .ok (.athrow, 1) := by decide +kernel
theorem dX0_requireSlot_20 : decode cX0_requireSlot 20 = .ok (.return_, 1) := by decide +kernel
theorem dX0_step_0 : decode cX0_step 0 = .ok (.iload_n 1, 1) := by decide +kernel
theorem dX0_step_1 : decode cX0_step 1 = .ok (.invokestatic 30, 3) := by decide +kernel
theorem dX0_step_4 : decode cX0_step 4 = .ok (.iload_n 2, 1) := by decide +kernel
theorem dX0_step_5 : decode cX0_step 5 = .ok (.invokestatic 46, 3) := by decide +kernel
theorem dX0_step_8 : decode cX0_step 8 = .ok (.aload_n 0, 1) := by decide +kernel
theorem dX0_step_9 : decode cX0_step 9 = .ok (.iload_n 1, 1) := by decide +kernel
theorem dX0_step_10 : decode cX0_step 10 = .ok (.invokevirtual 49, 3) := by decide +kernel
theorem dX0_step_13 : decode cX0_step 13 = .ok (.return_, 1) := by decide +kernel
theorem dX0_requireSteps_0 : decode cX0_requireSteps 0 = .ok (.iload_n 0, 1) := by decide +kernel
theorem dX0_requireSteps_1 : decode cX0_requireSteps 1 = .ok (.ifCond .lt 9, 3) := by decide +kernel
theorem dX0_requireSteps_4 : decode cX0_requireSteps 4 = .ok (.iload_n 0, 1) := by decide +kernel
theorem dX0_requireSteps_5 : decode cX0_requireSteps 5 = .ok (.bipush 20, 2) := by decide +kernel
theorem dX0_requireSteps_7 : decode cX0_requireSteps 7 = .ok (.if_icmp .le 13, 3) := by decide +kernel
theorem dX0_requireSteps_10 : decode cX0_requireSteps 10 = .ok (.new 34, 3) := by decide +kernel
theorem dX0_requireSteps_13 : decode cX0_requireSteps 13 = .ok (.dup, 1) := by decide +kernel
theorem dX0_requireSteps_14 : decode cX0_requireSteps 14 = .ok (.ldc 77, 2) := by decide +kernel
theorem dX0_requireSteps_16 : decode cX0_requireSteps 16 = .ok (.invokespecial 38, 3) := by decide +kernel
theorem dX0_requireSteps_19 : decode cX0_requireSteps 19 = .ok (.athrow, 1) := by decide +kernel
theorem dX0_requireSteps_20 : decode cX0_requireSteps 20 = .ok (.return_, 1) := by decide +kernel
theorem dX0_requireOperation_0 : decode cX0_requireOperation 0 = .ok (.aload_n 0, 1) := by decide +kernel
theorem dX0_requireOperation_1 : decode cX0_requireOperation 1 = .ok (.getfield 20, 3) := by decide +kernel
theorem dX0_requireOperation_4 : decode cX0_requireOperation 4 = .ok (.iload_n 1, 1) := by decide +kernel
theorem dX0_requireOperation_5 : decode cX0_requireOperation 5 = .ok (.iaload, 1) := by decide +kernel
theorem dX0_requireOperation_6 : decode cX0_requireOperation 6 = .ok (.iconst (-1), 1) := by decide +kernel
theorem dX0_requireOperation_7 : decode cX0_requireOperation 7 = .ok (.if_icmp .ne 13, 3) := by decide +kernel
theorem dX0_requireOperation_10 : decode cX0_requireOperation 10 = .ok (.new 41, 3) := by decide +kernel
theorem dX0_requireOperation_13 : decode cX0_requireOperation 13 = .ok (.dup, 1) := by decide +kernel
theorem dX0_requireOperation_14 : decode cX0_requireOperation 14 = .ok (.ldc 79, 2) := by decide +kernel
theorem dX0_requireOperation_16 : decode cX0_requireOperation 16 = .ok (.invokespecial 45, 3) := by decide +kernel
theorem dX0_requireOperation_19 : decode cX0_requireOperation 19 = .ok (.athrow, 1) := by decide +kernel
theorem dX0_requireOperation_20 : decode cX0_requireOperation 20 = .ok (.return_, 1) := by decide +kernel
theorem dX0_finish_0 : decode cX0_finish 0 = .ok (.iload_n 1, 1) := by decide +kernel
theorem dX0_finish_1 : decode cX0_finish 1 = .ok (.invokestatic 30, 3) := by decide +kernel
theorem dX0_finish_4 : decode cX0_finish 4 = .ok (.aload_n 0, 1) := by decide +kernel
theorem dX0_finish_5 : decode cX0_finish 5 = .ok (.iload_n 1, 1) := by decide +kernel
theorem dX0_finish_6 : decode cX0_finish 6 = .ok (.invokevirtual 49, 3) := by decide +kernel
theorem dX0_finish_9 : decode cX0_finish 9 = .ok (.aload_n 0, 1) := by decide +kernel
theorem dX0_finish_10 : decode cX0_finish 10 = .ok (.getfield 20, 3) := by decide +kernel
theorem dX0_finish_13 : decode cX0_finish 13 = .ok (.iload_n 1, 1) := by decide +kernel
theorem dX0_finish_14 : decode cX0_finish 14 = .ok (.iaload, 1) := by decide +kernel
theorem dX0_finish_15 : decode cX0_finish 15 = .ok (.istore_n 2, 1) := by decide +kernel
theorem dX0_finish_16 : decode cX0_finish 16 = .ok (.aload_n 0, 1) := by decide +kernel
theorem dX0_finish_17 : decode cX0_finish 17 = .ok (.aload_n 0, 1) := by decide +kernel
theorem dX0_finish_18 : decode cX0_finish 18 = .ok (.getfield 24, 3) := by decide +kernel
theorem dX0_finish_21 : decode cX0_finish 21 = .ok (.iload_n 1, 1) := by decide +kernel
theorem dX0_finish_22 : decode cX0_finish 22 = .ok (.laload, 1) := by decide +kernel
theorem dX0_finish_23 : decode cX0_finish 23 = .ok (.invokevirtual 52, 3) := by decide +kernel
theorem dX0_finish_26 : decode cX0_finish 26 = .ok (.istore_n 3, 1) := by decide +kernel
theorem dX0_finish_27 : decode cX0_finish 27 = .ok (.iload_n 2, 1) := by decide +kernel
theorem dX0_finish_28 : decode cX0_finish 28 = .ok (.iconst 1, 1) := by decide +kernel
theorem dX0_finish_29 : decode cX0_finish 29 = .ok (.if_icmp .ne 10, 3) := by decide +kernel
theorem dX0_finish_32 : decode cX0_finish 32 = .ok (.aload_n 0, 1) := by decide +kernel
theorem dX0_finish_33 : decode cX0_finish 33 = .ok (.iload_n 1, 1) := by decide +kernel
theorem dX0_finish_34 : decode cX0_finish 34 = .ok (.iload_n 3, 1) := by decide +kernel
theorem dX0_finish_35 : decode cX0_finish 35 = .ok (.invokevirtual 56, 3) := by decide +kernel
theorem dX0_finish_38 : decode cX0_finish 38 = .ok (.lreturn, 1) := by decide +kernel
theorem dX0_finish_39 : decode cX0_finish 39 = .ok (.iload_n 2, 1) := by decide +kernel
theorem dX0_finish_40 : decode cX0_finish 40 = .ok (.iconst 3, 1) := by decide +kernel
theorem dX0_finish_41 : decode cX0_finish 41 = .ok (.if_icmp .ne 19, 3) := by decide +kernel
theorem dX0_finish_44 : decode cX0_finish 44 = .ok (.iload_n 3, 1) := by decide +kernel
theorem dX0_finish_45 : decode cX0_finish 45 = .ok (.aload_n 0, 1) := by decide +kernel
theorem dX0_finish_46 : decode cX0_finish 46 = .ok (.getfield 16, 3) := by decide +kernel
theorem dX0_finish_49 : decode cX0_finish 49 = .ok (.if_icmp .ge 7, 3) := by decide +kernel
theorem dX0_finish_52 : decode cX0_finish 52 = .ok (.iconst 1, 1) := by decide +kernel
theorem dX0_finish_53 : decode cX0_finish 53 = .ok (.goto 18, 3) := by decide +kernel
theorem dX0_finish_56 : decode cX0_finish 56 = .ok (.iconst 0, 1) := by decide +kernel
theorem dX0_finish_57 : decode cX0_finish 57 = .ok (.goto 14, 3) := by decide +kernel
theorem dX0_finish_60 : decode cX0_finish 60 = .ok (.aload_n 0, 1) := by decide +kernel
theorem dX0_finish_61 : decode cX0_finish 61 = .ok (.iload_n 3, 1) := by decide +kernel
theorem dX0_finish_62 : decode cX0_finish 62 = .ok (.aload_n 0, 1) := by decide +kernel
theorem dX0_finish_63 : decode cX0_finish 63 = .ok (.getfield 24, 3) := by decide +kernel
theorem dX0_finish_66 : decode cX0_finish 66 = .ok (.iload_n 1, 1) := by decide +kernel
theorem dX0_finish_67 : decode cX0_finish 67 = .ok (.laload, 1) := by decide +kernel
theorem dX0_finish_68 : decode cX0_finish 68 = .ok (.invokevirtual 60, 3) := by decide +kernel
theorem dX0_finish_71 : decode cX0_finish 71 = .ok (.istore 4, 2) := by decide +kernel
theorem dX0_finish_73 : decode cX0_finish 73 = .ok (.aload_n 0, 1) := by decide +kernel
theorem dX0_finish_74 : decode cX0_finish 74 = .ok (.getfield 20, 3) := by decide +kernel
theorem dX0_finish_77 : decode cX0_finish 77 = .ok (.iload_n 1, 1) := by decide +kernel
theorem dX0_finish_78 : decode cX0_finish 78 = .ok (.iconst (-1), 1) := by decide +kernel
theorem dX0_finish_79 : decode cX0_finish 79 = .ok (.iastore, 1) := by decide +kernel
theorem dX0_finish_80 : decode cX0_finish 80 = .ok (.iload 4, 2) := by decide +kernel
theorem dX0_finish_82 : decode cX0_finish 82 = .ok (.ifCond .ne 13, 3) := by decide +kernel
theorem dX0_finish_85 : decode cX0_finish 85 = .ok (.new 64, 3) := by decide +kernel
theorem dX0_finish_88 : decode cX0_finish 88 = .ok (.dup, 1) := by decide +kernel
theorem dX0_finish_89 : decode cX0_finish 89 = .ok (.ldc 66, 2) := by decide +kernel
theorem dX0_finish_91 : decode cX0_finish 91 = .ok (.invokespecial 68, 3) := by decide +kernel
theorem dX0_finish_94 : decode cX0_finish 94 = .ok (.athrow, 1) := by decide +kernel
theorem dX0_finish_95 : decode cX0_finish 95 = .ok (.iload_n 2, 1) := by decide +kernel
theorem dX0_finish_96 : decode cX0_finish 96 = .ok (.iconst 3, 1) := by decide +kernel
theorem dX0_finish_97 : decode cX0_finish 97 = .ok (.if_icmp .ne 10, 3) := by decide +kernel
theorem dX0_finish_100 : decode cX0_finish 100 = .ok (.aload_n 0, 1) := by decide +kernel
theorem dX0_finish_101 : decode cX0_finish 101 = .ok (.getfield 9, 3) := by decide +kernel
theorem dX0_finish_104 : decode cX0_finish 104 = .ok (.iload_n 3, 1) := by decide +kernel
theorem dX0_finish_105 : decode cX0_finish 105 = .ok (.laload, 1) := by decide +kernel
theorem dX0_finish_106 : decode cX0_finish 106 = .ok (.lreturn, 1) := by decide +kernel
theorem dX0_finish_107 : decode cX0_finish 107 = .ok (.aload_n 0, 1) := by decide +kernel
theorem dX0_finish_108 : decode cX0_finish 108 = .ok (.getfield 13, 3) := by decide +kernel
theorem dX0_finish_111 : decode cX0_finish 111 = .ok (.iload_n 3, 1) := by decide +kernel
theorem dX0_finish_112 : decode cX0_finish 112 = .ok (.laload, 1) := by decide +kernel
theorem dX0_finish_113 : decode cX0_finish 113 = .ok (.lstore 5, 2) := by decide +kernel
theorem dX0_finish_115 : decode cX0_finish 115 = .ok (.iload_n 2, 1) := by decide +kernel
theorem dX0_finish_116 : decode cX0_finish 116 = .ok (.iconst 2, 1) := by decide +kernel
theorem dX0_finish_117 : decode cX0_finish 117 = .ok (.if_icmp .ne 8, 3) := by decide +kernel
theorem dX0_finish_120 : decode cX0_finish 120 = .ok (.aload_n 0, 1) := by decide +kernel
theorem dX0_finish_121 : decode cX0_finish 121 = .ok (.iload_n 3, 1) := by decide +kernel
theorem dX0_finish_122 : decode cX0_finish 122 = .ok (.invokevirtual 69, 3) := by decide +kernel
theorem dX0_finish_125 : decode cX0_finish 125 = .ok (.lload 5, 2) := by decide +kernel
theorem dX0_finish_127 : decode cX0_finish 127 = .ok (.lreturn, 1) := by decide +kernel
theorem dX0_finishPut_0 : decode cX0_finishPut 0 = .ok (.aload_n 0, 1) := by decide +kernel
theorem dX0_finishPut_1 : decode cX0_finishPut 1 = .ok (.iload_n 2, 1) := by decide +kernel
theorem dX0_finishPut_2 : decode cX0_finishPut 2 = .ok (.aload_n 0, 1) := by decide +kernel
theorem dX0_finishPut_3 : decode cX0_finishPut 3 = .ok (.getfield 24, 3) := by decide +kernel
theorem dX0_finishPut_6 : decode cX0_finishPut 6 = .ok (.iload_n 1, 1) := by decide +kernel
theorem dX0_finishPut_7 : decode cX0_finishPut 7 = .ok (.laload, 1) := by decide +kernel
theorem dX0_finishPut_8 : decode cX0_finishPut 8 = .ok (.invokevirtual 60, 3) := by decide +kernel
theorem dX0_finishPut_11 : decode cX0_finishPut 11 = .ok (.istore_n 3, 1) := by decide +kernel
theorem dX0_finishPut_12 : decode cX0_finishPut 12 = .ok (.iload_n 3, 1) := by decide +kernel
theorem dX0_finishPut_13 : decode cX0_finishPut 13 = .ok (.ifCond .ne 39, 3) := by decide +kernel
theorem dX0_finishPut_16 : decode cX0_finishPut 16 = .ok (.aload_n 0, 1) := by decide +kernel
theorem dX0_finishPut_17 : decode cX0_finishPut 17 = .ok (.getfield 16, 3) := by decide +kernel
theorem dX0_finishPut_20 : decode cX0_finishPut 20 = .ok (.bipush 100, 2) := by decide +kernel
theorem dX0_finishPut_22 : decode cX0_finishPut 22 = .ok (.if_icmp .lt 13, 3) := by decide +kernel
theorem dX0_finishPut_25 : decode cX0_finishPut 25 = .ok (.new 41, 3) := by decide +kernel
theorem dX0_finishPut_28 : decode cX0_finishPut 28 = .ok (.dup, 1) := by decide +kernel
theorem dX0_finishPut_29 : decode cX0_finishPut 29 = .ok (.ldc 84, 2) := by decide +kernel
theorem dX0_finishPut_31 : decode cX0_finishPut 31 = .ok (.invokespecial 45, 3) := by decide +kernel
theorem dX0_finishPut_34 : decode cX0_finishPut 34 = .ok (.athrow, 1) := by decide +kernel
theorem dX0_finishPut_35 : decode cX0_finishPut 35 = .ok (.aload_n 0, 1) := by decide +kernel
theorem dX0_finishPut_36 : decode cX0_finishPut 36 = .ok (.iload_n 2, 1) := by decide +kernel
theorem dX0_finishPut_37 : decode cX0_finishPut 37 = .ok (.invokevirtual 86, 3) := by decide +kernel
theorem dX0_finishPut_40 : decode cX0_finishPut 40 = .ok (.aload_n 0, 1) := by decide +kernel
theorem dX0_finishPut_41 : decode cX0_finishPut 41 = .ok (.getfield 9, 3) := by decide +kernel
theorem dX0_finishPut_44 : decode cX0_finishPut 44 = .ok (.iload_n 2, 1) := by decide +kernel
theorem dX0_finishPut_45 : decode cX0_finishPut 45 = .ok (.aload_n 0, 1) := by decide +kernel
theorem dX0_finishPut_46 : decode cX0_finishPut 46 = .ok (.getfield 24, 3) := by decide +kernel
theorem dX0_finishPut_49 : decode cX0_finishPut 49 = .ok (.iload_n 1, 1) := by decide +kernel
theorem dX0_finishPut_50 : decode cX0_finishPut 50 = .ok (.laload, 1) := by decide +kernel
theorem dX0_finishPut_51 : decode cX0_finishPut 51 = .ok (.lastore, 1) := by decide +kernel
theorem dX0_finishPut_52 : decode cX0_finishPut 52 = .ok (.aload_n 0, 1) := by decide +kernel
theorem dX0_finishPut_53 : decode cX0_finishPut 53 = .ok (.getfield 13, 3) := by decide +kernel
theorem dX0_finishPut_56 : decode cX0_finishPut 56 = .ok (.iload_n 2, 1) := by decide +kernel
theorem dX0_finishPut_57 : decode cX0_finishPut 57 = .ok (.aload_n 0, 1) := by decide +kernel
theorem dX0_finishPut_58 : decode cX0_finishPut 58 = .ok (.getfield 27, 3) := by decide +kernel
theorem dX0_finishPut_61 : decode cX0_finishPut 61 = .ok (.iload_n 1, 1) := by decide +kernel
theorem dX0_finishPut_62 : decode cX0_finishPut 62 = .ok (.laload, 1) := by decide +kernel
theorem dX0_finishPut_63 : decode cX0_finishPut 63 = .ok (.lastore, 1) := by decide +kernel
theorem dX0_finishPut_64 : decode cX0_finishPut 64 = .ok (.aload_n 0, 1) := by decide +kernel
theorem dX0_finishPut_65 : decode cX0_finishPut 65 = .ok (.getfield 20, 3) := by decide +kernel
theorem dX0_finishPut_68 : decode cX0_finishPut 68 = .ok (.iload_n 1, 1) := by decide +kernel
theorem dX0_finishPut_69 : decode cX0_finishPut 69 = .ok (.iconst (-1), 1) := by decide +kernel
theorem dX0_finishPut_70 : decode cX0_finishPut 70 = .ok (.iastore, 1) := by decide +kernel
theorem dX0_finishPut_71 : decode cX0_finishPut 71 = .ok (.iload_n 3, 1) := by decide +kernel
theorem dX0_finishPut_72 : decode cX0_finishPut 72 = .ok (.ifCond .eq 7, 3) := by decide +kernel
theorem dX0_finishPut_75 : decode cX0_finishPut 75 = .ok (.lconst 1, 1) := by decide +kernel
theorem dX0_finishPut_76 : decode cX0_finishPut 76 = .ok (.goto 4, 3) := by decide +kernel
theorem dX0_finishPut_79 : decode cX0_finishPut 79 = .ok (.lconst 0, 1) := by decide +kernel
theorem dX0_finishPut_80 : decode cX0_finishPut 80 = .ok (.lreturn, 1) := by decide +kernel
theorem dX0_isAt_0 : decode cX0_isAt 0 = .ok (.iload_n 1, 1) := by decide +kernel
theorem dX0_isAt_1 : decode cX0_isAt 1 = .ok (.aload_n 0, 1) := by decide +kernel
theorem dX0_isAt_2 : decode cX0_isAt 2 = .ok (.getfield 16, 3) := by decide +kernel
theorem dX0_isAt_5 : decode cX0_isAt 5 = .ok (.if_icmp .ge 18, 3) := by decide +kernel
theorem dX0_isAt_8 : decode cX0_isAt 8 = .ok (.aload_n 0, 1) := by decide +kernel
theorem dX0_isAt_9 : decode cX0_isAt 9 = .ok (.getfield 9, 3) := by decide +kernel
theorem dX0_isAt_12 : decode cX0_isAt 12 = .ok (.iload_n 1, 1) := by decide +kernel
theorem dX0_isAt_13 : decode cX0_isAt 13 = .ok (.laload, 1) := by decide +kernel
theorem dX0_isAt_14 : decode cX0_isAt 14 = .ok (.lload_n 2, 1) := by decide +kernel
theorem dX0_isAt_15 : decode cX0_isAt 15 = .ok (.lcmp, 1) := by decide +kernel
theorem dX0_isAt_16 : decode cX0_isAt 16 = .ok (.ifCond .ne 7, 3) := by decide +kernel
theorem dX0_isAt_19 : decode cX0_isAt 19 = .ok (.iconst 1, 1) := by decide +kernel
theorem dX0_isAt_20 : decode cX0_isAt 20 = .ok (.goto 4, 3) := by decide +kernel
theorem dX0_isAt_23 : decode cX0_isAt 23 = .ok (.iconst 0, 1) := by decide +kernel
theorem dX0_isAt_24 : decode cX0_isAt 24 = .ok (.ireturn, 1) := by decide +kernel
theorem dX0_openGap_0 : decode cX0_openGap 0 = .ok (.aload_n 0, 1) := by decide +kernel
theorem dX0_openGap_1 : decode cX0_openGap 1 = .ok (.getfield 16, 3) := by decide +kernel
theorem dX0_openGap_4 : decode cX0_openGap 4 = .ok (.istore_n 2, 1) := by decide +kernel
theorem dX0_openGap_5 : decode cX0_openGap 5 = .ok (.iload_n 2, 1) := by decide +kernel
theorem dX0_openGap_6 : decode cX0_openGap 6 = .ok (.iload_n 1, 1) := by decide +kernel
theorem dX0_openGap_7 : decode cX0_openGap 7 = .ok (.if_icmp .le 37, 3) := by decide +kernel
theorem dX0_openGap_10 : decode cX0_openGap 10 = .ok (.aload_n 0, 1) := by decide +kernel
theorem dX0_openGap_11 : decode cX0_openGap 11 = .ok (.getfield 9, 3) := by decide +kernel
theorem dX0_openGap_14 : decode cX0_openGap 14 = .ok (.iload_n 2, 1) := by decide +kernel
theorem dX0_openGap_15 : decode cX0_openGap 15 = .ok (.aload_n 0, 1) := by decide +kernel
theorem dX0_openGap_16 : decode cX0_openGap 16 = .ok (.getfield 9, 3) := by decide +kernel
theorem dX0_openGap_19 : decode cX0_openGap 19 = .ok (.iload_n 2, 1) := by decide +kernel
theorem dX0_openGap_20 : decode cX0_openGap 20 = .ok (.iconst 1, 1) := by decide +kernel
theorem dX0_openGap_21 : decode cX0_openGap 21 = .ok (.isub, 1) := by decide +kernel
theorem dX0_openGap_22 : decode cX0_openGap 22 = .ok (.laload, 1) := by decide +kernel
theorem dX0_openGap_23 : decode cX0_openGap 23 = .ok (.lastore, 1) := by decide +kernel
theorem dX0_openGap_24 : decode cX0_openGap 24 = .ok (.aload_n 0, 1) := by decide +kernel
theorem dX0_openGap_25 : decode cX0_openGap 25 = .ok (.getfield 13, 3) := by decide +kernel
theorem dX0_openGap_28 : decode cX0_openGap 28 = .ok (.iload_n 2, 1) := by decide +kernel
theorem dX0_openGap_29 : decode cX0_openGap 29 = .ok (.aload_n 0, 1) := by decide +kernel
theorem dX0_openGap_30 : decode cX0_openGap 30 = .ok (.getfield 13, 3) := by decide +kernel
theorem dX0_openGap_33 : decode cX0_openGap 33 = .ok (.iload_n 2, 1) := by decide +kernel
theorem dX0_openGap_34 : decode cX0_openGap 34 = .ok (.iconst 1, 1) := by decide +kernel
theorem dX0_openGap_35 : decode cX0_openGap 35 = .ok (.isub, 1) := by decide +kernel
theorem dX0_openGap_36 : decode cX0_openGap 36 = .ok (.laload, 1) := by decide +kernel
theorem dX0_openGap_37 : decode cX0_openGap 37 = .ok (.lastore, 1) := by decide +kernel
theorem dX0_openGap_38 : decode cX0_openGap 38 = .ok (.iinc 2 (-1), 3) := by decide +kernel
theorem dX0_openGap_41 : decode cX0_openGap 41 = .ok (.goto (-36), 3) := by decide +kernel
theorem dX0_openGap_44 : decode cX0_openGap 44 = .ok (.aload_n 0, 1) := by decide +kernel
theorem dX0_openGap_45 : decode cX0_openGap 45 = .ok (.dup, 1) := by decide +kernel
theorem dX0_openGap_46 : decode cX0_openGap 46 = .ok (.getfield 16, 3) := by decide +kernel
theorem dX0_openGap_49 : decode cX0_openGap 49 = .ok (.iconst 1, 1) := by decide +kernel
theorem dX0_openGap_50 : decode cX0_openGap 50 = .ok (.iadd, 1) := by decide +kernel
theorem dX0_openGap_51 : decode cX0_openGap 51 = .ok (.putfield 16, 3) := by decide +kernel
theorem dX0_openGap_54 : decode cX0_openGap 54 = .ok (.return_, 1) := by decide +kernel
theorem dX0_closeGap_0 : decode cX0_closeGap 0 = .ok (.aload_n 0, 1) := by decide +kernel
theorem dX0_closeGap_1 : decode cX0_closeGap 1 = .ok (.dup, 1) := by decide +kernel
theorem dX0_closeGap_2 : decode cX0_closeGap 2 = .ok (.getfield 16, 3) := by decide +kernel
theorem dX0_closeGap_5 : decode cX0_closeGap 5 = .ok (.iconst 1, 1) := by decide +kernel
theorem dX0_closeGap_6 : decode cX0_closeGap 6 = .ok (.isub, 1) := by decide +kernel
theorem dX0_closeGap_7 : decode cX0_closeGap 7 = .ok (.putfield 16, 3) := by decide +kernel
theorem dX0_closeGap_10 : decode cX0_closeGap 10 = .ok (.iload_n 1, 1) := by decide +kernel
theorem dX0_closeGap_11 : decode cX0_closeGap 11 = .ok (.istore_n 2, 1) := by decide +kernel
theorem dX0_closeGap_12 : decode cX0_closeGap 12 = .ok (.iload_n 2, 1) := by decide +kernel
theorem dX0_closeGap_13 : decode cX0_closeGap 13 = .ok (.aload_n 0, 1) := by decide +kernel
theorem dX0_closeGap_14 : decode cX0_closeGap 14 = .ok (.getfield 16, 3) := by decide +kernel
theorem dX0_closeGap_17 : decode cX0_closeGap 17 = .ok (.if_icmp .ge 37, 3) := by decide +kernel
theorem dX0_closeGap_20 : decode cX0_closeGap 20 = .ok (.aload_n 0, 1) := by decide +kernel
theorem dX0_closeGap_21 : decode cX0_closeGap 21 = .ok (.getfield 9, 3) := by decide +kernel
theorem dX0_closeGap_24 : decode cX0_closeGap 24 = .ok (.iload_n 2, 1) := by decide +kernel
theorem dX0_closeGap_25 : decode cX0_closeGap 25 = .ok (.aload_n 0, 1) := by decide +kernel
theorem dX0_closeGap_26 : decode cX0_closeGap 26 = .ok (.getfield 9, 3) := by decide +kernel
theorem dX0_closeGap_29 : decode cX0_closeGap 29 = .ok (.iload_n 2, 1) := by decide +kernel
theorem dX0_closeGap_30 : decode cX0_closeGap 30 = .ok (.iconst 1, 1) := by decide +kernel
theorem dX0_closeGap_31 : decode cX0_closeGap 31 = .ok (.iadd, 1) := by decide +kernel
theorem dX0_closeGap_32 : decode cX0_closeGap 32 = .ok (.laload, 1) := by decide +kernel
theorem dX0_closeGap_33 : decode cX0_closeGap 33 = .ok (.lastore, 1) := by decide +kernel
theorem dX0_closeGap_34 : decode cX0_closeGap 34 = .ok (.aload_n 0, 1) := by decide +kernel
theorem dX0_closeGap_35 : decode cX0_closeGap 35 = .ok (.getfield 13, 3) := by decide +kernel
theorem dX0_closeGap_38 : decode cX0_closeGap 38 = .ok (.iload_n 2, 1) := by decide +kernel
theorem dX0_closeGap_39 : decode cX0_closeGap 39 = .ok (.aload_n 0, 1) := by decide +kernel
theorem dX0_closeGap_40 : decode cX0_closeGap 40 = .ok (.getfield 13, 3) := by decide +kernel
theorem dX0_closeGap_43 : decode cX0_closeGap 43 = .ok (.iload_n 2, 1) := by decide +kernel
theorem dX0_closeGap_44 : decode cX0_closeGap 44 = .ok (.iconst 1, 1) := by decide +kernel
theorem dX0_closeGap_45 : decode cX0_closeGap 45 = .ok (.iadd, 1) := by decide +kernel
theorem dX0_closeGap_46 : decode cX0_closeGap 46 = .ok (.laload, 1) := by decide +kernel
theorem dX0_closeGap_47 : decode cX0_closeGap 47 = .ok (.lastore, 1) := by decide +kernel
theorem dX0_closeGap_48 : decode cX0_closeGap 48 = .ok (.iinc 2 1, 3) := by decide +kernel
theorem dX0_closeGap_51 : decode cX0_closeGap 51 = .ok (.goto (-39), 3) := by decide +kernel
theorem dX0_closeGap_54 : decode cX0_closeGap 54 = .ok (.return_, 1) := by decide +kernel
theorem dX0_drop_0 : decode cX0_drop 0 = .ok (.iload_n 1, 1) := by decide +kernel
theorem dX0_drop_1 : decode cX0_drop 1 = .ok (.invokestatic 30, 3) := by decide +kernel
theorem dX0_drop_4 : decode cX0_drop 4 = .ok (.aload_n 0, 1) := by decide +kernel
theorem dX0_drop_5 : decode cX0_drop 5 = .ok (.getfield 20, 3) := by decide +kernel
theorem dX0_drop_8 : decode cX0_drop 8 = .ok (.iload_n 1, 1) := by decide +kernel
theorem dX0_drop_9 : decode cX0_drop 9 = .ok (.iaload, 1) := by decide +kernel
theorem dX0_drop_10 : decode cX0_drop 10 = .ok (.iconst (-1), 1) := by decide +kernel
theorem dX0_drop_11 : decode cX0_drop 11 = .ok (.if_icmp .eq 7, 3) := by decide +kernel
theorem dX0_drop_14 : decode cX0_drop 14 = .ok (.iconst 1, 1) := by decide +kernel
theorem dX0_drop_15 : decode cX0_drop 15 = .ok (.goto 4, 3) := by decide +kernel
theorem dX0_drop_18 : decode cX0_drop 18 = .ok (.iconst 0, 1) := by decide +kernel
theorem dX0_drop_19 : decode cX0_drop 19 = .ok (.istore_n 2, 1) := by decide +kernel
theorem dX0_drop_20 : decode cX0_drop 20 = .ok (.aload_n 0, 1) := by decide +kernel
theorem dX0_drop_21 : decode cX0_drop 21 = .ok (.getfield 20, 3) := by decide +kernel
theorem dX0_drop_24 : decode cX0_drop 24 = .ok (.iload_n 1, 1) := by decide +kernel
theorem dX0_drop_25 : decode cX0_drop 25 = .ok (.iconst (-1), 1) := by decide +kernel
theorem dX0_drop_26 : decode cX0_drop 26 = .ok (.iastore, 1) := by decide +kernel
theorem dX0_drop_27 : decode cX0_drop 27 = .ok (.iload_n 2, 1) := by decide +kernel
theorem dX0_drop_28 : decode cX0_drop 28 = .ok (.ireturn, 1) := by decide +kernel
theorem dX0_tidy_0 : decode cX0_tidy 0 = .ok (.iload_n 1, 1) := by decide +kernel
theorem dX0_tidy_1 : decode cX0_tidy 1 = .ok (.invokestatic 46, 3) := by decide +kernel
theorem dX0_tidy_4 : decode cX0_tidy 4 = .ok (.return_, 1) := by decide +kernel
theorem dX0_kind_0 : decode cX0_kind 0 = .ok (.iload_n 1, 1) := by decide +kernel
theorem dX0_kind_1 : decode cX0_kind 1 = .ok (.invokestatic 30, 3) := by decide +kernel
theorem dX0_kind_4 : decode cX0_kind 4 = .ok (.aload_n 0, 1) := by decide +kernel
theorem dX0_kind_5 : decode cX0_kind 5 = .ok (.getfield 20, 3) := by decide +kernel
theorem dX0_kind_8 : decode cX0_kind 8 = .ok (.iload_n 1, 1) := by decide +kernel
theorem dX0_kind_9 : decode cX0_kind 9 = .ok (.iaload, 1) := by decide +kernel
theorem dX0_kind_10 : decode cX0_kind 10 = .ok (.ireturn, 1) := by decide +kernel
theorem dX0_key_0 : decode cX0_key 0 = .ok (.aload_n 0, 1) := by decide +kernel
theorem dX0_key_1 : decode cX0_key 1 = .ok (.iload_n 1, 1) := by decide +kernel
theorem dX0_key_2 : decode cX0_key 2 = .ok (.invokevirtual 72, 3) := by decide +kernel
theorem dX0_key_5 : decode cX0_key 5 = .ok (.aload_n 0, 1) := by decide +kernel
theorem dX0_key_6 : decode cX0_key 6 = .ok (.getfield 9, 3) := by decide +kernel
theorem dX0_key_9 : decode cX0_key 9 = .ok (.iload_n 1, 1) := by decide +kernel
theorem dX0_key_10 : decode cX0_key 10 = .ok (.laload, 1) := by decide +kernel
theorem dX0_key_11 : decode cX0_key 11 = .ok (.lreturn, 1) := by decide +kernel
theorem dX0_requirePlace_0 : decode cX0_requirePlace 0 = .ok (.iload_n 1, 1) := by decide +kernel
theorem dX0_requirePlace_1 : decode cX0_requirePlace 1 = .ok (.ifCond .lt 11, 3) := by decide +kernel
theorem dX0_requirePlace_4 : decode cX0_requirePlace 4 = .ok (.iload_n 1, 1) := by decide +kernel
theorem dX0_requirePlace_5 : decode cX0_requirePlace 5 = .ok (.aload_n 0, 1) := by decide +kernel
theorem dX0_requirePlace_6 : decode cX0_requirePlace 6 = .ok (.getfield 16, 3) := by decide +kernel
theorem dX0_requirePlace_9 : decode cX0_requirePlace 9 = .ok (.if_icmp .lt 13, 3) := by decide +kernel
theorem dX0_requirePlace_12 : decode cX0_requirePlace 12 = .ok (.new 81, 3) := by decide +kernel
theorem dX0_requirePlace_15 : decode cX0_requirePlace 15 = .ok (.dup, 1) := by decide +kernel
theorem dX0_requirePlace_16 : decode cX0_requirePlace 16 = .ok (.ldc 66, 2) := by decide +kernel
theorem dX0_requirePlace_18 : decode cX0_requirePlace 18 = .ok (.invokespecial 83, 3) := by decide +kernel
theorem dX0_requirePlace_21 : decode cX0_requirePlace 21 = .ok (.athrow, 1) := by decide +kernel
theorem dX0_requirePlace_22 : decode cX0_requirePlace 22 = .ok (.return_, 1) := by decide +kernel
theorem dX0_value_0 : decode cX0_value 0 = .ok (.aload_n 0, 1) := by decide +kernel
theorem dX0_value_1 : decode cX0_value 1 = .ok (.iload_n 1, 1) := by decide +kernel
theorem dX0_value_2 : decode cX0_value 2 = .ok (.invokevirtual 72, 3) := by decide +kernel
theorem dX0_value_5 : decode cX0_value 5 = .ok (.aload_n 0, 1) := by decide +kernel
theorem dX0_value_6 : decode cX0_value 6 = .ok (.getfield 13, 3) := by decide +kernel
theorem dX0_value_9 : decode cX0_value 9 = .ok (.iload_n 1, 1) := by decide +kernel
theorem dX0_value_10 : decode cX0_value 10 = .ok (.laload, 1) := by decide +kernel
theorem dX0_value_11 : decode cX0_value 11 = .ok (.lreturn, 1) := by decide +kernel
