theorem dL_begin_0 : decode cL_begin 0 = .ok (.aload_n 0, 1) := by decide +kernel
theorem dL_begin_1 : decode cL_begin 1 = .ok (.iload_n 1, 1) := by decide +kernel
theorem dL_begin_2 : decode cL_begin 2 = .ok (.iload_n 2, 1) := by decide +kernel
theorem dL_begin_3 : decode cL_begin 3 = .ok (.lload_n 3, 1) := by decide +kernel
theorem dL_begin_4 : decode cL_begin 4 = .ok (.lload 5, 2) := by decide +kernel
theorem dL_begin_6 : decode cL_begin 6 = .ok (.invokevirtual 7, 3) := by decide +kernel
theorem dL_begin_9 : decode cL_begin 9 = .ok (.goto 11, 3) := by decide +kernel
theorem dL_begin_12 : decode cL_begin 12 = .ok (.astore 7, 2) := by decide +kernel
theorem dL_begin_14 : decode cL_begin 14 = .ok (.iconst 1, 1) := by decide +kernel
theorem dL_begin_15 : decode cL_begin 15 = .ok (.ireturn, 1) := by decide +kernel
theorem dL_begin_16 : decode cL_begin 16 = .ok (.astore 7, 2) := by decide +kernel
theorem dL_begin_18 : decode cL_begin 18 = .ok (.iconst 2, 1) := by decide +kernel
theorem dL_begin_19 : decode cL_begin 19 = .ok (.ireturn, 1) := by decide +kernel
theorem dL_begin_20 : decode cL_begin 20 = .ok (.iconst 0, 1) := by decide +kernel
theorem dL_begin_21 : decode cL_begin 21 = .ok (.ireturn, 1) := by decide +kernel
theorem dL_step_0 : decode cL_step 0 = .ok (.aload_n 0, 1) := by decide +kernel
theorem dL_step_1 : decode cL_step 1 = .ok (.iload_n 1, 1) := by decide +kernel
theorem dL_step_2 : decode cL_step 2 = .ok (.iload_n 2, 1) := by decide +kernel
theorem dL_step_3 : decode cL_step 3 = .ok (.invokevirtual 17, 3) := by decide +kernel
theorem dL_step_6 : decode cL_step 6 = .ok (.goto 9, 3) := by decide +kernel
theorem dL_step_9 : decode cL_step 9 = .ok (.astore_n 3, 1) := by decide +kernel
theorem dL_step_10 : decode cL_step 10 = .ok (.iconst 1, 1) := by decide +kernel
theorem dL_step_11 : decode cL_step 11 = .ok (.ireturn, 1) := by decide +kernel
theorem dL_step_12 : decode cL_step 12 = .ok (.astore_n 3, 1) := by decide +kernel
theorem dL_step_13 : decode cL_step 13 = .ok (.iconst 2, 1) := by decide +kernel
theorem dL_step_14 : decode cL_step 14 = .ok (.ireturn, 1) := by decide +kernel
theorem dL_step_15 : decode cL_step 15 = .ok (.iconst 0, 1) := by decide +kernel
theorem dL_step_16 : decode cL_step 16 = .ok (.ireturn, 1) := by decide +kernel
theorem dL_finish_0 : decode cL_finish 0 = .ok (.aload_n 2, 1) := by decide +kernel
theorem dL_finish_1 : decode cL_finish 1 = .ok (.iconst 0, 1) := by decide +kernel
theorem dL_finish_2 : decode cL_finish 2 = .ok (.aload_n 0, 1) := by decide +kernel
theorem dL_finish_3 : decode cL_finish 3 = .ok (.iload_n 1, 1) := by decide +kernel
theorem dL_finish_4 : decode cL_finish 4 = .ok (.invokevirtual 21, 3) := by decide +kernel
theorem dL_finish_7 : decode cL_finish 7 = .ok (.lastore, 1) := by decide +kernel
theorem dL_finish_8 : decode cL_finish 8 = .ok (.goto 12, 3) := by decide +kernel
theorem dL_finish_11 : decode cL_finish 11 = .ok (.astore_n 3, 1) := by decide +kernel
theorem dL_finish_12 : decode cL_finish 12 = .ok (.iconst 1, 1) := by decide +kernel
theorem dL_finish_13 : decode cL_finish 13 = .ok (.ireturn, 1) := by decide +kernel
theorem dL_finish_14 : decode cL_finish 14 = .ok (.astore_n 3, 1) := by decide +kernel
theorem dL_finish_15 : decode cL_finish 15 = .ok (.iconst 2, 1) := by decide +kernel
theorem dL_finish_16 : decode cL_finish 16 = .ok (.ireturn, 1) := by decide +kernel
theorem dL_finish_17 : decode cL_finish 17 = .ok (.astore_n 3, 1) := by decide +kernel
theorem dL_finish_18 : decode cL_finish 18 = .ok (.iconst 3, 1) := by decide +kernel
theorem dL_finish_19 : decode cL_finish 19 = .ok (.ireturn, 1) := by decide +kernel
theorem dL_finish_20 : decode cL_finish 20 = .ok (.iconst 0, 1) := by decide +kernel
theorem dL_finish_21 : decode cL_finish 21 = .ok (.ireturn, 1) := by decide +kernel
theorem dL_drop_0 : decode cL_drop 0 = .ok (.aload_n 2, 1) := by decide +kernel
theorem dL_drop_1 : decode cL_drop 1 = .ok (.iconst 0, 1) := by decide +kernel
theorem dL_drop_2 : decode cL_drop 2 = .ok (.aload_n 0, 1) := by decide +kernel
theorem dL_drop_3 : decode cL_drop 3 = .ok (.iload_n 1, 1) := by decide +kernel
theorem dL_drop_4 : decode cL_drop 4 = .ok (.invokevirtual 27, 3) := by decide +kernel
theorem dL_drop_7 : decode cL_drop 7 = .ok (.ifCond .eq 7, 3) := by decide +kernel
theorem dL_drop_10 : decode cL_drop 10 = .ok (.lconst 1, 1) := by decide +kernel
theorem dL_drop_11 : decode cL_drop 11 = .ok (.goto 4, 3) := by decide +kernel
theorem dL_drop_14 : decode cL_drop 14 = .ok (.lconst 0, 1) := by decide +kernel
theorem dL_drop_15 : decode cL_drop 15 = .ok (.lastore, 1) := by decide +kernel
theorem dL_drop_16 : decode cL_drop 16 = .ok (.goto 6, 3) := by decide +kernel
theorem dL_drop_19 : decode cL_drop 19 = .ok (.astore_n 3, 1) := by decide +kernel
theorem dL_drop_20 : decode cL_drop 20 = .ok (.iconst 1, 1) := by decide +kernel
theorem dL_drop_21 : decode cL_drop 21 = .ok (.ireturn, 1) := by decide +kernel
theorem dL_drop_22 : decode cL_drop 22 = .ok (.iconst 0, 1) := by decide +kernel
theorem dL_drop_23 : decode cL_drop 23 = .ok (.ireturn, 1) := by decide +kernel
theorem dL_tidy_0 : decode cL_tidy 0 = .ok (.aload_n 0, 1) := by decide +kernel
theorem dL_tidy_1 : decode cL_tidy 1 = .ok (.iload_n 1, 1) := by decide +kernel
theorem dL_tidy_2 : decode cL_tidy 2 = .ok (.invokevirtual 31, 3) := by decide +kernel
theorem dL_tidy_5 : decode cL_tidy 5 = .ok (.goto 6, 3) := by decide +kernel
theorem dL_tidy_8 : decode cL_tidy 8 = .ok (.astore_n 2, 1) := by decide +kernel
theorem dL_tidy_9 : decode cL_tidy 9 = .ok (.iconst 1, 1) := by decide +kernel
theorem dL_tidy_10 : decode cL_tidy 10 = .ok (.ireturn, 1) := by decide +kernel
theorem dL_tidy_11 : decode cL_tidy 11 = .ok (.iconst 0, 1) := by decide +kernel
theorem dL_tidy_12 : decode cL_tidy 12 = .ok (.ireturn, 1) := by decide +kernel
theorem dL_kind_0 : decode cL_kind 0 = .ok (.aload_n 2, 1) := by decide +kernel
theorem dL_kind_1 : decode cL_kind 1 = .ok (.iconst 0, 1) := by decide +kernel
theorem dL_kind_2 : decode cL_kind 2 = .ok (.aload_n 0, 1) := by decide +kernel
theorem dL_kind_3 : decode cL_kind 3 = .ok (.iload_n 1, 1) := by decide +kernel
theorem dL_kind_4 : decode cL_kind 4 = .ok (.invokevirtual 35, 3) := by decide +kernel
theorem dL_kind_7 : decode cL_kind 7 = .ok (.i2l, 1) := by decide +kernel
theorem dL_kind_8 : decode cL_kind 8 = .ok (.lastore, 1) := by decide +kernel
theorem dL_kind_9 : decode cL_kind 9 = .ok (.goto 6, 3) := by decide +kernel
theorem dL_kind_12 : decode cL_kind 12 = .ok (.astore_n 3, 1) := by decide +kernel
theorem dL_kind_13 : decode cL_kind 13 = .ok (.iconst 1, 1) := by decide +kernel
theorem dL_kind_14 : decode cL_kind 14 = .ok (.ireturn, 1) := by decide +kernel
theorem dL_kind_15 : decode cL_kind 15 = .ok (.iconst 0, 1) := by decide +kernel
theorem dL_kind_16 : decode cL_kind 16 = .ok (.ireturn, 1) := by decide +kernel
theorem dL_key_0 : decode cL_key 0 = .ok (.aload_n 2, 1) := by decide +kernel
theorem dL_key_1 : decode cL_key 1 = .ok (.iconst 0, 1) := by decide +kernel
theorem dL_key_2 : decode cL_key 2 = .ok (.aload_n 0, 1) := by decide +kernel
theorem dL_key_3 : decode cL_key 3 = .ok (.iload_n 1, 1) := by decide +kernel
theorem dL_key_4 : decode cL_key 4 = .ok (.invokevirtual 39, 3) := by decide +kernel
theorem dL_key_7 : decode cL_key 7 = .ok (.lastore, 1) := by decide +kernel
theorem dL_key_8 : decode cL_key 8 = .ok (.goto 6, 3) := by decide +kernel
theorem dL_key_11 : decode cL_key 11 = .ok (.astore_n 3, 1) := by decide +kernel
theorem dL_key_12 : decode cL_key 12 = .ok (.iconst 1, 1) := by decide +kernel
theorem dL_key_13 : decode cL_key 13 = .ok (.ireturn, 1) := by decide +kernel
theorem dL_key_14 : decode cL_key 14 = .ok (.iconst 0, 1) := by decide +kernel
theorem dL_key_15 : decode cL_key 15 = .ok (.ireturn, 1) := by decide +kernel
theorem dL_value_0 : decode cL_value 0 = .ok (.aload_n 2, 1) := by decide +kernel
theorem dL_value_1 : decode cL_value 1 = .ok (.iconst 0, 1) := by decide +kernel
theorem dL_value_2 : decode cL_value 2 = .ok (.aload_n 0, 1) := by decide +kernel
theorem dL_value_3 : decode cL_value 3 = .ok (.iload_n 1, 1) := by decide +kernel
theorem dL_value_4 : decode cL_value 4 = .ok (.invokevirtual 44, 3) := by decide +kernel
theorem dL_value_7 : decode cL_value 7 = .ok (.lastore, 1) := by decide +kernel
theorem dL_value_8 : decode cL_value 8 = .ok (.goto 6, 3) := by decide +kernel
theorem dL_value_11 : decode cL_value 11 = .ok (.astore_n 3, 1) := by decide +kernel
theorem dL_value_12 : decode cL_value 12 = .ok (.iconst 1, 1) := by decide +kernel
theorem dL_value_13 : decode cL_value 13 = .ok (.ireturn, 1) := by decide +kernel
theorem dL_value_14 : decode cL_value 14 = .ok (.iconst 0, 1) := by decide +kernel
theorem dL_value_15 : decode cL_value 15 = .ok (.ireturn, 1) := by decide +kernel
