theorem dL_promise_3 : decode cL_promise 3 = .ok (.iload_n 1, 1) := by decide +kernel
theorem dL_promise_4 : decode cL_promise 4 = .ok (.invokevirtual 7, 3) := by decide +kernel
theorem dL_promise_7 : decode cL_promise 7 = .ok (.i2l, 1) := by decide +kernel
theorem dL_promise_8 : decode cL_promise 8 = .ok (.lastore, 1) := by decide +kernel
theorem dL_promise_9 : decode cL_promise 9 = .ok (.goto 9, 3) := by decide +kernel
theorem dL_promise_12 : decode cL_promise 12 = .ok (.astore_n 3, 1) := by decide +kernel
theorem dL_promise_13 : decode cL_promise 13 = .ok (.iconst 1, 1) := by decide +kernel
theorem dL_promise_14 : decode cL_promise 14 = .ok (.ireturn, 1) := by decide +kernel
theorem dL_promise_15 : decode cL_promise 15 = .ok (.astore_n 3, 1) := by decide +kernel
theorem dL_promise_16 : decode cL_promise 16 = .ok (.iconst 2, 1) := by decide +kernel
theorem dL_promise_17 : decode cL_promise 17 = .ok (.ireturn, 1) := by decide +kernel
theorem dL_promise_18 : decode cL_promise 18 = .ok (.iconst 0, 1) := by decide +kernel
theorem dL_promise_19 : decode cL_promise 19 = .ok (.ireturn, 1) := by decide +kernel
theorem dL_sign_0 : decode cL_sign 0 = .ok (.aload_n 2, 1) := by decide +kernel
theorem dL_sign_1 : decode cL_sign 1 = .ok (.iconst 0, 1) := by decide +kernel
theorem dL_sign_2 : decode cL_sign 2 = .ok (.aload_n 0, 1) := by decide +kernel
theorem dL_sign_3 : decode cL_sign 3 = .ok (.iload_n 1, 1) := by decide +kernel
theorem dL_sign_4 : decode cL_sign 4 = .ok (.invokevirtual 17, 3) := by decide +kernel
theorem dL_sign_7 : decode cL_sign 7 = .ok (.i2l, 1) := by decide +kernel
theorem dL_sign_8 : decode cL_sign 8 = .ok (.lastore, 1) := by decide +kernel
theorem dL_sign_9 : decode cL_sign 9 = .ok (.goto 6, 3) := by decide +kernel
theorem dL_sign_12 : decode cL_sign 12 = .ok (.astore_n 3, 1) := by decide +kernel
theorem dL_sign_13 : decode cL_sign 13 = .ok (.iconst 1, 1) := by decide +kernel
theorem dL_sign_14 : decode cL_sign 14 = .ok (.ireturn, 1) := by decide +kernel
theorem dL_sign_15 : decode cL_sign 15 = .ok (.iconst 0, 1) := by decide +kernel
theorem dL_sign_16 : decode cL_sign 16 = .ok (.ireturn, 1) := by decide +kernel
theorem dL_seedsOf_0 : decode cL_seedsOf 0 = .ok (.aload_n 2, 1) := by decide +kernel
theorem dL_seedsOf_1 : decode cL_seedsOf 1 = .ok (.iconst 0, 1) := by decide +kernel
theorem dL_seedsOf_2 : decode cL_seedsOf 2 = .ok (.aload_n 0, 1) := by decide +kernel
theorem dL_seedsOf_3 : decode cL_seedsOf 3 = .ok (.iload_n 1, 1) := by decide +kernel
theorem dL_seedsOf_4 : decode cL_seedsOf 4 = .ok (.invokevirtual 22, 3) := by decide +kernel
theorem dL_seedsOf_7 : decode cL_seedsOf 7 = .ok (.i2l, 1) := by decide +kernel
theorem dL_seedsOf_8 : decode cL_seedsOf 8 = .ok (.lastore, 1) := by decide +kernel
theorem dL_seedsOf_9 : decode cL_seedsOf 9 = .ok (.goto 6, 3) := by decide +kernel
theorem dL_seedsOf_12 : decode cL_seedsOf 12 = .ok (.astore_n 3, 1) := by decide +kernel
theorem dL_seedsOf_13 : decode cL_seedsOf 13 = .ok (.iconst 1, 1) := by decide +kernel
theorem dL_seedsOf_14 : decode cL_seedsOf 14 = .ok (.ireturn, 1) := by decide +kernel
theorem dL_seedsOf_15 : decode cL_seedsOf 15 = .ok (.iconst 0, 1) := by decide +kernel
theorem dL_seedsOf_16 : decode cL_seedsOf 16 = .ok (.ireturn, 1) := by decide +kernel
theorem dL_open_0 : decode cL_open 0 = .ok (.aload_n 2, 1) := by decide +kernel
theorem dL_open_1 : decode cL_open 1 = .ok (.iconst 0, 1) := by decide +kernel
theorem dL_open_2 : decode cL_open 2 = .ok (.aload_n 0, 1) := by decide +kernel
theorem dL_open_3 : decode cL_open 3 = .ok (.iload_n 1, 1) := by decide +kernel
theorem dL_open_4 : decode cL_open 4 = .ok (.invokevirtual 25, 3) := by decide +kernel
theorem dL_open_7 : decode cL_open 7 = .ok (.i2l, 1) := by decide +kernel
theorem dL_open_8 : decode cL_open 8 = .ok (.lastore, 1) := by decide +kernel
theorem dL_open_9 : decode cL_open 9 = .ok (.goto 9, 3) := by decide +kernel
theorem dL_open_12 : decode cL_open 12 = .ok (.astore_n 3, 1) := by decide +kernel
theorem dL_open_13 : decode cL_open 13 = .ok (.iconst 1, 1) := by decide +kernel
theorem dL_open_14 : decode cL_open 14 = .ok (.ireturn, 1) := by decide +kernel
theorem dL_open_15 : decode cL_open 15 = .ok (.astore_n 3, 1) := by decide +kernel
theorem dL_open_16 : decode cL_open 16 = .ok (.iconst 2, 1) := by decide +kernel
theorem dL_open_17 : decode cL_open 17 = .ok (.ireturn, 1) := by decide +kernel
theorem dL_open_18 : decode cL_open 18 = .ok (.iconst 0, 1) := by decide +kernel
theorem dL_open_19 : decode cL_open 19 = .ok (.ireturn, 1) := by decide +kernel
theorem dL_isOpened_0 : decode cL_isOpened 0 = .ok (.aload_n 2, 1) := by decide +kernel
theorem dL_isOpened_1 : decode cL_isOpened 1 = .ok (.iconst 0, 1) := by decide +kernel
theorem dL_isOpened_2 : decode cL_isOpened 2 = .ok (.aload_n 0, 1) := by decide +kernel
theorem dL_isOpened_3 : decode cL_isOpened 3 = .ok (.iload_n 1, 1) := by decide +kernel
theorem dL_isOpened_4 : decode cL_isOpened 4 = .ok (.invokevirtual 28, 3) := by decide +kernel
theorem dL_isOpened_7 : decode cL_isOpened 7 = .ok (.ifCond .eq 7, 3) := by decide +kernel
theorem dL_isOpened_10 : decode cL_isOpened 10 = .ok (.lconst 1, 1) := by decide +kernel
theorem dL_isOpened_11 : decode cL_isOpened 11 = .ok (.goto 4, 3) := by decide +kernel
theorem dL_isOpened_14 : decode cL_isOpened 14 = .ok (.lconst 0, 1) := by decide +kernel
theorem dL_isOpened_15 : decode cL_isOpened 15 = .ok (.lastore, 1) := by decide +kernel
theorem dL_isOpened_16 : decode cL_isOpened 16 = .ok (.goto 6, 3) := by decide +kernel
theorem dL_isOpened_19 : decode cL_isOpened 19 = .ok (.astore_n 3, 1) := by decide +kernel
theorem dL_isOpened_20 : decode cL_isOpened 20 = .ok (.iconst 1, 1) := by decide +kernel
theorem dL_isOpened_21 : decode cL_isOpened 21 = .ok (.ireturn, 1) := by decide +kernel
theorem dL_isOpened_22 : decode cL_isOpened 22 = .ok (.iconst 0, 1) := by decide +kernel
theorem dL_isOpened_23 : decode cL_isOpened 23 = .ok (.ireturn, 1) := by decide +kernel
theorem dL_setPart_0 : decode cL_setPart 0 = .ok (.aload_n 3, 1) := by decide +kernel
theorem dL_setPart_1 : decode cL_setPart 1 = .ok (.iconst 0, 1) := by decide +kernel
theorem dL_setPart_2 : decode cL_setPart 2 = .ok (.aload_n 0, 1) := by decide +kernel
theorem dL_setPart_3 : decode cL_setPart 3 = .ok (.iload_n 1, 1) := by decide +kernel
theorem dL_setPart_4 : decode cL_setPart 4 = .ok (.iload_n 2, 1) := by decide +kernel
theorem dL_setPart_5 : decode cL_setPart 5 = .ok (.invokevirtual 32, 3) := by decide +kernel
theorem dL_setPart_8 : decode cL_setPart 8 = .ok (.i2l, 1) := by decide +kernel
theorem dL_setPart_9 : decode cL_setPart 9 = .ok (.lastore, 1) := by decide +kernel
theorem dL_setPart_10 : decode cL_setPart 10 = .ok (.goto 11, 3) := by decide +kernel
theorem dL_setPart_13 : decode cL_setPart 13 = .ok (.astore 4, 2) := by decide +kernel
theorem dL_setPart_15 : decode cL_setPart 15 = .ok (.iconst 1, 1) := by decide +kernel
theorem dL_setPart_16 : decode cL_setPart 16 = .ok (.ireturn, 1) := by decide +kernel
theorem dL_setPart_17 : decode cL_setPart 17 = .ok (.astore 4, 2) := by decide +kernel
theorem dL_setPart_19 : decode cL_setPart 19 = .ok (.iconst 2, 1) := by decide +kernel
theorem dL_setPart_20 : decode cL_setPart 20 = .ok (.ireturn, 1) := by decide +kernel
theorem dL_setPart_21 : decode cL_setPart 21 = .ok (.iconst 0, 1) := by decide +kernel
theorem dL_setPart_22 : decode cL_setPart 22 = .ok (.ireturn, 1) := by decide +kernel
theorem dL_roll_0 : decode cL_roll 0 = .ok (.aload 4, 2) := by decide +kernel
theorem dL_roll_2 : decode cL_roll 2 = .ok (.iconst 0, 1) := by decide +kernel
theorem dL_roll_3 : decode cL_roll 3 = .ok (.aload_n 0, 1) := by decide +kernel
theorem dL_roll_4 : decode cL_roll 4 = .ok (.iload_n 1, 1) := by decide +kernel
theorem dL_roll_5 : decode cL_roll 5 = .ok (.iload_n 2, 1) := by decide +kernel
theorem dL_roll_6 : decode cL_roll 6 = .ok (.iload_n 3, 1) := by decide +kernel
theorem dL_roll_7 : decode cL_roll 7 = .ok (.invokevirtual 36, 3) := by decide +kernel
theorem dL_roll_10 : decode cL_roll 10 = .ok (.i2l, 1) := by decide +kernel
theorem dL_roll_11 : decode cL_roll 11 = .ok (.lastore, 1) := by decide +kernel
theorem dL_roll_12 : decode cL_roll 12 = .ok (.goto 15, 3) := by decide +kernel
theorem dL_roll_15 : decode cL_roll 15 = .ok (.astore 5, 2) := by decide +kernel
theorem dL_roll_17 : decode cL_roll 17 = .ok (.iconst 1, 1) := by decide +kernel
theorem dL_roll_18 : decode cL_roll 18 = .ok (.ireturn, 1) := by decide +kernel
theorem dL_roll_19 : decode cL_roll 19 = .ok (.astore 5, 2) := by decide +kernel
theorem dL_roll_21 : decode cL_roll 21 = .ok (.iconst 2, 1) := by decide +kernel
theorem dL_roll_22 : decode cL_roll 22 = .ok (.ireturn, 1) := by decide +kernel
theorem dL_roll_23 : decode cL_roll 23 = .ok (.astore 5, 2) := by decide +kernel
theorem dL_roll_25 : decode cL_roll 25 = .ok (.iconst 3, 1) := by decide +kernel
theorem dL_roll_26 : decode cL_roll 26 = .ok (.ireturn, 1) := by decide +kernel
theorem dL_roll_27 : decode cL_roll 27 = .ok (.iconst 0, 1) := by decide +kernel
theorem dL_roll_28 : decode cL_roll 28 = .ok (.ireturn, 1) := by decide +kernel
theorem dL_value_0 : decode cL_value 0 = .ok (.aload_n 2, 1) := by decide +kernel
theorem dL_value_1 : decode cL_value 1 = .ok (.iconst 0, 1) := by decide +kernel
theorem dL_value_2 : decode cL_value 2 = .ok (.aload_n 0, 1) := by decide +kernel
theorem dL_value_3 : decode cL_value 3 = .ok (.iload_n 1, 1) := by decide +kernel
theorem dL_value_4 : decode cL_value 4 = .ok (.invokevirtual 40, 3) := by decide +kernel
theorem dL_value_7 : decode cL_value 7 = .ok (.i2l, 1) := by decide +kernel
theorem dL_value_8 : decode cL_value 8 = .ok (.lastore, 1) := by decide +kernel
theorem dL_value_9 : decode cL_value 9 = .ok (.goto 6, 3) := by decide +kernel
theorem dL_value_12 : decode cL_value 12 = .ok (.astore_n 3, 1) := by decide +kernel
theorem dL_value_13 : decode cL_value 13 = .ok (.iconst 1, 1) := by decide +kernel
theorem dL_value_14 : decode cL_value 14 = .ok (.ireturn, 1) := by decide +kernel
theorem dL_value_15 : decode cL_value 15 = .ok (.iconst 0, 1) := by decide +kernel
theorem dL_value_16 : decode cL_value 16 = .ok (.ireturn, 1) := by decide +kernel
theorem dL_rejected_0 : decode cL_rejected 0 = .ok (.aload_n 2, 1) := by decide +kernel
theorem dL_rejected_1 : decode cL_rejected 1 = .ok (.iconst 0, 1) := by decide +kernel
theorem dL_rejected_2 : decode cL_rejected 2 = .ok (.aload_n 0, 1) := by decide +kernel
theorem dL_rejected_3 : decode cL_rejected 3 = .ok (.iload_n 1, 1) := by decide +kernel
theorem dL_rejected_4 : decode cL_rejected 4 = .ok (.invokevirtual 43, 3) := by decide +kernel
theorem dL_rejected_7 : decode cL_rejected 7 = .ok (.i2l, 1) := by decide +kernel
theorem dL_rejected_8 : decode cL_rejected 8 = .ok (.lastore, 1) := by decide +kernel
theorem dL_rejected_9 : decode cL_rejected 9 = .ok (.goto 6, 3) := by decide +kernel
theorem dL_rejected_12 : decode cL_rejected 12 = .ok (.astore_n 3, 1) := by decide +kernel
theorem dL_rejected_13 : decode cL_rejected 13 = .ok (.iconst 1, 1) := by decide +kernel
theorem dL_rejected_14 : decode cL_rejected 14 = .ok (.ireturn, 1) := by decide +kernel
theorem dL_rejected_15 : decode cL_rejected 15 = .ok (.iconst 0, 1) := by decide +kernel
theorem dL_rejected_16 : decode cL_rejected 16 = .ok (.ireturn, 1) := by decide +kernel
theorem dL_sum_0 : decode cL_sum 0 = .ok (.aload_n 2, 1) := by decide +kernel
theorem dL_sum_1 : decode cL_sum 1 = .ok (.iconst 0, 1) := by decide +kernel
theorem dL_sum_2 : decode cL_sum 2 = .ok (.aload_n 0, 1) := by decide +kernel
theorem dL_sum_3 : decode cL_sum 3 = .ok (.iload_n 1, 1) := by decide +kernel
theorem dL_sum_4 : decode cL_sum 4 = .ok (.invokevirtual 46, 3) := by decide +kernel
theorem dL_sum_7 : decode cL_sum 7 = .ok (.i2l, 1) := by decide +kernel
theorem dL_sum_8 : decode cL_sum 8 = .ok (.lastore, 1) := by decide +kernel
theorem dL_sum_9 : decode cL_sum 9 = .ok (.goto 6, 3) := by decide +kernel
theorem dL_sum_12 : decode cL_sum 12 = .ok (.astore_n 3, 1) := by decide +kernel
theorem dL_sum_13 : decode cL_sum 13 = .ok (.iconst 1, 1) := by decide +kernel
theorem dL_sum_14 : decode cL_sum 14 = .ok (.ireturn, 1) := by decide +kernel
theorem dL_sum_15 : decode cL_sum 15 = .ok (.iconst 0, 1) := by decide +kernel
theorem dL_sum_16 : decode cL_sum 16 = .ok (.ireturn, 1) := by decide +kernel
theorem dL_alter_0 : decode cL_alter 0 = .ok (.aload_n 3, 1) := by decide +kernel
theorem dL_alter_1 : decode cL_alter 1 = .ok (.iconst 0, 1) := by decide +kernel
theorem dL_alter_2 : decode cL_alter 2 = .ok (.aload_n 0, 1) := by decide +kernel
theorem dL_alter_3 : decode cL_alter 3 = .ok (.iload_n 1, 1) := by decide +kernel
theorem dL_alter_4 : decode cL_alter 4 = .ok (.iload_n 2, 1) := by decide +kernel
theorem dL_alter_5 : decode cL_alter 5 = .ok (.invokevirtual 49, 3) := by decide +kernel
theorem dL_alter_8 : decode cL_alter 8 = .ok (.i2l, 1) := by decide +kernel
theorem dL_alter_9 : decode cL_alter 9 = .ok (.lastore, 1) := by decide +kernel
theorem dL_alter_10 : decode cL_alter 10 = .ok (.goto 15, 3) := by decide +kernel
theorem dL_alter_13 : decode cL_alter 13 = .ok (.astore 4, 2) := by decide +kernel
theorem dL_alter_15 : decode cL_alter 15 = .ok (.iconst 1, 1) := by decide +kernel
theorem dL_alter_16 : decode cL_alter 16 = .ok (.ireturn, 1) := by decide +kernel
theorem dL_alter_17 : decode cL_alter 17 = .ok (.astore 4, 2) := by decide +kernel
theorem dL_alter_19 : decode cL_alter 19 = .ok (.iconst 2, 1) := by decide +kernel
theorem dL_alter_20 : decode cL_alter 20 = .ok (.ireturn, 1) := by decide +kernel
theorem dL_alter_21 : decode cL_alter 21 = .ok (.astore 4, 2) := by decide +kernel
theorem dL_alter_23 : decode cL_alter 23 = .ok (.iconst 3, 1) := by decide +kernel
theorem dL_alter_24 : decode cL_alter 24 = .ok (.ireturn, 1) := by decide +kernel
theorem dL_alter_25 : decode cL_alter 25 = .ok (.iconst 0, 1) := by decide +kernel
theorem dL_alter_26 : decode cL_alter 26 = .ok (.ireturn, 1) := by decide +kernel
theorem dL_found_0 : decode cL_found 0 = .ok (.aload_n 2, 1) := by decide +kernel
theorem dL_found_1 : decode cL_found 1 = .ok (.iconst 0, 1) := by decide +kernel
theorem dL_found_2 : decode cL_found 2 = .ok (.aload_n 0, 1) := by decide +kernel
theorem dL_found_3 : decode cL_found 3 = .ok (.iload_n 1, 1) := by decide +kernel
theorem dL_found_4 : decode cL_found 4 = .ok (.invokevirtual 52, 3) := by decide +kernel
theorem dL_found_7 : decode cL_found 7 = .ok (.i2l, 1) := by decide +kernel
theorem dL_found_8 : decode cL_found 8 = .ok (.lastore, 1) := by decide +kernel
theorem dL_found_9 : decode cL_found 9 = .ok (.goto 9, 3) := by decide +kernel
theorem dL_found_12 : decode cL_found 12 = .ok (.astore_n 3, 1) := by decide +kernel
theorem dL_found_13 : decode cL_found 13 = .ok (.iconst 1, 1) := by decide +kernel
theorem dL_found_14 : decode cL_found 14 = .ok (.ireturn, 1) := by decide +kernel
theorem dL_found_15 : decode cL_found 15 = .ok (.astore_n 3, 1) := by decide +kernel
theorem dL_found_16 : decode cL_found 16 = .ok (.iconst 2, 1) := by decide +kernel
theorem dL_found_17 : decode cL_found 17 = .ok (.ireturn, 1) := by decide +kernel
theorem dL_found_18 : decode cL_found 18 = .ok (.iconst 0, 1) := by decide +kernel
theorem dL_found_19 : decode cL_found 19 = .ok (.ireturn, 1) := by decide +kernel
theorem dL_wrong_0 : decode cL_wrong 0 = .ok (.aload_n 2, 1) := by decide +kernel
theorem dL_wrong_1 : decode cL_wrong 1 = .ok (.iconst 0, 1) := by decide +kernel
theorem dL_wrong_2 : decode cL_wrong 2 = .ok (.aload_n 0, 1) := by decide +kernel
theorem dL_wrong_3 : decode cL_wrong 3 = .ok (.iload_n 1, 1) := by decide +kernel
theorem dL_wrong_4 : decode cL_wrong 4 = .ok (.invokevirtual 55, 3) := by decide +kernel
theorem dL_wrong_7 : decode cL_wrong 7 = .ok (.i2l, 1) := by decide +kernel
theorem dL_wrong_8 : decode cL_wrong 8 = .ok (.lastore, 1) := by decide +kernel
theorem dL_wrong_9 : decode cL_wrong 9 = .ok (.goto 9, 3) := by decide +kernel
theorem dL_wrong_12 : decode cL_wrong 12 = .ok (.astore_n 3, 1) := by decide +kernel
theorem dL_wrong_13 : decode cL_wrong 13 = .ok (.iconst 1, 1) := by decide +kernel
theorem dL_wrong_14 : decode cL_wrong 14 = .ok (.ireturn, 1) := by decide +kernel
theorem dL_wrong_15 : decode cL_wrong 15 = .ok (.astore_n 3, 1) := by decide +kernel
theorem dL_wrong_16 : decode cL_wrong 16 = .ok (.iconst 2, 1) := by decide +kernel
theorem dL_wrong_17 : decode cL_wrong 17 = .ok (.ireturn, 1) := by decide +kernel
theorem dL_wrong_18 : decode cL_wrong 18 = .ok (.iconst 0, 1) := by decide +kernel
theorem dL_wrong_19 : decode cL_wrong 19 = .ok (.ireturn, 1) := by decide +kernel
theorem dL_dispute_0 : decode cL_dispute 0 = .ok (.aload_n 2, 1) := by decide +kernel
theorem dL_dispute_1 : decode cL_dispute 1 = .ok (.iconst 0, 1) := by decide +kernel
theorem dL_dispute_2 : decode cL_dispute 2 = .ok (.aload_n 0, 1) := by decide +kernel
theorem dL_dispute_3 : decode cL_dispute 3 = .ok (.iload_n 1, 1) := by decide +kernel
theorem dL_dispute_4 : decode cL_dispute 4 = .ok (.invokevirtual 58, 3) := by decide +kernel
theorem dL_dispute_7 : decode cL_dispute 7 = .ok (.i2l, 1) := by decide +kernel
theorem dL_dispute_8 : decode cL_dispute 8 = .ok (.lastore, 1) := by decide +kernel
theorem dL_dispute_9 : decode cL_dispute 9 = .ok (.goto 9, 3) := by decide +kernel
theorem dL_dispute_12 : decode cL_dispute 12 = .ok (.astore_n 3, 1) := by decide +kernel
theorem dL_dispute_13 : decode cL_dispute 13 = .ok (.iconst 1, 1) := by decide +kernel
theorem dL_dispute_14 : decode cL_dispute 14 = .ok (.ireturn, 1) := by decide +kernel
theorem dL_dispute_15 : decode cL_dispute 15 = .ok (.astore_n 3, 1) := by decide +kernel
theorem dL_dispute_16 : decode cL_dispute 16 = .ok (.iconst 2, 1) := by decide +kernel
theorem dL_dispute_17 : decode cL_dispute 17 = .ok (.ireturn, 1) := by decide +kernel
theorem dL_dispute_18 : decode cL_dispute 18 = .ok (.iconst 0, 1) := by decide +kernel
theorem dL_dispute_19 : decode cL_dispute 19 = .ok (.ireturn, 1) := by decide +kernel
theorem dL_isStruck_0 : decode cL_isStruck 0 = .ok (.aload_n 2, 1) := by decide +kernel
theorem dL_isStruck_1 : decode cL_isStruck 1 = .ok (.iconst 0, 1) := by decide +kernel
theorem dL_isStruck_2 : decode cL_isStruck 2 = .ok (.aload_n 0, 1) := by decide +kernel
theorem dL_isStruck_3 : decode cL_isStruck 3 = .ok (.iload_n 1, 1) := by decide +kernel
theorem dL_isStruck_4 : decode cL_isStruck 4 = .ok (.invokevirtual 61, 3) := by decide +kernel
theorem dL_isStruck_7 : decode cL_isStruck 7 = .ok (.ifCond .eq 7, 3) := by decide +kernel
theorem dL_isStruck_10 : decode cL_isStruck 10 = .ok (.lconst 1, 1) := by decide +kernel
theorem dL_isStruck_11 : decode cL_isStruck 11 = .ok (.goto 4, 3) := by decide +kernel
theorem dL_isStruck_14 : decode cL_isStruck 14 = .ok (.lconst 0, 1) := by decide +kernel
theorem dL_isStruck_15 : decode cL_isStruck 15 = .ok (.lastore, 1) := by decide +kernel
theorem dL_isStruck_16 : decode cL_isStruck 16 = .ok (.goto 6, 3) := by decide +kernel
theorem dL_isStruck_19 : decode cL_isStruck 19 = .ok (.astore_n 3, 1) := by decide +kernel
theorem dL_isStruck_20 : decode cL_isStruck 20 = .ok (.iconst 1, 1) := by decide +kernel
theorem dL_isStruck_21 : decode cL_isStruck 21 = .ok (.ireturn, 1) := by decide +kernel
theorem dL_isStruck_22 : decode cL_isStruck 22 = .ok (.iconst 0, 1) := by decide +kernel
theorem dL_isStruck_23 : decode cL_isStruck 23 = .ok (.ireturn, 1) := by decide +kernel
theorem dL_count_0 : decode cL_count 0 = .ok (.aload_n 3, 1) := by decide +kernel
theorem dL_count_1 : decode cL_count 1 = .ok (.iconst 0, 1) := by decide +kernel
theorem dL_count_2 : decode cL_count 2 = .ok (.aload_n 0, 1) := by decide +kernel
theorem dL_count_3 : decode cL_count 3 = .ok (.iload_n 1, 1) := by decide +kernel
theorem dL_count_4 : decode cL_count 4 = .ok (.iload_n 2, 1) := by decide +kernel
theorem dL_count_5 : decode cL_count 5 = .ok (.invokevirtual 64, 3) := by decide +kernel
theorem dL_count_8 : decode cL_count 8 = .ok (.i2l, 1) := by decide +kernel
theorem dL_count_9 : decode cL_count 9 = .ok (.lastore, 1) := by decide +kernel
theorem dL_count_10 : decode cL_count 10 = .ok (.goto 7, 3) := by decide +kernel
theorem dL_count_13 : decode cL_count 13 = .ok (.astore 4, 2) := by decide +kernel
theorem dL_count_15 : decode cL_count 15 = .ok (.iconst 1, 1) := by decide +kernel
theorem dL_count_16 : decode cL_count 16 = .ok (.ireturn, 1) := by decide +kernel
theorem dL_count_17 : decode cL_count 17 = .ok (.iconst 0, 1) := by decide +kernel
theorem dL_count_18 : decode cL_count 18 = .ok (.ireturn, 1) := by decide +kernel
theorem dL_uneven_0 : decode cL_uneven 0 = .ok (.aload_n 2, 1) := by decide +kernel
theorem dL_uneven_1 : decode cL_uneven 1 = .ok (.iconst 0, 1) := by decide +kernel
theorem dL_uneven_2 : decode cL_uneven 2 = .ok (.aload_n 0, 1) := by decide +kernel
theorem dL_uneven_3 : decode cL_uneven 3 = .ok (.iload_n 1, 1) := by decide +kernel
theorem dL_uneven_4 : decode cL_uneven 4 = .ok (.invokevirtual 67, 3) := by decide +kernel
theorem dL_uneven_7 : decode cL_uneven 7 = .ok (.lastore, 1) := by decide +kernel
theorem dL_uneven_8 : decode cL_uneven 8 = .ok (.goto 6, 3) := by decide +kernel
theorem dL_uneven_11 : decode cL_uneven 11 = .ok (.astore_n 3, 1) := by decide +kernel
theorem dL_uneven_12 : decode cL_uneven 12 = .ok (.iconst 1, 1) := by decide +kernel
theorem dL_uneven_13 : decode cL_uneven 13 = .ok (.ireturn, 1) := by decide +kernel
theorem dL_uneven_14 : decode cL_uneven 14 = .ok (.iconst 0, 1) := by decide +kernel
theorem dL_uneven_15 : decode cL_uneven 15 = .ok (.ireturn, 1) := by decide +kernel
theorem dL_total_0 : decode cL_total 0 = .ok (.aload_n 2, 1) := by decide +kernel
theorem dL_total_1 : decode cL_total 1 = .ok (.iconst 0, 1) := by decide +kernel
theorem dL_total_2 : decode cL_total 2 = .ok (.aload_n 0, 1) := by decide +kernel
theorem dL_total_3 : decode cL_total 3 = .ok (.iload_n 1, 1) := by decide +kernel
theorem dL_total_4 : decode cL_total 4 = .ok (.invokevirtual 71, 3) := by decide +kernel
theorem dL_total_7 : decode cL_total 7 = .ok (.i2l, 1) := by decide +kernel
theorem dL_total_8 : decode cL_total 8 = .ok (.lastore, 1) := by decide +kernel
theorem dL_total_9 : decode cL_total 9 = .ok (.goto 6, 3) := by decide +kernel
theorem dL_total_12 : decode cL_total 12 = .ok (.astore_n 3, 1) := by decide +kernel
theorem dL_total_13 : decode cL_total 13 = .ok (.iconst 1, 1) := by decide +kernel
theorem dL_total_14 : decode cL_total 14 = .ok (.ireturn, 1) := by decide +kernel
theorem dL_total_15 : decode cL_total 15 = .ok (.iconst 0, 1) := by decide +kernel
theorem dL_total_16 : decode cL_total 16 = .ok (.ireturn, 1) := by decide +kernel
