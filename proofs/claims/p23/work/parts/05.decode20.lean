theorem dX0_init_0 : decode cX0_init 0 = .ok (.aload_n 0, 1) := by decide +kernel
theorem dX0_init_1 : decode cX0_init 1 = .ok (.invokespecial 3, 3) := by decide +kernel
theorem dX0_init_4 : decode cX0_init 4 = .ok (.aload_n 0, 1) := by decide +kernel
theorem dX0_init_5 : decode cX0_init 5 = .ok (.iload_n 1, 1) := by decide +kernel
theorem dX0_init_6 : decode cX0_init 6 = .ok (.putfield 9, 3) := by decide +kernel
theorem dX0_init_9 : decode cX0_init 9 = .ok (.return_, 1) := by decide +kernel
theorem dX0_nextValue_0 : decode cX0_nextValue 0 = .ok (.aload_n 0, 1) := by decide +kernel
theorem dX0_nextValue_1 : decode cX0_nextValue 1 = .ok (.iconst 0, 1) := by decide +kernel
theorem dX0_nextValue_2 : decode cX0_nextValue 2 = .ok (.putfield 15, 3) := by decide +kernel
theorem dX0_nextValue_5 : decode cX0_nextValue 5 = .ok (.iload_n 2, 1) := by decide +kernel
theorem dX0_nextValue_6 : decode cX0_nextValue 6 = .ok (.iconst 2, 1) := by decide +kernel
theorem dX0_nextValue_7 : decode cX0_nextValue 7 = .ok (.if_icmp .ge 5, 3) := by decide +kernel
theorem dX0_nextValue_10 : decode cX0_nextValue 10 = .ok (.iconst (-1), 1) := by decide +kernel
theorem dX0_nextValue_11 : decode cX0_nextValue 11 = .ok (.ireturn, 1) := by decide +kernel
theorem dX0_nextValue_12 : decode cX0_nextValue 12 = .ok (.ldc 18, 2) := by decide +kernel
theorem dX0_nextValue_14 : decode cX0_nextValue 14 = .ok (.ldc 18, 2) := by decide +kernel
theorem dX0_nextValue_16 : decode cX0_nextValue 16 = .ok (.iload_n 2, 1) := by decide +kernel
theorem dX0_nextValue_17 : decode cX0_nextValue 17 = .ok (.irem, 1) := by decide +kernel
theorem dX0_nextValue_18 : decode cX0_nextValue 18 = .ok (.isub, 1) := by decide +kernel
theorem dX0_nextValue_19 : decode cX0_nextValue 19 = .ok (.istore_n 3, 1) := by decide +kernel
theorem dX0_nextValue_20 : decode cX0_nextValue 20 = .ok (.aload_n 0, 1) := by decide +kernel
theorem dX0_nextValue_21 : decode cX0_nextValue 21 = .ok (.iload_n 1, 1) := by decide +kernel
theorem dX0_nextValue_22 : decode cX0_nextValue 22 = .ok (.invokevirtual 19, 3) := by decide +kernel
theorem dX0_nextValue_25 : decode cX0_nextValue 25 = .ok (.aload_n 0, 1) := by decide +kernel
theorem dX0_nextValue_26 : decode cX0_nextValue 26 = .ok (.getfield 9, 3) := by decide +kernel
theorem dX0_nextValue_29 : decode cX0_nextValue 29 = .ok (.iload_n 3, 1) := by decide +kernel
theorem dX0_nextValue_30 : decode cX0_nextValue 30 = .ok (.if_icmp .lt 30, 3) := by decide +kernel
theorem dX0_nextValue_33 : decode cX0_nextValue 33 = .ok (.aload_n 0, 1) := by decide +kernel
theorem dX0_nextValue_34 : decode cX0_nextValue 34 = .ok (.getfield 15, 3) := by decide +kernel
theorem dX0_nextValue_37 : decode cX0_nextValue 37 = .ok (.ldc 18, 2) := by decide +kernel
theorem dX0_nextValue_39 : decode cX0_nextValue 39 = .ok (.if_icmp .ge 21, 3) := by decide +kernel
theorem dX0_nextValue_42 : decode cX0_nextValue 42 = .ok (.aload_n 0, 1) := by decide +kernel
theorem dX0_nextValue_43 : decode cX0_nextValue 43 = .ok (.dup, 1) := by decide +kernel
theorem dX0_nextValue_44 : decode cX0_nextValue 44 = .ok (.getfield 15, 3) := by decide +kernel
theorem dX0_nextValue_47 : decode cX0_nextValue 47 = .ok (.iconst 1, 1) := by decide +kernel
theorem dX0_nextValue_48 : decode cX0_nextValue 48 = .ok (.iadd, 1) := by decide +kernel
theorem dX0_nextValue_49 : decode cX0_nextValue 49 = .ok (.putfield 15, 3) := by decide +kernel
theorem dX0_nextValue_52 : decode cX0_nextValue 52 = .ok (.aload_n 0, 1) := by decide +kernel
theorem dX0_nextValue_53 : decode cX0_nextValue 53 = .ok (.iload_n 1, 1) := by decide +kernel
theorem dX0_nextValue_54 : decode cX0_nextValue 54 = .ok (.invokevirtual 19, 3) := by decide +kernel
theorem dX0_nextValue_57 : decode cX0_nextValue 57 = .ok (.goto (-32), 3) := by decide +kernel
theorem dX0_nextValue_60 : decode cX0_nextValue 60 = .ok (.aload_n 0, 1) := by decide +kernel
theorem dX0_nextValue_61 : decode cX0_nextValue 61 = .ok (.getfield 9, 3) := by decide +kernel
theorem dX0_nextValue_64 : decode cX0_nextValue 64 = .ok (.iload_n 2, 1) := by decide +kernel
theorem dX0_nextValue_65 : decode cX0_nextValue 65 = .ok (.irem, 1) := by decide +kernel
theorem dX0_nextValue_66 : decode cX0_nextValue 66 = .ok (.iconst 1, 1) := by decide +kernel
theorem dX0_nextValue_67 : decode cX0_nextValue 67 = .ok (.iadd, 1) := by decide +kernel
theorem dX0_nextValue_68 : decode cX0_nextValue 68 = .ok (.ireturn, 1) := by decide +kernel
theorem dX0_draw_0 : decode cX0_draw 0 = .ok (.aload_n 0, 1) := by decide +kernel
theorem dX0_draw_1 : decode cX0_draw 1 = .ok (.sipush 1105, 3) := by decide +kernel
theorem dX0_draw_4 : decode cX0_draw 4 = .ok (.aload_n 0, 1) := by decide +kernel
theorem dX0_draw_5 : decode cX0_draw 5 = .ok (.getfield 9, 3) := by decide +kernel
theorem dX0_draw_8 : decode cX0_draw 8 = .ok (.imul, 1) := by decide +kernel
theorem dX0_draw_9 : decode cX0_draw 9 = .ok (.sipush 12345, 3) := by decide +kernel
theorem dX0_draw_12 : decode cX0_draw 12 = .ok (.iadd, 1) := by decide +kernel
theorem dX0_draw_13 : decode cX0_draw 13 = .ok (.iconst 2, 1) := by decide +kernel
theorem dX0_draw_14 : decode cX0_draw 14 = .ok (.iload_n 1, 1) := by decide +kernel
theorem dX0_draw_15 : decode cX0_draw 15 = .ok (.imul, 1) := by decide +kernel
theorem dX0_draw_16 : decode cX0_draw 16 = .ok (.iadd, 1) := by decide +kernel
theorem dX0_draw_17 : decode cX0_draw 17 = .ok (.ldc 18, 2) := by decide +kernel
theorem dX0_draw_19 : decode cX0_draw 19 = .ok (.irem, 1) := by decide +kernel
theorem dX0_draw_20 : decode cX0_draw 20 = .ok (.putfield 9, 3) := by decide +kernel
theorem dX0_draw_23 : decode cX0_draw 23 = .ok (.return_, 1) := by decide +kernel
theorem dX1_init_0 : decode cX1_init 0 = .ok (.aload_n 0, 1) := by decide +kernel
theorem dX1_init_1 : decode cX1_init 1 = .ok (.invokespecial 3, 3) := by decide +kernel
theorem dX1_init_4 : decode cX1_init 4 = .ok (.aload_n 0, 1) := by decide +kernel
theorem dX1_init_5 : decode cX1_init 5 = .ok (.iload_n 1, 1) := by decide +kernel
theorem dX1_init_6 : decode cX1_init 6 = .ok (.putfield 9, 3) := by decide +kernel
theorem dX1_init_9 : decode cX1_init 9 = .ok (.aload_n 0, 1) := by decide +kernel
theorem dX1_init_10 : decode cX1_init 10 = .ok (.iload_n 2, 1) := by decide +kernel
theorem dX1_init_11 : decode cX1_init 11 = .ok (.putfield 15, 3) := by decide +kernel
theorem dX1_init_14 : decode cX1_init 14 = .ok (.aload_n 0, 1) := by decide +kernel
theorem dX1_init_15 : decode cX1_init 15 = .ok (.iload_n 3, 1) := by decide +kernel
theorem dX1_init_16 : decode cX1_init 16 = .ok (.putfield 18, 3) := by decide +kernel
theorem dX1_init_19 : decode cX1_init 19 = .ok (.aload_n 0, 1) := by decide +kernel
theorem dX1_init_20 : decode cX1_init 20 = .ok (.iload 4, 2) := by decide +kernel
theorem dX1_init_22 : decode cX1_init 22 = .ok (.putfield 21, 3) := by decide +kernel
theorem dX1_init_25 : decode cX1_init 25 = .ok (.return_, 1) := by decide +kernel
theorem dX1_sumAfter_0 : decode cX1_sumAfter 0 = .ok (.bipush 7, 2) := by decide +kernel
theorem dX1_sumAfter_2 : decode cX1_sumAfter 2 = .ok (.aload_n 0, 1) := by decide +kernel
theorem dX1_sumAfter_3 : decode cX1_sumAfter 3 = .ok (.getfield 9, 3) := by decide +kernel
theorem dX1_sumAfter_6 : decode cX1_sumAfter 6 = .ok (.imul, 1) := by decide +kernel
theorem dX1_sumAfter_7 : decode cX1_sumAfter 7 = .ok (.iconst 5, 1) := by decide +kernel
theorem dX1_sumAfter_8 : decode cX1_sumAfter 8 = .ok (.aload_n 0, 1) := by decide +kernel
theorem dX1_sumAfter_9 : decode cX1_sumAfter 9 = .ok (.getfield 15, 3) := by decide +kernel
theorem dX1_sumAfter_12 : decode cX1_sumAfter 12 = .ok (.imul, 1) := by decide +kernel
theorem dX1_sumAfter_13 : decode cX1_sumAfter 13 = .ok (.iadd, 1) := by decide +kernel
theorem dX1_sumAfter_14 : decode cX1_sumAfter 14 = .ok (.iconst 3, 1) := by decide +kernel
theorem dX1_sumAfter_15 : decode cX1_sumAfter 15 = .ok (.aload_n 0, 1) := by decide +kernel
theorem dX1_sumAfter_16 : decode cX1_sumAfter 16 = .ok (.getfield 21, 3) := by decide +kernel
theorem dX1_sumAfter_19 : decode cX1_sumAfter 19 = .ok (.imul, 1) := by decide +kernel
theorem dX1_sumAfter_20 : decode cX1_sumAfter 20 = .ok (.iadd, 1) := by decide +kernel
theorem dX1_sumAfter_21 : decode cX1_sumAfter 21 = .ok (.bipush 11, 2) := by decide +kernel
theorem dX1_sumAfter_23 : decode cX1_sumAfter 23 = .ok (.aload_n 0, 1) := by decide +kernel
theorem dX1_sumAfter_24 : decode cX1_sumAfter 24 = .ok (.getfield 24, 3) := by decide +kernel
theorem dX1_sumAfter_27 : decode cX1_sumAfter 27 = .ok (.imul, 1) := by decide +kernel
theorem dX1_sumAfter_28 : decode cX1_sumAfter 28 = .ok (.iadd, 1) := by decide +kernel
theorem dX1_sumAfter_29 : decode cX1_sumAfter 29 = .ok (.aload_n 0, 1) := by decide +kernel
theorem dX1_sumAfter_30 : decode cX1_sumAfter 30 = .ok (.getfield 27, 3) := by decide +kernel
theorem dX1_sumAfter_33 : decode cX1_sumAfter 33 = .ok (.iadd, 1) := by decide +kernel
theorem dX1_sumAfter_34 : decode cX1_sumAfter 34 = .ok (.istore_n 2, 1) := by decide +kernel
theorem dX1_sumAfter_35 : decode cX1_sumAfter 35 = .ok (.bipush 31, 2) := by decide +kernel
theorem dX1_sumAfter_37 : decode cX1_sumAfter 37 = .ok (.iload_n 1, 1) := by decide +kernel
theorem dX1_sumAfter_38 : decode cX1_sumAfter 38 = .ok (.imul, 1) := by decide +kernel
theorem dX1_sumAfter_39 : decode cX1_sumAfter 39 = .ok (.iload_n 2, 1) := by decide +kernel
theorem dX1_sumAfter_40 : decode cX1_sumAfter 40 = .ok (.iadd, 1) := by decide +kernel
theorem dX1_sumAfter_41 : decode cX1_sumAfter 41 = .ok (.ldc 30, 2) := by decide +kernel
theorem dX1_sumAfter_43 : decode cX1_sumAfter 43 = .ok (.irem, 1) := by decide +kernel
theorem dX1_sumAfter_44 : decode cX1_sumAfter 44 = .ok (.ireturn, 1) := by decide +kernel
theorem dX1_countsFor_0 : decode cX1_countsFor 0 = .ok (.aload_n 0, 1) := by decide +kernel
theorem dX1_countsFor_1 : decode cX1_countsFor 1 = .ok (.getfield 21, 3) := by decide +kernel
theorem dX1_countsFor_4 : decode cX1_countsFor 4 = .ok (.iload_n 1, 1) := by decide +kernel
theorem dX1_countsFor_5 : decode cX1_countsFor 5 = .ok (.if_icmp .ne 14, 3) := by decide +kernel
theorem dX1_countsFor_8 : decode cX1_countsFor 8 = .ok (.aload_n 0, 1) := by decide +kernel
theorem dX1_countsFor_9 : decode cX1_countsFor 9 = .ok (.getfield 31, 3) := by decide +kernel
theorem dX1_countsFor_12 : decode cX1_countsFor 12 = .ok (.ifCond .ne 7, 3) := by decide +kernel
theorem dX1_countsFor_15 : decode cX1_countsFor 15 = .ok (.iconst 1, 1) := by decide +kernel
theorem dX1_countsFor_16 : decode cX1_countsFor 16 = .ok (.goto 4, 3) := by decide +kernel
theorem dX1_countsFor_19 : decode cX1_countsFor 19 = .ok (.iconst 0, 1) := by decide +kernel
theorem dX1_countsFor_20 : decode cX1_countsFor 20 = .ok (.ireturn, 1) := by decide +kernel
theorem dX2_init_0 : decode cX2_init 0 = .ok (.aload_n 0, 1) := by decide +kernel
theorem dX2_init_1 : decode cX2_init 1 = .ok (.invokespecial 1, 3) := by decide +kernel
theorem dX2_init_4 : decode cX2_init 4 = .ok (.aload_n 0, 1) := by decide +kernel
theorem dX2_init_5 : decode cX2_init 5 = .ok (.iload_n 1, 1) := by decide +kernel
theorem dX2_init_6 : decode cX2_init 6 = .ok (.putfield 7, 3) := by decide +kernel
theorem dX2_init_9 : decode cX2_init 9 = .ok (.aload_n 0, 1) := by decide +kernel
theorem dX2_init_10 : decode cX2_init 10 = .ok (.new 13, 3) := by decide +kernel
theorem dX2_init_13 : decode cX2_init 13 = .ok (.dup, 1) := by decide +kernel
theorem dX2_init_14 : decode cX2_init 14 = .ok (.iload_n 1, 1) := by decide +kernel
theorem dX2_init_15 : decode cX2_init 15 = .ok (.invokespecial 15, 3) := by decide +kernel
theorem dX2_init_18 : decode cX2_init 18 = .ok (.putfield 18, 3) := by decide +kernel
theorem dX2_init_21 : decode cX2_init 21 = .ok (.return_, 1) := by decide +kernel
theorem dX3_init_0 : decode cX3_init 0 = .ok (.aload_n 0, 1) := by decide +kernel
theorem dX3_init_1 : decode cX3_init 1 = .ok (.invokespecial 1, 3) := by decide +kernel
theorem dX3_init_4 : decode cX3_init 4 = .ok (.aload_n 0, 1) := by decide +kernel
theorem dX3_init_5 : decode cX3_init 5 = .ok (.new 7, 3) := by decide +kernel
theorem dX3_init_8 : decode cX3_init 8 = .ok (.dup, 1) := by decide +kernel
theorem dX3_init_9 : decode cX3_init 9 = .ok (.invokespecial 9, 3) := by decide +kernel
theorem dX3_init_12 : decode cX3_init 12 = .ok (.putfield 10, 3) := by decide +kernel
theorem dX3_init_15 : decode cX3_init 15 = .ok (.aload_n 0, 1) := by decide +kernel
theorem dX3_init_16 : decode cX3_init 16 = .ok (.new 7, 3) := by decide +kernel
theorem dX3_init_19 : decode cX3_init 19 = .ok (.dup, 1) := by decide +kernel
theorem dX3_init_20 : decode cX3_init 20 = .ok (.invokespecial 9, 3) := by decide +kernel
theorem dX3_init_23 : decode cX3_init 23 = .ok (.putfield 16, 3) := by decide +kernel
theorem dX3_init_26 : decode cX3_init 26 = .ok (.aload_n 0, 1) := by decide +kernel
theorem dX3_init_27 : decode cX3_init 27 = .ok (.iconst 4, 1) := by decide +kernel
theorem dX3_init_28 : decode cX3_init 28 = .ok (.newarray .int, 2) := by decide +kernel
theorem dX3_init_30 : decode cX3_init 30 = .ok (.putfield 19, 3) := by decide +kernel
theorem dX3_init_33 : decode cX3_init 33 = .ok (.aload_n 0, 1) := by decide +kernel
theorem dX3_init_34 : decode cX3_init 34 = .ok (.sipush 1001, 3) := by decide +kernel
theorem dX3_init_37 : decode cX3_init 37 = .ok (.newarray .int, 2) := by decide +kernel
theorem dX3_init_39 : decode cX3_init 39 = .ok (.putfield 23, 3) := by decide +kernel
theorem dX3_init_42 : decode cX3_init 42 = .ok (.return_, 1) := by decide +kernel
theorem dX3_promise_0 : decode cX3_promise 0 = .ok (.iload_n 1, 1) := by decide +kernel
theorem dX3_promise_1 : decode cX3_promise 1 = .ok (.ifCond .lt 9, 3) := by decide +kernel
theorem dX3_promise_4 : decode cX3_promise 4 = .ok (.iload_n 1, 1) := by decide +kernel
theorem dX3_promise_5 : decode cX3_promise 5 = .ok (.ldc 26, 2) := by decide +kernel
theorem dX3_promise_7 : decode cX3_promise 7 = .ok (.if_icmp .lt 13, 3) := by decide +kernel
theorem dX3_promise_10 : decode cX3_promise 10 = .ok (.new 27, 3) := by decide +kernel
theorem dX3_promise_13 : decode cX3_promise 13 = .ok (.dup, 1) := by decide +kernel
theorem dX3_promise_14 : decode cX3_promise 14 = .ok (.ldc 29, 2) := by decide +kernel
theorem dX3_promise_16 : decode cX3_promise 16 = .ok (.invokespecial 31, 3) := by decide +kernel
theorem dX3_promise_19 : decode cX3_promise 19 = .ok (.athrow, 1) := by decide +kernel
theorem dX3_promise_20 : decode cX3_promise 20 = .ok (.aload_n 0, 1) := by decide +kernel
theorem dX3_promise_21 : decode cX3_promise 21 = .ok (.getfield 10, 3) := by decide +kernel
theorem dX3_promise_24 : decode cX3_promise 24 = .ok (.invokevirtual 34, 3) := by decide +kernel
theorem dX3_promise_27 : decode cX3_promise 27 = .ok (.bipush 16, 2) := by decide +kernel
theorem dX3_promise_29 : decode cX3_promise 29 = .ok (.if_icmp .lt 13, 3) := by decide +kernel
theorem dX3_promise_32 : decode cX3_promise 32 = .ok (.new 38, 3) := by decide +kernel
theorem dX3_promise_35 : decode cX3_promise 35 = .ok (.dup, 1) := by decide +kernel
theorem dX3_promise_36 : decode cX3_promise 36 = .ok (.ldc 40, 2) := by decide +kernel
theorem dX3_promise_38 : decode cX3_promise 38 = .ok (.invokespecial 42, 3) := by decide +kernel
theorem dX3_promise_41 : decode cX3_promise 41 = .ok (.athrow, 1) := by decide +kernel
theorem dX3_promise_42 : decode cX3_promise 42 = .ok (.aload_n 0, 1) := by decide +kernel
theorem dX3_promise_43 : decode cX3_promise 43 = .ok (.getfield 10, 3) := by decide +kernel
theorem dX3_promise_46 : decode cX3_promise 46 = .ok (.new 43, 3) := by decide +kernel
theorem dX3_promise_49 : decode cX3_promise 49 = .ok (.dup, 1) := by decide +kernel
theorem dX3_promise_50 : decode cX3_promise 50 = .ok (.iload_n 1, 1) := by decide +kernel
theorem dX3_promise_51 : decode cX3_promise 51 = .ok (.invokespecial 45, 3) := by decide +kernel
theorem dX3_promise_54 : decode cX3_promise 54 = .ok (.invokevirtual 48, 3) := by decide +kernel
theorem dX3_promise_57 : decode cX3_promise 57 = .ok (.pop, 1) := by decide +kernel
theorem dX3_promise_58 : decode cX3_promise 58 = .ok (.aload_n 0, 1) := by decide +kernel
theorem dX3_promise_59 : decode cX3_promise 59 = .ok (.getfield 10, 3) := by decide +kernel
theorem dX3_promise_62 : decode cX3_promise 62 = .ok (.invokevirtual 34, 3) := by decide +kernel
theorem dX3_promise_65 : decode cX3_promise 65 = .ok (.iconst 1, 1) := by decide +kernel
theorem dX3_promise_66 : decode cX3_promise 66 = .ok (.isub, 1) := by decide +kernel
theorem dX3_promise_67 : decode cX3_promise 67 = .ok (.ireturn, 1) := by decide +kernel
theorem dX3_sign_0 : decode cX3_sign 0 = .ok (.aload_n 0, 1) := by decide +kernel
theorem dX3_sign_1 : decode cX3_sign 1 = .ok (.iload_n 1, 1) := by decide +kernel
theorem dX3_sign_2 : decode cX3_sign 2 = .ok (.invokevirtual 52, 3) := by decide +kernel
theorem dX3_sign_5 : decode cX3_sign 5 = .ok (.getfield 56, 3) := by decide +kernel
theorem dX3_sign_8 : decode cX3_sign 8 = .ok (.i2l, 1) := by decide +kernel
theorem dX3_sign_9 : decode cX3_sign 9 = .ok (.lstore_n 2, 1) := by decide +kernel
theorem dX3_sign_10 : decode cX3_sign 10 = .ok (.lload_n 2, 1) := by decide +kernel
theorem dX3_sign_11 : decode cX3_sign 11 = .ok (.lload_n 2, 1) := by decide +kernel
theorem dX3_sign_12 : decode cX3_sign 12 = .ok (.lmul, 1) := by decide +kernel
theorem dX3_sign_13 : decode cX3_sign 13 = .ok (.ldc2_w 60, 3) := by decide +kernel
theorem dX3_sign_16 : decode cX3_sign 16 = .ok (.lload_n 2, 1) := by decide +kernel
theorem dX3_sign_17 : decode cX3_sign 17 = .ok (.lmul, 1) := by decide +kernel
theorem dX3_sign_18 : decode cX3_sign 18 = .ok (.ladd, 1) := by decide +kernel
theorem dX3_sign_19 : decode cX3_sign 19 = .ok (.ldc2_w 62, 3) := by decide +kernel
theorem dX3_sign_22 : decode cX3_sign 22 = .ok (.ladd, 1) := by decide +kernel
theorem dX3_sign_23 : decode cX3_sign 23 = .ok (.ldc2_w 64, 3) := by decide +kernel
theorem dX3_sign_26 : decode cX3_sign 26 = .ok (.lrem, 1) := by decide +kernel
theorem dX3_sign_27 : decode cX3_sign 27 = .ok (.l2i, 1) := by decide +kernel
theorem dX3_sign_28 : decode cX3_sign 28 = .ok (.ireturn, 1) := by decide +kernel
theorem dX3_seedsOf_0 : decode cX3_seedsOf 0 = .ok (.aload_n 0, 1) := by decide +kernel
theorem dX3_seedsOf_1 : decode cX3_seedsOf 1 = .ok (.iload_n 1, 1) := by decide +kernel
theorem dX3_seedsOf_2 : decode cX3_seedsOf 2 = .ok (.invokevirtual 52, 3) := by decide +kernel
theorem dX3_seedsOf_5 : decode cX3_seedsOf 5 = .ok (.getfield 56, 3) := by decide +kernel
theorem dX3_seedsOf_8 : decode cX3_seedsOf 8 = .ok (.istore_n 2, 1) := by decide +kernel
theorem dX3_seedsOf_9 : decode cX3_seedsOf 9 = .ok (.iload_n 2, 1) := by decide +kernel
theorem dX3_seedsOf_10 : decode cX3_seedsOf 10 = .ok (.sipush 10007, 3) := by decide +kernel
theorem dX3_seedsOf_13 : decode cX3_seedsOf 13 = .ok (.irem, 1) := by decide +kernel
theorem dX3_seedsOf_14 : decode cX3_seedsOf 14 = .ok (.istore_n 3, 1) := by decide +kernel
theorem dX3_seedsOf_15 : decode cX3_seedsOf 15 = .ok (.bipush (-31), 2) := by decide +kernel
theorem dX3_seedsOf_17 : decode cX3_seedsOf 17 = .ok (.iload_n 2, 1) := by decide +kernel
theorem dX3_seedsOf_18 : decode cX3_seedsOf 18 = .ok (.isub, 1) := by decide +kernel
theorem dX3_seedsOf_19 : decode cX3_seedsOf 19 = .ok (.sipush 10007, 3) := by decide +kernel
theorem dX3_seedsOf_22 : decode cX3_seedsOf 22 = .ok (.invokestatic 66, 3) := by decide +kernel
theorem dX3_seedsOf_25 : decode cX3_seedsOf 25 = .ok (.istore 4, 2) := by decide +kernel
theorem dX3_seedsOf_27 : decode cX3_seedsOf 27 = .ok (.iload_n 3, 1) := by decide +kernel
theorem dX3_seedsOf_28 : decode cX3_seedsOf 28 = .ok (.invokestatic 72, 3) := by decide +kernel
theorem dX3_seedsOf_31 : decode cX3_seedsOf 31 = .ok (.istore 5, 2) := by decide +kernel
theorem dX3_seedsOf_33 : decode cX3_seedsOf 33 = .ok (.iload 4, 2) := by decide +kernel
theorem dX3_seedsOf_35 : decode cX3_seedsOf 35 = .ok (.iload_n 3, 1) := by decide +kernel
theorem dX3_seedsOf_36 : decode cX3_seedsOf 36 = .ok (.if_icmp .ne 8, 3) := by decide +kernel
theorem dX3_seedsOf_39 : decode cX3_seedsOf 39 = .ok (.iload 5, 2) := by decide +kernel
theorem dX3_seedsOf_41 : decode cX3_seedsOf 41 = .ok (.goto 11, 3) := by decide +kernel
theorem dX3_seedsOf_44 : decode cX3_seedsOf 44 = .ok (.iload 5, 2) := by decide +kernel
theorem dX3_seedsOf_46 : decode cX3_seedsOf 46 = .ok (.iload 4, 2) := by decide +kernel
theorem dX3_seedsOf_48 : decode cX3_seedsOf 48 = .ok (.invokestatic 72, 3) := by decide +kernel
theorem dX3_seedsOf_51 : decode cX3_seedsOf 51 = .ok (.iadd, 1) := by decide +kernel
theorem dX3_seedsOf_52 : decode cX3_seedsOf 52 = .ok (.ireturn, 1) := by decide +kernel
theorem dX3_open_0 : decode cX3_open 0 = .ok (.aload_n 0, 1) := by decide +kernel
theorem dX3_open_1 : decode cX3_open 1 = .ok (.iload_n 1, 1) := by decide +kernel
theorem dX3_open_2 : decode cX3_open 2 = .ok (.invokevirtual 52, 3) := by decide +kernel
theorem dX3_open_5 : decode cX3_open 5 = .ok (.astore_n 2, 1) := by decide +kernel
theorem dX3_open_6 : decode cX3_open 6 = .ok (.aload_n 2, 1) := by decide +kernel
theorem dX3_open_7 : decode cX3_open 7 = .ok (.getfield 76, 3) := by decide +kernel
theorem dX3_open_10 : decode cX3_open 10 = .ok (.ifCond .eq 13, 3) := by decide +kernel
theorem dX3_open_13 : decode cX3_open 13 = .ok (.new 38, 3) := by decide +kernel
theorem dX3_open_16 : decode cX3_open 16 = .ok (.dup, 1) := by decide +kernel
theorem dX3_open_17 : decode cX3_open 17 = .ok (.ldc 80, 2) := by decide +kernel
theorem dX3_open_19 : decode cX3_open 19 = .ok (.invokespecial 42, 3) := by decide +kernel
theorem dX3_open_22 : decode cX3_open 22 = .ok (.athrow, 1) := by decide +kernel
theorem dX3_open_23 : decode cX3_open 23 = .ok (.aload_n 2, 1) := by decide +kernel
theorem dX3_open_24 : decode cX3_open 24 = .ok (.iconst 1, 1) := by decide +kernel
theorem dX3_open_25 : decode cX3_open 25 = .ok (.putfield 76, 3) := by decide +kernel
theorem dX3_open_28 : decode cX3_open 28 = .ok (.aload_n 2, 1) := by decide +kernel
theorem dX3_open_29 : decode cX3_open 29 = .ok (.getfield 56, 3) := by decide +kernel
theorem dX3_open_32 : decode cX3_open 32 = .ok (.ireturn, 1) := by decide +kernel
theorem dX3_isOpened_0 : decode cX3_isOpened 0 = .ok (.aload_n 0, 1) := by decide +kernel
theorem dX3_isOpened_1 : decode cX3_isOpened 1 = .ok (.iload_n 1, 1) := by decide +kernel
theorem dX3_isOpened_2 : decode cX3_isOpened 2 = .ok (.invokevirtual 52, 3) := by decide +kernel
theorem dX3_isOpened_5 : decode cX3_isOpened 5 = .ok (.getfield 76, 3) := by decide +kernel
theorem dX3_isOpened_8 : decode cX3_isOpened 8 = .ok (.ireturn, 1) := by decide +kernel
theorem dX3_setPart_0 : decode cX3_setPart 0 = .ok (.iload_n 1, 1) := by decide +kernel
theorem dX3_setPart_1 : decode cX3_setPart 1 = .ok (.invokestatic 82, 3) := by decide +kernel
theorem dX3_setPart_4 : decode cX3_setPart 4 = .ok (.iload_n 2, 1) := by decide +kernel
theorem dX3_setPart_5 : decode cX3_setPart 5 = .ok (.ifCond .lt 10, 3) := by decide +kernel
theorem dX3_setPart_8 : decode cX3_setPart 8 = .ok (.iload_n 2, 1) := by decide +kernel
theorem dX3_setPart_9 : decode cX3_setPart 9 = .ok (.sipush 999, 3) := by decide +kernel
theorem dX3_setPart_12 : decode cX3_setPart 12 = .ok (.if_icmp .le 13, 3) := by decide +kernel
theorem dX3_setPart_15 : decode cX3_setPart 15 = .ok (.new 27, 3) := by decide +kernel
theorem dX3_setPart_18 : decode cX3_setPart 18 = .ok (.dup, 1) := by decide +kernel
theorem dX3_setPart_19 : decode cX3_setPart 19 = .ok (.ldc 85, 2) := by decide +kernel
theorem dX3_setPart_21 : decode cX3_setPart 21 = .ok (.invokespecial 31, 3) := by decide +kernel
theorem dX3_setPart_24 : decode cX3_setPart 24 = .ok (.athrow, 1) := by decide +kernel
theorem dX3_setPart_25 : decode cX3_setPart 25 = .ok (.aload_n 0, 1) := by decide +kernel
theorem dX3_setPart_26 : decode cX3_setPart 26 = .ok (.getfield 19, 3) := by decide +kernel
theorem dX3_setPart_29 : decode cX3_setPart 29 = .ok (.iload_n 1, 1) := by decide +kernel
theorem dX3_setPart_30 : decode cX3_setPart 30 = .ok (.iaload, 1) := by decide +kernel
theorem dX3_setPart_31 : decode cX3_setPart 31 = .ok (.istore_n 3, 1) := by decide +kernel
theorem dX3_setPart_32 : decode cX3_setPart 32 = .ok (.aload_n 0, 1) := by decide +kernel
theorem dX3_setPart_33 : decode cX3_setPart 33 = .ok (.getfield 19, 3) := by decide +kernel
theorem dX3_setPart_36 : decode cX3_setPart 36 = .ok (.iload_n 1, 1) := by decide +kernel
theorem dX3_setPart_37 : decode cX3_setPart 37 = .ok (.iload_n 2, 1) := by decide +kernel
theorem dX3_setPart_38 : decode cX3_setPart 38 = .ok (.iastore, 1) := by decide +kernel
theorem dX3_setPart_39 : decode cX3_setPart 39 = .ok (.iload_n 3, 1) := by decide +kernel
theorem dX3_setPart_40 : decode cX3_setPart 40 = .ok (.ireturn, 1) := by decide +kernel
theorem dX3_roll_0 : decode cX3_roll 0 = .ok (.aload_n 0, 1) := by decide +kernel
theorem dX3_roll_1 : decode cX3_roll 1 = .ok (.iload_n 1, 1) := by decide +kernel
theorem dX3_roll_2 : decode cX3_roll 2 = .ok (.invokevirtual 52, 3) := by decide +kernel
theorem dX3_roll_5 : decode cX3_roll 5 = .ok (.astore 4, 2) := by decide +kernel
theorem dX3_roll_7 : decode cX3_roll 7 = .ok (.iload_n 2, 1) := by decide +kernel
theorem dX3_roll_8 : decode cX3_roll 8 = .ok (.invokestatic 82, 3) := by decide +kernel
theorem dX3_roll_11 : decode cX3_roll 11 = .ok (.iload_n 3, 1) := by decide +kernel
theorem dX3_roll_12 : decode cX3_roll 12 = .ok (.invokestatic 87, 3) := by decide +kernel
theorem dX3_roll_15 : decode cX3_roll 15 = .ok (.aload 4, 2) := by decide +kernel
theorem dX3_roll_17 : decode cX3_roll 17 = .ok (.getfield 76, 3) := by decide +kernel
theorem dX3_roll_20 : decode cX3_roll 20 = .ok (.ifCond .eq 13, 3) := by decide +kernel
theorem dX3_roll_23 : decode cX3_roll 23 = .ok (.new 38, 3) := by decide +kernel
theorem dX3_roll_26 : decode cX3_roll 26 = .ok (.dup, 1) := by decide +kernel
theorem dX3_roll_27 : decode cX3_roll 27 = .ok (.ldc 80, 2) := by decide +kernel
theorem dX3_roll_29 : decode cX3_roll 29 = .ok (.invokespecial 42, 3) := by decide +kernel
theorem dX3_roll_32 : decode cX3_roll 32 = .ok (.athrow, 1) := by decide +kernel
theorem dX3_roll_33 : decode cX3_roll 33 = .ok (.aload_n 0, 1) := by decide +kernel
theorem dX3_roll_34 : decode cX3_roll 34 = .ok (.getfield 16, 3) := by decide +kernel
theorem dX3_roll_37 : decode cX3_roll 37 = .ok (.invokevirtual 34, 3) := by decide +kernel
theorem dX3_roll_40 : decode cX3_roll 40 = .ok (.bipush 100, 2) := by decide +kernel
theorem dX3_roll_42 : decode cX3_roll 42 = .ok (.if_icmp .lt 13, 3) := by decide +kernel
theorem dX3_roll_45 : decode cX3_roll 45 = .ok (.new 38, 3) := by decide +kernel
theorem dX3_roll_48 : decode cX3_roll 48 = .ok (.dup, 1) := by decide +kernel
theorem dX3_roll_49 : decode cX3_roll 49 = .ok (.ldc 90, 2) := by decide +kernel
theorem dX3_roll_51 : decode cX3_roll 51 = .ok (.invokespecial 42, 3) := by decide +kernel
theorem dX3_roll_54 : decode cX3_roll 54 = .ok (.athrow, 1) := by decide +kernel
theorem dX3_roll_55 : decode cX3_roll 55 = .ok (.new 92, 3) := by decide +kernel
theorem dX3_roll_58 : decode cX3_roll 58 = .ok (.dup, 1) := by decide +kernel
theorem dX3_roll_59 : decode cX3_roll 59 = .ok (.iload_n 1, 1) := by decide +kernel
theorem dX3_roll_60 : decode cX3_roll 60 = .ok (.iload_n 2, 1) := by decide +kernel
theorem dX3_roll_61 : decode cX3_roll 61 = .ok (.aload_n 0, 1) := by decide +kernel
theorem dX3_roll_62 : decode cX3_roll 62 = .ok (.getfield 19, 3) := by decide +kernel
theorem dX3_roll_65 : decode cX3_roll 65 = .ok (.iload_n 2, 1) := by decide +kernel
theorem dX3_roll_66 : decode cX3_roll 66 = .ok (.iaload, 1) := by decide +kernel
theorem dX3_roll_67 : decode cX3_roll 67 = .ok (.iload_n 3, 1) := by decide +kernel
theorem dX3_roll_68 : decode cX3_roll 68 = .ok (.invokespecial 94, 3) := by decide +kernel
theorem dX3_roll_71 : decode cX3_roll 71 = .ok (.astore 5, 2) := by decide +kernel
theorem dX3_roll_73 : decode cX3_roll 73 = .ok (.aload 5, 2) := by decide +kernel
theorem dX3_roll_75 : decode cX3_roll 75 = .ok (.aload 4, 2) := by decide +kernel
theorem dX3_roll_77 : decode cX3_roll 77 = .ok (.getfield 97, 3) := by decide +kernel
theorem dX3_roll_80 : decode cX3_roll 80 = .ok (.aload 5, 2) := by decide +kernel
theorem dX3_roll_82 : decode cX3_roll 82 = .ok (.getfield 101, 3) := by decide +kernel
theorem dX3_roll_85 : decode cX3_roll 85 = .ok (.iload_n 3, 1) := by decide +kernel
theorem dX3_roll_86 : decode cX3_roll 86 = .ok (.invokevirtual 104, 3) := by decide +kernel
theorem dX3_roll_89 : decode cX3_roll 89 = .ok (.putfield 109, 3) := by decide +kernel
theorem dX3_roll_92 : decode cX3_roll 92 = .ok (.aload 5, 2) := by decide +kernel
theorem dX3_roll_94 : decode cX3_roll 94 = .ok (.aload 4, 2) := by decide +kernel
theorem dX3_roll_96 : decode cX3_roll 96 = .ok (.getfield 97, 3) := by decide +kernel
theorem dX3_roll_99 : decode cX3_roll 99 = .ok (.getfield 112, 3) := by decide +kernel
theorem dX3_roll_102 : decode cX3_roll 102 = .ok (.putfield 115, 3) := by decide +kernel
theorem dX3_roll_105 : decode cX3_roll 105 = .ok (.aload 5, 2) := by decide +kernel
theorem dX3_roll_107 : decode cX3_roll 107 = .ok (.aload 5, 2) := by decide +kernel
theorem dX3_roll_109 : decode cX3_roll 109 = .ok (.aload_n 0, 1) := by decide +kernel
theorem dX3_roll_110 : decode cX3_roll 110 = .ok (.invokevirtual 116, 3) := by decide +kernel
theorem dX3_roll_113 : decode cX3_roll 113 = .ok (.invokevirtual 119, 3) := by decide +kernel
theorem dX3_roll_116 : decode cX3_roll 116 = .ok (.putfield 122, 3) := by decide +kernel
theorem dX3_roll_119 : decode cX3_roll 119 = .ok (.aload_n 0, 1) := by decide +kernel
theorem dX3_roll_120 : decode cX3_roll 120 = .ok (.getfield 16, 3) := by decide +kernel
theorem dX3_roll_123 : decode cX3_roll 123 = .ok (.aload 5, 2) := by decide +kernel
theorem dX3_roll_125 : decode cX3_roll 125 = .ok (.invokevirtual 48, 3) := by decide +kernel
theorem dX3_roll_128 : decode cX3_roll 128 = .ok (.pop, 1) := by decide +kernel
theorem dX3_roll_129 : decode cX3_roll 129 = .ok (.aload 5, 2) := by decide +kernel
theorem dX3_roll_131 : decode cX3_roll 131 = .ok (.getfield 109, 3) := by decide +kernel
theorem dX3_roll_134 : decode cX3_roll 134 = .ok (.ireturn, 1) := by decide +kernel
theorem dX3_entries_0 : decode cX3_entries 0 = .ok (.aload_n 0, 1) := by decide +kernel
theorem dX3_entries_1 : decode cX3_entries 1 = .ok (.getfield 16, 3) := by decide +kernel
theorem dX3_entries_4 : decode cX3_entries 4 = .ok (.invokevirtual 34, 3) := by decide +kernel
theorem dX3_entries_7 : decode cX3_entries 7 = .ok (.ireturn, 1) := by decide +kernel
theorem dX3_value_0 : decode cX3_value 0 = .ok (.aload_n 0, 1) := by decide +kernel
theorem dX3_value_1 : decode cX3_value 1 = .ok (.iload_n 1, 1) := by decide +kernel
theorem dX3_value_2 : decode cX3_value 2 = .ok (.invokevirtual 125, 3) := by decide +kernel
theorem dX3_value_5 : decode cX3_value 5 = .ok (.getfield 109, 3) := by decide +kernel
theorem dX3_value_8 : decode cX3_value 8 = .ok (.ireturn, 1) := by decide +kernel
theorem dX3_rejected_0 : decode cX3_rejected 0 = .ok (.aload_n 0, 1) := by decide +kernel
theorem dX3_rejected_1 : decode cX3_rejected 1 = .ok (.iload_n 1, 1) := by decide +kernel
theorem dX3_rejected_2 : decode cX3_rejected 2 = .ok (.invokevirtual 125, 3) := by decide +kernel
theorem dX3_rejected_5 : decode cX3_rejected 5 = .ok (.getfield 115, 3) := by decide +kernel
theorem dX3_rejected_8 : decode cX3_rejected 8 = .ok (.ireturn, 1) := by decide +kernel
theorem dX3_sum_0 : decode cX3_sum 0 = .ok (.aload_n 0, 1) := by decide +kernel
theorem dX3_sum_1 : decode cX3_sum 1 = .ok (.iload_n 1, 1) := by decide +kernel
theorem dX3_sum_2 : decode cX3_sum 2 = .ok (.invokevirtual 125, 3) := by decide +kernel
theorem dX3_sum_5 : decode cX3_sum 5 = .ok (.getfield 122, 3) := by decide +kernel
theorem dX3_sum_8 : decode cX3_sum 8 = .ok (.ireturn, 1) := by decide +kernel
theorem dX3_alter_0 : decode cX3_alter 0 = .ok (.aload_n 0, 1) := by decide +kernel
theorem dX3_alter_1 : decode cX3_alter 1 = .ok (.iload_n 1, 1) := by decide +kernel
theorem dX3_alter_2 : decode cX3_alter 2 = .ok (.invokevirtual 125, 3) := by decide +kernel
theorem dX3_alter_5 : decode cX3_alter 5 = .ok (.astore_n 3, 1) := by decide +kernel
theorem dX3_alter_6 : decode cX3_alter 6 = .ok (.iload_n 2, 1) := by decide +kernel
theorem dX3_alter_7 : decode cX3_alter 7 = .ok (.aload_n 3, 1) := by decide +kernel
theorem dX3_alter_8 : decode cX3_alter 8 = .ok (.getfield 129, 3) := by decide +kernel
theorem dX3_alter_11 : decode cX3_alter 11 = .ok (.invokestatic 132, 3) := by decide +kernel
theorem dX3_alter_14 : decode cX3_alter 14 = .ok (.aload_n 3, 1) := by decide +kernel
theorem dX3_alter_15 : decode cX3_alter 15 = .ok (.getfield 136, 3) := by decide +kernel
theorem dX3_alter_18 : decode cX3_alter 18 = .ok (.ifCond .eq 13, 3) := by decide +kernel
theorem dX3_alter_21 : decode cX3_alter 21 = .ok (.new 38, 3) := by decide +kernel
theorem dX3_alter_24 : decode cX3_alter 24 = .ok (.dup, 1) := by decide +kernel
theorem dX3_alter_25 : decode cX3_alter 25 = .ok (.ldc 139, 2) := by decide +kernel
theorem dX3_alter_27 : decode cX3_alter 27 = .ok (.invokespecial 42, 3) := by decide +kernel
theorem dX3_alter_30 : decode cX3_alter 30 = .ok (.athrow, 1) := by decide +kernel
theorem dX3_alter_31 : decode cX3_alter 31 = .ok (.aload_n 3, 1) := by decide +kernel
theorem dX3_alter_32 : decode cX3_alter 32 = .ok (.getfield 109, 3) := by decide +kernel
theorem dX3_alter_35 : decode cX3_alter 35 = .ok (.istore 4, 2) := by decide +kernel
theorem dX3_alter_37 : decode cX3_alter 37 = .ok (.aload_n 3, 1) := by decide +kernel
theorem dX3_alter_38 : decode cX3_alter 38 = .ok (.iload_n 2, 1) := by decide +kernel
theorem dX3_alter_39 : decode cX3_alter 39 = .ok (.putfield 109, 3) := by decide +kernel
theorem dX3_alter_42 : decode cX3_alter 42 = .ok (.iload 4, 2) := by decide +kernel
theorem dX3_alter_44 : decode cX3_alter 44 = .ok (.ireturn, 1) := by decide +kernel
theorem dX3_broken_0 : decode cX3_broken 0 = .ok (.bipush 17, 2) := by decide +kernel
theorem dX3_broken_2 : decode cX3_broken 2 = .ok (.istore_n 1, 1) := by decide +kernel
theorem dX3_broken_3 : decode cX3_broken 3 = .ok (.iconst 0, 1) := by decide +kernel
theorem dX3_broken_4 : decode cX3_broken 4 = .ok (.istore_n 2, 1) := by decide +kernel
theorem dX3_broken_5 : decode cX3_broken 5 = .ok (.iload_n 2, 1) := by decide +kernel
theorem dX3_broken_6 : decode cX3_broken 6 = .ok (.aload_n 0, 1) := by decide +kernel
theorem dX3_broken_7 : decode cX3_broken 7 = .ok (.getfield 16, 3) := by decide +kernel
theorem dX3_broken_10 : decode cX3_broken 10 = .ok (.invokevirtual 34, 3) := by decide +kernel
theorem dX3_broken_13 : decode cX3_broken 13 = .ok (.if_icmp .ge 40, 3) := by decide +kernel
theorem dX3_broken_16 : decode cX3_broken 16 = .ok (.aload_n 0, 1) := by decide +kernel
theorem dX3_broken_17 : decode cX3_broken 17 = .ok (.getfield 16, 3) := by decide +kernel
theorem dX3_broken_20 : decode cX3_broken 20 = .ok (.iload_n 2, 1) := by decide +kernel
theorem dX3_broken_21 : decode cX3_broken 21 = .ok (.invokevirtual 141, 3) := by decide +kernel
theorem dX3_broken_24 : decode cX3_broken 24 = .ok (.checkcast 92, 3) := by decide +kernel
theorem dX3_broken_27 : decode cX3_broken 27 = .ok (.astore_n 3, 1) := by decide +kernel
theorem dX3_broken_28 : decode cX3_broken 28 = .ok (.aload_n 3, 1) := by decide +kernel
theorem dX3_broken_29 : decode cX3_broken 29 = .ok (.getfield 122, 3) := by decide +kernel
theorem dX3_broken_32 : decode cX3_broken 32 = .ok (.aload_n 3, 1) := by decide +kernel
theorem dX3_broken_33 : decode cX3_broken 33 = .ok (.iload_n 1, 1) := by decide +kernel
theorem dX3_broken_34 : decode cX3_broken 34 = .ok (.invokevirtual 119, 3) := by decide +kernel
theorem dX3_broken_37 : decode cX3_broken 37 = .ok (.if_icmp .eq 5, 3) := by decide +kernel
theorem dX3_broken_40 : decode cX3_broken 40 = .ok (.iload_n 2, 1) := by decide +kernel
theorem dX3_broken_41 : decode cX3_broken 41 = .ok (.ireturn, 1) := by decide +kernel
theorem dX3_broken_42 : decode cX3_broken 42 = .ok (.aload_n 3, 1) := by decide +kernel
theorem dX3_broken_43 : decode cX3_broken 43 = .ok (.getfield 122, 3) := by decide +kernel
theorem dX3_broken_46 : decode cX3_broken 46 = .ok (.istore_n 1, 1) := by decide +kernel
theorem dX3_broken_47 : decode cX3_broken 47 = .ok (.iinc 2 1, 3) := by decide +kernel
theorem dX3_broken_50 : decode cX3_broken 50 = .ok (.goto (-45), 3) := by decide +kernel
theorem dX3_broken_53 : decode cX3_broken 53 = .ok (.iconst (-1), 1) := by decide +kernel
theorem dX3_broken_54 : decode cX3_broken 54 = .ok (.ireturn, 1) := by decide +kernel
theorem dX3_found_0 : decode cX3_found 0 = .ok (.aload_n 0, 1) := by decide +kernel
theorem dX3_found_1 : decode cX3_found 1 = .ok (.iload_n 1, 1) := by decide +kernel
theorem dX3_found_2 : decode cX3_found 2 = .ok (.invokevirtual 125, 3) := by decide +kernel
theorem dX3_found_5 : decode cX3_found 5 = .ok (.getfield 145, 3) := by decide +kernel
theorem dX3_found_8 : decode cX3_found 8 = .ok (.istore_n 2, 1) := by decide +kernel
theorem dX3_found_9 : decode cX3_found 9 = .ok (.new 105, 3) := by decide +kernel
theorem dX3_found_12 : decode cX3_found 12 = .ok (.dup, 1) := by decide +kernel
theorem dX3_found_13 : decode cX3_found 13 = .ok (.aload_n 0, 1) := by decide +kernel
theorem dX3_found_14 : decode cX3_found 14 = .ok (.iload_n 2, 1) := by decide +kernel
theorem dX3_found_15 : decode cX3_found 15 = .ok (.invokevirtual 148, 3) := by decide +kernel
theorem dX3_found_18 : decode cX3_found 18 = .ok (.getfield 56, 3) := by decide +kernel
theorem dX3_found_21 : decode cX3_found 21 = .ok (.invokespecial 151, 3) := by decide +kernel
theorem dX3_found_24 : decode cX3_found 24 = .ok (.astore_n 3, 1) := by decide +kernel
theorem dX3_found_25 : decode cX3_found 25 = .ok (.iconst (-1), 1) := by decide +kernel
theorem dX3_found_26 : decode cX3_found 26 = .ok (.istore 4, 2) := by decide +kernel
theorem dX3_found_28 : decode cX3_found 28 = .ok (.iconst 0, 1) := by decide +kernel
theorem dX3_found_29 : decode cX3_found 29 = .ok (.istore 5, 2) := by decide +kernel
theorem dX3_found_31 : decode cX3_found 31 = .ok (.iload 5, 2) := by decide +kernel
theorem dX3_found_33 : decode cX3_found 33 = .ok (.iload_n 1, 1) := by decide +kernel
theorem dX3_found_34 : decode cX3_found 34 = .ok (.if_icmp .gt 60, 3) := by decide +kernel
theorem dX3_found_37 : decode cX3_found 37 = .ok (.iload 5, 2) := by decide +kernel
theorem dX3_found_39 : decode cX3_found 39 = .ok (.aload_n 0, 1) := by decide +kernel
theorem dX3_found_40 : decode cX3_found 40 = .ok (.getfield 16, 3) := by decide +kernel
theorem dX3_found_43 : decode cX3_found 43 = .ok (.invokevirtual 34, 3) := by decide +kernel
theorem dX3_found_46 : decode cX3_found 46 = .ok (.if_icmp .ge 48, 3) := by decide +kernel
theorem dX3_found_49 : decode cX3_found 49 = .ok (.aload_n 0, 1) := by decide +kernel
theorem dX3_found_50 : decode cX3_found 50 = .ok (.getfield 16, 3) := by decide +kernel
theorem dX3_found_53 : decode cX3_found 53 = .ok (.iload 5, 2) := by decide +kernel
theorem dX3_found_55 : decode cX3_found 55 = .ok (.invokevirtual 141, 3) := by decide +kernel
theorem dX3_found_58 : decode cX3_found 58 = .ok (.checkcast 92, 3) := by decide +kernel
theorem dX3_found_61 : decode cX3_found 61 = .ok (.astore 6, 2) := by decide +kernel
theorem dX3_found_63 : decode cX3_found 63 = .ok (.aload 6, 2) := by decide +kernel
theorem dX3_found_65 : decode cX3_found 65 = .ok (.getfield 145, 3) := by decide +kernel
theorem dX3_found_68 : decode cX3_found 68 = .ok (.iload_n 2, 1) := by decide +kernel
theorem dX3_found_69 : decode cX3_found 69 = .ok (.if_icmp .ne 19, 3) := by decide +kernel
theorem dX3_found_72 : decode cX3_found 72 = .ok (.aload_n 3, 1) := by decide +kernel
theorem dX3_found_73 : decode cX3_found 73 = .ok (.aload 6, 2) := by decide +kernel
theorem dX3_found_75 : decode cX3_found 75 = .ok (.getfield 101, 3) := by decide +kernel
theorem dX3_found_78 : decode cX3_found 78 = .ok (.aload 6, 2) := by decide +kernel
theorem dX3_found_80 : decode cX3_found 80 = .ok (.getfield 129, 3) := by decide +kernel
theorem dX3_found_83 : decode cX3_found 83 = .ok (.invokevirtual 104, 3) := by decide +kernel
theorem dX3_found_86 : decode cX3_found 86 = .ok (.istore 4, 2) := by decide +kernel
theorem dX3_found_88 : decode cX3_found 88 = .ok (.iinc 5 1, 3) := by decide +kernel
theorem dX3_found_91 : decode cX3_found 91 = .ok (.goto (-60), 3) := by decide +kernel
theorem dX3_found_94 : decode cX3_found 94 = .ok (.iload 4, 2) := by decide +kernel
theorem dX3_found_96 : decode cX3_found 96 = .ok (.ireturn, 1) := by decide +kernel
theorem dX3_wrong_0 : decode cX3_wrong 0 = .ok (.aload_n 0, 1) := by decide +kernel
theorem dX3_wrong_1 : decode cX3_wrong 1 = .ok (.iload_n 1, 1) := by decide +kernel
theorem dX3_wrong_2 : decode cX3_wrong 2 = .ok (.aload_n 0, 1) := by decide +kernel
theorem dX3_wrong_3 : decode cX3_wrong 3 = .ok (.iload_n 1, 1) := by decide +kernel
theorem dX3_wrong_4 : decode cX3_wrong 4 = .ok (.invokevirtual 148, 3) := by decide +kernel
theorem dX3_wrong_7 : decode cX3_wrong 7 = .ok (.getfield 56, 3) := by decide +kernel
theorem dX3_wrong_10 : decode cX3_wrong 10 = .ok (.invokevirtual 152, 3) := by decide +kernel
theorem dX3_wrong_13 : decode cX3_wrong 13 = .ok (.ireturn, 1) := by decide +kernel
theorem dX3_dispute_0 : decode cX3_dispute 0 = .ok (.aload_n 0, 1) := by decide +kernel
theorem dX3_dispute_1 : decode cX3_dispute 1 = .ok (.iload_n 1, 1) := by decide +kernel
theorem dX3_dispute_2 : decode cX3_dispute 2 = .ok (.invokevirtual 148, 3) := by decide +kernel
theorem dX3_dispute_5 : decode cX3_dispute 5 = .ok (.astore_n 2, 1) := by decide +kernel
theorem dX3_dispute_6 : decode cX3_dispute 6 = .ok (.aload_n 2, 1) := by decide +kernel
theorem dX3_dispute_7 : decode cX3_dispute 7 = .ok (.getfield 155, 3) := by decide +kernel
theorem dX3_dispute_10 : decode cX3_dispute 10 = .ok (.ifCond .eq 13, 3) := by decide +kernel
theorem dX3_dispute_13 : decode cX3_dispute 13 = .ok (.new 38, 3) := by decide +kernel
theorem dX3_dispute_16 : decode cX3_dispute 16 = .ok (.dup, 1) := by decide +kernel
theorem dX3_dispute_17 : decode cX3_dispute 17 = .ok (.ldc 158, 2) := by decide +kernel
theorem dX3_dispute_19 : decode cX3_dispute 19 = .ok (.invokespecial 42, 3) := by decide +kernel
theorem dX3_dispute_22 : decode cX3_dispute 22 = .ok (.athrow, 1) := by decide +kernel
theorem dX3_dispute_23 : decode cX3_dispute 23 = .ok (.aload_n 2, 1) := by decide +kernel
theorem dX3_dispute_24 : decode cX3_dispute 24 = .ok (.iconst 1, 1) := by decide +kernel
theorem dX3_dispute_25 : decode cX3_dispute 25 = .ok (.putfield 155, 3) := by decide +kernel
theorem dX3_dispute_28 : decode cX3_dispute 28 = .ok (.aload_n 0, 1) := by decide +kernel
theorem dX3_dispute_29 : decode cX3_dispute 29 = .ok (.iload_n 1, 1) := by decide +kernel
theorem dX3_dispute_30 : decode cX3_dispute 30 = .ok (.aload_n 2, 1) := by decide +kernel
theorem dX3_dispute_31 : decode cX3_dispute 31 = .ok (.getfield 56, 3) := by decide +kernel
theorem dX3_dispute_34 : decode cX3_dispute 34 = .ok (.invokevirtual 152, 3) := by decide +kernel
theorem dX3_dispute_37 : decode cX3_dispute 37 = .ok (.istore_n 3, 1) := by decide +kernel
theorem dX3_dispute_38 : decode cX3_dispute 38 = .ok (.iload_n 3, 1) := by decide +kernel
theorem dX3_dispute_39 : decode cX3_dispute 39 = .ok (.iconst (-1), 1) := by decide +kernel
theorem dX3_dispute_40 : decode cX3_dispute 40 = .ok (.if_icmp .ne 7, 3) := by decide +kernel
theorem dX3_dispute_43 : decode cX3_dispute 43 = .ok (.iconst 0, 1) := by decide +kernel
theorem dX3_dispute_44 : decode cX3_dispute 44 = .ok (.goto 9, 3) := by decide +kernel
theorem dX3_dispute_47 : decode cX3_dispute 47 = .ok (.aload_n 0, 1) := by decide +kernel
theorem dX3_dispute_48 : decode cX3_dispute 48 = .ok (.iload_n 3, 1) := by decide +kernel
theorem dX3_dispute_49 : decode cX3_dispute 49 = .ok (.iload_n 1, 1) := by decide +kernel
theorem dX3_dispute_50 : decode cX3_dispute 50 = .ok (.invokevirtual 160, 3) := by decide +kernel
theorem dX3_dispute_53 : decode cX3_dispute 53 = .ok (.ireturn, 1) := by decide +kernel
theorem dX3_isStruck_0 : decode cX3_isStruck 0 = .ok (.aload_n 0, 1) := by decide +kernel
theorem dX3_isStruck_1 : decode cX3_isStruck 1 = .ok (.iload_n 1, 1) := by decide +kernel
theorem dX3_isStruck_2 : decode cX3_isStruck 2 = .ok (.invokevirtual 125, 3) := by decide +kernel
theorem dX3_isStruck_5 : decode cX3_isStruck 5 = .ok (.getfield 136, 3) := by decide +kernel
theorem dX3_isStruck_8 : decode cX3_isStruck 8 = .ok (.ireturn, 1) := by decide +kernel
theorem dX3_count_0 : decode cX3_count 0 = .ok (.iload_n 1, 1) := by decide +kernel
theorem dX3_count_1 : decode cX3_count 1 = .ok (.invokestatic 87, 3) := by decide +kernel
theorem dX3_count_4 : decode cX3_count 4 = .ok (.iload_n 2, 1) := by decide +kernel
theorem dX3_count_5 : decode cX3_count 5 = .ok (.iload_n 1, 1) := by decide +kernel
theorem dX3_count_6 : decode cX3_count 6 = .ok (.invokestatic 132, 3) := by decide +kernel
theorem dX3_count_9 : decode cX3_count 9 = .ok (.iconst 0, 1) := by decide +kernel
theorem dX3_count_10 : decode cX3_count 10 = .ok (.istore_n 3, 1) := by decide +kernel
theorem dX3_count_11 : decode cX3_count 11 = .ok (.iconst 0, 1) := by decide +kernel
theorem dX3_count_12 : decode cX3_count 12 = .ok (.istore 4, 2) := by decide +kernel
theorem dX3_count_14 : decode cX3_count 14 = .ok (.iload 4, 2) := by decide +kernel
theorem dX3_count_16 : decode cX3_count 16 = .ok (.aload_n 0, 1) := by decide +kernel
theorem dX3_count_17 : decode cX3_count 17 = .ok (.getfield 16, 3) := by decide +kernel
theorem dX3_count_20 : decode cX3_count 20 = .ok (.invokevirtual 34, 3) := by decide +kernel
theorem dX3_count_23 : decode cX3_count 23 = .ok (.if_icmp .ge 44, 3) := by decide +kernel
theorem dX3_count_26 : decode cX3_count 26 = .ok (.aload_n 0, 1) := by decide +kernel
theorem dX3_count_27 : decode cX3_count 27 = .ok (.getfield 16, 3) := by decide +kernel
theorem dX3_count_30 : decode cX3_count 30 = .ok (.iload 4, 2) := by decide +kernel
theorem dX3_count_32 : decode cX3_count 32 = .ok (.invokevirtual 141, 3) := by decide +kernel
theorem dX3_count_35 : decode cX3_count 35 = .ok (.checkcast 92, 3) := by decide +kernel
theorem dX3_count_38 : decode cX3_count 38 = .ok (.astore 5, 2) := by decide +kernel
theorem dX3_count_40 : decode cX3_count 40 = .ok (.aload 5, 2) := by decide +kernel
theorem dX3_count_42 : decode cX3_count 42 = .ok (.iload_n 1, 1) := by decide +kernel
theorem dX3_count_43 : decode cX3_count 43 = .ok (.invokevirtual 163, 3) := by decide +kernel
theorem dX3_count_46 : decode cX3_count 46 = .ok (.ifCond .eq 15, 3) := by decide +kernel
theorem dX3_count_49 : decode cX3_count 49 = .ok (.aload 5, 2) := by decide +kernel
theorem dX3_count_51 : decode cX3_count 51 = .ok (.getfield 109, 3) := by decide +kernel
theorem dX3_count_54 : decode cX3_count 54 = .ok (.iload_n 2, 1) := by decide +kernel
theorem dX3_count_55 : decode cX3_count 55 = .ok (.if_icmp .ne 6, 3) := by decide +kernel
theorem dX3_count_58 : decode cX3_count 58 = .ok (.iinc 3 1, 3) := by decide +kernel
theorem dX3_count_61 : decode cX3_count 61 = .ok (.iinc 4 1, 3) := by decide +kernel
theorem dX3_count_64 : decode cX3_count 64 = .ok (.goto (-50), 3) := by decide +kernel
theorem dX3_count_67 : decode cX3_count 67 = .ok (.iload_n 3, 1) := by decide +kernel
theorem dX3_count_68 : decode cX3_count 68 = .ok (.ireturn, 1) := by decide +kernel
theorem dX3_uneven_0 : decode cX3_uneven 0 = .ok (.iload_n 1, 1) := by decide +kernel
theorem dX3_uneven_1 : decode cX3_uneven 1 = .ok (.invokestatic 87, 3) := by decide +kernel
theorem dX3_uneven_4 : decode cX3_uneven 4 = .ok (.aload_n 0, 1) := by decide +kernel
theorem dX3_uneven_5 : decode cX3_uneven 5 = .ok (.iload_n 1, 1) := by decide +kernel
theorem dX3_uneven_6 : decode cX3_uneven 6 = .ok (.invokevirtual 167, 3) := by decide +kernel
theorem dX3_uneven_9 : decode cX3_uneven 9 = .ok (.istore_n 2, 1) := by decide +kernel
theorem dX3_uneven_10 : decode cX3_uneven 10 = .ok (.lconst 0, 1) := by decide +kernel
theorem dX3_uneven_11 : decode cX3_uneven 11 = .ok (.lstore_n 3, 1) := by decide +kernel
theorem dX3_uneven_12 : decode cX3_uneven 12 = .ok (.iconst 1, 1) := by decide +kernel
theorem dX3_uneven_13 : decode cX3_uneven 13 = .ok (.istore 5, 2) := by decide +kernel
theorem dX3_uneven_15 : decode cX3_uneven 15 = .ok (.iload 5, 2) := by decide +kernel
theorem dX3_uneven_17 : decode cX3_uneven 17 = .ok (.iload_n 1, 1) := by decide +kernel
theorem dX3_uneven_18 : decode cX3_uneven 18 = .ok (.if_icmp .gt 43, 3) := by decide +kernel
theorem dX3_uneven_21 : decode cX3_uneven 21 = .ok (.iload 5, 2) := by decide +kernel
theorem dX3_uneven_23 : decode cX3_uneven 23 = .ok (.aload_n 0, 1) := by decide +kernel
theorem dX3_uneven_24 : decode cX3_uneven 24 = .ok (.getfield 23, 3) := by decide +kernel
theorem dX3_uneven_27 : decode cX3_uneven 27 = .ok (.arraylength, 1) := by decide +kernel
theorem dX3_uneven_28 : decode cX3_uneven 28 = .ok (.if_icmp .ge 33, 3) := by decide +kernel
theorem dX3_uneven_31 : decode cX3_uneven 31 = .ok (.iload_n 1, 1) := by decide +kernel
theorem dX3_uneven_32 : decode cX3_uneven 32 = .ok (.i2l, 1) := by decide +kernel
theorem dX3_uneven_33 : decode cX3_uneven 33 = .ok (.aload_n 0, 1) := by decide +kernel
theorem dX3_uneven_34 : decode cX3_uneven 34 = .ok (.getfield 23, 3) := by decide +kernel
theorem dX3_uneven_37 : decode cX3_uneven 37 = .ok (.iload 5, 2) := by decide +kernel
theorem dX3_uneven_39 : decode cX3_uneven 39 = .ok (.iaload, 1) := by decide +kernel
theorem dX3_uneven_40 : decode cX3_uneven 40 = .ok (.i2l, 1) := by decide +kernel
theorem dX3_uneven_41 : decode cX3_uneven 41 = .ok (.lmul, 1) := by decide +kernel
theorem dX3_uneven_42 : decode cX3_uneven 42 = .ok (.iload_n 2, 1) := by decide +kernel
theorem dX3_uneven_43 : decode cX3_uneven 43 = .ok (.i2l, 1) := by decide +kernel
theorem dX3_uneven_44 : decode cX3_uneven 44 = .ok (.lsub, 1) := by decide +kernel
theorem dX3_uneven_45 : decode cX3_uneven 45 = .ok (.lstore 6, 2) := by decide +kernel
theorem dX3_uneven_47 : decode cX3_uneven 47 = .ok (.lload_n 3, 1) := by decide +kernel
theorem dX3_uneven_48 : decode cX3_uneven 48 = .ok (.lload 6, 2) := by decide +kernel
theorem dX3_uneven_50 : decode cX3_uneven 50 = .ok (.lload 6, 2) := by decide +kernel
theorem dX3_uneven_52 : decode cX3_uneven 52 = .ok (.lmul, 1) := by decide +kernel
theorem dX3_uneven_53 : decode cX3_uneven 53 = .ok (.ladd, 1) := by decide +kernel
theorem dX3_uneven_54 : decode cX3_uneven 54 = .ok (.lstore_n 3, 1) := by decide +kernel
theorem dX3_uneven_55 : decode cX3_uneven 55 = .ok (.iinc 5 1, 3) := by decide +kernel
theorem dX3_uneven_58 : decode cX3_uneven 58 = .ok (.goto (-43), 3) := by decide +kernel
theorem dX3_uneven_61 : decode cX3_uneven 61 = .ok (.lload_n 3, 1) := by decide +kernel
theorem dX3_uneven_62 : decode cX3_uneven 62 = .ok (.lreturn, 1) := by decide +kernel
theorem dX3_total_0 : decode cX3_total 0 = .ok (.iload_n 1, 1) := by decide +kernel
theorem dX3_total_1 : decode cX3_total 1 = .ok (.invokestatic 82, 3) := by decide +kernel
theorem dX3_total_4 : decode cX3_total 4 = .ok (.iconst 0, 1) := by decide +kernel
theorem dX3_total_5 : decode cX3_total 5 = .ok (.istore_n 2, 1) := by decide +kernel
theorem dX3_total_6 : decode cX3_total 6 = .ok (.iconst 0, 1) := by decide +kernel
theorem dX3_total_7 : decode cX3_total 7 = .ok (.istore_n 3, 1) := by decide +kernel
theorem dX3_total_8 : decode cX3_total 8 = .ok (.iload_n 3, 1) := by decide +kernel
theorem dX3_total_9 : decode cX3_total 9 = .ok (.aload_n 0, 1) := by decide +kernel
theorem dX3_total_10 : decode cX3_total 10 = .ok (.getfield 16, 3) := by decide +kernel
theorem dX3_total_13 : decode cX3_total 13 = .ok (.invokevirtual 34, 3) := by decide +kernel
theorem dX3_total_16 : decode cX3_total 16 = .ok (.if_icmp .ge 47, 3) := by decide +kernel
theorem dX3_total_19 : decode cX3_total 19 = .ok (.aload_n 0, 1) := by decide +kernel
theorem dX3_total_20 : decode cX3_total 20 = .ok (.getfield 16, 3) := by decide +kernel
theorem dX3_total_23 : decode cX3_total 23 = .ok (.iload_n 3, 1) := by decide +kernel
theorem dX3_total_24 : decode cX3_total 24 = .ok (.invokevirtual 141, 3) := by decide +kernel
theorem dX3_total_27 : decode cX3_total 27 = .ok (.checkcast 92, 3) := by decide +kernel
theorem dX3_total_30 : decode cX3_total 30 = .ok (.astore 4, 2) := by decide +kernel
theorem dX3_total_32 : decode cX3_total 32 = .ok (.aload 4, 2) := by decide +kernel
theorem dX3_total_34 : decode cX3_total 34 = .ok (.getfield 170, 3) := by decide +kernel
theorem dX3_total_37 : decode cX3_total 37 = .ok (.iload_n 1, 1) := by decide +kernel
theorem dX3_total_38 : decode cX3_total 38 = .ok (.if_icmp .ne 19, 3) := by decide +kernel
theorem dX3_total_41 : decode cX3_total 41 = .ok (.aload 4, 2) := by decide +kernel
theorem dX3_total_43 : decode cX3_total 43 = .ok (.getfield 136, 3) := by decide +kernel
theorem dX3_total_46 : decode cX3_total 46 = .ok (.ifCond .ne 11, 3) := by decide +kernel
theorem dX3_total_49 : decode cX3_total 49 = .ok (.iload_n 2, 1) := by decide +kernel
theorem dX3_total_50 : decode cX3_total 50 = .ok (.aload 4, 2) := by decide +kernel
theorem dX3_total_52 : decode cX3_total 52 = .ok (.getfield 109, 3) := by decide +kernel
theorem dX3_total_55 : decode cX3_total 55 = .ok (.iadd, 1) := by decide +kernel
theorem dX3_total_56 : decode cX3_total 56 = .ok (.istore_n 2, 1) := by decide +kernel
theorem dX3_total_57 : decode cX3_total 57 = .ok (.iinc 3 1, 3) := by decide +kernel
theorem dX3_total_60 : decode cX3_total 60 = .ok (.goto (-52), 3) := by decide +kernel
theorem dX3_total_63 : decode cX3_total 63 = .ok (.iload_n 2, 1) := by decide +kernel
theorem dX3_total_64 : decode cX3_total 64 = .ok (.ireturn, 1) := by decide +kernel
theorem dX3_promiseAt_0 : decode cX3_promiseAt 0 = .ok (.iload_n 1, 1) := by decide +kernel
theorem dX3_promiseAt_1 : decode cX3_promiseAt 1 = .ok (.ifCond .lt 14, 3) := by decide +kernel
theorem dX3_promiseAt_4 : decode cX3_promiseAt 4 = .ok (.iload_n 1, 1) := by decide +kernel
theorem dX3_promiseAt_5 : decode cX3_promiseAt 5 = .ok (.aload_n 0, 1) := by decide +kernel
theorem dX3_promiseAt_6 : decode cX3_promiseAt 6 = .ok (.getfield 10, 3) := by decide +kernel
theorem dX3_promiseAt_9 : decode cX3_promiseAt 9 = .ok (.invokevirtual 34, 3) := by decide +kernel
theorem dX3_promiseAt_12 : decode cX3_promiseAt 12 = .ok (.if_icmp .lt 13, 3) := by decide +kernel
theorem dX3_promiseAt_15 : decode cX3_promiseAt 15 = .ok (.new 173, 3) := by decide +kernel
theorem dX3_promiseAt_18 : decode cX3_promiseAt 18 = .ok (.dup, 1) := by decide +kernel
theorem dX3_promiseAt_19 : decode cX3_promiseAt 19 = .ok (.ldc 175, 2) := by decide +kernel
theorem dX3_promiseAt_21 : decode cX3_promiseAt 21 = .ok (.invokespecial 177, 3) := by decide +kernel
theorem dX3_promiseAt_24 : decode cX3_promiseAt 24 = .ok (.athrow, 1) := by decide +kernel
theorem dX3_promiseAt_25 : decode cX3_promiseAt 25 = .ok (.aload_n 0, 1) := by decide +kernel
theorem dX3_promiseAt_26 : decode cX3_promiseAt 26 = .ok (.getfield 10, 3) := by decide +kernel
theorem dX3_promiseAt_29 : decode cX3_promiseAt 29 = .ok (.iload_n 1, 1) := by decide +kernel
theorem dX3_promiseAt_30 : decode cX3_promiseAt 30 = .ok (.invokevirtual 141, 3) := by decide +kernel
theorem dX3_promiseAt_33 : decode cX3_promiseAt 33 = .ok (.checkcast 43, 3) := by decide +kernel
theorem dX3_promiseAt_36 : decode cX3_promiseAt 36 = .ok (.areturn, 1) := by decide +kernel
theorem dX3_openedAt_0 : decode cX3_openedAt 0 = .ok (.aload_n 0, 1) := by decide +kernel
theorem dX3_openedAt_1 : decode cX3_openedAt 1 = .ok (.iload_n 1, 1) := by decide +kernel
theorem dX3_openedAt_2 : decode cX3_openedAt 2 = .ok (.invokevirtual 52, 3) := by decide +kernel
theorem dX3_openedAt_5 : decode cX3_openedAt 5 = .ok (.astore_n 2, 1) := by decide +kernel
theorem dX3_openedAt_6 : decode cX3_openedAt 6 = .ok (.aload_n 2, 1) := by decide +kernel
theorem dX3_openedAt_7 : decode cX3_openedAt 7 = .ok (.getfield 76, 3) := by decide +kernel
theorem dX3_openedAt_10 : decode cX3_openedAt 10 = .ok (.ifCond .ne 13, 3) := by decide +kernel
theorem dX3_openedAt_13 : decode cX3_openedAt 13 = .ok (.new 38, 3) := by decide +kernel
theorem dX3_openedAt_16 : decode cX3_openedAt 16 = .ok (.dup, 1) := by decide +kernel
theorem dX3_openedAt_17 : decode cX3_openedAt 17 = .ok (.ldc 178, 2) := by decide +kernel
theorem dX3_openedAt_19 : decode cX3_openedAt 19 = .ok (.invokespecial 42, 3) := by decide +kernel
theorem dX3_openedAt_22 : decode cX3_openedAt 22 = .ok (.athrow, 1) := by decide +kernel
theorem dX3_openedAt_23 : decode cX3_openedAt 23 = .ok (.aload_n 2, 1) := by decide +kernel
theorem dX3_openedAt_24 : decode cX3_openedAt 24 = .ok (.areturn, 1) := by decide +kernel
theorem dX3_entryAt_0 : decode cX3_entryAt 0 = .ok (.iload_n 1, 1) := by decide +kernel
theorem dX3_entryAt_1 : decode cX3_entryAt 1 = .ok (.ifCond .lt 14, 3) := by decide +kernel
theorem dX3_entryAt_4 : decode cX3_entryAt 4 = .ok (.iload_n 1, 1) := by decide +kernel
theorem dX3_entryAt_5 : decode cX3_entryAt 5 = .ok (.aload_n 0, 1) := by decide +kernel
theorem dX3_entryAt_6 : decode cX3_entryAt 6 = .ok (.getfield 16, 3) := by decide +kernel
theorem dX3_entryAt_9 : decode cX3_entryAt 9 = .ok (.invokevirtual 34, 3) := by decide +kernel
theorem dX3_entryAt_12 : decode cX3_entryAt 12 = .ok (.if_icmp .lt 13, 3) := by decide +kernel
theorem dX3_entryAt_15 : decode cX3_entryAt 15 = .ok (.new 173, 3) := by decide +kernel
theorem dX3_entryAt_18 : decode cX3_entryAt 18 = .ok (.dup, 1) := by decide +kernel
theorem dX3_entryAt_19 : decode cX3_entryAt 19 = .ok (.ldc 180, 2) := by decide +kernel
theorem dX3_entryAt_21 : decode cX3_entryAt 21 = .ok (.invokespecial 177, 3) := by decide +kernel
theorem dX3_entryAt_24 : decode cX3_entryAt 24 = .ok (.athrow, 1) := by decide +kernel
theorem dX3_entryAt_25 : decode cX3_entryAt 25 = .ok (.aload_n 0, 1) := by decide +kernel
theorem dX3_entryAt_26 : decode cX3_entryAt 26 = .ok (.getfield 16, 3) := by decide +kernel
theorem dX3_entryAt_29 : decode cX3_entryAt 29 = .ok (.iload_n 1, 1) := by decide +kernel
theorem dX3_entryAt_30 : decode cX3_entryAt 30 = .ok (.invokevirtual 141, 3) := by decide +kernel
theorem dX3_entryAt_33 : decode cX3_entryAt 33 = .ok (.checkcast 92, 3) := by decide +kernel
theorem dX3_entryAt_36 : decode cX3_entryAt 36 = .ok (.areturn, 1) := by decide +kernel
theorem dX3_requireTable_0 : decode cX3_requireTable 0 = .ok (.iload_n 0, 1) := by decide +kernel
theorem dX3_requireTable_1 : decode cX3_requireTable 1 = .ok (.ifCond .lt 8, 3) := by decide +kernel
theorem dX3_requireTable_4 : decode cX3_requireTable 4 = .ok (.iload_n 0, 1) := by decide +kernel
theorem dX3_requireTable_5 : decode cX3_requireTable 5 = .ok (.iconst 4, 1) := by decide +kernel
theorem dX3_requireTable_6 : decode cX3_requireTable 6 = .ok (.if_icmp .lt 13, 3) := by decide +kernel
theorem dX3_requireTable_9 : decode cX3_requireTable 9 = .ok (.new 173, 3) := by decide +kernel
theorem dX3_requireTable_12 : decode cX3_requireTable 12 = .ok (.dup, 1) := by decide +kernel
theorem dX3_requireTable_13 : decode cX3_requireTable 13 = .ok (.ldc 182, 2) := by decide +kernel
theorem dX3_requireTable_15 : decode cX3_requireTable 15 = .ok (.invokespecial 177, 3) := by decide +kernel
theorem dX3_requireTable_18 : decode cX3_requireTable 18 = .ok (.athrow, 1) := by decide +kernel
theorem dX3_requireTable_19 : decode cX3_requireTable 19 = .ok (.return_, 1) := by decide +kernel
theorem dX3_requireFaces_0 : decode cX3_requireFaces 0 = .ok (.iload_n 0, 1) := by decide +kernel
theorem dX3_requireFaces_1 : decode cX3_requireFaces 1 = .ok (.iconst 2, 1) := by decide +kernel
theorem dX3_requireFaces_2 : decode cX3_requireFaces 2 = .ok (.if_icmp .lt 10, 3) := by decide +kernel
theorem dX3_requireFaces_5 : decode cX3_requireFaces 5 = .ok (.iload_n 0, 1) := by decide +kernel
theorem dX3_requireFaces_6 : decode cX3_requireFaces 6 = .ok (.sipush 1000, 3) := by decide +kernel
theorem dX3_requireFaces_9 : decode cX3_requireFaces 9 = .ok (.if_icmp .le 13, 3) := by decide +kernel
theorem dX3_requireFaces_12 : decode cX3_requireFaces 12 = .ok (.new 27, 3) := by decide +kernel
theorem dX3_requireFaces_15 : decode cX3_requireFaces 15 = .ok (.dup, 1) := by decide +kernel
theorem dX3_requireFaces_16 : decode cX3_requireFaces 16 = .ok (.ldc 184, 2) := by decide +kernel
theorem dX3_requireFaces_18 : decode cX3_requireFaces 18 = .ok (.invokespecial 31, 3) := by decide +kernel
theorem dX3_requireFaces_21 : decode cX3_requireFaces 21 = .ok (.athrow, 1) := by decide +kernel
theorem dX3_requireFaces_22 : decode cX3_requireFaces 22 = .ok (.return_, 1) := by decide +kernel
theorem dX3_requireValue_0 : decode cX3_requireValue 0 = .ok (.iload_n 0, 1) := by decide +kernel
theorem dX3_requireValue_1 : decode cX3_requireValue 1 = .ok (.iconst 1, 1) := by decide +kernel
theorem dX3_requireValue_2 : decode cX3_requireValue 2 = .ok (.if_icmp .lt 8, 3) := by decide +kernel
theorem dX3_requireValue_5 : decode cX3_requireValue 5 = .ok (.iload_n 0, 1) := by decide +kernel
theorem dX3_requireValue_6 : decode cX3_requireValue 6 = .ok (.iload_n 1, 1) := by decide +kernel
theorem dX3_requireValue_7 : decode cX3_requireValue 7 = .ok (.if_icmp .le 13, 3) := by decide +kernel
theorem dX3_requireValue_10 : decode cX3_requireValue 10 = .ok (.new 27, 3) := by decide +kernel
theorem dX3_requireValue_13 : decode cX3_requireValue 13 = .ok (.dup, 1) := by decide +kernel
theorem dX3_requireValue_14 : decode cX3_requireValue 14 = .ok (.ldc 186, 2) := by decide +kernel
theorem dX3_requireValue_16 : decode cX3_requireValue 16 = .ok (.invokespecial 31, 3) := by decide +kernel
theorem dX3_requireValue_19 : decode cX3_requireValue 19 = .ok (.athrow, 1) := by decide +kernel
theorem dX3_requireValue_20 : decode cX3_requireValue 20 = .ok (.return_, 1) := by decide +kernel
theorem dX3_seedsWithRemainder_0 : decode cX3_seedsWithRemainder 0 = .ok (.ldc 188, 2) := by decide +kernel
