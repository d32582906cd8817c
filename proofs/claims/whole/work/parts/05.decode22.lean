theorem dX4_alter_2 : decode cX4_alter 2 = .ok (.putfield 50, 3) := by decide +kernel
theorem dX4_alter_5 : decode cX4_alter 5 = .ok (.aload_n 0, 1) := by decide +kernel
theorem dX4_alter_6 : decode cX4_alter 6 = .ok (.iload_n 1, 1) := by decide +kernel
theorem dX4_alter_7 : decode cX4_alter 7 = .ok (.invokevirtual 103, 3) := by decide +kernel
theorem dX4_alter_10 : decode cX4_alter 10 = .ok (.ifCond .ne 9, 3) := by decide +kernel
theorem dX4_alter_13 : decode cX4_alter 13 = .ok (.aload_n 0, 1) := by decide +kernel
theorem dX4_alter_14 : decode cX4_alter 14 = .ok (.iconst 1, 1) := by decide +kernel
theorem dX4_alter_15 : decode cX4_alter 15 = .ok (.invokevirtual 71, 3) := by decide +kernel
theorem dX4_alter_18 : decode cX4_alter 18 = .ok (.ireturn, 1) := by decide +kernel
theorem dX4_alter_19 : decode cX4_alter 19 = .ok (.iload_n 2, 1) := by decide +kernel
theorem dX4_alter_20 : decode cX4_alter 20 = .ok (.iconst 1, 1) := by decide +kernel
theorem dX4_alter_21 : decode cX4_alter 21 = .ok (.aload_n 0, 1) := by decide +kernel
theorem dX4_alter_22 : decode cX4_alter 22 = .ok (.getfield 35, 3) := by decide +kernel
theorem dX4_alter_25 : decode cX4_alter 25 = .ok (.iload_n 1, 1) := by decide +kernel
theorem dX4_alter_26 : decode cX4_alter 26 = .ok (.iaload, 1) := by decide +kernel
theorem dX4_alter_27 : decode cX4_alter 27 = .ok (.invokestatic 57, 3) := by decide +kernel
theorem dX4_alter_30 : decode cX4_alter 30 = .ok (.ifCond .ne 9, 3) := by decide +kernel
theorem dX4_alter_33 : decode cX4_alter 33 = .ok (.aload_n 0, 1) := by decide +kernel
theorem dX4_alter_34 : decode cX4_alter 34 = .ok (.iconst 2, 1) := by decide +kernel
theorem dX4_alter_35 : decode cX4_alter 35 = .ok (.invokevirtual 71, 3) := by decide +kernel
theorem dX4_alter_38 : decode cX4_alter 38 = .ok (.ireturn, 1) := by decide +kernel
theorem dX4_alter_39 : decode cX4_alter 39 = .ok (.aload_n 0, 1) := by decide +kernel
theorem dX4_alter_40 : decode cX4_alter 40 = .ok (.getfield 47, 3) := by decide +kernel
theorem dX4_alter_43 : decode cX4_alter 43 = .ok (.iload_n 1, 1) := by decide +kernel
theorem dX4_alter_44 : decode cX4_alter 44 = .ok (.baload, 1) := by decide +kernel
theorem dX4_alter_45 : decode cX4_alter 45 = .ok (.ifCond .eq 9, 3) := by decide +kernel
theorem dX4_alter_48 : decode cX4_alter 48 = .ok (.aload_n 0, 1) := by decide +kernel
theorem dX4_alter_49 : decode cX4_alter 49 = .ok (.iconst 3, 1) := by decide +kernel
theorem dX4_alter_50 : decode cX4_alter 50 = .ok (.invokevirtual 71, 3) := by decide +kernel
theorem dX4_alter_53 : decode cX4_alter 53 = .ok (.ireturn, 1) := by decide +kernel
theorem dX4_alter_54 : decode cX4_alter 54 = .ok (.aload_n 0, 1) := by decide +kernel
theorem dX4_alter_55 : decode cX4_alter 55 = .ok (.getfield 38, 3) := by decide +kernel
theorem dX4_alter_58 : decode cX4_alter 58 = .ok (.iload_n 1, 1) := by decide +kernel
theorem dX4_alter_59 : decode cX4_alter 59 = .ok (.iaload, 1) := by decide +kernel
theorem dX4_alter_60 : decode cX4_alter 60 = .ok (.istore_n 3, 1) := by decide +kernel
theorem dX4_alter_61 : decode cX4_alter 61 = .ok (.aload_n 0, 1) := by decide +kernel
theorem dX4_alter_62 : decode cX4_alter 62 = .ok (.getfield 38, 3) := by decide +kernel
theorem dX4_alter_65 : decode cX4_alter 65 = .ok (.iload_n 1, 1) := by decide +kernel
theorem dX4_alter_66 : decode cX4_alter 66 = .ok (.iload_n 2, 1) := by decide +kernel
theorem dX4_alter_67 : decode cX4_alter 67 = .ok (.iastore, 1) := by decide +kernel
theorem dX4_alter_68 : decode cX4_alter 68 = .ok (.iload_n 3, 1) := by decide +kernel
theorem dX4_alter_69 : decode cX4_alter 69 = .ok (.ireturn, 1) := by decide +kernel
theorem dX4_broken_0 : decode cX4_broken 0 = .ok (.aload_n 0, 1) := by decide +kernel
theorem dX4_broken_1 : decode cX4_broken 1 = .ok (.iconst 0, 1) := by decide +kernel
theorem dX4_broken_2 : decode cX4_broken 2 = .ok (.putfield 50, 3) := by decide +kernel
theorem dX4_broken_5 : decode cX4_broken 5 = .ok (.iconst (-1), 1) := by decide +kernel
theorem dX4_broken_6 : decode cX4_broken 6 = .ok (.istore_n 1, 1) := by decide +kernel
theorem dX4_broken_7 : decode cX4_broken 7 = .ok (.aload_n 0, 1) := by decide +kernel
theorem dX4_broken_8 : decode cX4_broken 8 = .ok (.getfield 61, 3) := by decide +kernel
theorem dX4_broken_11 : decode cX4_broken 11 = .ok (.iconst 1, 1) := by decide +kernel
theorem dX4_broken_12 : decode cX4_broken 12 = .ok (.isub, 1) := by decide +kernel
theorem dX4_broken_13 : decode cX4_broken 13 = .ok (.istore_n 2, 1) := by decide +kernel
theorem dX4_broken_14 : decode cX4_broken 14 = .ok (.iload_n 2, 1) := by decide +kernel
theorem dX4_broken_15 : decode cX4_broken 15 = .ok (.ifCond .lt 29, 3) := by decide +kernel
theorem dX4_broken_18 : decode cX4_broken 18 = .ok (.aload_n 0, 1) := by decide +kernel
theorem dX4_broken_19 : decode cX4_broken 19 = .ok (.getfield 44, 3) := by decide +kernel
theorem dX4_broken_22 : decode cX4_broken 22 = .ok (.iload_n 2, 1) := by decide +kernel
theorem dX4_broken_23 : decode cX4_broken 23 = .ok (.iaload, 1) := by decide +kernel
theorem dX4_broken_24 : decode cX4_broken 24 = .ok (.aload_n 0, 1) := by decide +kernel
theorem dX4_broken_25 : decode cX4_broken 25 = .ok (.iload_n 2, 1) := by decide +kernel
theorem dX4_broken_26 : decode cX4_broken 26 = .ok (.invokevirtual 100, 3) := by decide +kernel
theorem dX4_broken_29 : decode cX4_broken 29 = .ok (.if_icmp .eq 7, 3) := by decide +kernel
theorem dX4_broken_32 : decode cX4_broken 32 = .ok (.iload_n 2, 1) := by decide +kernel
theorem dX4_broken_33 : decode cX4_broken 33 = .ok (.goto 4, 3) := by decide +kernel
theorem dX4_broken_36 : decode cX4_broken 36 = .ok (.iload_n 1, 1) := by decide +kernel
theorem dX4_broken_37 : decode cX4_broken 37 = .ok (.istore_n 1, 1) := by decide +kernel
theorem dX4_broken_38 : decode cX4_broken 38 = .ok (.iinc 2 (-1), 3) := by decide +kernel
theorem dX4_broken_41 : decode cX4_broken 41 = .ok (.goto (-27), 3) := by decide +kernel
theorem dX4_broken_44 : decode cX4_broken 44 = .ok (.iload_n 1, 1) := by decide +kernel
theorem dX4_broken_45 : decode cX4_broken 45 = .ok (.ireturn, 1) := by decide +kernel
theorem dX4_again_0 : decode cX4_again 0 = .ok (.aload_n 0, 1) := by decide +kernel
theorem dX4_again_1 : decode cX4_again 1 = .ok (.getfield 7, 3) := by decide +kernel
theorem dX4_again_4 : decode cX4_again 4 = .ok (.aload_n 0, 1) := by decide +kernel
theorem dX4_again_5 : decode cX4_again 5 = .ok (.getfield 26, 3) := by decide +kernel
theorem dX4_again_8 : decode cX4_again 8 = .ok (.iload_n 1, 1) := by decide +kernel
theorem dX4_again_9 : decode cX4_again 9 = .ok (.iaload, 1) := by decide +kernel
theorem dX4_again_10 : decode cX4_again 10 = .ok (.iaload, 1) := by decide +kernel
theorem dX4_again_11 : decode cX4_again 11 = .ok (.istore_n 2, 1) := by decide +kernel
theorem dX4_again_12 : decode cX4_again 12 = .ok (.iconst 0, 1) := by decide +kernel
theorem dX4_again_13 : decode cX4_again 13 = .ok (.istore_n 3, 1) := by decide +kernel
theorem dX4_again_14 : decode cX4_again 14 = .ok (.iconst 0, 1) := by decide +kernel
theorem dX4_again_15 : decode cX4_again 15 = .ok (.istore 4, 2) := by decide +kernel
theorem dX4_again_17 : decode cX4_again 17 = .ok (.iload 4, 2) := by decide +kernel
theorem dX4_again_19 : decode cX4_again 19 = .ok (.iload_n 1, 1) := by decide +kernel
theorem dX4_again_20 : decode cX4_again 20 = .ok (.if_icmp .gt 50, 3) := by decide +kernel
theorem dX4_again_23 : decode cX4_again 23 = .ok (.aload_n 0, 1) := by decide +kernel
theorem dX4_again_24 : decode cX4_again 24 = .ok (.getfield 26, 3) := by decide +kernel
theorem dX4_again_27 : decode cX4_again 27 = .ok (.iload 4, 2) := by decide +kernel
theorem dX4_again_29 : decode cX4_again 29 = .ok (.iaload, 1) := by decide +kernel
theorem dX4_again_30 : decode cX4_again 30 = .ok (.aload_n 0, 1) := by decide +kernel
theorem dX4_again_31 : decode cX4_again 31 = .ok (.getfield 26, 3) := by decide +kernel
theorem dX4_again_34 : decode cX4_again 34 = .ok (.iload_n 1, 1) := by decide +kernel
theorem dX4_again_35 : decode cX4_again 35 = .ok (.iaload, 1) := by decide +kernel
theorem dX4_again_36 : decode cX4_again 36 = .ok (.if_icmp .ne 28, 3) := by decide +kernel
theorem dX4_again_39 : decode cX4_again 39 = .ok (.aload_n 0, 1) := by decide +kernel
theorem dX4_again_40 : decode cX4_again 40 = .ok (.iload_n 2, 1) := by decide +kernel
theorem dX4_again_41 : decode cX4_again 41 = .ok (.aload_n 0, 1) := by decide +kernel
theorem dX4_again_42 : decode cX4_again 42 = .ok (.getfield 32, 3) := by decide +kernel
theorem dX4_again_45 : decode cX4_again 45 = .ok (.iload 4, 2) := by decide +kernel
theorem dX4_again_47 : decode cX4_again 47 = .ok (.iaload, 1) := by decide +kernel
theorem dX4_again_48 : decode cX4_again 48 = .ok (.aload_n 0, 1) := by decide +kernel
theorem dX4_again_49 : decode cX4_again 49 = .ok (.getfield 35, 3) := by decide +kernel
theorem dX4_again_52 : decode cX4_again 52 = .ok (.iload 4, 2) := by decide +kernel
theorem dX4_again_54 : decode cX4_again 54 = .ok (.iaload, 1) := by decide +kernel
theorem dX4_again_55 : decode cX4_again 55 = .ok (.invokevirtual 96, 3) := by decide +kernel
theorem dX4_again_58 : decode cX4_again 58 = .ok (.istore_n 3, 1) := by decide +kernel
theorem dX4_again_59 : decode cX4_again 59 = .ok (.aload_n 0, 1) := by decide +kernel
theorem dX4_again_60 : decode cX4_again 60 = .ok (.getfield 86, 3) := by decide +kernel
theorem dX4_again_63 : decode cX4_again 63 = .ok (.istore_n 2, 1) := by decide +kernel
theorem dX4_again_64 : decode cX4_again 64 = .ok (.iinc 4 1, 3) := by decide +kernel
theorem dX4_again_67 : decode cX4_again 67 = .ok (.goto (-50), 3) := by decide +kernel
theorem dX4_again_70 : decode cX4_again 70 = .ok (.iload_n 3, 1) := by decide +kernel
theorem dX4_again_71 : decode cX4_again 71 = .ok (.ireturn, 1) := by decide +kernel
theorem dX4_firstWrong_0 : decode cX4_firstWrong 0 = .ok (.iconst (-1), 1) := by decide +kernel
theorem dX4_firstWrong_1 : decode cX4_firstWrong 1 = .ok (.istore_n 2, 1) := by decide +kernel
theorem dX4_firstWrong_2 : decode cX4_firstWrong 2 = .ok (.aload_n 0, 1) := by decide +kernel
theorem dX4_firstWrong_3 : decode cX4_firstWrong 3 = .ok (.getfield 61, 3) := by decide +kernel
theorem dX4_firstWrong_6 : decode cX4_firstWrong 6 = .ok (.iconst 1, 1) := by decide +kernel
theorem dX4_firstWrong_7 : decode cX4_firstWrong 7 = .ok (.isub, 1) := by decide +kernel
theorem dX4_firstWrong_8 : decode cX4_firstWrong 8 = .ok (.istore_n 3, 1) := by decide +kernel
theorem dX4_firstWrong_9 : decode cX4_firstWrong 9 = .ok (.iload_n 3, 1) := by decide +kernel
theorem dX4_firstWrong_10 : decode cX4_firstWrong 10 = .ok (.ifCond .lt 39, 3) := by decide +kernel
theorem dX4_firstWrong_13 : decode cX4_firstWrong 13 = .ok (.aload_n 0, 1) := by decide +kernel
theorem dX4_firstWrong_14 : decode cX4_firstWrong 14 = .ok (.getfield 26, 3) := by decide +kernel
theorem dX4_firstWrong_17 : decode cX4_firstWrong 17 = .ok (.iload_n 3, 1) := by decide +kernel
theorem dX4_firstWrong_18 : decode cX4_firstWrong 18 = .ok (.iaload, 1) := by decide +kernel
theorem dX4_firstWrong_19 : decode cX4_firstWrong 19 = .ok (.iload_n 1, 1) := by decide +kernel
theorem dX4_firstWrong_20 : decode cX4_firstWrong 20 = .ok (.if_icmp .ne 21, 3) := by decide +kernel
theorem dX4_firstWrong_23 : decode cX4_firstWrong 23 = .ok (.aload_n 0, 1) := by decide +kernel
theorem dX4_firstWrong_24 : decode cX4_firstWrong 24 = .ok (.iload_n 3, 1) := by decide +kernel
theorem dX4_firstWrong_25 : decode cX4_firstWrong 25 = .ok (.invokevirtual 106, 3) := by decide +kernel
theorem dX4_firstWrong_28 : decode cX4_firstWrong 28 = .ok (.aload_n 0, 1) := by decide +kernel
theorem dX4_firstWrong_29 : decode cX4_firstWrong 29 = .ok (.getfield 38, 3) := by decide +kernel
theorem dX4_firstWrong_32 : decode cX4_firstWrong 32 = .ok (.iload_n 3, 1) := by decide +kernel
theorem dX4_firstWrong_33 : decode cX4_firstWrong 33 = .ok (.iaload, 1) := by decide +kernel
theorem dX4_firstWrong_34 : decode cX4_firstWrong 34 = .ok (.if_icmp .eq 7, 3) := by decide +kernel
theorem dX4_firstWrong_37 : decode cX4_firstWrong 37 = .ok (.iload_n 3, 1) := by decide +kernel
theorem dX4_firstWrong_38 : decode cX4_firstWrong 38 = .ok (.goto 4, 3) := by decide +kernel
theorem dX4_firstWrong_41 : decode cX4_firstWrong 41 = .ok (.iload_n 2, 1) := by decide +kernel
theorem dX4_firstWrong_42 : decode cX4_firstWrong 42 = .ok (.istore_n 2, 1) := by decide +kernel
theorem dX4_firstWrong_43 : decode cX4_firstWrong 43 = .ok (.iinc 3 (-1), 3) := by decide +kernel
theorem dX4_firstWrong_46 : decode cX4_firstWrong 46 = .ok (.goto (-37), 3) := by decide +kernel
theorem dX4_firstWrong_49 : decode cX4_firstWrong 49 = .ok (.iload_n 2, 1) := by decide +kernel
theorem dX4_firstWrong_50 : decode cX4_firstWrong 50 = .ok (.ireturn, 1) := by decide +kernel
theorem dX4_found_0 : decode cX4_found 0 = .ok (.aload_n 0, 1) := by decide +kernel
theorem dX4_found_1 : decode cX4_found 1 = .ok (.iconst 0, 1) := by decide +kernel
theorem dX4_found_2 : decode cX4_found 2 = .ok (.putfield 50, 3) := by decide +kernel
theorem dX4_found_5 : decode cX4_found 5 = .ok (.aload_n 0, 1) := by decide +kernel
theorem dX4_found_6 : decode cX4_found 6 = .ok (.iload_n 1, 1) := by decide +kernel
theorem dX4_found_7 : decode cX4_found 7 = .ok (.invokevirtual 103, 3) := by decide +kernel
theorem dX4_found_10 : decode cX4_found 10 = .ok (.ifCond .ne 9, 3) := by decide +kernel
theorem dX4_found_13 : decode cX4_found 13 = .ok (.aload_n 0, 1) := by decide +kernel
theorem dX4_found_14 : decode cX4_found 14 = .ok (.iconst 1, 1) := by decide +kernel
theorem dX4_found_15 : decode cX4_found 15 = .ok (.invokevirtual 71, 3) := by decide +kernel
theorem dX4_found_18 : decode cX4_found 18 = .ok (.ireturn, 1) := by decide +kernel
theorem dX4_found_19 : decode cX4_found 19 = .ok (.aload_n 0, 1) := by decide +kernel
theorem dX4_found_20 : decode cX4_found 20 = .ok (.getfield 16, 3) := by decide +kernel
theorem dX4_found_23 : decode cX4_found 23 = .ok (.aload_n 0, 1) := by decide +kernel
theorem dX4_found_24 : decode cX4_found 24 = .ok (.getfield 26, 3) := by decide +kernel
theorem dX4_found_27 : decode cX4_found 27 = .ok (.iload_n 1, 1) := by decide +kernel
theorem dX4_found_28 : decode cX4_found 28 = .ok (.iaload, 1) := by decide +kernel
theorem dX4_found_29 : decode cX4_found 29 = .ok (.baload, 1) := by decide +kernel
theorem dX4_found_30 : decode cX4_found 30 = .ok (.ifCond .eq 11, 3) := by decide +kernel
theorem dX4_found_33 : decode cX4_found 33 = .ok (.aload_n 0, 1) := by decide +kernel
theorem dX4_found_34 : decode cX4_found 34 = .ok (.iload_n 1, 1) := by decide +kernel
theorem dX4_found_35 : decode cX4_found 35 = .ok (.invokevirtual 106, 3) := by decide +kernel
theorem dX4_found_38 : decode cX4_found 38 = .ok (.goto 8, 3) := by decide +kernel
theorem dX4_found_41 : decode cX4_found 41 = .ok (.aload_n 0, 1) := by decide +kernel
theorem dX4_found_42 : decode cX4_found 42 = .ok (.iconst 2, 1) := by decide +kernel
theorem dX4_found_43 : decode cX4_found 43 = .ok (.invokevirtual 71, 3) := by decide +kernel
theorem dX4_found_46 : decode cX4_found 46 = .ok (.ireturn, 1) := by decide +kernel
theorem dX4_wrong_0 : decode cX4_wrong 0 = .ok (.aload_n 0, 1) := by decide +kernel
theorem dX4_wrong_1 : decode cX4_wrong 1 = .ok (.iconst 0, 1) := by decide +kernel
theorem dX4_wrong_2 : decode cX4_wrong 2 = .ok (.putfield 50, 3) := by decide +kernel
theorem dX4_wrong_5 : decode cX4_wrong 5 = .ok (.aload_n 0, 1) := by decide +kernel
theorem dX4_wrong_6 : decode cX4_wrong 6 = .ok (.iload_n 1, 1) := by decide +kernel
theorem dX4_wrong_7 : decode cX4_wrong 7 = .ok (.invokevirtual 75, 3) := by decide +kernel
theorem dX4_wrong_10 : decode cX4_wrong 10 = .ok (.ifCond .ne 9, 3) := by decide +kernel
theorem dX4_wrong_13 : decode cX4_wrong 13 = .ok (.aload_n 0, 1) := by decide +kernel
theorem dX4_wrong_14 : decode cX4_wrong 14 = .ok (.iconst 1, 1) := by decide +kernel
theorem dX4_wrong_15 : decode cX4_wrong 15 = .ok (.invokevirtual 71, 3) := by decide +kernel
theorem dX4_wrong_18 : decode cX4_wrong 18 = .ok (.ireturn, 1) := by decide +kernel
theorem dX4_wrong_19 : decode cX4_wrong 19 = .ok (.aload_n 0, 1) := by decide +kernel
theorem dX4_wrong_20 : decode cX4_wrong 20 = .ok (.getfield 16, 3) := by decide +kernel
theorem dX4_wrong_23 : decode cX4_wrong 23 = .ok (.iload_n 1, 1) := by decide +kernel
theorem dX4_wrong_24 : decode cX4_wrong 24 = .ok (.baload, 1) := by decide +kernel
theorem dX4_wrong_25 : decode cX4_wrong 25 = .ok (.ifCond .eq 11, 3) := by decide +kernel
theorem dX4_wrong_28 : decode cX4_wrong 28 = .ok (.aload_n 0, 1) := by decide +kernel
theorem dX4_wrong_29 : decode cX4_wrong 29 = .ok (.iload_n 1, 1) := by decide +kernel
theorem dX4_wrong_30 : decode cX4_wrong 30 = .ok (.invokevirtual 109, 3) := by decide +kernel
theorem dX4_wrong_33 : decode cX4_wrong 33 = .ok (.goto 8, 3) := by decide +kernel
theorem dX4_wrong_36 : decode cX4_wrong 36 = .ok (.aload_n 0, 1) := by decide +kernel
theorem dX4_wrong_37 : decode cX4_wrong 37 = .ok (.iconst 2, 1) := by decide +kernel
theorem dX4_wrong_38 : decode cX4_wrong 38 = .ok (.invokevirtual 71, 3) := by decide +kernel
theorem dX4_wrong_41 : decode cX4_wrong 41 = .ok (.ireturn, 1) := by decide +kernel
theorem dX4_dispute_0 : decode cX4_dispute 0 = .ok (.aload_n 0, 1) := by decide +kernel
theorem dX4_dispute_1 : decode cX4_dispute 1 = .ok (.iconst 0, 1) := by decide +kernel
theorem dX4_dispute_2 : decode cX4_dispute 2 = .ok (.putfield 50, 3) := by decide +kernel
theorem dX4_dispute_5 : decode cX4_dispute 5 = .ok (.aload_n 0, 1) := by decide +kernel
theorem dX4_dispute_6 : decode cX4_dispute 6 = .ok (.iload_n 1, 1) := by decide +kernel
theorem dX4_dispute_7 : decode cX4_dispute 7 = .ok (.invokevirtual 75, 3) := by decide +kernel
theorem dX4_dispute_10 : decode cX4_dispute 10 = .ok (.ifCond .ne 9, 3) := by decide +kernel
theorem dX4_dispute_13 : decode cX4_dispute 13 = .ok (.aload_n 0, 1) := by decide +kernel
theorem dX4_dispute_14 : decode cX4_dispute 14 = .ok (.iconst 1, 1) := by decide +kernel
theorem dX4_dispute_15 : decode cX4_dispute 15 = .ok (.invokevirtual 71, 3) := by decide +kernel
theorem dX4_dispute_18 : decode cX4_dispute 18 = .ok (.ireturn, 1) := by decide +kernel
theorem dX4_dispute_19 : decode cX4_dispute 19 = .ok (.aload_n 0, 1) := by decide +kernel
theorem dX4_dispute_20 : decode cX4_dispute 20 = .ok (.getfield 16, 3) := by decide +kernel
theorem dX4_dispute_23 : decode cX4_dispute 23 = .ok (.iload_n 1, 1) := by decide +kernel
theorem dX4_dispute_24 : decode cX4_dispute 24 = .ok (.baload, 1) := by decide +kernel
theorem dX4_dispute_25 : decode cX4_dispute 25 = .ok (.ifCond .eq 12, 3) := by decide +kernel
theorem dX4_dispute_28 : decode cX4_dispute 28 = .ok (.aload_n 0, 1) := by decide +kernel
theorem dX4_dispute_29 : decode cX4_dispute 29 = .ok (.getfield 20, 3) := by decide +kernel
theorem dX4_dispute_32 : decode cX4_dispute 32 = .ok (.iload_n 1, 1) := by decide +kernel
theorem dX4_dispute_33 : decode cX4_dispute 33 = .ok (.baload, 1) := by decide +kernel
theorem dX4_dispute_34 : decode cX4_dispute 34 = .ok (.ifCond .eq 9, 3) := by decide +kernel
theorem dX4_dispute_37 : decode cX4_dispute 37 = .ok (.aload_n 0, 1) := by decide +kernel
theorem dX4_dispute_38 : decode cX4_dispute 38 = .ok (.iconst 2, 1) := by decide +kernel
theorem dX4_dispute_39 : decode cX4_dispute 39 = .ok (.invokevirtual 71, 3) := by decide +kernel
theorem dX4_dispute_42 : decode cX4_dispute 42 = .ok (.ireturn, 1) := by decide +kernel
theorem dX4_dispute_43 : decode cX4_dispute 43 = .ok (.aload_n 0, 1) := by decide +kernel
theorem dX4_dispute_44 : decode cX4_dispute 44 = .ok (.getfield 20, 3) := by decide +kernel
theorem dX4_dispute_47 : decode cX4_dispute 47 = .ok (.iload_n 1, 1) := by decide +kernel
theorem dX4_dispute_48 : decode cX4_dispute 48 = .ok (.iconst 1, 1) := by decide +kernel
theorem dX4_dispute_49 : decode cX4_dispute 49 = .ok (.bastore, 1) := by decide +kernel
theorem dX4_dispute_50 : decode cX4_dispute 50 = .ok (.aload_n 0, 1) := by decide +kernel
theorem dX4_dispute_51 : decode cX4_dispute 51 = .ok (.iload_n 1, 1) := by decide +kernel
theorem dX4_dispute_52 : decode cX4_dispute 52 = .ok (.invokevirtual 109, 3) := by decide +kernel
theorem dX4_dispute_55 : decode cX4_dispute 55 = .ok (.istore_n 2, 1) := by decide +kernel
theorem dX4_dispute_56 : decode cX4_dispute 56 = .ok (.iconst 0, 1) := by decide +kernel
theorem dX4_dispute_57 : decode cX4_dispute 57 = .ok (.istore_n 3, 1) := by decide +kernel
theorem dX4_dispute_58 : decode cX4_dispute 58 = .ok (.iconst 0, 1) := by decide +kernel
theorem dX4_dispute_59 : decode cX4_dispute 59 = .ok (.istore 4, 2) := by decide +kernel
theorem dX4_dispute_61 : decode cX4_dispute 61 = .ok (.iload 4, 2) := by decide +kernel
theorem dX4_dispute_63 : decode cX4_dispute 63 = .ok (.aload_n 0, 1) := by decide +kernel
theorem dX4_dispute_64 : decode cX4_dispute 64 = .ok (.getfield 61, 3) := by decide +kernel
theorem dX4_dispute_67 : decode cX4_dispute 67 = .ok (.if_icmp .ge 78, 3) := by decide +kernel
theorem dX4_dispute_70 : decode cX4_dispute 70 = .ok (.iload_n 2, 1) := by decide +kernel
theorem dX4_dispute_71 : decode cX4_dispute 71 = .ok (.iconst (-1), 1) := by decide +kernel
theorem dX4_dispute_72 : decode cX4_dispute 72 = .ok (.if_icmp .eq 73, 3) := by decide +kernel
theorem dX4_dispute_75 : decode cX4_dispute 75 = .ok (.aload_n 0, 1) := by decide +kernel
theorem dX4_dispute_76 : decode cX4_dispute 76 = .ok (.getfield 26, 3) := by decide +kernel
theorem dX4_dispute_79 : decode cX4_dispute 79 = .ok (.iload 4, 2) := by decide +kernel
theorem dX4_dispute_81 : decode cX4_dispute 81 = .ok (.iaload, 1) := by decide +kernel
theorem dX4_dispute_82 : decode cX4_dispute 82 = .ok (.iload_n 1, 1) := by decide +kernel
theorem dX4_dispute_83 : decode cX4_dispute 83 = .ok (.if_icmp .ne 13, 3) := by decide +kernel
theorem dX4_dispute_86 : decode cX4_dispute 86 = .ok (.iload 4, 2) := by decide +kernel
theorem dX4_dispute_88 : decode cX4_dispute 88 = .ok (.iload_n 2, 1) := by decide +kernel
theorem dX4_dispute_89 : decode cX4_dispute 89 = .ok (.if_icmp .lt 7, 3) := by decide +kernel
theorem dX4_dispute_92 : decode cX4_dispute 92 = .ok (.iconst 1, 1) := by decide +kernel
theorem dX4_dispute_93 : decode cX4_dispute 93 = .ok (.goto 4, 3) := by decide +kernel
theorem dX4_dispute_96 : decode cX4_dispute 96 = .ok (.iconst 0, 1) := by decide +kernel
theorem dX4_dispute_97 : decode cX4_dispute 97 = .ok (.istore 5, 2) := by decide +kernel
theorem dX4_dispute_99 : decode cX4_dispute 99 = .ok (.aload_n 0, 1) := by decide +kernel
theorem dX4_dispute_100 : decode cX4_dispute 100 = .ok (.getfield 47, 3) := by decide +kernel
theorem dX4_dispute_103 : decode cX4_dispute 103 = .ok (.iload 4, 2) := by decide +kernel
theorem dX4_dispute_105 : decode cX4_dispute 105 = .ok (.aload_n 0, 1) := by decide +kernel
theorem dX4_dispute_106 : decode cX4_dispute 106 = .ok (.getfield 47, 3) := by decide +kernel
theorem dX4_dispute_109 : decode cX4_dispute 109 = .ok (.iload 4, 2) := by decide +kernel
theorem dX4_dispute_111 : decode cX4_dispute 111 = .ok (.baload, 1) := by decide +kernel
theorem dX4_dispute_112 : decode cX4_dispute 112 = .ok (.ifCond .ne 8, 3) := by decide +kernel
theorem dX4_dispute_115 : decode cX4_dispute 115 = .ok (.iload 5, 2) := by decide +kernel
theorem dX4_dispute_117 : decode cX4_dispute 117 = .ok (.ifCond .eq 7, 3) := by decide +kernel
theorem dX4_dispute_120 : decode cX4_dispute 120 = .ok (.iconst 1, 1) := by decide +kernel
theorem dX4_dispute_121 : decode cX4_dispute 121 = .ok (.goto 4, 3) := by decide +kernel
theorem dX4_dispute_124 : decode cX4_dispute 124 = .ok (.iconst 0, 1) := by decide +kernel
theorem dX4_dispute_125 : decode cX4_dispute 125 = .ok (.bastore, 1) := by decide +kernel
theorem dX4_dispute_126 : decode cX4_dispute 126 = .ok (.iload_n 3, 1) := by decide +kernel
theorem dX4_dispute_127 : decode cX4_dispute 127 = .ok (.iload 5, 2) := by decide +kernel
theorem dX4_dispute_129 : decode cX4_dispute 129 = .ok (.ifCond .eq 7, 3) := by decide +kernel
theorem dX4_dispute_132 : decode cX4_dispute 132 = .ok (.iconst 1, 1) := by decide +kernel
theorem dX4_dispute_133 : decode cX4_dispute 133 = .ok (.goto 4, 3) := by decide +kernel
theorem dX4_dispute_136 : decode cX4_dispute 136 = .ok (.iconst 0, 1) := by decide +kernel
theorem dX4_dispute_137 : decode cX4_dispute 137 = .ok (.iadd, 1) := by decide +kernel
theorem dX4_dispute_138 : decode cX4_dispute 138 = .ok (.istore_n 3, 1) := by decide +kernel
theorem dX4_dispute_139 : decode cX4_dispute 139 = .ok (.iinc 4 1, 3) := by decide +kernel
theorem dX4_dispute_142 : decode cX4_dispute 142 = .ok (.goto (-81), 3) := by decide +kernel
theorem dX4_dispute_145 : decode cX4_dispute 145 = .ok (.iload_n 3, 1) := by decide +kernel
theorem dX4_dispute_146 : decode cX4_dispute 146 = .ok (.ireturn, 1) := by decide +kernel
theorem dX4_isStruck_0 : decode cX4_isStruck 0 = .ok (.aload_n 0, 1) := by decide +kernel
theorem dX4_isStruck_1 : decode cX4_isStruck 1 = .ok (.aload_n 0, 1) := by decide +kernel
theorem dX4_isStruck_2 : decode cX4_isStruck 2 = .ok (.iload_n 1, 1) := by decide +kernel
theorem dX4_isStruck_3 : decode cX4_isStruck 3 = .ok (.invokevirtual 103, 3) := by decide +kernel
theorem dX4_isStruck_6 : decode cX4_isStruck 6 = .ok (.ifCond .eq 7, 3) := by decide +kernel
theorem dX4_isStruck_9 : decode cX4_isStruck 9 = .ok (.iconst 0, 1) := by decide +kernel
theorem dX4_isStruck_10 : decode cX4_isStruck 10 = .ok (.goto 4, 3) := by decide +kernel
theorem dX4_isStruck_13 : decode cX4_isStruck 13 = .ok (.iconst 1, 1) := by decide +kernel
theorem dX4_isStruck_14 : decode cX4_isStruck 14 = .ok (.putfield 50, 3) := by decide +kernel
theorem dX4_isStruck_17 : decode cX4_isStruck 17 = .ok (.aload_n 0, 1) := by decide +kernel
theorem dX4_isStruck_18 : decode cX4_isStruck 18 = .ok (.getfield 50, 3) := by decide +kernel
theorem dX4_isStruck_21 : decode cX4_isStruck 21 = .ok (.ifCond .ne 16, 3) := by decide +kernel
theorem dX4_isStruck_24 : decode cX4_isStruck 24 = .ok (.aload_n 0, 1) := by decide +kernel
theorem dX4_isStruck_25 : decode cX4_isStruck 25 = .ok (.getfield 47, 3) := by decide +kernel
theorem dX4_isStruck_28 : decode cX4_isStruck 28 = .ok (.iload_n 1, 1) := by decide +kernel
theorem dX4_isStruck_29 : decode cX4_isStruck 29 = .ok (.baload, 1) := by decide +kernel
theorem dX4_isStruck_30 : decode cX4_isStruck 30 = .ok (.ifCond .eq 7, 3) := by decide +kernel
theorem dX4_isStruck_33 : decode cX4_isStruck 33 = .ok (.iconst 1, 1) := by decide +kernel
theorem dX4_isStruck_34 : decode cX4_isStruck 34 = .ok (.goto 4, 3) := by decide +kernel
theorem dX4_isStruck_37 : decode cX4_isStruck 37 = .ok (.iconst 0, 1) := by decide +kernel
theorem dX4_isStruck_38 : decode cX4_isStruck 38 = .ok (.ireturn, 1) := by decide +kernel
theorem dX4_counts_0 : decode cX4_counts 0 = .ok (.iconst 0, 1) := by decide +kernel
theorem dX4_counts_1 : decode cX4_counts 1 = .ok (.istore_n 3, 1) := by decide +kernel
theorem dX4_counts_2 : decode cX4_counts 2 = .ok (.iconst 0, 1) := by decide +kernel
theorem dX4_counts_3 : decode cX4_counts 3 = .ok (.istore 4, 2) := by decide +kernel
theorem dX4_counts_5 : decode cX4_counts 5 = .ok (.iload 4, 2) := by decide +kernel
theorem dX4_counts_7 : decode cX4_counts 7 = .ok (.aload_n 0, 1) := by decide +kernel
theorem dX4_counts_8 : decode cX4_counts 8 = .ok (.getfield 61, 3) := by decide +kernel
theorem dX4_counts_11 : decode cX4_counts 11 = .ok (.if_icmp .ge 53, 3) := by decide +kernel
theorem dX4_counts_14 : decode cX4_counts 14 = .ok (.iload_n 3, 1) := by decide +kernel
theorem dX4_counts_15 : decode cX4_counts 15 = .ok (.aload_n 0, 1) := by decide +kernel
theorem dX4_counts_16 : decode cX4_counts 16 = .ok (.getfield 47, 3) := by decide +kernel
theorem dX4_counts_19 : decode cX4_counts 19 = .ok (.iload 4, 2) := by decide +kernel
theorem dX4_counts_21 : decode cX4_counts 21 = .ok (.baload, 1) := by decide +kernel
theorem dX4_counts_22 : decode cX4_counts 22 = .ok (.ifCond .ne 33, 3) := by decide +kernel
theorem dX4_counts_25 : decode cX4_counts 25 = .ok (.aload_n 0, 1) := by decide +kernel
theorem dX4_counts_26 : decode cX4_counts 26 = .ok (.getfield 35, 3) := by decide +kernel
theorem dX4_counts_29 : decode cX4_counts 29 = .ok (.iload 4, 2) := by decide +kernel
theorem dX4_counts_31 : decode cX4_counts 31 = .ok (.iaload, 1) := by decide +kernel
theorem dX4_counts_32 : decode cX4_counts 32 = .ok (.iload_n 1, 1) := by decide +kernel
theorem dX4_counts_33 : decode cX4_counts 33 = .ok (.if_icmp .ne 22, 3) := by decide +kernel
theorem dX4_counts_36 : decode cX4_counts 36 = .ok (.aload_n 0, 1) := by decide +kernel
theorem dX4_counts_37 : decode cX4_counts 37 = .ok (.getfield 38, 3) := by decide +kernel
theorem dX4_counts_40 : decode cX4_counts 40 = .ok (.iload 4, 2) := by decide +kernel
theorem dX4_counts_42 : decode cX4_counts 42 = .ok (.iaload, 1) := by decide +kernel
theorem dX4_counts_43 : decode cX4_counts 43 = .ok (.iload_n 2, 1) := by decide +kernel
theorem dX4_counts_44 : decode cX4_counts 44 = .ok (.if_icmp .eq 7, 3) := by decide +kernel
theorem dX4_counts_47 : decode cX4_counts 47 = .ok (.iload_n 2, 1) := by decide +kernel
theorem dX4_counts_48 : decode cX4_counts 48 = .ok (.ifCond .ne 7, 3) := by decide +kernel
theorem dX4_counts_51 : decode cX4_counts 51 = .ok (.iconst 1, 1) := by decide +kernel
theorem dX4_counts_52 : decode cX4_counts 52 = .ok (.goto 4, 3) := by decide +kernel
theorem dX4_counts_55 : decode cX4_counts 55 = .ok (.iconst 0, 1) := by decide +kernel
theorem dX4_counts_56 : decode cX4_counts 56 = .ok (.iadd, 1) := by decide +kernel
theorem dX4_counts_57 : decode cX4_counts 57 = .ok (.istore_n 3, 1) := by decide +kernel
theorem dX4_counts_58 : decode cX4_counts 58 = .ok (.iinc 4 1, 3) := by decide +kernel
theorem dX4_counts_61 : decode cX4_counts 61 = .ok (.goto (-56), 3) := by decide +kernel
theorem dX4_counts_64 : decode cX4_counts 64 = .ok (.iload_n 3, 1) := by decide +kernel
theorem dX4_counts_65 : decode cX4_counts 65 = .ok (.ireturn, 1) := by decide +kernel
theorem dX4_count_0 : decode cX4_count 0 = .ok (.aload_n 0, 1) := by decide +kernel
theorem dX4_count_1 : decode cX4_count 1 = .ok (.iconst 0, 1) := by decide +kernel
theorem dX4_count_2 : decode cX4_count 2 = .ok (.putfield 50, 3) := by decide +kernel
theorem dX4_count_5 : decode cX4_count 5 = .ok (.iload_n 1, 1) := by decide +kernel
theorem dX4_count_6 : decode cX4_count 6 = .ok (.invokestatic 93, 3) := by decide +kernel
theorem dX4_count_9 : decode cX4_count 9 = .ok (.ifCond .eq 21, 3) := by decide +kernel
theorem dX4_count_12 : decode cX4_count 12 = .ok (.iload_n 2, 1) := by decide +kernel
theorem dX4_count_13 : decode cX4_count 13 = .ok (.iconst 1, 1) := by decide +kernel
theorem dX4_count_14 : decode cX4_count 14 = .ok (.iload_n 1, 1) := by decide +kernel
theorem dX4_count_15 : decode cX4_count 15 = .ok (.invokestatic 57, 3) := by decide +kernel
theorem dX4_count_18 : decode cX4_count 18 = .ok (.ifCond .eq 12, 3) := by decide +kernel
theorem dX4_count_21 : decode cX4_count 21 = .ok (.aload_n 0, 1) := by decide +kernel
theorem dX4_count_22 : decode cX4_count 22 = .ok (.iload_n 1, 1) := by decide +kernel
theorem dX4_count_23 : decode cX4_count 23 = .ok (.iload_n 2, 1) := by decide +kernel
theorem dX4_count_24 : decode cX4_count 24 = .ok (.invokevirtual 112, 3) := by decide +kernel
theorem dX4_count_27 : decode cX4_count 27 = .ok (.goto 8, 3) := by decide +kernel
theorem dX4_count_30 : decode cX4_count 30 = .ok (.aload_n 0, 1) := by decide +kernel
theorem dX4_count_31 : decode cX4_count 31 = .ok (.iconst 1, 1) := by decide +kernel
theorem dX4_count_32 : decode cX4_count 32 = .ok (.invokevirtual 71, 3) := by decide +kernel
theorem dX4_count_35 : decode cX4_count 35 = .ok (.ireturn, 1) := by decide +kernel
theorem dX4_uneven_0 : decode cX4_uneven 0 = .ok (.aload_n 0, 1) := by decide +kernel
theorem dX4_uneven_1 : decode cX4_uneven 1 = .ok (.iconst 0, 1) := by decide +kernel
theorem dX4_uneven_2 : decode cX4_uneven 2 = .ok (.putfield 50, 3) := by decide +kernel
theorem dX4_uneven_5 : decode cX4_uneven 5 = .ok (.iload_n 1, 1) := by decide +kernel
theorem dX4_uneven_6 : decode cX4_uneven 6 = .ok (.invokestatic 93, 3) := by decide +kernel
theorem dX4_uneven_9 : decode cX4_uneven 9 = .ok (.ifCond .ne 10, 3) := by decide +kernel
theorem dX4_uneven_12 : decode cX4_uneven 12 = .ok (.aload_n 0, 1) := by decide +kernel
theorem dX4_uneven_13 : decode cX4_uneven 13 = .ok (.iconst 1, 1) := by decide +kernel
theorem dX4_uneven_14 : decode cX4_uneven 14 = .ok (.invokevirtual 71, 3) := by decide +kernel
theorem dX4_uneven_17 : decode cX4_uneven 17 = .ok (.i2l, 1) := by decide +kernel
theorem dX4_uneven_18 : decode cX4_uneven 18 = .ok (.lreturn, 1) := by decide +kernel
theorem dX4_uneven_19 : decode cX4_uneven 19 = .ok (.aload_n 0, 1) := by decide +kernel
theorem dX4_uneven_20 : decode cX4_uneven 20 = .ok (.iload_n 1, 1) := by decide +kernel
theorem dX4_uneven_21 : decode cX4_uneven 21 = .ok (.iconst 0, 1) := by decide +kernel
theorem dX4_uneven_22 : decode cX4_uneven 22 = .ok (.invokevirtual 112, 3) := by decide +kernel
theorem dX4_uneven_25 : decode cX4_uneven 25 = .ok (.i2l, 1) := by decide +kernel
theorem dX4_uneven_26 : decode cX4_uneven 26 = .ok (.lstore_n 2, 1) := by decide +kernel
theorem dX4_uneven_27 : decode cX4_uneven 27 = .ok (.lconst 0, 1) := by decide +kernel
theorem dX4_uneven_28 : decode cX4_uneven 28 = .ok (.lstore 4, 2) := by decide +kernel
theorem dX4_uneven_30 : decode cX4_uneven 30 = .ok (.iconst 1, 1) := by decide +kernel
theorem dX4_uneven_31 : decode cX4_uneven 31 = .ok (.istore 6, 2) := by decide +kernel
theorem dX4_uneven_33 : decode cX4_uneven 33 = .ok (.iload 6, 2) := by decide +kernel
theorem dX4_uneven_35 : decode cX4_uneven 35 = .ok (.iload_n 1, 1) := by decide +kernel
theorem dX4_uneven_36 : decode cX4_uneven 36 = .ok (.if_icmp .gt 34, 3) := by decide +kernel
theorem dX4_uneven_39 : decode cX4_uneven 39 = .ok (.iload_n 1, 1) := by decide +kernel
theorem dX4_uneven_40 : decode cX4_uneven 40 = .ok (.i2l, 1) := by decide +kernel
theorem dX4_uneven_41 : decode cX4_uneven 41 = .ok (.aload_n 0, 1) := by decide +kernel
theorem dX4_uneven_42 : decode cX4_uneven 42 = .ok (.iload_n 1, 1) := by decide +kernel
theorem dX4_uneven_43 : decode cX4_uneven 43 = .ok (.iload 6, 2) := by decide +kernel
theorem dX4_uneven_45 : decode cX4_uneven 45 = .ok (.invokevirtual 112, 3) := by decide +kernel
theorem dX4_uneven_48 : decode cX4_uneven 48 = .ok (.i2l, 1) := by decide +kernel
theorem dX4_uneven_49 : decode cX4_uneven 49 = .ok (.lmul, 1) := by decide +kernel
theorem dX4_uneven_50 : decode cX4_uneven 50 = .ok (.lload_n 2, 1) := by decide +kernel
theorem dX4_uneven_51 : decode cX4_uneven 51 = .ok (.lsub, 1) := by decide +kernel
theorem dX4_uneven_52 : decode cX4_uneven 52 = .ok (.lstore 7, 2) := by decide +kernel
theorem dX4_uneven_54 : decode cX4_uneven 54 = .ok (.lload 4, 2) := by decide +kernel
theorem dX4_uneven_56 : decode cX4_uneven 56 = .ok (.lload 7, 2) := by decide +kernel
theorem dX4_uneven_58 : decode cX4_uneven 58 = .ok (.lload 7, 2) := by decide +kernel
theorem dX4_uneven_60 : decode cX4_uneven 60 = .ok (.lmul, 1) := by decide +kernel
theorem dX4_uneven_61 : decode cX4_uneven 61 = .ok (.ladd, 1) := by decide +kernel
theorem dX4_uneven_62 : decode cX4_uneven 62 = .ok (.lstore 4, 2) := by decide +kernel
theorem dX4_uneven_64 : decode cX4_uneven 64 = .ok (.iinc 6 1, 3) := by decide +kernel
theorem dX4_uneven_67 : decode cX4_uneven 67 = .ok (.goto (-34), 3) := by decide +kernel
theorem dX4_uneven_70 : decode cX4_uneven 70 = .ok (.lload 4, 2) := by decide +kernel
theorem dX4_uneven_72 : decode cX4_uneven 72 = .ok (.lreturn, 1) := by decide +kernel
theorem dX4_total_0 : decode cX4_total 0 = .ok (.aload_n 0, 1) := by decide +kernel
theorem dX4_total_1 : decode cX4_total 1 = .ok (.iconst 0, 1) := by decide +kernel
theorem dX4_total_2 : decode cX4_total 2 = .ok (.putfield 50, 3) := by decide +kernel
theorem dX4_total_5 : decode cX4_total 5 = .ok (.iload_n 1, 1) := by decide +kernel
theorem dX4_total_6 : decode cX4_total 6 = .ok (.invokestatic 83, 3) := by decide +kernel
theorem dX4_total_9 : decode cX4_total 9 = .ok (.ifCond .ne 9, 3) := by decide +kernel
theorem dX4_total_12 : decode cX4_total 12 = .ok (.aload_n 0, 1) := by decide +kernel
theorem dX4_total_13 : decode cX4_total 13 = .ok (.iconst 1, 1) := by decide +kernel
theorem dX4_total_14 : decode cX4_total 14 = .ok (.invokevirtual 71, 3) := by decide +kernel
theorem dX4_total_17 : decode cX4_total 17 = .ok (.ireturn, 1) := by decide +kernel
theorem dX4_total_18 : decode cX4_total 18 = .ok (.iconst 0, 1) := by decide +kernel
theorem dX4_total_19 : decode cX4_total 19 = .ok (.istore_n 2, 1) := by decide +kernel
theorem dX4_total_20 : decode cX4_total 20 = .ok (.iconst 0, 1) := by decide +kernel
theorem dX4_total_21 : decode cX4_total 21 = .ok (.istore_n 3, 1) := by decide +kernel
theorem dX4_total_22 : decode cX4_total 22 = .ok (.iload_n 3, 1) := by decide +kernel
theorem dX4_total_23 : decode cX4_total 23 = .ok (.aload_n 0, 1) := by decide +kernel
theorem dX4_total_24 : decode cX4_total 24 = .ok (.getfield 61, 3) := by decide +kernel
theorem dX4_total_27 : decode cX4_total 27 = .ok (.if_icmp .ge 41, 3) := by decide +kernel
theorem dX4_total_30 : decode cX4_total 30 = .ok (.iload_n 2, 1) := by decide +kernel
theorem dX4_total_31 : decode cX4_total 31 = .ok (.aload_n 0, 1) := by decide +kernel
theorem dX4_total_32 : decode cX4_total 32 = .ok (.getfield 29, 3) := by decide +kernel
theorem dX4_total_35 : decode cX4_total 35 = .ok (.iload_n 3, 1) := by decide +kernel
theorem dX4_total_36 : decode cX4_total 36 = .ok (.iaload, 1) := by decide +kernel
theorem dX4_total_37 : decode cX4_total 37 = .ok (.iload_n 1, 1) := by decide +kernel
theorem dX4_total_38 : decode cX4_total 38 = .ok (.if_icmp .ne 21, 3) := by decide +kernel
theorem dX4_total_41 : decode cX4_total 41 = .ok (.aload_n 0, 1) := by decide +kernel
theorem dX4_total_42 : decode cX4_total 42 = .ok (.getfield 47, 3) := by decide +kernel
theorem dX4_total_45 : decode cX4_total 45 = .ok (.iload_n 3, 1) := by decide +kernel
theorem dX4_total_46 : decode cX4_total 46 = .ok (.baload, 1) := by decide +kernel
theorem dX4_total_47 : decode cX4_total 47 = .ok (.ifCond .ne 12, 3) := by decide +kernel
theorem dX4_total_50 : decode cX4_total 50 = .ok (.aload_n 0, 1) := by decide +kernel
theorem dX4_total_51 : decode cX4_total 51 = .ok (.getfield 38, 3) := by decide +kernel
theorem dX4_total_54 : decode cX4_total 54 = .ok (.iload_n 3, 1) := by decide +kernel
theorem dX4_total_55 : decode cX4_total 55 = .ok (.iaload, 1) := by decide +kernel
theorem dX4_total_56 : decode cX4_total 56 = .ok (.goto 4, 3) := by decide +kernel
theorem dX4_total_59 : decode cX4_total 59 = .ok (.iconst 0, 1) := by decide +kernel
theorem dX4_total_60 : decode cX4_total 60 = .ok (.iadd, 1) := by decide +kernel
theorem dX4_total_61 : decode cX4_total 61 = .ok (.istore_n 2, 1) := by decide +kernel
theorem dX4_total_62 : decode cX4_total 62 = .ok (.iinc 3 1, 3) := by decide +kernel
theorem dX4_total_65 : decode cX4_total 65 = .ok (.goto (-43), 3) := by decide +kernel
theorem dX4_total_68 : decode cX4_total 68 = .ok (.iload_n 2, 1) := by decide +kernel
theorem dX4_total_69 : decode cX4_total 69 = .ok (.ireturn, 1) := by decide +kernel
theorem dJ9_floorMod_7cf53_0 : decode cJ9_floorMod_7cf53 0 = .ok (.iload_n 0, 1) := by decide +kernel
theorem dJ9_floorMod_7cf53_1 : decode cJ9_floorMod_7cf53 1 = .ok (.iload_n 1, 1) := by decide +kernel
theorem dJ9_floorMod_7cf53_2 : decode cJ9_floorMod_7cf53 2 = .ok (.irem, 1) := by decide +kernel
theorem dJ9_floorMod_7cf53_3 : decode cJ9_floorMod_7cf53 3 = .ok (.istore_n 2, 1) := by decide +kernel
theorem dJ9_floorMod_7cf53_4 : decode cJ9_floorMod_7cf53 4 = .ok (.iload_n 0, 1) := by decide +kernel
theorem dJ9_floorMod_7cf53_5 : decode cJ9_floorMod_7cf53 5 = .ok (.iload_n 1, 1) := by decide +kernel
theorem dJ9_floorMod_7cf53_6 : decode cJ9_floorMod_7cf53 6 = .ok (.ixor, 1) := by decide +kernel
theorem dJ9_floorMod_7cf53_7 : decode cJ9_floorMod_7cf53 7 = .ok (.ifCond .ge 11, 3) := by decide +kernel
theorem dJ9_floorMod_7cf53_10 : decode cJ9_floorMod_7cf53 10 = .ok (.iload_n 2, 1) := by decide +kernel
theorem dJ9_floorMod_7cf53_11 : decode cJ9_floorMod_7cf53 11 = .ok (.ifCond .eq 7, 3) := by decide +kernel
theorem dJ9_floorMod_7cf53_14 : decode cJ9_floorMod_7cf53 14 = .ok (.iload_n 2, 1) := by decide +kernel
theorem dJ9_floorMod_7cf53_15 : decode cJ9_floorMod_7cf53 15 = .ok (.iload_n 1, 1) := by decide +kernel
theorem dJ9_floorMod_7cf53_16 : decode cJ9_floorMod_7cf53 16 = .ok (.iadd, 1) := by decide +kernel
theorem dJ9_floorMod_7cf53_17 : decode cJ9_floorMod_7cf53 17 = .ok (.ireturn, 1) := by decide +kernel
theorem dJ9_floorMod_7cf53_18 : decode cJ9_floorMod_7cf53 18 = .ok (.iload_n 2, 1) := by decide +kernel
theorem dJ9_floorMod_7cf53_19 : decode cJ9_floorMod_7cf53 19 = .ok (.ireturn, 1) := by decide +kernel
theorem dJ9_max_7cf53_0 : decode cJ9_max_7cf53 0 = .ok (.iload_n 0, 1) := by decide +kernel
theorem dJ9_max_7cf53_1 : decode cJ9_max_7cf53 1 = .ok (.iload_n 1, 1) := by decide +kernel
theorem dJ9_max_7cf53_2 : decode cJ9_max_7cf53 2 = .ok (.if_icmp .lt 7, 3) := by decide +kernel
theorem dJ9_max_7cf53_5 : decode cJ9_max_7cf53 5 = .ok (.iload_n 0, 1) := by decide +kernel
theorem dJ9_max_7cf53_6 : decode cJ9_max_7cf53 6 = .ok (.goto 4, 3) := by decide +kernel
theorem dJ9_max_7cf53_9 : decode cJ9_max_7cf53 9 = .ok (.iload_n 1, 1) := by decide +kernel
theorem dJ9_max_7cf53_10 : decode cJ9_max_7cf53 10 = .ok (.ireturn, 1) := by decide +kernel
theorem dJ9_min_7cf53_0 : decode cJ9_min_7cf53 0 = .ok (.iload_n 0, 1) := by decide +kernel
theorem dJ9_min_7cf53_1 : decode cJ9_min_7cf53 1 = .ok (.iload_n 1, 1) := by decide +kernel
theorem dJ9_min_7cf53_2 : decode cJ9_min_7cf53 2 = .ok (.if_icmp .gt 7, 3) := by decide +kernel
theorem dJ9_min_7cf53_5 : decode cJ9_min_7cf53 5 = .ok (.iload_n 0, 1) := by decide +kernel
theorem dJ9_min_7cf53_6 : decode cJ9_min_7cf53 6 = .ok (.goto 4, 3) := by decide +kernel
theorem dJ9_min_7cf53_9 : decode cJ9_min_7cf53 9 = .ok (.iload_n 1, 1) := by decide +kernel
theorem dJ9_min_7cf53_10 : decode cJ9_min_7cf53 10 = .ok (.ireturn, 1) := by decide +kernel
theorem dJxa1e45_init_da8c8_0 : decode cJxa1e45_init_da8c8 0 = .ok (.aload_n 0, 1) := by decide +kernel
theorem dJxa1e45_init_da8c8_1 : decode cJxa1e45_init_da8c8 1 = .ok (.invokespecial 1, 3) := by decide +kernel
theorem dJxa1e45_init_da8c8_4 : decode cJxa1e45_init_da8c8 4 = .ok (.return_, 1) := by decide +kernel
theorem dJxc12de_init_da8c8_0 : decode cJxc12de_init_da8c8 0 = .ok (.aload_n 0, 1) := by decide +kernel
theorem dJxc12de_init_da8c8_1 : decode cJxc12de_init_da8c8 1 = .ok (.invokespecial 1, 3) := by decide +kernel
theorem dJxc12de_init_da8c8_4 : decode cJxc12de_init_da8c8 4 = .ok (.aload_n 0, 1) := by decide +kernel
theorem dJxc12de_init_da8c8_5 : decode cJxc12de_init_da8c8 5 = .ok (.iconst 0, 1) := by decide +kernel
theorem dJxc12de_init_da8c8_6 : decode cJxc12de_init_da8c8 6 = .ok (.putfield 7, 3) := by decide +kernel
theorem dJxc12de_init_da8c8_9 : decode cJxc12de_init_da8c8 9 = .ok (.return_, 1) := by decide +kernel
theorem dJx4a65c_init_da8c8_0 : decode cJx4a65c_init_da8c8 0 = .ok (.aload_n 0, 1) := by decide +kernel
theorem dJx4a65c_init_da8c8_1 : decode cJx4a65c_init_da8c8 1 = .ok (.invokespecial 1, 3) := by decide +kernel
theorem dJx4a65c_init_da8c8_4 : decode cJx4a65c_init_da8c8 4 = .ok (.aload_n 0, 1) := by decide +kernel
theorem dJx4a65c_init_da8c8_5 : decode cJx4a65c_init_da8c8 5 = .ok (.getstatic 39, 3) := by decide +kernel
theorem dJx4a65c_init_da8c8_8 : decode cJx4a65c_init_da8c8 8 = .ok (.putfield 9, 3) := by decide +kernel
theorem dJx4a65c_init_da8c8_11 : decode cJx4a65c_init_da8c8 11 = .ok (.return_, 1) := by decide +kernel
theorem dJx4a65c_grow_92f84_0 : decode cJx4a65c_grow_92f84 0 = .ok (.aload_n 0, 1) := by decide +kernel
theorem dJx4a65c_grow_92f84_1 : decode cJx4a65c_grow_92f84 1 = .ok (.getfield 9, 3) := by decide +kernel
theorem dJx4a65c_grow_92f84_4 : decode cJx4a65c_grow_92f84 4 = .ok (.arraylength, 1) := by decide +kernel
theorem dJx4a65c_grow_92f84_5 : decode cJx4a65c_grow_92f84 5 = .ok (.istore_n 2, 1) := by decide +kernel
theorem dJx4a65c_grow_92f84_6 : decode cJx4a65c_grow_92f84 6 = .ok (.iload_n 2, 1) := by decide +kernel
theorem dJx4a65c_grow_92f84_7 : decode cJx4a65c_grow_92f84 7 = .ok (.ifCond .gt 13, 3) := by decide +kernel
theorem dJx4a65c_grow_92f84_10 : decode cJx4a65c_grow_92f84 10 = .ok (.aload_n 0, 1) := by decide +kernel
theorem dJx4a65c_grow_92f84_11 : decode cJx4a65c_grow_92f84 11 = .ok (.getfield 9, 3) := by decide +kernel
theorem dJx4a65c_grow_92f84_14 : decode cJx4a65c_grow_92f84 14 = .ok (.getstatic 39, 3) := by decide +kernel
theorem dJx4a65c_grow_92f84_17 : decode cJx4a65c_grow_92f84 17 = .ok (.if_acmp .eq 28, 3) := by decide +kernel
theorem dJx4a65c_grow_92f84_20 : decode cJx4a65c_grow_92f84 20 = .ok (.iload_n 2, 1) := by decide +kernel
theorem dJx4a65c_grow_92f84_21 : decode cJx4a65c_grow_92f84 21 = .ok (.iload_n 1, 1) := by decide +kernel
theorem dJx4a65c_grow_92f84_22 : decode cJx4a65c_grow_92f84 22 = .ok (.iload_n 2, 1) := by decide +kernel
theorem dJx4a65c_grow_92f84_23 : decode cJx4a65c_grow_92f84 23 = .ok (.isub, 1) := by decide +kernel
theorem dJx4a65c_grow_92f84_24 : decode cJx4a65c_grow_92f84 24 = .ok (.iload_n 2, 1) := by decide +kernel
theorem dJx4a65c_grow_92f84_25 : decode cJx4a65c_grow_92f84 25 = .ok (.iconst 1, 1) := by decide +kernel
theorem dJx4a65c_grow_92f84_26 : decode cJx4a65c_grow_92f84 26 = .ok (.ishr, 1) := by decide +kernel
theorem dJx4a65c_grow_92f84_27 : decode cJx4a65c_grow_92f84 27 = .ok (.invokestatic 73, 3) := by decide +kernel
theorem dJx4a65c_grow_92f84_30 : decode cJx4a65c_grow_92f84 30 = .ok (.istore_n 3, 1) := by decide +kernel
theorem dJx4a65c_grow_92f84_31 : decode cJx4a65c_grow_92f84 31 = .ok (.aload_n 0, 1) := by decide +kernel
theorem dJx4a65c_grow_92f84_32 : decode cJx4a65c_grow_92f84 32 = .ok (.aload_n 0, 1) := by decide +kernel
theorem dJx4a65c_grow_92f84_33 : decode cJx4a65c_grow_92f84 33 = .ok (.getfield 9, 3) := by decide +kernel
theorem dJx4a65c_grow_92f84_36 : decode cJx4a65c_grow_92f84 36 = .ok (.iload_n 3, 1) := by decide +kernel
theorem dJx4a65c_grow_92f84_37 : decode cJx4a65c_grow_92f84 37 = .ok (.invokestatic 66, 3) := by decide +kernel
theorem dJx4a65c_grow_92f84_40 : decode cJx4a65c_grow_92f84 40 = .ok (.dup_x1, 1) := by decide +kernel
theorem dJx4a65c_grow_92f84_41 : decode cJx4a65c_grow_92f84 41 = .ok (.putfield 9, 3) := by decide +kernel
theorem dJx4a65c_grow_92f84_44 : decode cJx4a65c_grow_92f84 44 = .ok (.areturn, 1) := by decide +kernel
theorem dJx4a65c_grow_92f84_45 : decode cJx4a65c_grow_92f84 45 = .ok (.aload_n 0, 1) := by decide +kernel
theorem dJx4a65c_grow_92f84_46 : decode cJx4a65c_grow_92f84 46 = .ok (.bipush 10, 2) := by decide +kernel
theorem dJx4a65c_grow_92f84_48 : decode cJx4a65c_grow_92f84 48 = .ok (.iload_n 1, 1) := by decide +kernel
theorem dJx4a65c_grow_92f84_49 : decode cJx4a65c_grow_92f84 49 = .ok (.invokestatic 79, 3) := by decide +kernel
theorem dJx4a65c_grow_92f84_52 : decode cJx4a65c_grow_92f84 52 = .ok (.anewarray 7, 3) := by decide +kernel
theorem dJx4a65c_grow_92f84_55 : decode cJx4a65c_grow_92f84 55 = .ok (.dup_x1, 1) := by decide +kernel
theorem dJx4a65c_grow_92f84_56 : decode cJx4a65c_grow_92f84 56 = .ok (.putfield 9, 3) := by decide +kernel
theorem dJx4a65c_grow_92f84_59 : decode cJx4a65c_grow_92f84 59 = .ok (.areturn, 1) := by decide +kernel
theorem dJx4a65c_grow_d5877_0 : decode cJx4a65c_grow_d5877 0 = .ok (.aload_n 0, 1) := by decide +kernel
theorem dJx4a65c_grow_d5877_1 : decode cJx4a65c_grow_d5877 1 = .ok (.aload_n 0, 1) := by decide +kernel
theorem dJx4a65c_grow_d5877_2 : decode cJx4a65c_grow_d5877 2 = .ok (.getfield 48, 3) := by decide +kernel
theorem dJx4a65c_grow_d5877_5 : decode cJx4a65c_grow_d5877 5 = .ok (.iconst 1, 1) := by decide +kernel
theorem dJx4a65c_grow_d5877_6 : decode cJx4a65c_grow_d5877 6 = .ok (.iadd, 1) := by decide +kernel
theorem dJx4a65c_grow_d5877_7 : decode cJx4a65c_grow_d5877 7 = .ok (.invokevirtual 69, 3) := by decide +kernel
theorem dJx4a65c_grow_d5877_10 : decode cJx4a65c_grow_d5877 10 = .ok (.areturn, 1) := by decide +kernel
theorem dJx4a65c_size_8abf5_0 : decode cJx4a65c_size_8abf5 0 = .ok (.aload_n 0, 1) := by decide +kernel
theorem dJx4a65c_size_8abf5_1 : decode cJx4a65c_size_8abf5 1 = .ok (.getfield 48, 3) := by decide +kernel
theorem dJx4a65c_size_8abf5_4 : decode cJx4a65c_size_8abf5 4 = .ok (.ireturn, 1) := by decide +kernel
theorem dJx4a65c_isEmpty_aae02_0 : decode cJx4a65c_isEmpty_aae02 0 = .ok (.aload_n 0, 1) := by decide +kernel
theorem dJx4a65c_isEmpty_aae02_1 : decode cJx4a65c_isEmpty_aae02 1 = .ok (.getfield 48, 3) := by decide +kernel
theorem dJx4a65c_isEmpty_aae02_4 : decode cJx4a65c_isEmpty_aae02 4 = .ok (.ifCond .ne 7, 3) := by decide +kernel
theorem dJx4a65c_isEmpty_aae02_7 : decode cJx4a65c_isEmpty_aae02 7 = .ok (.iconst 1, 1) := by decide +kernel
theorem dJx4a65c_isEmpty_aae02_8 : decode cJx4a65c_isEmpty_aae02 8 = .ok (.goto 4, 3) := by decide +kernel
theorem dJx4a65c_isEmpty_aae02_11 : decode cJx4a65c_isEmpty_aae02 11 = .ok (.iconst 0, 1) := by decide +kernel
theorem dJx4a65c_isEmpty_aae02_12 : decode cJx4a65c_isEmpty_aae02 12 = .ok (.ireturn, 1) := by decide +kernel
theorem dJx4a65c_elementData_915e3_0 : decode cJx4a65c_elementData_915e3 0 = .ok (.aload_n 0, 1) := by decide +kernel
theorem dJx4a65c_elementData_915e3_1 : decode cJx4a65c_elementData_915e3 1 = .ok (.getfield 9, 3) := by decide +kernel
theorem dJx4a65c_elementData_915e3_4 : decode cJx4a65c_elementData_915e3 4 = .ok (.iload_n 1, 1) := by decide +kernel
theorem dJx4a65c_elementData_915e3_5 : decode cJx4a65c_elementData_915e3 5 = .ok (.aaload, 1) := by decide +kernel
theorem dJx4a65c_elementData_915e3_6 : decode cJx4a65c_elementData_915e3 6 = .ok (.areturn, 1) := by decide +kernel
theorem dJx4a65c_get_915e3_0 : decode cJx4a65c_get_915e3 0 = .ok (.iload_n 1, 1) := by decide +kernel
theorem dJx4a65c_get_915e3_1 : decode cJx4a65c_get_915e3 1 = .ok (.aload_n 0, 1) := by decide +kernel
theorem dJx4a65c_get_915e3_2 : decode cJx4a65c_get_915e3 2 = .ok (.getfield 48, 3) := by decide +kernel
theorem dJx4a65c_get_915e3_5 : decode cJx4a65c_get_915e3 5 = .ok (.invokestatic 118, 3) := by decide +kernel
theorem dJx4a65c_get_915e3_8 : decode cJx4a65c_get_915e3 8 = .ok (.pop, 1) := by decide +kernel
theorem dJx4a65c_get_915e3_9 : decode cJx4a65c_get_915e3 9 = .ok (.aload_n 0, 1) := by decide +kernel
theorem dJx4a65c_get_915e3_10 : decode cJx4a65c_get_915e3 10 = .ok (.iload_n 1, 1) := by decide +kernel
theorem dJx4a65c_get_915e3_11 : decode cJx4a65c_get_915e3 11 = .ok (.invokevirtual 123, 3) := by decide +kernel
theorem dJx4a65c_get_915e3_14 : decode cJx4a65c_get_915e3 14 = .ok (.areturn, 1) := by decide +kernel
theorem dJx4a65c_add_72be8_0 : decode cJx4a65c_add_72be8 0 = .ok (.iload_n 3, 1) := by decide +kernel
theorem dJx4a65c_add_72be8_1 : decode cJx4a65c_add_72be8 1 = .ok (.aload_n 2, 1) := by decide +kernel
theorem dJx4a65c_add_72be8_2 : decode cJx4a65c_add_72be8 2 = .ok (.arraylength, 1) := by decide +kernel
theorem dJx4a65c_add_72be8_3 : decode cJx4a65c_add_72be8 3 = .ok (.if_icmp .ne 8, 3) := by decide +kernel
theorem dJx4a65c_add_72be8_6 : decode cJx4a65c_add_72be8 6 = .ok (.aload_n 0, 1) := by decide +kernel
theorem dJx4a65c_add_72be8_7 : decode cJx4a65c_add_72be8 7 = .ok (.invokevirtual 129, 3) := by decide +kernel
theorem dJx4a65c_add_72be8_10 : decode cJx4a65c_add_72be8 10 = .ok (.astore_n 2, 1) := by decide +kernel
theorem dJx4a65c_add_72be8_11 : decode cJx4a65c_add_72be8 11 = .ok (.aload_n 2, 1) := by decide +kernel
theorem dJx4a65c_add_72be8_12 : decode cJx4a65c_add_72be8 12 = .ok (.iload_n 3, 1) := by decide +kernel
theorem dJx4a65c_add_72be8_13 : decode cJx4a65c_add_72be8 13 = .ok (.aload_n 1, 1) := by decide +kernel
theorem dJx4a65c_add_72be8_14 : decode cJx4a65c_add_72be8 14 = .ok (.aastore, 1) := by decide +kernel
theorem dJx4a65c_add_72be8_15 : decode cJx4a65c_add_72be8 15 = .ok (.aload_n 0, 1) := by decide +kernel
theorem dJx4a65c_add_72be8_16 : decode cJx4a65c_add_72be8 16 = .ok (.iload_n 3, 1) := by decide +kernel
theorem dJx4a65c_add_72be8_17 : decode cJx4a65c_add_72be8 17 = .ok (.iconst 1, 1) := by decide +kernel
theorem dJx4a65c_add_72be8_18 : decode cJx4a65c_add_72be8 18 = .ok (.iadd, 1) := by decide +kernel
theorem dJx4a65c_add_72be8_19 : decode cJx4a65c_add_72be8 19 = .ok (.putfield 48, 3) := by decide +kernel
theorem dJx4a65c_add_72be8_22 : decode cJx4a65c_add_72be8 22 = .ok (.return_, 1) := by decide +kernel
theorem dJx4a65c_add_9ea2d_0 : decode cJx4a65c_add_9ea2d 0 = .ok (.aload_n 0, 1) := by decide +kernel
theorem dJx4a65c_add_9ea2d_1 : decode cJx4a65c_add_9ea2d 1 = .ok (.dup, 1) := by decide +kernel
theorem dJx4a65c_add_9ea2d_2 : decode cJx4a65c_add_9ea2d 2 = .ok (.getfield 63, 3) := by decide +kernel
theorem dJx4a65c_add_9ea2d_5 : decode cJx4a65c_add_9ea2d 5 = .ok (.iconst 1, 1) := by decide +kernel
theorem dJx4a65c_add_9ea2d_6 : decode cJx4a65c_add_9ea2d 6 = .ok (.iadd, 1) := by decide +kernel
theorem dJx4a65c_add_9ea2d_7 : decode cJx4a65c_add_9ea2d 7 = .ok (.putfield 63, 3) := by decide +kernel
theorem dJx4a65c_add_9ea2d_10 : decode cJx4a65c_add_9ea2d 10 = .ok (.aload_n 0, 1) := by decide +kernel
theorem dJx4a65c_add_9ea2d_11 : decode cJx4a65c_add_9ea2d 11 = .ok (.aload_n 1, 1) := by decide +kernel
theorem dJx4a65c_add_9ea2d_12 : decode cJx4a65c_add_9ea2d 12 = .ok (.aload_n 0, 1) := by decide +kernel
theorem dJx4a65c_add_9ea2d_13 : decode cJx4a65c_add_9ea2d 13 = .ok (.getfield 9, 3) := by decide +kernel
theorem dJx4a65c_add_9ea2d_16 : decode cJx4a65c_add_9ea2d 16 = .ok (.aload_n 0, 1) := by decide +kernel
theorem dJx4a65c_add_9ea2d_17 : decode cJx4a65c_add_9ea2d 17 = .ok (.getfield 48, 3) := by decide +kernel
theorem dJx4a65c_add_9ea2d_20 : decode cJx4a65c_add_9ea2d 20 = .ok (.invokevirtual 131, 3) := by decide +kernel
theorem dJx4a65c_add_9ea2d_23 : decode cJx4a65c_add_9ea2d 23 = .ok (.iconst 1, 1) := by decide +kernel
theorem dJx4a65c_add_9ea2d_24 : decode cJx4a65c_add_9ea2d 24 = .ok (.ireturn, 1) := by decide +kernel
theorem dJ7_fill_53178_0 : decode cJ7_fill_53178 0 = .ok (.iconst 0, 1) := by decide +kernel
theorem dJ7_fill_53178_1 : decode cJ7_fill_53178 1 = .ok (.istore_n 2, 1) := by decide +kernel
theorem dJ7_fill_53178_2 : decode cJ7_fill_53178 2 = .ok (.aload_n 0, 1) := by decide +kernel
theorem dJ7_fill_53178_3 : decode cJ7_fill_53178 3 = .ok (.arraylength, 1) := by decide +kernel
theorem dJ7_fill_53178_4 : decode cJ7_fill_53178 4 = .ok (.istore_n 3, 1) := by decide +kernel
theorem dJ7_fill_53178_5 : decode cJ7_fill_53178 5 = .ok (.iload_n 2, 1) := by decide +kernel
theorem dJ7_fill_53178_6 : decode cJ7_fill_53178 6 = .ok (.iload_n 3, 1) := by decide +kernel
theorem dJ7_fill_53178_7 : decode cJ7_fill_53178 7 = .ok (.if_icmp .ge 13, 3) := by decide +kernel
theorem dJ7_fill_53178_10 : decode cJ7_fill_53178 10 = .ok (.aload_n 0, 1) := by decide +kernel
theorem dJ7_fill_53178_11 : decode cJ7_fill_53178 11 = .ok (.iload_n 2, 1) := by decide +kernel
theorem dJ7_fill_53178_12 : decode cJ7_fill_53178 12 = .ok (.iload_n 1, 1) := by decide +kernel
theorem dJ7_fill_53178_13 : decode cJ7_fill_53178 13 = .ok (.iastore, 1) := by decide +kernel
theorem dJ7_fill_53178_14 : decode cJ7_fill_53178 14 = .ok (.iinc 2 1, 3) := by decide +kernel
theorem dJ7_fill_53178_17 : decode cJ7_fill_53178 17 = .ok (.goto (-12), 3) := by decide +kernel
theorem dJ7_fill_53178_20 : decode cJ7_fill_53178 20 = .ok (.return_, 1) := by decide +kernel
theorem dJ7_copyOf_1904c_0 : decode cJ7_copyOf_1904c 0 = .ok (.aload_n 0, 1) := by decide +kernel
theorem dJ7_copyOf_1904c_1 : decode cJ7_copyOf_1904c 1 = .ok (.iload_n 1, 1) := by decide +kernel
theorem dJ7_copyOf_1904c_2 : decode cJ7_copyOf_1904c 2 = .ok (.aload_n 0, 1) := by decide +kernel
theorem dJ7_copyOf_1904c_3 : decode cJ7_copyOf_1904c 3 = .ok (.invokevirtual 86, 3) := by decide +kernel
theorem dJ7_copyOf_1904c_6 : decode cJ7_copyOf_1904c 6 = .ok (.invokestatic 300, 3) := by decide +kernel
theorem dJ7_copyOf_1904c_9 : decode cJ7_copyOf_1904c 9 = .ok (.areturn, 1) := by decide +kernel
theorem dJ7_copyOf_6403c_0 : decode cJ7_copyOf_6403c 0 = .ok (.aload_n 2, 1) := by decide +kernel
theorem dJ7_copyOf_6403c_1 : decode cJ7_copyOf_6403c 1 = .ok (.ldc 110, 2) := by decide +kernel
theorem dJ7_copyOf_6403c_3 : decode cJ7_copyOf_6403c 3 = .ok (.if_acmp .ne 10, 3) := by decide +kernel
theorem dJ7_copyOf_6403c_6 : decode cJ7_copyOf_6403c 6 = .ok (.iload_n 1, 1) := by decide +kernel
theorem dJ7_copyOf_6403c_7 : decode cJ7_copyOf_6403c 7 = .ok (.anewarray 2, 3) := by decide +kernel
theorem dJ7_copyOf_6403c_10 : decode cJ7_copyOf_6403c 10 = .ok (.goto 14, 3) := by decide +kernel
theorem dJ7_copyOf_6403c_13 : decode cJ7_copyOf_6403c 13 = .ok (.aload_n 2, 1) := by decide +kernel
theorem dJ7_copyOf_6403c_14 : decode cJ7_copyOf_6403c 14 = .ok (.invokevirtual 90, 3) := by decide +kernel
theorem dJ7_copyOf_6403c_17 : decode cJ7_copyOf_6403c 17 = .ok (.iload_n 1, 1) := by decide +kernel
theorem dJ7_copyOf_6403c_18 : decode cJ7_copyOf_6403c 18 = .ok (.invokestatic 95, 3) := by decide +kernel
theorem dJ7_copyOf_6403c_21 : decode cJ7_copyOf_6403c 21 = .ok (.checkcast 110, 3) := by decide +kernel
theorem dJ7_copyOf_6403c_24 : decode cJ7_copyOf_6403c 24 = .ok (.astore_n 3, 1) := by decide +kernel
theorem dJ7_copyOf_6403c_25 : decode cJ7_copyOf_6403c 25 = .ok (.aload_n 0, 1) := by decide +kernel
theorem dJ7_copyOf_6403c_26 : decode cJ7_copyOf_6403c 26 = .ok (.iconst 0, 1) := by decide +kernel
theorem dJ7_copyOf_6403c_27 : decode cJ7_copyOf_6403c 27 = .ok (.aload_n 3, 1) := by decide +kernel
theorem dJ7_copyOf_6403c_28 : decode cJ7_copyOf_6403c 28 = .ok (.iconst 0, 1) := by decide +kernel
theorem dJ7_copyOf_6403c_29 : decode cJ7_copyOf_6403c 29 = .ok (.aload_n 0, 1) := by decide +kernel
theorem dJ7_copyOf_6403c_30 : decode cJ7_copyOf_6403c 30 = .ok (.arraylength, 1) := by decide +kernel
theorem dJ7_copyOf_6403c_31 : decode cJ7_copyOf_6403c 31 = .ok (.iload_n 1, 1) := by decide +kernel
theorem dJ7_copyOf_6403c_32 : decode cJ7_copyOf_6403c 32 = .ok (.invokestatic 304, 3) := by decide +kernel
theorem dJ7_copyOf_6403c_35 : decode cJ7_copyOf_6403c 35 = .ok (.invokestatic 150, 3) := by decide +kernel
theorem dJ7_copyOf_6403c_38 : decode cJ7_copyOf_6403c 38 = .ok (.aload_n 3, 1) := by decide +kernel
theorem dJ7_copyOf_6403c_39 : decode cJ7_copyOf_6403c 39 = .ok (.areturn, 1) := by decide +kernel
theorem dJ15_checkIndex_7cf53_0 : decode cJ15_checkIndex_7cf53 0 = .ok (.iload_n 0, 1) := by decide +kernel
theorem dJ15_checkIndex_7cf53_1 : decode cJ15_checkIndex_7cf53 1 = .ok (.iload_n 1, 1) := by decide +kernel
theorem dJ15_checkIndex_7cf53_2 : decode cJ15_checkIndex_7cf53 2 = .ok (.aconst_null, 1) := by decide +kernel
theorem dJ15_checkIndex_7cf53_3 : decode cJ15_checkIndex_7cf53 3 = .ok (.invokestatic 105, 3) := by decide +kernel
theorem dJ15_checkIndex_7cf53_6 : decode cJ15_checkIndex_7cf53 6 = .ok (.ireturn, 1) := by decide +kernel
theorem dJ8_newLength_cabcc_0 : decode cJ8_newLength_cabcc 0 = .ok (.iload_n 0, 1) := by decide +kernel
theorem dJ8_newLength_cabcc_1 : decode cJ8_newLength_cabcc 1 = .ok (.iload_n 1, 1) := by decide +kernel
theorem dJ8_newLength_cabcc_2 : decode cJ8_newLength_cabcc 2 = .ok (.iload_n 2, 1) := by decide +kernel
theorem dJ8_newLength_cabcc_3 : decode cJ8_newLength_cabcc 3 = .ok (.invokestatic 194, 3) := by decide +kernel
theorem dJ8_newLength_cabcc_6 : decode cJ8_newLength_cabcc 6 = .ok (.iadd, 1) := by decide +kernel
theorem dJ8_newLength_cabcc_7 : decode cJ8_newLength_cabcc 7 = .ok (.istore_n 3, 1) := by decide +kernel
theorem dJ8_newLength_cabcc_8 : decode cJ8_newLength_cabcc 8 = .ok (.iconst 0, 1) := by decide +kernel
theorem dJ8_newLength_cabcc_9 : decode cJ8_newLength_cabcc 9 = .ok (.iload_n 3, 1) := by decide +kernel
theorem dJ8_newLength_cabcc_10 : decode cJ8_newLength_cabcc 10 = .ok (.if_icmp .ge 11, 3) := by decide +kernel
theorem dJ8_newLength_cabcc_13 : decode cJ8_newLength_cabcc 13 = .ok (.iload_n 3, 1) := by decide +kernel
theorem dJ8_newLength_cabcc_14 : decode cJ8_newLength_cabcc 14 = .ok (.ldc 200, 2) := by decide +kernel
theorem dJ8_newLength_cabcc_16 : decode cJ8_newLength_cabcc 16 = .ok (.if_icmp .gt 5, 3) := by decide +kernel
theorem dJ8_newLength_cabcc_19 : decode cJ8_newLength_cabcc 19 = .ok (.iload_n 3, 1) := by decide +kernel
theorem dJ8_newLength_cabcc_20 : decode cJ8_newLength_cabcc 20 = .ok (.ireturn, 1) := by decide +kernel
theorem dJ8_newLength_cabcc_21 : decode cJ8_newLength_cabcc 21 = .ok (.iload_n 0, 1) := by decide +kernel
theorem dJ8_newLength_cabcc_22 : decode cJ8_newLength_cabcc 22 = .ok (.iload_n 1, 1) := by decide +kernel
theorem dJ8_newLength_cabcc_23 : decode cJ8_newLength_cabcc 23 = .ok (.invokestatic 201, 3) := by decide +kernel
theorem dJ8_newLength_cabcc_26 : decode cJ8_newLength_cabcc 26 = .ok (.ireturn, 1) := by decide +kernel
theorem dJ8_hugeLength_7cf53_0 : decode cJ8_hugeLength_7cf53 0 = .ok (.iload_n 0, 1) := by decide +kernel
theorem dJ8_hugeLength_7cf53_1 : decode cJ8_hugeLength_7cf53 1 = .ok (.iload_n 1, 1) := by decide +kernel
theorem dJ8_hugeLength_7cf53_2 : decode cJ8_hugeLength_7cf53 2 = .ok (.iadd, 1) := by decide +kernel
theorem dJ8_hugeLength_7cf53_3 : decode cJ8_hugeLength_7cf53 3 = .ok (.istore_n 2, 1) := by decide +kernel
theorem dJ8_hugeLength_7cf53_4 : decode cJ8_hugeLength_7cf53 4 = .ok (.iload_n 2, 1) := by decide +kernel
theorem dJ8_hugeLength_7cf53_5 : decode cJ8_hugeLength_7cf53 5 = .ok (.ifCond .ge 44, 3) := by decide +kernel
theorem dJ8_hugeLength_7cf53_8 : decode cJ8_hugeLength_7cf53 8 = .ok (.new 204, 3) := by decide +kernel
theorem dJ8_hugeLength_7cf53_11 : decode cJ8_hugeLength_7cf53 11 = .ok (.dup, 1) := by decide +kernel
theorem dJ8_hugeLength_7cf53_12 : decode cJ8_hugeLength_7cf53 12 = .ok (.new 89, 3) := by decide +kernel
theorem dJ8_hugeLength_7cf53_15 : decode cJ8_hugeLength_7cf53 15 = .ok (.dup, 1) := by decide +kernel
theorem dJ8_hugeLength_7cf53_16 : decode cJ8_hugeLength_7cf53 16 = .ok (.invokespecial 91, 3) := by decide +kernel
theorem dJ8_hugeLength_7cf53_19 : decode cJ8_hugeLength_7cf53 19 = .ok (.ldc 206, 2) := by decide +kernel
theorem dJ8_hugeLength_7cf53_21 : decode cJ8_hugeLength_7cf53 21 = .ok (.invokevirtual 94, 3) := by decide +kernel
theorem dJ8_hugeLength_7cf53_24 : decode cJ8_hugeLength_7cf53 24 = .ok (.iload_n 0, 1) := by decide +kernel
theorem dJ8_hugeLength_7cf53_25 : decode cJ8_hugeLength_7cf53 25 = .ok (.invokevirtual 98, 3) := by decide +kernel
theorem dJ8_hugeLength_7cf53_28 : decode cJ8_hugeLength_7cf53 28 = .ok (.ldc 208, 2) := by decide +kernel
theorem dJ8_hugeLength_7cf53_30 : decode cJ8_hugeLength_7cf53 30 = .ok (.invokevirtual 94, 3) := by decide +kernel
theorem dJ8_hugeLength_7cf53_33 : decode cJ8_hugeLength_7cf53 33 = .ok (.iload_n 1, 1) := by decide +kernel
theorem dJ8_hugeLength_7cf53_34 : decode cJ8_hugeLength_7cf53 34 = .ok (.invokevirtual 98, 3) := by decide +kernel
theorem dJ8_hugeLength_7cf53_37 : decode cJ8_hugeLength_7cf53 37 = .ok (.ldc 210, 2) := by decide +kernel
theorem dJ8_hugeLength_7cf53_39 : decode cJ8_hugeLength_7cf53 39 = .ok (.invokevirtual 94, 3) := by decide +kernel
theorem dJ8_hugeLength_7cf53_42 : decode cJ8_hugeLength_7cf53 42 = .ok (.invokevirtual 101, 3) := by decide +kernel
theorem dJ8_hugeLength_7cf53_45 : decode cJ8_hugeLength_7cf53 45 = .ok (.invokespecial 212, 3) := by decide +kernel
theorem dJ8_hugeLength_7cf53_48 : decode cJ8_hugeLength_7cf53 48 = .ok (.athrow, 1) := by decide +kernel
theorem dJ8_hugeLength_7cf53_49 : decode cJ8_hugeLength_7cf53 49 = .ok (.iload_n 2, 1) := by decide +kernel
theorem dJ8_hugeLength_7cf53_50 : decode cJ8_hugeLength_7cf53 50 = .ok (.ldc 200, 2) := by decide +kernel
theorem dJ8_hugeLength_7cf53_52 : decode cJ8_hugeLength_7cf53 52 = .ok (.if_icmp .gt 6, 3) := by decide +kernel
theorem dJ8_hugeLength_7cf53_55 : decode cJ8_hugeLength_7cf53 55 = .ok (.ldc 200, 2) := by decide +kernel
theorem dJ8_hugeLength_7cf53_57 : decode cJ8_hugeLength_7cf53 57 = .ok (.ireturn, 1) := by decide +kernel
theorem dJ8_hugeLength_7cf53_58 : decode cJ8_hugeLength_7cf53 58 = .ok (.iload_n 2, 1) := by decide +kernel
theorem dJ8_hugeLength_7cf53_59 : decode cJ8_hugeLength_7cf53 59 = .ok (.ireturn, 1) := by decide +kernel
theorem dJ3_checkIndex_8e157_0 : decode cJ3_checkIndex_8e157 0 = .ok (.iload_n 0, 1) := by decide +kernel
theorem dJ3_checkIndex_8e157_1 : decode cJ3_checkIndex_8e157 1 = .ok (.ifCond .lt 8, 3) := by decide +kernel
theorem dJ3_checkIndex_8e157_4 : decode cJ3_checkIndex_8e157 4 = .ok (.iload_n 0, 1) := by decide +kernel
theorem dJ3_checkIndex_8e157_5 : decode cJ3_checkIndex_8e157 5 = .ok (.iload_n 1, 1) := by decide +kernel
theorem dJ3_checkIndex_8e157_6 : decode cJ3_checkIndex_8e157 6 = .ok (.if_icmp .lt 10, 3) := by decide +kernel
theorem dJ3_checkIndex_8e157_9 : decode cJ3_checkIndex_8e157 9 = .ok (.aload_n 2, 1) := by decide +kernel
theorem dJ3_checkIndex_8e157_10 : decode cJ3_checkIndex_8e157 10 = .ok (.iload_n 0, 1) := by decide +kernel
theorem dJ3_checkIndex_8e157_11 : decode cJ3_checkIndex_8e157 11 = .ok (.iload_n 1, 1) := by decide +kernel
theorem dJ3_checkIndex_8e157_12 : decode cJ3_checkIndex_8e157 12 = .ok (.invokestatic 95, 3) := by decide +kernel
theorem dJ3_checkIndex_8e157_15 : decode cJ3_checkIndex_8e157 15 = .ok (.athrow, 1) := by decide +kernel
theorem dJ3_checkIndex_8e157_16 : decode cJ3_checkIndex_8e157 16 = .ok (.iload_n 0, 1) := by decide +kernel
theorem dJ3_checkIndex_8e157_17 : decode cJ3_checkIndex_8e157 17 = .ok (.ireturn, 1) := by decide +kernel
theorem dL_promise_0 : decode cL_promise 0 = .ok (.aload_n 2, 1) := by decide +kernel
theorem dL_promise_1 : decode cL_promise 1 = .ok (.iconst 0, 1) := by decide +kernel
theorem dL_promise_2 : decode cL_promise 2 = .ok (.aload_n 0, 1) := by decide +kernel
