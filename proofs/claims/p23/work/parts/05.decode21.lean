theorem dX3_seedsWithRemainder_2 : decode cX3_seedsWithRemainder 2 = .ok (.iload_n 0, 1) := by decide +kernel
theorem dX3_seedsWithRemainder_3 : decode cX3_seedsWithRemainder 3 = .ok (.isub, 1) := by decide +kernel
theorem dX3_seedsWithRemainder_4 : decode cX3_seedsWithRemainder 4 = .ok (.sipush 10007, 3) := by decide +kernel
theorem dX3_seedsWithRemainder_7 : decode cX3_seedsWithRemainder 7 = .ok (.idiv, 1) := by decide +kernel
theorem dX3_seedsWithRemainder_8 : decode cX3_seedsWithRemainder 8 = .ok (.iconst 1, 1) := by decide +kernel
theorem dX3_seedsWithRemainder_9 : decode cX3_seedsWithRemainder 9 = .ok (.iadd, 1) := by decide +kernel
theorem dX3_seedsWithRemainder_10 : decode cX3_seedsWithRemainder 10 = .ok (.ireturn, 1) := by decide +kernel
theorem dX3_lastSum_0 : decode cX3_lastSum 0 = .ok (.aload_n 0, 1) := by decide +kernel
theorem dX3_lastSum_1 : decode cX3_lastSum 1 = .ok (.getfield 16, 3) := by decide +kernel
theorem dX3_lastSum_4 : decode cX3_lastSum 4 = .ok (.invokevirtual 189, 3) := by decide +kernel
theorem dX3_lastSum_7 : decode cX3_lastSum 7 = .ok (.ifCond .eq 8, 3) := by decide +kernel
theorem dX3_lastSum_10 : decode cX3_lastSum 10 = .ok (.bipush 17, 2) := by decide +kernel
theorem dX3_lastSum_12 : decode cX3_lastSum 12 = .ok (.goto 25, 3) := by decide +kernel
theorem dX3_lastSum_15 : decode cX3_lastSum 15 = .ok (.aload_n 0, 1) := by decide +kernel
theorem dX3_lastSum_16 : decode cX3_lastSum 16 = .ok (.getfield 16, 3) := by decide +kernel
theorem dX3_lastSum_19 : decode cX3_lastSum 19 = .ok (.aload_n 0, 1) := by decide +kernel
theorem dX3_lastSum_20 : decode cX3_lastSum 20 = .ok (.getfield 16, 3) := by decide +kernel
theorem dX3_lastSum_23 : decode cX3_lastSum 23 = .ok (.invokevirtual 34, 3) := by decide +kernel
theorem dX3_lastSum_26 : decode cX3_lastSum 26 = .ok (.iconst 1, 1) := by decide +kernel
theorem dX3_lastSum_27 : decode cX3_lastSum 27 = .ok (.isub, 1) := by decide +kernel
theorem dX3_lastSum_28 : decode cX3_lastSum 28 = .ok (.invokevirtual 141, 3) := by decide +kernel
theorem dX3_lastSum_31 : decode cX3_lastSum 31 = .ok (.checkcast 92, 3) := by decide +kernel
theorem dX3_lastSum_34 : decode cX3_lastSum 34 = .ok (.getfield 122, 3) := by decide +kernel
theorem dX3_lastSum_37 : decode cX3_lastSum 37 = .ok (.ireturn, 1) := by decide +kernel
theorem dX3_firstWrong_0 : decode cX3_firstWrong 0 = .ok (.new 105, 3) := by decide +kernel
theorem dX3_firstWrong_3 : decode cX3_firstWrong 3 = .ok (.dup, 1) := by decide +kernel
theorem dX3_firstWrong_4 : decode cX3_firstWrong 4 = .ok (.iload_n 2, 1) := by decide +kernel
theorem dX3_firstWrong_5 : decode cX3_firstWrong 5 = .ok (.invokespecial 151, 3) := by decide +kernel
theorem dX3_firstWrong_8 : decode cX3_firstWrong 8 = .ok (.astore_n 3, 1) := by decide +kernel
theorem dX3_firstWrong_9 : decode cX3_firstWrong 9 = .ok (.iconst 0, 1) := by decide +kernel
theorem dX3_firstWrong_10 : decode cX3_firstWrong 10 = .ok (.istore 4, 2) := by decide +kernel
theorem dX3_firstWrong_12 : decode cX3_firstWrong 12 = .ok (.iload 4, 2) := by decide +kernel
theorem dX3_firstWrong_14 : decode cX3_firstWrong 14 = .ok (.aload_n 0, 1) := by decide +kernel
theorem dX3_firstWrong_15 : decode cX3_firstWrong 15 = .ok (.getfield 16, 3) := by decide +kernel
theorem dX3_firstWrong_18 : decode cX3_firstWrong 18 = .ok (.invokevirtual 34, 3) := by decide +kernel
theorem dX3_firstWrong_21 : decode cX3_firstWrong 21 = .ok (.if_icmp .ge 57, 3) := by decide +kernel
theorem dX3_firstWrong_24 : decode cX3_firstWrong 24 = .ok (.aload_n 0, 1) := by decide +kernel
theorem dX3_firstWrong_25 : decode cX3_firstWrong 25 = .ok (.getfield 16, 3) := by decide +kernel
theorem dX3_firstWrong_28 : decode cX3_firstWrong 28 = .ok (.iload 4, 2) := by decide +kernel
theorem dX3_firstWrong_30 : decode cX3_firstWrong 30 = .ok (.invokevirtual 141, 3) := by decide +kernel
theorem dX3_firstWrong_33 : decode cX3_firstWrong 33 = .ok (.checkcast 92, 3) := by decide +kernel
theorem dX3_firstWrong_36 : decode cX3_firstWrong 36 = .ok (.astore 5, 2) := by decide +kernel
theorem dX3_firstWrong_38 : decode cX3_firstWrong 38 = .ok (.aload 5, 2) := by decide +kernel
theorem dX3_firstWrong_40 : decode cX3_firstWrong 40 = .ok (.getfield 145, 3) := by decide +kernel
theorem dX3_firstWrong_43 : decode cX3_firstWrong 43 = .ok (.iload_n 1, 1) := by decide +kernel
theorem dX3_firstWrong_44 : decode cX3_firstWrong 44 = .ok (.if_icmp .ne 28, 3) := by decide +kernel
theorem dX3_firstWrong_47 : decode cX3_firstWrong 47 = .ok (.aload 5, 2) := by decide +kernel
theorem dX3_firstWrong_49 : decode cX3_firstWrong 49 = .ok (.getfield 109, 3) := by decide +kernel
theorem dX3_firstWrong_52 : decode cX3_firstWrong 52 = .ok (.aload_n 3, 1) := by decide +kernel
theorem dX3_firstWrong_53 : decode cX3_firstWrong 53 = .ok (.aload 5, 2) := by decide +kernel
theorem dX3_firstWrong_55 : decode cX3_firstWrong 55 = .ok (.getfield 101, 3) := by decide +kernel
theorem dX3_firstWrong_58 : decode cX3_firstWrong 58 = .ok (.aload 5, 2) := by decide +kernel
theorem dX3_firstWrong_60 : decode cX3_firstWrong 60 = .ok (.getfield 129, 3) := by decide +kernel
theorem dX3_firstWrong_63 : decode cX3_firstWrong 63 = .ok (.invokevirtual 104, 3) := by decide +kernel
theorem dX3_firstWrong_66 : decode cX3_firstWrong 66 = .ok (.if_icmp .eq 6, 3) := by decide +kernel
theorem dX3_firstWrong_69 : decode cX3_firstWrong 69 = .ok (.iload 4, 2) := by decide +kernel
theorem dX3_firstWrong_71 : decode cX3_firstWrong 71 = .ok (.ireturn, 1) := by decide +kernel
theorem dX3_firstWrong_72 : decode cX3_firstWrong 72 = .ok (.iinc 4 1, 3) := by decide +kernel
theorem dX3_firstWrong_75 : decode cX3_firstWrong 75 = .ok (.goto (-63), 3) := by decide +kernel
theorem dX3_firstWrong_78 : decode cX3_firstWrong 78 = .ok (.iconst (-1), 1) := by decide +kernel
theorem dX3_firstWrong_79 : decode cX3_firstWrong 79 = .ok (.ireturn, 1) := by decide +kernel
theorem dX3_strikeFrom_0 : decode cX3_strikeFrom 0 = .ok (.iconst 0, 1) := by decide +kernel
theorem dX3_strikeFrom_1 : decode cX3_strikeFrom 1 = .ok (.istore_n 3, 1) := by decide +kernel
theorem dX3_strikeFrom_2 : decode cX3_strikeFrom 2 = .ok (.iload_n 1, 1) := by decide +kernel
theorem dX3_strikeFrom_3 : decode cX3_strikeFrom 3 = .ok (.iconst 0, 1) := by decide +kernel
theorem dX3_strikeFrom_4 : decode cX3_strikeFrom 4 = .ok (.invokestatic 193, 3) := by decide +kernel
theorem dX3_strikeFrom_7 : decode cX3_strikeFrom 7 = .ok (.istore 4, 2) := by decide +kernel
theorem dX3_strikeFrom_9 : decode cX3_strikeFrom 9 = .ok (.iload 4, 2) := by decide +kernel
theorem dX3_strikeFrom_11 : decode cX3_strikeFrom 11 = .ok (.aload_n 0, 1) := by decide +kernel
theorem dX3_strikeFrom_12 : decode cX3_strikeFrom 12 = .ok (.getfield 16, 3) := by decide +kernel
theorem dX3_strikeFrom_15 : decode cX3_strikeFrom 15 = .ok (.invokevirtual 34, 3) := by decide +kernel
theorem dX3_strikeFrom_18 : decode cX3_strikeFrom 18 = .ok (.if_icmp .ge 41, 3) := by decide +kernel
theorem dX3_strikeFrom_21 : decode cX3_strikeFrom 21 = .ok (.aload_n 0, 1) := by decide +kernel
theorem dX3_strikeFrom_22 : decode cX3_strikeFrom 22 = .ok (.getfield 16, 3) := by decide +kernel
theorem dX3_strikeFrom_25 : decode cX3_strikeFrom 25 = .ok (.iload 4, 2) := by decide +kernel
theorem dX3_strikeFrom_27 : decode cX3_strikeFrom 27 = .ok (.invokevirtual 141, 3) := by decide +kernel
theorem dX3_strikeFrom_30 : decode cX3_strikeFrom 30 = .ok (.checkcast 92, 3) := by decide +kernel
theorem dX3_strikeFrom_33 : decode cX3_strikeFrom 33 = .ok (.astore 5, 2) := by decide +kernel
theorem dX3_strikeFrom_35 : decode cX3_strikeFrom 35 = .ok (.aload 5, 2) := by decide +kernel
theorem dX3_strikeFrom_37 : decode cX3_strikeFrom 37 = .ok (.getfield 145, 3) := by decide +kernel
theorem dX3_strikeFrom_40 : decode cX3_strikeFrom 40 = .ok (.iload_n 2, 1) := by decide +kernel
theorem dX3_strikeFrom_41 : decode cX3_strikeFrom 41 = .ok (.if_icmp .ne 12, 3) := by decide +kernel
theorem dX3_strikeFrom_44 : decode cX3_strikeFrom 44 = .ok (.aload 5, 2) := by decide +kernel
theorem dX3_strikeFrom_46 : decode cX3_strikeFrom 46 = .ok (.iconst 1, 1) := by decide +kernel
theorem dX3_strikeFrom_47 : decode cX3_strikeFrom 47 = .ok (.putfield 136, 3) := by decide +kernel
theorem dX3_strikeFrom_50 : decode cX3_strikeFrom 50 = .ok (.iinc 3 1, 3) := by decide +kernel
theorem dX3_strikeFrom_53 : decode cX3_strikeFrom 53 = .ok (.iinc 4 1, 3) := by decide +kernel
theorem dX3_strikeFrom_56 : decode cX3_strikeFrom 56 = .ok (.goto (-47), 3) := by decide +kernel
theorem dX3_strikeFrom_59 : decode cX3_strikeFrom 59 = .ok (.iload_n 3, 1) := by decide +kernel
theorem dX3_strikeFrom_60 : decode cX3_strikeFrom 60 = .ok (.ireturn, 1) := by decide +kernel
theorem dX3_tallyValues_0 : decode cX3_tallyValues 0 = .ok (.aload_n 0, 1) := by decide +kernel
theorem dX3_tallyValues_1 : decode cX3_tallyValues 1 = .ok (.getfield 23, 3) := by decide +kernel
theorem dX3_tallyValues_4 : decode cX3_tallyValues 4 = .ok (.iconst 0, 1) := by decide +kernel
theorem dX3_tallyValues_5 : decode cX3_tallyValues 5 = .ok (.invokestatic 196, 3) := by decide +kernel
theorem dX3_tallyValues_8 : decode cX3_tallyValues 8 = .ok (.iconst 0, 1) := by decide +kernel
theorem dX3_tallyValues_9 : decode cX3_tallyValues 9 = .ok (.istore_n 2, 1) := by decide +kernel
theorem dX3_tallyValues_10 : decode cX3_tallyValues 10 = .ok (.iconst 0, 1) := by decide +kernel
theorem dX3_tallyValues_11 : decode cX3_tallyValues 11 = .ok (.istore_n 3, 1) := by decide +kernel
theorem dX3_tallyValues_12 : decode cX3_tallyValues 12 = .ok (.iload_n 3, 1) := by decide +kernel
theorem dX3_tallyValues_13 : decode cX3_tallyValues 13 = .ok (.aload_n 0, 1) := by decide +kernel
theorem dX3_tallyValues_14 : decode cX3_tallyValues 14 = .ok (.getfield 16, 3) := by decide +kernel
theorem dX3_tallyValues_17 : decode cX3_tallyValues 17 = .ok (.invokevirtual 34, 3) := by decide +kernel
theorem dX3_tallyValues_20 : decode cX3_tallyValues 20 = .ok (.if_icmp .ge 69, 3) := by decide +kernel
theorem dX3_tallyValues_23 : decode cX3_tallyValues 23 = .ok (.aload_n 0, 1) := by decide +kernel
theorem dX3_tallyValues_24 : decode cX3_tallyValues 24 = .ok (.getfield 16, 3) := by decide +kernel
theorem dX3_tallyValues_27 : decode cX3_tallyValues 27 = .ok (.iload_n 3, 1) := by decide +kernel
theorem dX3_tallyValues_28 : decode cX3_tallyValues 28 = .ok (.invokevirtual 141, 3) := by decide +kernel
theorem dX3_tallyValues_31 : decode cX3_tallyValues 31 = .ok (.checkcast 92, 3) := by decide +kernel
theorem dX3_tallyValues_34 : decode cX3_tallyValues 34 = .ok (.astore 4, 2) := by decide +kernel
theorem dX3_tallyValues_36 : decode cX3_tallyValues 36 = .ok (.aload 4, 2) := by decide +kernel
theorem dX3_tallyValues_38 : decode cX3_tallyValues 38 = .ok (.iload_n 1, 1) := by decide +kernel
theorem dX3_tallyValues_39 : decode cX3_tallyValues 39 = .ok (.invokevirtual 163, 3) := by decide +kernel
theorem dX3_tallyValues_42 : decode cX3_tallyValues 42 = .ok (.ifCond .eq 41, 3) := by decide +kernel
theorem dX3_tallyValues_45 : decode cX3_tallyValues 45 = .ok (.aload 4, 2) := by decide +kernel
theorem dX3_tallyValues_47 : decode cX3_tallyValues 47 = .ok (.getfield 109, 3) := by decide +kernel
theorem dX3_tallyValues_50 : decode cX3_tallyValues 50 = .ok (.ifCond .lt 33, 3) := by decide +kernel
theorem dX3_tallyValues_53 : decode cX3_tallyValues 53 = .ok (.aload 4, 2) := by decide +kernel
theorem dX3_tallyValues_55 : decode cX3_tallyValues 55 = .ok (.getfield 109, 3) := by decide +kernel
theorem dX3_tallyValues_58 : decode cX3_tallyValues 58 = .ok (.aload_n 0, 1) := by decide +kernel
theorem dX3_tallyValues_59 : decode cX3_tallyValues 59 = .ok (.getfield 23, 3) := by decide +kernel
theorem dX3_tallyValues_62 : decode cX3_tallyValues 62 = .ok (.arraylength, 1) := by decide +kernel
theorem dX3_tallyValues_63 : decode cX3_tallyValues 63 = .ok (.if_icmp .ge 20, 3) := by decide +kernel
theorem dX3_tallyValues_66 : decode cX3_tallyValues 66 = .ok (.aload_n 0, 1) := by decide +kernel
theorem dX3_tallyValues_67 : decode cX3_tallyValues 67 = .ok (.getfield 23, 3) := by decide +kernel
theorem dX3_tallyValues_70 : decode cX3_tallyValues 70 = .ok (.aload 4, 2) := by decide +kernel
theorem dX3_tallyValues_72 : decode cX3_tallyValues 72 = .ok (.getfield 109, 3) := by decide +kernel
theorem dX3_tallyValues_75 : decode cX3_tallyValues 75 = .ok (.dup2, 1) := by decide +kernel
theorem dX3_tallyValues_76 : decode cX3_tallyValues 76 = .ok (.iaload, 1) := by decide +kernel
theorem dX3_tallyValues_77 : decode cX3_tallyValues 77 = .ok (.iconst 1, 1) := by decide +kernel
theorem dX3_tallyValues_78 : decode cX3_tallyValues 78 = .ok (.iadd, 1) := by decide +kernel
theorem dX3_tallyValues_79 : decode cX3_tallyValues 79 = .ok (.iastore, 1) := by decide +kernel
theorem dX3_tallyValues_80 : decode cX3_tallyValues 80 = .ok (.iinc 2 1, 3) := by decide +kernel
theorem dX3_tallyValues_83 : decode cX3_tallyValues 83 = .ok (.iinc 3 1, 3) := by decide +kernel
theorem dX3_tallyValues_86 : decode cX3_tallyValues 86 = .ok (.goto (-74), 3) := by decide +kernel
theorem dX3_tallyValues_89 : decode cX3_tallyValues 89 = .ok (.iload_n 2, 1) := by decide +kernel
theorem dX3_tallyValues_90 : decode cX3_tallyValues 90 = .ok (.ireturn, 1) := by decide +kernel
theorem dJ9_floorMod_7cf53_0 : decode cJ9_floorMod_7cf53 0 = .ok (.iload_n 0, 1) := by decide +kernel
theorem dJ9_floorMod_7cf53_1 : decode cJ9_floorMod_7cf53 1 = .ok (.iload_n 1, 1) := by decide +kernel
theorem dJ9_floorMod_7cf53_2 : decode cJ9_floorMod_7cf53 2 = .ok (.irem, 1) := by decide +kernel
theorem dJ9_floorMod_7cf53_3 : decode cJ9_floorMod_7cf53 3 = .ok (.istore_n 2, 1) := by decide +kernel
theorem dJ9_floorMod_7cf53_4 : decode cJ9_floorMod_7cf53 4 = .ok (.iload_n 0, 1) := by decide +kernel
theorem dJ9_floorMod_7cf53_5 : decode cJ9_floorMod_7cf53 5 = .ok (.iload_n 1, 1) := by decide +kernel
theorem dJ9_floorMod_7cf53_6 : decode cJ9_floorMod_7cf53 6 = .ok (.ixor, 1) := by decide +kernel
theorem dJ9_floorMod_7cf53_7 : decode cJ9_floorMod_7cf53 7 = .ok (.ifCond .ge 11, 3) := by decide +kernel
theorem dJ9_floorMod_7cf53_10 : decode cJ9_floorMod_7cf53 10 = .ok (.iload_n 2, 1) := by decide +kernel
theorem dJ9_floorMod_7cf53_11 : decode cJ9_floorMod_7cf53 11 = .ok (.ifCond .eq 7, 3) := by decide +kernel
theorem dJ9_floorMod_7cf53_14 : decode cJ9_floorMod_7cf53 14 = .ok (.iload_n 2, 1) := by decide +kernel
theorem dJ9_floorMod_7cf53_15 : decode cJ9_floorMod_7cf53 15 = .ok (.iload_n 1, 1) := by decide +kernel
theorem dJ9_floorMod_7cf53_16 : decode cJ9_floorMod_7cf53 16 = .ok (.iadd, 1) := by decide +kernel
theorem dJ9_floorMod_7cf53_17 : decode cJ9_floorMod_7cf53 17 = .ok (.ireturn, 1) := by decide +kernel
theorem dJ9_floorMod_7cf53_18 : decode cJ9_floorMod_7cf53 18 = .ok (.iload_n 2, 1) := by decide +kernel
theorem dJ9_floorMod_7cf53_19 : decode cJ9_floorMod_7cf53 19 = .ok (.ireturn, 1) := by decide +kernel
theorem dJ9_max_7cf53_0 : decode cJ9_max_7cf53 0 = .ok (.iload_n 0, 1) := by decide +kernel
theorem dJ9_max_7cf53_1 : decode cJ9_max_7cf53 1 = .ok (.iload_n 1, 1) := by decide +kernel
theorem dJ9_max_7cf53_2 : decode cJ9_max_7cf53 2 = .ok (.if_icmp .lt 7, 3) := by decide +kernel
theorem dJ9_max_7cf53_5 : decode cJ9_max_7cf53 5 = .ok (.iload_n 0, 1) := by decide +kernel
theorem dJ9_max_7cf53_6 : decode cJ9_max_7cf53 6 = .ok (.goto 4, 3) := by decide +kernel
theorem dJ9_max_7cf53_9 : decode cJ9_max_7cf53 9 = .ok (.iload_n 1, 1) := by decide +kernel
theorem dJ9_max_7cf53_10 : decode cJ9_max_7cf53 10 = .ok (.ireturn, 1) := by decide +kernel
theorem dJ9_min_7cf53_0 : decode cJ9_min_7cf53 0 = .ok (.iload_n 0, 1) := by decide +kernel
theorem dJ9_min_7cf53_1 : decode cJ9_min_7cf53 1 = .ok (.iload_n 1, 1) := by decide +kernel
theorem dJ9_min_7cf53_2 : decode cJ9_min_7cf53 2 = .ok (.if_icmp .gt 7, 3) := by decide +kernel
theorem dJ9_min_7cf53_5 : decode cJ9_min_7cf53 5 = .ok (.iload_n 0, 1) := by decide +kernel
theorem dJ9_min_7cf53_6 : decode cJ9_min_7cf53 6 = .ok (.goto 4, 3) := by decide +kernel
theorem dJ9_min_7cf53_9 : decode cJ9_min_7cf53 9 = .ok (.iload_n 1, 1) := by decide +kernel
theorem dJ9_min_7cf53_10 : decode cJ9_min_7cf53 10 = .ok (.ireturn, 1) := by decide +kernel
theorem dJxa1e45_init_da8c8_0 : decode cJxa1e45_init_da8c8 0 = .ok (.aload_n 0, 1) := by decide +kernel
theorem dJxa1e45_init_da8c8_1 : decode cJxa1e45_init_da8c8 1 = .ok (.invokespecial 1, 3) := by decide +kernel
theorem dJxa1e45_init_da8c8_4 : decode cJxa1e45_init_da8c8 4 = .ok (.return_, 1) := by decide +kernel
theorem dJxc12de_init_da8c8_0 : decode cJxc12de_init_da8c8 0 = .ok (.aload_n 0, 1) := by decide +kernel
theorem dJxc12de_init_da8c8_1 : decode cJxc12de_init_da8c8 1 = .ok (.invokespecial 1, 3) := by decide +kernel
theorem dJxc12de_init_da8c8_4 : decode cJxc12de_init_da8c8 4 = .ok (.aload_n 0, 1) := by decide +kernel
theorem dJxc12de_init_da8c8_5 : decode cJxc12de_init_da8c8 5 = .ok (.iconst 0, 1) := by decide +kernel
theorem dJxc12de_init_da8c8_6 : decode cJxc12de_init_da8c8 6 = .ok (.putfield 7, 3) := by decide +kernel
theorem dJxc12de_init_da8c8_9 : decode cJxc12de_init_da8c8 9 = .ok (.return_, 1) := by decide +kernel
theorem dJx4a65c_init_da8c8_0 : decode cJx4a65c_init_da8c8 0 = .ok (.aload_n 0, 1) := by decide +kernel
theorem dJx4a65c_init_da8c8_1 : decode cJx4a65c_init_da8c8 1 = .ok (.invokespecial 1, 3) := by decide +kernel
theorem dJx4a65c_init_da8c8_4 : decode cJx4a65c_init_da8c8 4 = .ok (.aload_n 0, 1) := by decide +kernel
theorem dJx4a65c_init_da8c8_5 : decode cJx4a65c_init_da8c8 5 = .ok (.getstatic 39, 3) := by decide +kernel
theorem dJx4a65c_init_da8c8_8 : decode cJx4a65c_init_da8c8 8 = .ok (.putfield 9, 3) := by decide +kernel
theorem dJx4a65c_init_da8c8_11 : decode cJx4a65c_init_da8c8 11 = .ok (.return_, 1) := by decide +kernel
theorem dJx4a65c_grow_92f84_0 : decode cJx4a65c_grow_92f84 0 = .ok (.aload_n 0, 1) := by decide +kernel
theorem dJx4a65c_grow_92f84_1 : decode cJx4a65c_grow_92f84 1 = .ok (.getfield 9, 3) := by decide +kernel
theorem dJx4a65c_grow_92f84_4 : decode cJx4a65c_grow_92f84 4 = .ok (.arraylength, 1) := by decide +kernel
theorem dJx4a65c_grow_92f84_5 : decode cJx4a65c_grow_92f84 5 = .ok (.istore_n 2, 1) := by decide +kernel
theorem dJx4a65c_grow_92f84_6 : decode cJx4a65c_grow_92f84 6 = .ok (.iload_n 2, 1) := by decide +kernel
theorem dJx4a65c_grow_92f84_7 : decode cJx4a65c_grow_92f84 7 = .ok (.ifCond .gt 13, 3) := by decide +kernel
theorem dJx4a65c_grow_92f84_10 : decode cJx4a65c_grow_92f84 10 = .ok (.aload_n 0, 1) := by decide +kernel
theorem dJx4a65c_grow_92f84_11 : decode cJx4a65c_grow_92f84 11 = .ok (.getfield 9, 3) := by decide +kernel
theorem dJx4a65c_grow_92f84_14 : decode cJx4a65c_grow_92f84 14 = .ok (.getstatic 39, 3) := by decide +kernel
theorem dJx4a65c_grow_92f84_17 : decode cJx4a65c_grow_92f84 17 = .ok (.if_acmp .eq 28, 3) := by decide +kernel
theorem dJx4a65c_grow_92f84_20 : decode cJx4a65c_grow_92f84 20 = .ok (.iload_n 2, 1) := by decide +kernel
theorem dJx4a65c_grow_92f84_21 : decode cJx4a65c_grow_92f84 21 = .ok (.iload_n 1, 1) := by decide +kernel
theorem dJx4a65c_grow_92f84_22 : decode cJx4a65c_grow_92f84 22 = .ok (.iload_n 2, 1) := by decide +kernel
theorem dJx4a65c_grow_92f84_23 : decode cJx4a65c_grow_92f84 23 = .ok (.isub, 1) := by decide +kernel
theorem dJx4a65c_grow_92f84_24 : decode cJx4a65c_grow_92f84 24 = .ok (.iload_n 2, 1) := by decide +kernel
theorem dJx4a65c_grow_92f84_25 : decode cJx4a65c_grow_92f84 25 = .ok (.iconst 1, 1) := by decide +kernel
theorem dJx4a65c_grow_92f84_26 : decode cJx4a65c_grow_92f84 26 = .ok (.ishr, 1) := by decide +kernel
theorem dJx4a65c_grow_92f84_27 : decode cJx4a65c_grow_92f84 27 = .ok (.invokestatic 73, 3) := by decide +kernel
theorem dJx4a65c_grow_92f84_30 : decode cJx4a65c_grow_92f84 30 = .ok (.istore_n 3, 1) := by decide +kernel
theorem dJx4a65c_grow_92f84_31 : decode cJx4a65c_grow_92f84 31 = .ok (.aload_n 0, 1) := by decide +kernel
theorem dJx4a65c_grow_92f84_32 : decode cJx4a65c_grow_92f84 32 = .ok (.aload_n 0, 1) := by decide +kernel
theorem dJx4a65c_grow_92f84_33 : decode cJx4a65c_grow_92f84 33 = .ok (.getfield 9, 3) := by decide +kernel
theorem dJx4a65c_grow_92f84_36 : decode cJx4a65c_grow_92f84 36 = .ok (.iload_n 3, 1) := by decide +kernel
theorem dJx4a65c_grow_92f84_37 : decode cJx4a65c_grow_92f84 37 = .ok (.invokestatic 66, 3) := by decide +kernel
theorem dJx4a65c_grow_92f84_40 : decode cJx4a65c_grow_92f84 40 = .ok (.dup_x1, 1) := by decide +kernel
theorem dJx4a65c_grow_92f84_41 : decode cJx4a65c_grow_92f84 41 = .ok (.putfield 9, 3) := by decide +kernel
theorem dJx4a65c_grow_92f84_44 : decode cJx4a65c_grow_92f84 44 = .ok (.areturn, 1) := by decide +kernel
theorem dJx4a65c_grow_92f84_45 : decode cJx4a65c_grow_92f84 45 = .ok (.aload_n 0, 1) := by decide +kernel
theorem dJx4a65c_grow_92f84_46 : decode cJx4a65c_grow_92f84 46 = .ok (.bipush 10, 2) := by decide +kernel
theorem dJx4a65c_grow_92f84_48 : decode cJx4a65c_grow_92f84 48 = .ok (.iload_n 1, 1) := by decide +kernel
theorem dJx4a65c_grow_92f84_49 : decode cJx4a65c_grow_92f84 49 = .ok (.invokestatic 79, 3) := by decide +kernel
theorem dJx4a65c_grow_92f84_52 : decode cJx4a65c_grow_92f84 52 = .ok (.anewarray 7, 3) := by decide +kernel
theorem dJx4a65c_grow_92f84_55 : decode cJx4a65c_grow_92f84 55 = .ok (.dup_x1, 1) := by decide +kernel
theorem dJx4a65c_grow_92f84_56 : decode cJx4a65c_grow_92f84 56 = .ok (.putfield 9, 3) := by decide +kernel
theorem dJx4a65c_grow_92f84_59 : decode cJx4a65c_grow_92f84 59 = .ok (.areturn, 1) := by decide +kernel
theorem dJx4a65c_grow_d5877_0 : decode cJx4a65c_grow_d5877 0 = .ok (.aload_n 0, 1) := by decide +kernel
theorem dJx4a65c_grow_d5877_1 : decode cJx4a65c_grow_d5877 1 = .ok (.aload_n 0, 1) := by decide +kernel
theorem dJx4a65c_grow_d5877_2 : decode cJx4a65c_grow_d5877 2 = .ok (.getfield 48, 3) := by decide +kernel
theorem dJx4a65c_grow_d5877_5 : decode cJx4a65c_grow_d5877 5 = .ok (.iconst 1, 1) := by decide +kernel
theorem dJx4a65c_grow_d5877_6 : decode cJx4a65c_grow_d5877 6 = .ok (.iadd, 1) := by decide +kernel
theorem dJx4a65c_grow_d5877_7 : decode cJx4a65c_grow_d5877 7 = .ok (.invokevirtual 69, 3) := by decide +kernel
theorem dJx4a65c_grow_d5877_10 : decode cJx4a65c_grow_d5877 10 = .ok (.areturn, 1) := by decide +kernel
theorem dJx4a65c_size_8abf5_0 : decode cJx4a65c_size_8abf5 0 = .ok (.aload_n 0, 1) := by decide +kernel
theorem dJx4a65c_size_8abf5_1 : decode cJx4a65c_size_8abf5 1 = .ok (.getfield 48, 3) := by decide +kernel
theorem dJx4a65c_size_8abf5_4 : decode cJx4a65c_size_8abf5 4 = .ok (.ireturn, 1) := by decide +kernel
theorem dJx4a65c_isEmpty_aae02_0 : decode cJx4a65c_isEmpty_aae02 0 = .ok (.aload_n 0, 1) := by decide +kernel
theorem dJx4a65c_isEmpty_aae02_1 : decode cJx4a65c_isEmpty_aae02 1 = .ok (.getfield 48, 3) := by decide +kernel
theorem dJx4a65c_isEmpty_aae02_4 : decode cJx4a65c_isEmpty_aae02 4 = .ok (.ifCond .ne 7, 3) := by decide +kernel
theorem dJx4a65c_isEmpty_aae02_7 : decode cJx4a65c_isEmpty_aae02 7 = .ok (.iconst 1, 1) := by decide +kernel
theorem dJx4a65c_isEmpty_aae02_8 : decode cJx4a65c_isEmpty_aae02 8 = .ok (.goto 4, 3) := by decide +kernel
theorem dJx4a65c_isEmpty_aae02_11 : decode cJx4a65c_isEmpty_aae02 11 = .ok (.iconst 0, 1) := by decide +kernel
theorem dJx4a65c_isEmpty_aae02_12 : decode cJx4a65c_isEmpty_aae02 12 = .ok (.ireturn, 1) := by decide +kernel
theorem dJx4a65c_elementData_915e3_0 : decode cJx4a65c_elementData_915e3 0 = .ok (.aload_n 0, 1) := by decide +kernel
theorem dJx4a65c_elementData_915e3_1 : decode cJx4a65c_elementData_915e3 1 = .ok (.getfield 9, 3) := by decide +kernel
theorem dJx4a65c_elementData_915e3_4 : decode cJx4a65c_elementData_915e3 4 = .ok (.iload_n 1, 1) := by decide +kernel
theorem dJx4a65c_elementData_915e3_5 : decode cJx4a65c_elementData_915e3 5 = .ok (.aaload, 1) := by decide +kernel
theorem dJx4a65c_elementData_915e3_6 : decode cJx4a65c_elementData_915e3 6 = .ok (.areturn, 1) := by decide +kernel
theorem dJx4a65c_get_915e3_0 : decode cJx4a65c_get_915e3 0 = .ok (.iload_n 1, 1) := by decide +kernel
theorem dJx4a65c_get_915e3_1 : decode cJx4a65c_get_915e3 1 = .ok (.aload_n 0, 1) := by decide +kernel
theorem dJx4a65c_get_915e3_2 : decode cJx4a65c_get_915e3 2 = .ok (.getfield 48, 3) := by decide +kernel
theorem dJx4a65c_get_915e3_5 : decode cJx4a65c_get_915e3 5 = .ok (.invokestatic 118, 3) := by decide +kernel
theorem dJx4a65c_get_915e3_8 : decode cJx4a65c_get_915e3 8 = .ok (.pop, 1) := by decide +kernel
theorem dJx4a65c_get_915e3_9 : decode cJx4a65c_get_915e3 9 = .ok (.aload_n 0, 1) := by decide +kernel
theorem dJx4a65c_get_915e3_10 : decode cJx4a65c_get_915e3 10 = .ok (.iload_n 1, 1) := by decide +kernel
theorem dJx4a65c_get_915e3_11 : decode cJx4a65c_get_915e3 11 = .ok (.invokevirtual 123, 3) := by decide +kernel
theorem dJx4a65c_get_915e3_14 : decode cJx4a65c_get_915e3 14 = .ok (.areturn, 1) := by decide +kernel
theorem dJx4a65c_add_72be8_0 : decode cJx4a65c_add_72be8 0 = .ok (.iload_n 3, 1) := by decide +kernel
theorem dJx4a65c_add_72be8_1 : decode cJx4a65c_add_72be8 1 = .ok (.aload_n 2, 1) := by decide +kernel
theorem dJx4a65c_add_72be8_2 : decode cJx4a65c_add_72be8 2 = .ok (.arraylength, 1) := by decide +kernel
theorem dJx4a65c_add_72be8_3 : decode cJx4a65c_add_72be8 3 = .ok (.if_icmp .ne 8, 3) := by decide +kernel
theorem dJx4a65c_add_72be8_6 : decode cJx4a65c_add_72be8 6 = .ok (.aload_n 0, 1) := by decide +kernel
theorem dJx4a65c_add_72be8_7 : decode cJx4a65c_add_72be8 7 = .ok (.invokevirtual 129, 3) := by decide +kernel
theorem dJx4a65c_add_72be8_10 : decode cJx4a65c_add_72be8 10 = .ok (.astore_n 2, 1) := by decide +kernel
theorem dJx4a65c_add_72be8_11 : decode cJx4a65c_add_72be8 11 = .ok (.aload_n 2, 1) := by decide +kernel
theorem dJx4a65c_add_72be8_12 : decode cJx4a65c_add_72be8 12 = .ok (.iload_n 3, 1) := by decide +kernel
theorem dJx4a65c_add_72be8_13 : decode cJx4a65c_add_72be8 13 = .ok (.aload_n 1, 1) := by decide +kernel
theorem dJx4a65c_add_72be8_14 : decode cJx4a65c_add_72be8 14 = .ok (.aastore, 1) := by decide +kernel
theorem dJx4a65c_add_72be8_15 : decode cJx4a65c_add_72be8 15 = .ok (.aload_n 0, 1) := by decide +kernel
theorem dJx4a65c_add_72be8_16 : decode cJx4a65c_add_72be8 16 = .ok (.iload_n 3, 1) := by decide +kernel
theorem dJx4a65c_add_72be8_17 : decode cJx4a65c_add_72be8 17 = .ok (.iconst 1, 1) := by decide +kernel
theorem dJx4a65c_add_72be8_18 : decode cJx4a65c_add_72be8 18 = .ok (.iadd, 1) := by decide +kernel
theorem dJx4a65c_add_72be8_19 : decode cJx4a65c_add_72be8 19 = .ok (.putfield 48, 3) := by decide +kernel
theorem dJx4a65c_add_72be8_22 : decode cJx4a65c_add_72be8 22 = .ok (.return_, 1) := by decide +kernel
theorem dJx4a65c_add_9ea2d_0 : decode cJx4a65c_add_9ea2d 0 = .ok (.aload_n 0, 1) := by decide +kernel
theorem dJx4a65c_add_9ea2d_1 : decode cJx4a65c_add_9ea2d 1 = .ok (.dup, 1) := by decide +kernel
theorem dJx4a65c_add_9ea2d_2 : decode cJx4a65c_add_9ea2d 2 = .ok (.getfield 63, 3) := by decide +kernel
theorem dJx4a65c_add_9ea2d_5 : decode cJx4a65c_add_9ea2d 5 = .ok (.iconst 1, 1) := by decide +kernel
theorem dJx4a65c_add_9ea2d_6 : decode cJx4a65c_add_9ea2d 6 = .ok (.iadd, 1) := by decide +kernel
theorem dJx4a65c_add_9ea2d_7 : decode cJx4a65c_add_9ea2d 7 = .ok (.putfield 63, 3) := by decide +kernel
theorem dJx4a65c_add_9ea2d_10 : decode cJx4a65c_add_9ea2d 10 = .ok (.aload_n 0, 1) := by decide +kernel
theorem dJx4a65c_add_9ea2d_11 : decode cJx4a65c_add_9ea2d 11 = .ok (.aload_n 1, 1) := by decide +kernel
theorem dJx4a65c_add_9ea2d_12 : decode cJx4a65c_add_9ea2d 12 = .ok (.aload_n 0, 1) := by decide +kernel
theorem dJx4a65c_add_9ea2d_13 : decode cJx4a65c_add_9ea2d 13 = .ok (.getfield 9, 3) := by decide +kernel
theorem dJx4a65c_add_9ea2d_16 : decode cJx4a65c_add_9ea2d 16 = .ok (.aload_n 0, 1) := by decide +kernel
theorem dJx4a65c_add_9ea2d_17 : decode cJx4a65c_add_9ea2d 17 = .ok (.getfield 48, 3) := by decide +kernel
theorem dJx4a65c_add_9ea2d_20 : decode cJx4a65c_add_9ea2d 20 = .ok (.invokevirtual 131, 3) := by decide +kernel
theorem dJx4a65c_add_9ea2d_23 : decode cJx4a65c_add_9ea2d 23 = .ok (.iconst 1, 1) := by decide +kernel
theorem dJx4a65c_add_9ea2d_24 : decode cJx4a65c_add_9ea2d 24 = .ok (.ireturn, 1) := by decide +kernel
theorem dJ7_fill_53178_0 : decode cJ7_fill_53178 0 = .ok (.iconst 0, 1) := by decide +kernel
theorem dJ7_fill_53178_1 : decode cJ7_fill_53178 1 = .ok (.istore_n 2, 1) := by decide +kernel
theorem dJ7_fill_53178_2 : decode cJ7_fill_53178 2 = .ok (.aload_n 0, 1) := by decide +kernel
theorem dJ7_fill_53178_3 : decode cJ7_fill_53178 3 = .ok (.arraylength, 1) := by decide +kernel
theorem dJ7_fill_53178_4 : decode cJ7_fill_53178 4 = .ok (.istore_n 3, 1) := by decide +kernel
theorem dJ7_fill_53178_5 : decode cJ7_fill_53178 5 = .ok (.iload_n 2, 1) := by decide +kernel
theorem dJ7_fill_53178_6 : decode cJ7_fill_53178 6 = .ok (.iload_n 3, 1) := by decide +kernel
theorem dJ7_fill_53178_7 : decode cJ7_fill_53178 7 = .ok (.if_icmp .ge 13, 3) := by decide +kernel
theorem dJ7_fill_53178_10 : decode cJ7_fill_53178 10 = .ok (.aload_n 0, 1) := by decide +kernel
theorem dJ7_fill_53178_11 : decode cJ7_fill_53178 11 = .ok (.iload_n 2, 1) := by decide +kernel
theorem dJ7_fill_53178_12 : decode cJ7_fill_53178 12 = .ok (.iload_n 1, 1) := by decide +kernel
theorem dJ7_fill_53178_13 : decode cJ7_fill_53178 13 = .ok (.iastore, 1) := by decide +kernel
theorem dJ7_fill_53178_14 : decode cJ7_fill_53178 14 = .ok (.iinc 2 1, 3) := by decide +kernel
theorem dJ7_fill_53178_17 : decode cJ7_fill_53178 17 = .ok (.goto (-12), 3) := by decide +kernel
theorem dJ7_fill_53178_20 : decode cJ7_fill_53178 20 = .ok (.return_, 1) := by decide +kernel
theorem dJ7_copyOf_1904c_0 : decode cJ7_copyOf_1904c 0 = .ok (.aload_n 0, 1) := by decide +kernel
theorem dJ7_copyOf_1904c_1 : decode cJ7_copyOf_1904c 1 = .ok (.iload_n 1, 1) := by decide +kernel
theorem dJ7_copyOf_1904c_2 : decode cJ7_copyOf_1904c 2 = .ok (.aload_n 0, 1) := by decide +kernel
theorem dJ7_copyOf_1904c_3 : decode cJ7_copyOf_1904c 3 = .ok (.invokevirtual 86, 3) := by decide +kernel
theorem dJ7_copyOf_1904c_6 : decode cJ7_copyOf_1904c 6 = .ok (.invokestatic 300, 3) := by decide +kernel
theorem dJ7_copyOf_1904c_9 : decode cJ7_copyOf_1904c 9 = .ok (.areturn, 1) := by decide +kernel
theorem dJ7_copyOf_6403c_0 : decode cJ7_copyOf_6403c 0 = .ok (.aload_n 2, 1) := by decide +kernel
theorem dJ7_copyOf_6403c_1 : decode cJ7_copyOf_6403c 1 = .ok (.ldc 110, 2) := by decide +kernel
theorem dJ7_copyOf_6403c_3 : decode cJ7_copyOf_6403c 3 = .ok (.if_acmp .ne 10, 3) := by decide +kernel
theorem dJ7_copyOf_6403c_6 : decode cJ7_copyOf_6403c 6 = .ok (.iload_n 1, 1) := by decide +kernel
theorem dJ7_copyOf_6403c_7 : decode cJ7_copyOf_6403c 7 = .ok (.anewarray 2, 3) := by decide +kernel
theorem dJ7_copyOf_6403c_10 : decode cJ7_copyOf_6403c 10 = .ok (.goto 14, 3) := by decide +kernel
theorem dJ7_copyOf_6403c_13 : decode cJ7_copyOf_6403c 13 = .ok (.aload_n 2, 1) := by decide +kernel
theorem dJ7_copyOf_6403c_14 : decode cJ7_copyOf_6403c 14 = .ok (.invokevirtual 90, 3) := by decide +kernel
theorem dJ7_copyOf_6403c_17 : decode cJ7_copyOf_6403c 17 = .ok (.iload_n 1, 1) := by decide +kernel
theorem dJ7_copyOf_6403c_18 : decode cJ7_copyOf_6403c 18 = .ok (.invokestatic 95, 3) := by decide +kernel
theorem dJ7_copyOf_6403c_21 : decode cJ7_copyOf_6403c 21 = .ok (.checkcast 110, 3) := by decide +kernel
theorem dJ7_copyOf_6403c_24 : decode cJ7_copyOf_6403c 24 = .ok (.astore_n 3, 1) := by decide +kernel
theorem dJ7_copyOf_6403c_25 : decode cJ7_copyOf_6403c 25 = .ok (.aload_n 0, 1) := by decide +kernel
theorem dJ7_copyOf_6403c_26 : decode cJ7_copyOf_6403c 26 = .ok (.iconst 0, 1) := by decide +kernel
theorem dJ7_copyOf_6403c_27 : decode cJ7_copyOf_6403c 27 = .ok (.aload_n 3, 1) := by decide +kernel
theorem dJ7_copyOf_6403c_28 : decode cJ7_copyOf_6403c 28 = .ok (.iconst 0, 1) := by decide +kernel
theorem dJ7_copyOf_6403c_29 : decode cJ7_copyOf_6403c 29 = .ok (.aload_n 0, 1) := by decide +kernel
theorem dJ7_copyOf_6403c_30 : decode cJ7_copyOf_6403c 30 = .ok (.arraylength, 1) := by decide +kernel
theorem dJ7_copyOf_6403c_31 : decode cJ7_copyOf_6403c 31 = .ok (.iload_n 1, 1) := by decide +kernel
theorem dJ7_copyOf_6403c_32 : decode cJ7_copyOf_6403c 32 = .ok (.invokestatic 304, 3) := by decide +kernel
theorem dJ7_copyOf_6403c_35 : decode cJ7_copyOf_6403c 35 = .ok (.invokestatic 150, 3) := by decide +kernel
theorem dJ7_copyOf_6403c_38 : decode cJ7_copyOf_6403c 38 = .ok (.aload_n 3, 1) := by decide +kernel
theorem dJ7_copyOf_6403c_39 : decode cJ7_copyOf_6403c 39 = .ok (.areturn, 1) := by decide +kernel
theorem dJ15_checkIndex_7cf53_0 : decode cJ15_checkIndex_7cf53 0 = .ok (.iload_n 0, 1) := by decide +kernel
theorem dJ15_checkIndex_7cf53_1 : decode cJ15_checkIndex_7cf53 1 = .ok (.iload_n 1, 1) := by decide +kernel
theorem dJ15_checkIndex_7cf53_2 : decode cJ15_checkIndex_7cf53 2 = .ok (.aconst_null, 1) := by decide +kernel
theorem dJ15_checkIndex_7cf53_3 : decode cJ15_checkIndex_7cf53 3 = .ok (.invokestatic 105, 3) := by decide +kernel
theorem dJ15_checkIndex_7cf53_6 : decode cJ15_checkIndex_7cf53 6 = .ok (.ireturn, 1) := by decide +kernel
theorem dJ8_newLength_cabcc_0 : decode cJ8_newLength_cabcc 0 = .ok (.iload_n 0, 1) := by decide +kernel
theorem dJ8_newLength_cabcc_1 : decode cJ8_newLength_cabcc 1 = .ok (.iload_n 1, 1) := by decide +kernel
theorem dJ8_newLength_cabcc_2 : decode cJ8_newLength_cabcc 2 = .ok (.iload_n 2, 1) := by decide +kernel
theorem dJ8_newLength_cabcc_3 : decode cJ8_newLength_cabcc 3 = .ok (.invokestatic 194, 3) := by decide +kernel
theorem dJ8_newLength_cabcc_6 : decode cJ8_newLength_cabcc 6 = .ok (.iadd, 1) := by decide +kernel
theorem dJ8_newLength_cabcc_7 : decode cJ8_newLength_cabcc 7 = .ok (.istore_n 3, 1) := by decide +kernel
theorem dJ8_newLength_cabcc_8 : decode cJ8_newLength_cabcc 8 = .ok (.iconst 0, 1) := by decide +kernel
theorem dJ8_newLength_cabcc_9 : decode cJ8_newLength_cabcc 9 = .ok (.iload_n 3, 1) := by decide +kernel
theorem dJ8_newLength_cabcc_10 : decode cJ8_newLength_cabcc 10 = .ok (.if_icmp .ge 11, 3) := by decide +kernel
theorem dJ8_newLength_cabcc_13 : decode cJ8_newLength_cabcc 13 = .ok (.iload_n 3, 1) := by decide +kernel
theorem dJ8_newLength_cabcc_14 : decode cJ8_newLength_cabcc 14 = .ok (.ldc 200, 2) := by decide +kernel
theorem dJ8_newLength_cabcc_16 : decode cJ8_newLength_cabcc 16 = .ok (.if_icmp .gt 5, 3) := by decide +kernel
theorem dJ8_newLength_cabcc_19 : decode cJ8_newLength_cabcc 19 = .ok (.iload_n 3, 1) := by decide +kernel
theorem dJ8_newLength_cabcc_20 : decode cJ8_newLength_cabcc 20 = .ok (.ireturn, 1) := by decide +kernel
theorem dJ8_newLength_cabcc_21 : decode cJ8_newLength_cabcc 21 = .ok (.iload_n 0, 1) := by decide +kernel
theorem dJ8_newLength_cabcc_22 : decode cJ8_newLength_cabcc 22 = .ok (.iload_n 1, 1) := by decide +kernel
theorem dJ8_newLength_cabcc_23 : decode cJ8_newLength_cabcc 23 = .ok (.invokestatic 201, 3) := by decide +kernel
theorem dJ8_newLength_cabcc_26 : decode cJ8_newLength_cabcc 26 = .ok (.ireturn, 1) := by decide +kernel
theorem dJ8_hugeLength_7cf53_0 : decode cJ8_hugeLength_7cf53 0 = .ok (.iload_n 0, 1) := by decide +kernel
theorem dJ8_hugeLength_7cf53_1 : decode cJ8_hugeLength_7cf53 1 = .ok (.iload_n 1, 1) := by decide +kernel
theorem dJ8_hugeLength_7cf53_2 : decode cJ8_hugeLength_7cf53 2 = .ok (.iadd, 1) := by decide +kernel
theorem dJ8_hugeLength_7cf53_3 : decode cJ8_hugeLength_7cf53 3 = .ok (.istore_n 2, 1) := by decide +kernel
theorem dJ8_hugeLength_7cf53_4 : decode cJ8_hugeLength_7cf53 4 = .ok (.iload_n 2, 1) := by decide +kernel
theorem dJ8_hugeLength_7cf53_5 : decode cJ8_hugeLength_7cf53 5 = .ok (.ifCond .ge 44, 3) := by decide +kernel
theorem dJ8_hugeLength_7cf53_8 : decode cJ8_hugeLength_7cf53 8 = .ok (.new 204, 3) := by decide +kernel
theorem dJ8_hugeLength_7cf53_11 : decode cJ8_hugeLength_7cf53 11 = .ok (.dup, 1) := by decide +kernel
theorem dJ8_hugeLength_7cf53_12 : decode cJ8_hugeLength_7cf53 12 = .ok (.new 89, 3) := by decide +kernel
theorem dJ8_hugeLength_7cf53_15 : decode cJ8_hugeLength_7cf53 15 = .ok (.dup, 1) := by decide +kernel
theorem dJ8_hugeLength_7cf53_16 : decode cJ8_hugeLength_7cf53 16 = .ok (.invokespecial 91, 3) := by decide +kernel
theorem dJ8_hugeLength_7cf53_19 : decode cJ8_hugeLength_7cf53 19 = .ok (.ldc 206, 2) := by decide +kernel
theorem dJ8_hugeLength_7cf53_21 : decode cJ8_hugeLength_7cf53 21 = .ok (.invokevirtual 94, 3) := by decide +kernel
theorem dJ8_hugeLength_7cf53_24 : decode cJ8_hugeLength_7cf53 24 = .ok (.iload_n 0, 1) := by decide +kernel
theorem dJ8_hugeLength_7cf53_25 : decode cJ8_hugeLength_7cf53 25 = .ok (.invokevirtual 98, 3) := by decide +kernel
theorem dJ8_hugeLength_7cf53_28 : decode cJ8_hugeLength_7cf53 28 = .ok (.ldc 208, 2) := by decide +kernel
theorem dJ8_hugeLength_7cf53_30 : decode cJ8_hugeLength_7cf53 30 = .ok (.invokevirtual 94, 3) := by decide +kernel
theorem dJ8_hugeLength_7cf53_33 : decode cJ8_hugeLength_7cf53 33 = .ok (.iload_n 1, 1) := by decide +kernel
theorem dJ8_hugeLength_7cf53_34 : decode cJ8_hugeLength_7cf53 34 = .ok (.invokevirtual 98, 3) := by decide +kernel
theorem dJ8_hugeLength_7cf53_37 : decode cJ8_hugeLength_7cf53 37 = .ok (.ldc 210, 2) := by decide +kernel
theorem dJ8_hugeLength_7cf53_39 : decode cJ8_hugeLength_7cf53 39 = .ok (.invokevirtual 94, 3) := by decide +kernel
theorem dJ8_hugeLength_7cf53_42 : decode cJ8_hugeLength_7cf53 42 = .ok (.invokevirtual 101, 3) := by decide +kernel
theorem dJ8_hugeLength_7cf53_45 : decode cJ8_hugeLength_7cf53 45 = .ok (.invokespecial 212, 3) := by decide +kernel
theorem dJ8_hugeLength_7cf53_48 : decode cJ8_hugeLength_7cf53 48 = .ok (.athrow, 1) := by decide +kernel
theorem dJ8_hugeLength_7cf53_49 : decode cJ8_hugeLength_7cf53 49 = .ok (.iload_n 2, 1) := by decide +kernel
theorem dJ8_hugeLength_7cf53_50 : decode cJ8_hugeLength_7cf53 50 = .ok (.ldc 200, 2) := by decide +kernel
theorem dJ8_hugeLength_7cf53_52 : decode cJ8_hugeLength_7cf53 52 = .ok (.if_icmp .gt 6, 3) := by decide +kernel
theorem dJ8_hugeLength_7cf53_55 : decode cJ8_hugeLength_7cf53 55 = .ok (.ldc 200, 2) := by decide +kernel
theorem dJ8_hugeLength_7cf53_57 : decode cJ8_hugeLength_7cf53 57 = .ok (.ireturn, 1) := by decide +kernel
theorem dJ8_hugeLength_7cf53_58 : decode cJ8_hugeLength_7cf53 58 = .ok (.iload_n 2, 1) := by decide +kernel
theorem dJ8_hugeLength_7cf53_59 : decode cJ8_hugeLength_7cf53 59 = .ok (.ireturn, 1) := by decide +kernel
theorem dJ3_checkIndex_8e157_0 : decode cJ3_checkIndex_8e157 0 = .ok (.iload_n 0, 1) := by decide +kernel
theorem dJ3_checkIndex_8e157_1 : decode cJ3_checkIndex_8e157 1 = .ok (.ifCond .lt 8, 3) := by decide +kernel
theorem dJ3_checkIndex_8e157_4 : decode cJ3_checkIndex_8e157 4 = .ok (.iload_n 0, 1) := by decide +kernel
theorem dJ3_checkIndex_8e157_5 : decode cJ3_checkIndex_8e157 5 = .ok (.iload_n 1, 1) := by decide +kernel
theorem dJ3_checkIndex_8e157_6 : decode cJ3_checkIndex_8e157 6 = .ok (.if_icmp .lt 10, 3) := by decide +kernel
theorem dJ3_checkIndex_8e157_9 : decode cJ3_checkIndex_8e157 9 = .ok (.aload_n 2, 1) := by decide +kernel
theorem dJ3_checkIndex_8e157_10 : decode cJ3_checkIndex_8e157 10 = .ok (.iload_n 0, 1) := by decide +kernel
theorem dJ3_checkIndex_8e157_11 : decode cJ3_checkIndex_8e157 11 = .ok (.iload_n 1, 1) := by decide +kernel
theorem dJ3_checkIndex_8e157_12 : decode cJ3_checkIndex_8e157 12 = .ok (.invokestatic 95, 3) := by decide +kernel
theorem dJ3_checkIndex_8e157_15 : decode cJ3_checkIndex_8e157 15 = .ok (.athrow, 1) := by decide +kernel
theorem dJ3_checkIndex_8e157_16 : decode cJ3_checkIndex_8e157 16 = .ok (.iload_n 0, 1) := by decide +kernel
theorem dJ3_checkIndex_8e157_17 : decode cJ3_checkIndex_8e157 17 = .ok (.ireturn, 1) := by decide +kernel
theorem dL_cell_0 : decode cL_cell 0 = .ok (.iload_n 1, 1) := by decide +kernel
theorem dL_cell_1 : decode cL_cell 1 = .ok (.aload_n 0, 1) := by decide +kernel
theorem dL_cell_2 : decode cL_cell 2 = .ok (.arraylength, 1) := by decide +kernel
theorem dL_cell_3 : decode cL_cell 3 = .ok (.if_icmp .ge 9, 3) := by decide +kernel
theorem dL_cell_6 : decode cL_cell 6 = .ok (.aload_n 0, 1) := by decide +kernel
theorem dL_cell_7 : decode cL_cell 7 = .ok (.iload_n 1, 1) := by decide +kernel
theorem dL_cell_8 : decode cL_cell 8 = .ok (.iaload, 1) := by decide +kernel
theorem dL_cell_9 : decode cL_cell 9 = .ok (.goto 13, 3) := by decide +kernel
theorem dL_cell_12 : decode cL_cell 12 = .ok (.ldc 7, 2) := by decide +kernel
theorem dL_cell_14 : decode cL_cell 14 = .ok (.iload_n 1, 1) := by decide +kernel
theorem dL_cell_15 : decode cL_cell 15 = .ok (.bipush 11, 2) := by decide +kernel
theorem dL_cell_17 : decode cL_cell 17 = .ok (.iadd, 1) := by decide +kernel
theorem dL_cell_18 : decode cL_cell 18 = .ok (.imul, 1) := by decide +kernel
theorem dL_cell_19 : decode cL_cell 19 = .ok (.ldc 8, 2) := by decide +kernel
theorem dL_cell_21 : decode cL_cell 21 = .ok (.iadd, 1) := by decide +kernel
theorem dL_cell_22 : decode cL_cell 22 = .ok (.ireturn, 1) := by decide +kernel
theorem dL_low_0 : decode cL_low 0 = .ok (.iload_n 0, 1) := by decide +kernel
theorem dL_low_1 : decode cL_low 1 = .ok (.ldc 9, 2) := by decide +kernel
theorem dL_low_3 : decode cL_low 3 = .ok (.iand, 1) := by decide +kernel
theorem dL_low_4 : decode cL_low 4 = .ok (.iload_n 1, 1) := by decide +kernel
theorem dL_low_5 : decode cL_low 5 = .ok (.irem, 1) := by decide +kernel
theorem dL_low_6 : decode cL_low 6 = .ok (.ireturn, 1) := by decide +kernel
theorem dL_calls_0 : decode cL_calls 0 = .ok (.iload_n 1, 1) := by decide +kernel
theorem dL_calls_1 : decode cL_calls 1 = .ok (.ifCond .ne 11, 3) := by decide +kernel
theorem dL_calls_4 : decode cL_calls 4 = .ok (.aload_n 0, 1) := by decide +kernel
theorem dL_calls_5 : decode cL_calls 5 = .ok (.iload_n 2, 1) := by decide +kernel
theorem dL_calls_6 : decode cL_calls 6 = .ok (.invokevirtual 10, 3) := by decide +kernel
theorem dL_calls_9 : decode cL_calls 9 = .ok (.goto 64, 3) := by decide +kernel
theorem dL_calls_12 : decode cL_calls 12 = .ok (.iload_n 1, 1) := by decide +kernel
theorem dL_calls_13 : decode cL_calls 13 = .ok (.iconst 1, 1) := by decide +kernel
theorem dL_calls_14 : decode cL_calls 14 = .ok (.if_icmp .ne 14, 3) := by decide +kernel
theorem dL_calls_17 : decode cL_calls 17 = .ok (.aload_n 0, 1) := by decide +kernel
theorem dL_calls_18 : decode cL_calls 18 = .ok (.iload_n 2, 1) := by decide +kernel
theorem dL_calls_19 : decode cL_calls 19 = .ok (.iload_n 3, 1) := by decide +kernel
theorem dL_calls_20 : decode cL_calls 20 = .ok (.iload 4, 2) := by decide +kernel
theorem dL_calls_22 : decode cL_calls 22 = .ok (.invokevirtual 16, 3) := by decide +kernel
theorem dL_calls_25 : decode cL_calls 25 = .ok (.goto 48, 3) := by decide +kernel
theorem dL_calls_28 : decode cL_calls 28 = .ok (.iload_n 1, 1) := by decide +kernel
theorem dL_calls_29 : decode cL_calls 29 = .ok (.iconst 2, 1) := by decide +kernel
theorem dL_calls_30 : decode cL_calls 30 = .ok (.if_icmp .ne 12, 3) := by decide +kernel
theorem dL_calls_33 : decode cL_calls 33 = .ok (.aload_n 0, 1) := by decide +kernel
theorem dL_calls_34 : decode cL_calls 34 = .ok (.iload_n 2, 1) := by decide +kernel
theorem dL_calls_35 : decode cL_calls 35 = .ok (.iload_n 3, 1) := by decide +kernel
theorem dL_calls_36 : decode cL_calls 36 = .ok (.invokevirtual 20, 3) := by decide +kernel
theorem dL_calls_39 : decode cL_calls 39 = .ok (.goto 34, 3) := by decide +kernel
theorem dL_calls_42 : decode cL_calls 42 = .ok (.iload_n 1, 1) := by decide +kernel
theorem dL_calls_43 : decode cL_calls 43 = .ok (.iconst 3, 1) := by decide +kernel
theorem dL_calls_44 : decode cL_calls 44 = .ok (.if_icmp .ne 11, 3) := by decide +kernel
theorem dL_calls_47 : decode cL_calls 47 = .ok (.aload_n 0, 1) := by decide +kernel
theorem dL_calls_48 : decode cL_calls 48 = .ok (.iload_n 2, 1) := by decide +kernel
theorem dL_calls_49 : decode cL_calls 49 = .ok (.invokevirtual 24, 3) := by decide +kernel
theorem dL_calls_52 : decode cL_calls 52 = .ok (.goto 21, 3) := by decide +kernel
theorem dL_calls_55 : decode cL_calls 55 = .ok (.iload_n 1, 1) := by decide +kernel
theorem dL_calls_56 : decode cL_calls 56 = .ok (.iconst 4, 1) := by decide +kernel
theorem dL_calls_57 : decode cL_calls 57 = .ok (.if_icmp .ne 11, 3) := by decide +kernel
theorem dL_calls_60 : decode cL_calls 60 = .ok (.aload_n 0, 1) := by decide +kernel
theorem dL_calls_61 : decode cL_calls 61 = .ok (.iload_n 2, 1) := by decide +kernel
theorem dL_calls_62 : decode cL_calls 62 = .ok (.invokevirtual 27, 3) := by decide +kernel
theorem dL_calls_65 : decode cL_calls 65 = .ok (.goto 8, 3) := by decide +kernel
theorem dL_calls_68 : decode cL_calls 68 = .ok (.aload_n 0, 1) := by decide +kernel
theorem dL_calls_69 : decode cL_calls 69 = .ok (.iload_n 2, 1) := by decide +kernel
theorem dL_calls_70 : decode cL_calls 70 = .ok (.invokevirtual 30, 3) := by decide +kernel
theorem dL_calls_73 : decode cL_calls 73 = .ok (.ireturn, 1) := by decide +kernel
theorem dL_calls_74 : decode cL_calls 74 = .ok (.astore 5, 2) := by decide +kernel
theorem dL_calls_76 : decode cL_calls 76 = .ok (.bipush (-2), 2) := by decide +kernel
theorem dL_calls_78 : decode cL_calls 78 = .ok (.ireturn, 1) := by decide +kernel
theorem dL_calls_79 : decode cL_calls 79 = .ok (.astore 5, 2) := by decide +kernel
theorem dL_calls_81 : decode cL_calls 81 = .ok (.bipush (-3), 2) := by decide +kernel
theorem dL_calls_83 : decode cL_calls 83 = .ok (.ireturn, 1) := by decide +kernel
theorem dL_sign_0 : decode cL_sign 0 = .ok (.iload_n 0, 1) := by decide +kernel
theorem dL_sign_1 : decode cL_sign 1 = .ok (.sipush 10007, 3) := by decide +kernel
theorem dL_sign_4 : decode cL_sign 4 = .ok (.irem, 1) := by decide +kernel
theorem dL_sign_5 : decode cL_sign 5 = .ok (.istore_n 1, 1) := by decide +kernel
theorem dL_sign_6 : decode cL_sign 6 = .ok (.iload_n 1, 1) := by decide +kernel
theorem dL_sign_7 : decode cL_sign 7 = .ok (.i2l, 1) := by decide +kernel
theorem dL_sign_8 : decode cL_sign 8 = .ok (.iload_n 1, 1) := by decide +kernel
theorem dL_sign_9 : decode cL_sign 9 = .ok (.i2l, 1) := by decide +kernel
theorem dL_sign_10 : decode cL_sign 10 = .ok (.ldc2_w 37, 3) := by decide +kernel
theorem dL_sign_13 : decode cL_sign 13 = .ok (.ladd, 1) := by decide +kernel
theorem dL_sign_14 : decode cL_sign 14 = .ok (.lmul, 1) := by decide +kernel
theorem dL_sign_15 : decode cL_sign 15 = .ok (.ldc2_w 39, 3) := by decide +kernel
theorem dL_sign_18 : decode cL_sign 18 = .ok (.ladd, 1) := by decide +kernel
theorem dL_sign_19 : decode cL_sign 19 = .ok (.ldc2_w 41, 3) := by decide +kernel
theorem dL_sign_22 : decode cL_sign 22 = .ok (.lrem, 1) := by decide +kernel
theorem dL_sign_23 : decode cL_sign 23 = .ok (.l2i, 1) := by decide +kernel
theorem dL_sign_24 : decode cL_sign 24 = .ok (.ireturn, 1) := by decide +kernel
theorem dL_rolls_0 : decode cL_rolls 0 = .ok (.iload_n 0, 1) := by decide +kernel
theorem dL_rolls_1 : decode cL_rolls 1 = .ok (.istore 4, 2) := by decide +kernel
theorem dL_rolls_3 : decode cL_rolls 3 = .ok (.aload_n 3, 1) := by decide +kernel
theorem dL_rolls_4 : decode cL_rolls 4 = .ok (.bipush 10, 2) := by decide +kernel
theorem dL_rolls_6 : decode cL_rolls 6 = .ok (.iconst (-1), 1) := by decide +kernel
theorem dL_rolls_7 : decode cL_rolls 7 = .ok (.iastore, 1) := by decide +kernel
theorem dL_rolls_8 : decode cL_rolls 8 = .ok (.iload 4, 2) := by decide +kernel
theorem dL_rolls_10 : decode cL_rolls 10 = .ok (.sipush 1105, 3) := by decide +kernel
theorem dL_rolls_13 : decode cL_rolls 13 = .ok (.imul, 1) := by decide +kernel
theorem dL_rolls_14 : decode cL_rolls 14 = .ok (.sipush 12345, 3) := by decide +kernel
theorem dL_rolls_17 : decode cL_rolls 17 = .ok (.iadd, 1) := by decide +kernel
theorem dL_rolls_18 : decode cL_rolls 18 = .ok (.iload_n 1, 1) := by decide +kernel
theorem dL_rolls_19 : decode cL_rolls 19 = .ok (.iadd, 1) := by decide +kernel
theorem dL_rolls_20 : decode cL_rolls 20 = .ok (.iload_n 1, 1) := by decide +kernel
theorem dL_rolls_21 : decode cL_rolls 21 = .ok (.iadd, 1) := by decide +kernel
theorem dL_rolls_22 : decode cL_rolls 22 = .ok (.ldc 43, 2) := by decide +kernel
theorem dL_rolls_24 : decode cL_rolls 24 = .ok (.irem, 1) := by decide +kernel
theorem dL_rolls_25 : decode cL_rolls 25 = .ok (.istore 4, 2) := by decide +kernel
theorem dL_rolls_27 : decode cL_rolls 27 = .ok (.aload_n 3, 1) := by decide +kernel
theorem dL_rolls_28 : decode cL_rolls 28 = .ok (.bipush 10, 2) := by decide +kernel
theorem dL_rolls_30 : decode cL_rolls 30 = .ok (.dup2, 1) := by decide +kernel
theorem dL_rolls_31 : decode cL_rolls 31 = .ok (.iaload, 1) := by decide +kernel
theorem dL_rolls_32 : decode cL_rolls 32 = .ok (.iconst 1, 1) := by decide +kernel
theorem dL_rolls_33 : decode cL_rolls 33 = .ok (.iadd, 1) := by decide +kernel
theorem dL_rolls_34 : decode cL_rolls 34 = .ok (.iastore, 1) := by decide +kernel
theorem dL_rolls_35 : decode cL_rolls 35 = .ok (.iload 4, 2) := by decide +kernel
theorem dL_rolls_37 : decode cL_rolls 37 = .ok (.ldc 43, 2) := by decide +kernel
theorem dL_rolls_39 : decode cL_rolls 39 = .ok (.ldc 43, 2) := by decide +kernel
theorem dL_rolls_41 : decode cL_rolls 41 = .ok (.iload_n 2, 1) := by decide +kernel
theorem dL_rolls_42 : decode cL_rolls 42 = .ok (.irem, 1) := by decide +kernel
theorem dL_rolls_43 : decode cL_rolls 43 = .ok (.isub, 1) := by decide +kernel
theorem dL_rolls_44 : decode cL_rolls 44 = .ok (.if_icmp .ge (-36), 3) := by decide +kernel
theorem dL_rolls_47 : decode cL_rolls 47 = .ok (.aload_n 3, 1) := by decide +kernel
theorem dL_rolls_48 : decode cL_rolls 48 = .ok (.bipush 9, 2) := by decide +kernel
theorem dL_rolls_50 : decode cL_rolls 50 = .ok (.iload 4, 2) := by decide +kernel
theorem dL_rolls_52 : decode cL_rolls 52 = .ok (.iastore, 1) := by decide +kernel
theorem dL_rolls_53 : decode cL_rolls 53 = .ok (.iconst 1, 1) := by decide +kernel
theorem dL_rolls_54 : decode cL_rolls 54 = .ok (.iload 4, 2) := by decide +kernel
theorem dL_rolls_56 : decode cL_rolls 56 = .ok (.iload_n 2, 1) := by decide +kernel
theorem dL_rolls_57 : decode cL_rolls 57 = .ok (.irem, 1) := by decide +kernel
theorem dL_rolls_58 : decode cL_rolls 58 = .ok (.iadd, 1) := by decide +kernel
theorem dL_rolls_59 : decode cL_rolls 59 = .ok (.ireturn, 1) := by decide +kernel
theorem dL_sum_0 : decode cL_sum 0 = .ok (.iload_n 0, 1) := by decide +kernel
theorem dL_sum_1 : decode cL_sum 1 = .ok (.ifCond .le 12, 3) := by decide +kernel
theorem dL_sum_4 : decode cL_sum 4 = .ok (.aload 5, 2) := by decide +kernel
theorem dL_sum_6 : decode cL_sum 6 = .ok (.iload_n 0, 1) := by decide +kernel
theorem dL_sum_7 : decode cL_sum 7 = .ok (.iconst 1, 1) := by decide +kernel
theorem dL_sum_8 : decode cL_sum 8 = .ok (.isub, 1) := by decide +kernel
theorem dL_sum_9 : decode cL_sum 9 = .ok (.iaload, 1) := by decide +kernel
theorem dL_sum_10 : decode cL_sum 10 = .ok (.goto 5, 3) := by decide +kernel
theorem dL_sum_13 : decode cL_sum 13 = .ok (.bipush 17, 2) := by decide +kernel
theorem dL_sum_15 : decode cL_sum 15 = .ok (.istore 6, 2) := by decide +kernel
theorem dL_sum_17 : decode cL_sum 17 = .ok (.iload 6, 2) := by decide +kernel
theorem dL_sum_19 : decode cL_sum 19 = .ok (.bipush 31, 2) := by decide +kernel
theorem dL_sum_21 : decode cL_sum 21 = .ok (.imul, 1) := by decide +kernel
theorem dL_sum_22 : decode cL_sum 22 = .ok (.aload_n 1, 1) := by decide +kernel
theorem dL_sum_23 : decode cL_sum 23 = .ok (.iload_n 0, 1) := by decide +kernel
theorem dL_sum_24 : decode cL_sum 24 = .ok (.iaload, 1) := by decide +kernel
theorem dL_sum_25 : decode cL_sum 25 = .ok (.iconst 4, 1) := by decide +kernel
theorem dL_sum_26 : decode cL_sum 26 = .ok (.idiv, 1) := by decide +kernel
theorem dL_sum_27 : decode cL_sum 27 = .ok (.bipush 7, 2) := by decide +kernel
theorem dL_sum_29 : decode cL_sum 29 = .ok (.imul, 1) := by decide +kernel
theorem dL_sum_30 : decode cL_sum 30 = .ok (.iadd, 1) := by decide +kernel
theorem dL_sum_31 : decode cL_sum 31 = .ok (.aload_n 1, 1) := by decide +kernel
theorem dL_sum_32 : decode cL_sum 32 = .ok (.iload_n 0, 1) := by decide +kernel
theorem dL_sum_33 : decode cL_sum 33 = .ok (.iaload, 1) := by decide +kernel
theorem dL_sum_34 : decode cL_sum 34 = .ok (.iconst 4, 1) := by decide +kernel
theorem dL_sum_35 : decode cL_sum 35 = .ok (.irem, 1) := by decide +kernel
theorem dL_sum_36 : decode cL_sum 36 = .ok (.iconst 5, 1) := by decide +kernel
theorem dL_sum_37 : decode cL_sum 37 = .ok (.imul, 1) := by decide +kernel
theorem dL_sum_38 : decode cL_sum 38 = .ok (.iadd, 1) := by decide +kernel
theorem dL_sum_39 : decode cL_sum 39 = .ok (.aload_n 2, 1) := by decide +kernel
theorem dL_sum_40 : decode cL_sum 40 = .ok (.iload_n 0, 1) := by decide +kernel
theorem dL_sum_41 : decode cL_sum 41 = .ok (.iaload, 1) := by decide +kernel
theorem dL_sum_42 : decode cL_sum 42 = .ok (.iconst 3, 1) := by decide +kernel
theorem dL_sum_43 : decode cL_sum 43 = .ok (.imul, 1) := by decide +kernel
theorem dL_sum_44 : decode cL_sum 44 = .ok (.iadd, 1) := by decide +kernel
theorem dL_sum_45 : decode cL_sum 45 = .ok (.aload_n 3, 1) := by decide +kernel
theorem dL_sum_46 : decode cL_sum 46 = .ok (.iload_n 0, 1) := by decide +kernel
theorem dL_sum_47 : decode cL_sum 47 = .ok (.iaload, 1) := by decide +kernel
theorem dL_sum_48 : decode cL_sum 48 = .ok (.bipush 11, 2) := by decide +kernel
theorem dL_sum_50 : decode cL_sum 50 = .ok (.imul, 1) := by decide +kernel
theorem dL_sum_51 : decode cL_sum 51 = .ok (.iadd, 1) := by decide +kernel
theorem dL_sum_52 : decode cL_sum 52 = .ok (.aload 4, 2) := by decide +kernel
theorem dL_sum_54 : decode cL_sum 54 = .ok (.iload_n 0, 1) := by decide +kernel
theorem dL_sum_55 : decode cL_sum 55 = .ok (.iaload, 1) := by decide +kernel
theorem dL_sum_56 : decode cL_sum 56 = .ok (.iadd, 1) := by decide +kernel
theorem dL_sum_57 : decode cL_sum 57 = .ok (.ldc 44, 2) := by decide +kernel
theorem dL_sum_59 : decode cL_sum 59 = .ok (.irem, 1) := by decide +kernel
theorem dL_sum_60 : decode cL_sum 60 = .ok (.ireturn, 1) := by decide +kernel
theorem dL_again_0 : decode cL_again 0 = .ok (.aload 4, 2) := by decide +kernel
theorem dL_again_2 : decode cL_again 2 = .ok (.aload_n 1, 1) := by decide +kernel
theorem dL_again_3 : decode cL_again 3 = .ok (.iload_n 0, 1) := by decide +kernel
theorem dL_again_4 : decode cL_again 4 = .ok (.iaload, 1) := by decide +kernel
theorem dL_again_5 : decode cL_again 5 = .ok (.iconst 4, 1) := by decide +kernel
theorem dL_again_6 : decode cL_again 6 = .ok (.idiv, 1) := by decide +kernel
theorem dL_again_7 : decode cL_again 7 = .ok (.iaload, 1) := by decide +kernel
theorem dL_again_8 : decode cL_again 8 = .ok (.istore 6, 2) := by decide +kernel
theorem dL_again_10 : decode cL_again 10 = .ok (.iconst 0, 1) := by decide +kernel
theorem dL_again_11 : decode cL_again 11 = .ok (.istore 7, 2) := by decide +kernel
theorem dL_again_13 : decode cL_again 13 = .ok (.iconst 0, 1) := by decide +kernel
theorem dL_again_14 : decode cL_again 14 = .ok (.istore 8, 2) := by decide +kernel
theorem dL_again_16 : decode cL_again 16 = .ok (.iload 8, 2) := by decide +kernel
theorem dL_again_18 : decode cL_again 18 = .ok (.iload_n 0, 1) := by decide +kernel
theorem dL_again_19 : decode cL_again 19 = .ok (.if_icmp .gt 47, 3) := by decide +kernel
theorem dL_again_22 : decode cL_again 22 = .ok (.aload_n 1, 1) := by decide +kernel
theorem dL_again_23 : decode cL_again 23 = .ok (.iload 8, 2) := by decide +kernel
theorem dL_again_25 : decode cL_again 25 = .ok (.iaload, 1) := by decide +kernel
theorem dL_again_26 : decode cL_again 26 = .ok (.iconst 4, 1) := by decide +kernel
theorem dL_again_27 : decode cL_again 27 = .ok (.idiv, 1) := by decide +kernel
theorem dL_again_28 : decode cL_again 28 = .ok (.aload_n 1, 1) := by decide +kernel
theorem dL_again_29 : decode cL_again 29 = .ok (.iload_n 0, 1) := by decide +kernel
theorem dL_again_30 : decode cL_again 30 = .ok (.iaload, 1) := by decide +kernel
theorem dL_again_31 : decode cL_again 31 = .ok (.iconst 4, 1) := by decide +kernel
theorem dL_again_32 : decode cL_again 32 = .ok (.idiv, 1) := by decide +kernel
theorem dL_again_33 : decode cL_again 33 = .ok (.if_icmp .ne 27, 3) := by decide +kernel
theorem dL_again_36 : decode cL_again 36 = .ok (.iload 6, 2) := by decide +kernel
theorem dL_again_38 : decode cL_again 38 = .ok (.aload_n 2, 1) := by decide +kernel
theorem dL_again_39 : decode cL_again 39 = .ok (.iload 8, 2) := by decide +kernel
theorem dL_again_41 : decode cL_again 41 = .ok (.iaload, 1) := by decide +kernel
theorem dL_again_42 : decode cL_again 42 = .ok (.aload_n 3, 1) := by decide +kernel
theorem dL_again_43 : decode cL_again 43 = .ok (.iload 8, 2) := by decide +kernel
theorem dL_again_45 : decode cL_again 45 = .ok (.iaload, 1) := by decide +kernel
theorem dL_again_46 : decode cL_again 46 = .ok (.aload 5, 2) := by decide +kernel
theorem dL_again_48 : decode cL_again 48 = .ok (.invokestatic 45, 3) := by decide +kernel
theorem dL_again_51 : decode cL_again 51 = .ok (.istore 7, 2) := by decide +kernel
theorem dL_again_53 : decode cL_again 53 = .ok (.aload 5, 2) := by decide +kernel
theorem dL_again_55 : decode cL_again 55 = .ok (.bipush 9, 2) := by decide +kernel
theorem dL_again_57 : decode cL_again 57 = .ok (.iaload, 1) := by decide +kernel
theorem dL_again_58 : decode cL_again 58 = .ok (.istore 6, 2) := by decide +kernel
theorem dL_again_60 : decode cL_again 60 = .ok (.iinc 8 1, 3) := by decide +kernel
theorem dL_again_63 : decode cL_again 63 = .ok (.goto (-47), 3) := by decide +kernel
theorem dL_again_66 : decode cL_again 66 = .ok (.iload 7, 2) := by decide +kernel
theorem dL_again_68 : decode cL_again 68 = .ok (.ireturn, 1) := by decide +kernel
theorem dL_wrong_0 : decode cL_wrong 0 = .ok (.iconst 0, 1) := by decide +kernel
theorem dL_wrong_1 : decode cL_wrong 1 = .ok (.istore 7, 2) := by decide +kernel
theorem dL_wrong_3 : decode cL_wrong 3 = .ok (.iload 7, 2) := by decide +kernel
theorem dL_wrong_5 : decode cL_wrong 5 = .ok (.aload 6, 2) := by decide +kernel
theorem dL_wrong_7 : decode cL_wrong 7 = .ok (.iconst 1, 1) := by decide +kernel
theorem dL_wrong_8 : decode cL_wrong 8 = .ok (.iaload, 1) := by decide +kernel
theorem dL_wrong_9 : decode cL_wrong 9 = .ok (.if_icmp .ge 42, 3) := by decide +kernel
theorem dL_wrong_12 : decode cL_wrong 12 = .ok (.aload_n 1, 1) := by decide +kernel
theorem dL_wrong_13 : decode cL_wrong 13 = .ok (.iload 7, 2) := by decide +kernel
theorem dL_wrong_15 : decode cL_wrong 15 = .ok (.iaload, 1) := by decide +kernel
theorem dL_wrong_16 : decode cL_wrong 16 = .ok (.iconst 4, 1) := by decide +kernel
theorem dL_wrong_17 : decode cL_wrong 17 = .ok (.idiv, 1) := by decide +kernel
theorem dL_wrong_18 : decode cL_wrong 18 = .ok (.iload_n 0, 1) := by decide +kernel
theorem dL_wrong_19 : decode cL_wrong 19 = .ok (.if_icmp .ne 26, 3) := by decide +kernel
theorem dL_wrong_22 : decode cL_wrong 22 = .ok (.iload 7, 2) := by decide +kernel
theorem dL_wrong_24 : decode cL_wrong 24 = .ok (.aload_n 1, 1) := by decide +kernel
theorem dL_wrong_25 : decode cL_wrong 25 = .ok (.aload_n 2, 1) := by decide +kernel
theorem dL_wrong_26 : decode cL_wrong 26 = .ok (.aload_n 3, 1) := by decide +kernel
theorem dL_wrong_27 : decode cL_wrong 27 = .ok (.aload 5, 2) := by decide +kernel
theorem dL_wrong_29 : decode cL_wrong 29 = .ok (.aload 6, 2) := by decide +kernel
theorem dL_wrong_31 : decode cL_wrong 31 = .ok (.invokestatic 51, 3) := by decide +kernel
theorem dL_wrong_34 : decode cL_wrong 34 = .ok (.aload 4, 2) := by decide +kernel
theorem dL_wrong_36 : decode cL_wrong 36 = .ok (.iload 7, 2) := by decide +kernel
theorem dL_wrong_38 : decode cL_wrong 38 = .ok (.iaload, 1) := by decide +kernel
theorem dL_wrong_39 : decode cL_wrong 39 = .ok (.if_icmp .eq 6, 3) := by decide +kernel
theorem dL_wrong_42 : decode cL_wrong 42 = .ok (.iload 7, 2) := by decide +kernel
theorem dL_wrong_44 : decode cL_wrong 44 = .ok (.ireturn, 1) := by decide +kernel
theorem dL_wrong_45 : decode cL_wrong 45 = .ok (.iinc 7 1, 3) := by decide +kernel
theorem dL_wrong_48 : decode cL_wrong 48 = .ok (.goto (-45), 3) := by decide +kernel
theorem dL_wrong_51 : decode cL_wrong 51 = .ok (.iconst (-1), 1) := by decide +kernel
theorem dL_wrong_52 : decode cL_wrong 52 = .ok (.ireturn, 1) := by decide +kernel
theorem dL_uneven_0 : decode cL_uneven 0 = .ok (.lconst 0, 1) := by decide +kernel
theorem dL_uneven_1 : decode cL_uneven 1 = .ok (.lstore 4, 2) := by decide +kernel
theorem dL_uneven_3 : decode cL_uneven 3 = .ok (.lconst 0, 1) := by decide +kernel
theorem dL_uneven_4 : decode cL_uneven 4 = .ok (.lstore 6, 2) := by decide +kernel
theorem dL_uneven_6 : decode cL_uneven 6 = .ok (.iconst 0, 1) := by decide +kernel
theorem dL_uneven_7 : decode cL_uneven 7 = .ok (.istore 8, 2) := by decide +kernel
theorem dL_uneven_9 : decode cL_uneven 9 = .ok (.iload 8, 2) := by decide +kernel
theorem dL_uneven_11 : decode cL_uneven 11 = .ok (.aload_n 3, 1) := by decide +kernel
theorem dL_uneven_12 : decode cL_uneven 12 = .ok (.iconst 1, 1) := by decide +kernel
theorem dL_uneven_13 : decode cL_uneven 13 = .ok (.iaload, 1) := by decide +kernel
theorem dL_uneven_14 : decode cL_uneven 14 = .ok (.if_icmp .ge 114, 3) := by decide +kernel
theorem dL_uneven_17 : decode cL_uneven 17 = .ok (.iconst 0, 1) := by decide +kernel
theorem dL_uneven_18 : decode cL_uneven 18 = .ok (.istore 9, 2) := by decide +kernel
theorem dL_uneven_20 : decode cL_uneven 20 = .ok (.iload 9, 2) := by decide +kernel
theorem dL_uneven_22 : decode cL_uneven 22 = .ok (.aload_n 3, 1) := by decide +kernel
theorem dL_uneven_23 : decode cL_uneven 23 = .ok (.iconst 1, 1) := by decide +kernel
theorem dL_uneven_24 : decode cL_uneven 24 = .ok (.iaload, 1) := by decide +kernel
theorem dL_uneven_25 : decode cL_uneven 25 = .ok (.if_icmp .ge 68, 3) := by decide +kernel
theorem dL_uneven_28 : decode cL_uneven 28 = .ok (.aload_n 3, 1) := by decide +kernel
theorem dL_uneven_29 : decode cL_uneven 29 = .ok (.iconst 4, 1) := by decide +kernel
theorem dL_uneven_30 : decode cL_uneven 30 = .ok (.iaload, 1) := by decide +kernel
theorem dL_uneven_31 : decode cL_uneven 31 = .ok (.iload 8, 2) := by decide +kernel
theorem dL_uneven_33 : decode cL_uneven 33 = .ok (.ishr, 1) := by decide +kernel
theorem dL_uneven_34 : decode cL_uneven 34 = .ok (.iconst 1, 1) := by decide +kernel
theorem dL_uneven_35 : decode cL_uneven 35 = .ok (.iand, 1) := by decide +kernel
theorem dL_uneven_36 : decode cL_uneven 36 = .ok (.ifCond .ne 57, 3) := by decide +kernel
theorem dL_uneven_39 : decode cL_uneven 39 = .ok (.aload_n 1, 1) := by decide +kernel
theorem dL_uneven_40 : decode cL_uneven 40 = .ok (.iload 8, 2) := by decide +kernel
theorem dL_uneven_42 : decode cL_uneven 42 = .ok (.iaload, 1) := by decide +kernel
theorem dL_uneven_43 : decode cL_uneven 43 = .ok (.iload_n 0, 1) := by decide +kernel
theorem dL_uneven_44 : decode cL_uneven 44 = .ok (.if_icmp .ne 49, 3) := by decide +kernel
theorem dL_uneven_47 : decode cL_uneven 47 = .ok (.lload 6, 2) := by decide +kernel
theorem dL_uneven_49 : decode cL_uneven 49 = .ok (.aload_n 3, 1) := by decide +kernel
theorem dL_uneven_50 : decode cL_uneven 50 = .ok (.iconst 4, 1) := by decide +kernel
theorem dL_uneven_51 : decode cL_uneven 51 = .ok (.iaload, 1) := by decide +kernel
theorem dL_uneven_52 : decode cL_uneven 52 = .ok (.iload 9, 2) := by decide +kernel
theorem dL_uneven_54 : decode cL_uneven 54 = .ok (.ishr, 1) := by decide +kernel
theorem dL_uneven_55 : decode cL_uneven 55 = .ok (.iconst 1, 1) := by decide +kernel
theorem dL_uneven_56 : decode cL_uneven 56 = .ok (.iand, 1) := by decide +kernel
theorem dL_uneven_57 : decode cL_uneven 57 = .ok (.ifCond .ne 26, 3) := by decide +kernel
theorem dL_uneven_60 : decode cL_uneven 60 = .ok (.aload_n 1, 1) := by decide +kernel
theorem dL_uneven_61 : decode cL_uneven 61 = .ok (.iload 9, 2) := by decide +kernel
theorem dL_uneven_63 : decode cL_uneven 63 = .ok (.iaload, 1) := by decide +kernel
theorem dL_uneven_64 : decode cL_uneven 64 = .ok (.iload_n 0, 1) := by decide +kernel
theorem dL_uneven_65 : decode cL_uneven 65 = .ok (.if_icmp .ne 18, 3) := by decide +kernel
theorem dL_uneven_68 : decode cL_uneven 68 = .ok (.aload_n 2, 1) := by decide +kernel
theorem dL_uneven_69 : decode cL_uneven 69 = .ok (.iload 9, 2) := by decide +kernel
theorem dL_uneven_71 : decode cL_uneven 71 = .ok (.iaload, 1) := by decide +kernel
theorem dL_uneven_72 : decode cL_uneven 72 = .ok (.aload_n 2, 1) := by decide +kernel
theorem dL_uneven_73 : decode cL_uneven 73 = .ok (.iload 8, 2) := by decide +kernel
theorem dL_uneven_75 : decode cL_uneven 75 = .ok (.iaload, 1) := by decide +kernel
theorem dL_uneven_76 : decode cL_uneven 76 = .ok (.if_icmp .ne 7, 3) := by decide +kernel
theorem dL_uneven_79 : decode cL_uneven 79 = .ok (.lconst 1, 1) := by decide +kernel
theorem dL_uneven_80 : decode cL_uneven 80 = .ok (.goto 4, 3) := by decide +kernel
theorem dL_uneven_83 : decode cL_uneven 83 = .ok (.lconst 0, 1) := by decide +kernel
theorem dL_uneven_84 : decode cL_uneven 84 = .ok (.ladd, 1) := by decide +kernel
theorem dL_uneven_85 : decode cL_uneven 85 = .ok (.lstore 6, 2) := by decide +kernel
theorem dL_uneven_87 : decode cL_uneven 87 = .ok (.iinc 9 1, 3) := by decide +kernel
theorem dL_uneven_90 : decode cL_uneven 90 = .ok (.goto (-70), 3) := by decide +kernel
theorem dL_uneven_93 : decode cL_uneven 93 = .ok (.lload 4, 2) := by decide +kernel
