theorem dX3_seedsWithRemainder_2 : decode cX3_seedsWithRemainder 2 = .ok (.iload_n 0, 1) := by decide +kernel
theorem dX3_seedsWithRemainder_3 : decode cX3_seedsWithRemainder 3 = .ok (.isub, 1) := by decide +kernel
theorem dX3_seedsWithRemainder_4 : decode cX3_seedsWithRemainder 4 = .ok (.sipush 10007, 3) := by decide +kernel
theorem dX3_seedsWithRemainder_7 : decode cX3_seedsWithRemainder 7 = .ok (.idiv, 1) := by decide +kernel
theorem dX3_seedsWithRemainder_8 : decode cX3_seedsWithRemainder 8 = .ok (.iconst 1, 1) := by decide +kernel
theorem dX3_seedsWithRemainder_9 : decode cX3_seedsWithRemainder 9 = .ok (.iadd, 1) := by decide +kernel
theorem dX3_seedsWithRemainder_10 : decode cX3_seedsWithRemainder 10 = .ok (.ireturn, 1) := by decide +kernel
theorem dX3_lastSum_0 : decode cX3_lastSum 0 = .ok (.aload_n 0, 1) := by decide +kernel
theorem dX3_lastSum_1 : decode cX3_lastSum 1 = .ok (.getfield 16, 3) := by decide +kernel
theorem dX3_lastSum_4 : decode cX3_lastSum 4 = .ok (.invokevirtual 189, 3) := by decide +kernel
theorem dX3_lastSum_7 : decode cX3_lastSum 7 = .ok (.ifCond .eq 8, 3) := by decide +kernel
theorem dX3_lastSum_10 : decode cX3_lastSum 10 = .ok (.bipush 17, 2) := by decide +kernel
theorem dX3_lastSum_12 : decode cX3_lastSum 12 = .ok (.goto 25, 3) := by decide +kernel
theorem dX3_lastSum_15 : decode cX3_lastSum 15 = .ok (.aload_n 0, 1) := by decide +kernel
theorem dX3_lastSum_16 : decode cX3_lastSum 16 = .ok (.getfield 16, 3) := by decide +kernel
theorem dX3_lastSum_19 : decode cX3_lastSum 19 = .ok (.aload_n 0, 1) := by decide +kernel
theorem dX3_lastSum_20 : decode cX3_lastSum 20 = .ok (.getfield 16, 3) := by decide +kernel
theorem dX3_lastSum_23 : decode cX3_lastSum 23 = .ok (.invokevirtual 34, 3) := by decide +kernel
theorem dX3_lastSum_26 : decode cX3_lastSum 26 = .ok (.iconst 1, 1) := by decide +kernel
theorem dX3_lastSum_27 : decode cX3_lastSum 27 = .ok (.isub, 1) := by decide +kernel
theorem dX3_lastSum_28 : decode cX3_lastSum 28 = .ok (.invokevirtual 141, 3) := by decide +kernel
theorem dX3_lastSum_31 : decode cX3_lastSum 31 = .ok (.checkcast 92, 3) := by decide +kernel
theorem dX3_lastSum_34 : decode cX3_lastSum 34 = .ok (.getfield 122, 3) := by decide +kernel
theorem dX3_lastSum_37 : decode cX3_lastSum 37 = .ok (.ireturn, 1) := by decide +kernel
theorem dX3_firstWrong_0 : decode cX3_firstWrong 0 = .ok (.new 105, 3) := by decide +kernel
theorem dX3_firstWrong_3 : decode cX3_firstWrong 3 = .ok (.dup, 1) := by decide +kernel
theorem dX3_firstWrong_4 : decode cX3_firstWrong 4 = .ok (.iload_n 2, 1) := by decide +kernel
theorem dX3_firstWrong_5 : decode cX3_firstWrong 5 = .ok (.invokespecial 151, 3) := by decide +kernel
theorem dX3_firstWrong_8 : decode cX3_firstWrong 8 = .ok (.astore_n 3, 1) := by decide +kernel
theorem dX3_firstWrong_9 : decode cX3_firstWrong 9 = .ok (.iconst 0, 1) := by decide +kernel
theorem dX3_firstWrong_10 : decode cX3_firstWrong 10 = .ok (.istore 4, 2) := by decide +kernel
theorem dX3_firstWrong_12 : decode cX3_firstWrong 12 = .ok (.iload 4, 2) := by decide +kernel
theorem dX3_firstWrong_14 : decode cX3_firstWrong 14 = .ok (.aload_n 0, 1) := by decide +kernel
theorem dX3_firstWrong_15 : decode cX3_firstWrong 15 = .ok (.getfield 16, 3) := by decide +kernel
theorem dX3_firstWrong_18 : decode cX3_firstWrong 18 = .ok (.invokevirtual 34, 3) := by decide +kernel
theorem dX3_firstWrong_21 : decode cX3_firstWrong 21 = .ok (.if_icmp .ge 57, 3) := by decide +kernel
theorem dX3_firstWrong_24 : decode cX3_firstWrong 24 = .ok (.aload_n 0, 1) := by decide +kernel
theorem dX3_firstWrong_25 : decode cX3_firstWrong 25 = .ok (.getfield 16, 3) := by decide +kernel
theorem dX3_firstWrong_28 : decode cX3_firstWrong 28 = .ok (.iload 4, 2) := by decide +kernel
theorem dX3_firstWrong_30 : decode cX3_firstWrong 30 = .ok (.invokevirtual 141, 3) := by decide +kernel
theorem dX3_firstWrong_33 : decode cX3_firstWrong 33 = .ok (.checkcast 92, 3) := by decide +kernel
theorem dX3_firstWrong_36 : decode cX3_firstWrong 36 = .ok (.astore 5, 2) := by decide +kernel
theorem dX3_firstWrong_38 : decode cX3_firstWrong 38 = .ok (.aload 5, 2) := by decide +kernel
theorem dX3_firstWrong_40 : decode cX3_firstWrong 40 = .ok (.getfield 145, 3) := by decide +kernel
theorem dX3_firstWrong_43 : decode cX3_firstWrong 43 = .ok (.iload_n 1, 1) := by decide +kernel
theorem dX3_firstWrong_44 : decode cX3_firstWrong 44 = .ok (.if_icmp .ne 28, 3) := by decide +kernel
theorem dX3_firstWrong_47 : decode cX3_firstWrong 47 = .ok (.aload 5, 2) := by decide +kernel
theorem dX3_firstWrong_49 : decode cX3_firstWrong 49 = .ok (.getfield 109, 3) := by decide +kernel
theorem dX3_firstWrong_52 : decode cX3_firstWrong 52 = .ok (.aload_n 3, 1) := by decide +kernel
theorem dX3_firstWrong_53 : decode cX3_firstWrong 53 = .ok (.aload 5, 2) := by decide +kernel
theorem dX3_firstWrong_55 : decode cX3_firstWrong 55 = .ok (.getfield 101, 3) := by decide +kernel
theorem dX3_firstWrong_58 : decode cX3_firstWrong 58 = .ok (.aload 5, 2) := by decide +kernel
theorem dX3_firstWrong_60 : decode cX3_firstWrong 60 = .ok (.getfield 129, 3) := by decide +kernel
theorem dX3_firstWrong_63 : decode cX3_firstWrong 63 = .ok (.invokevirtual 104, 3) := by decide +kernel
theorem dX3_firstWrong_66 : decode cX3_firstWrong 66 = .ok (.if_icmp .eq 6, 3) := by decide +kernel
theorem dX3_firstWrong_69 : decode cX3_firstWrong 69 = .ok (.iload 4, 2) := by decide +kernel
theorem dX3_firstWrong_71 : decode cX3_firstWrong 71 = .ok (.ireturn, 1) := by decide +kernel
theorem dX3_firstWrong_72 : decode cX3_firstWrong 72 = .ok (.iinc 4 1, 3) := by decide +kernel
theorem dX3_firstWrong_75 : decode cX3_firstWrong 75 = .ok (.goto (-63), 3) := by decide +kernel
theorem dX3_firstWrong_78 : decode cX3_firstWrong 78 = .ok (.iconst (-1), 1) := by decide +kernel
theorem dX3_firstWrong_79 : decode cX3_firstWrong 79 = .ok (.ireturn, 1) := by decide +kernel
theorem dX3_strikeFrom_0 : decode cX3_strikeFrom 0 = .ok (.iconst 0, 1) := by decide +kernel
theorem dX3_strikeFrom_1 : decode cX3_strikeFrom 1 = .ok (.istore_n 3, 1) := by decide +kernel
theorem dX3_strikeFrom_2 : decode cX3_strikeFrom 2 = .ok (.iload_n 1, 1) := by decide +kernel
theorem dX3_strikeFrom_3 : decode cX3_strikeFrom 3 = .ok (.iconst 0, 1) := by decide +kernel
theorem dX3_strikeFrom_4 : decode cX3_strikeFrom 4 = .ok (.invokestatic 193, 3) := by decide +kernel
theorem dX3_strikeFrom_7 : decode cX3_strikeFrom 7 = .ok (.istore 4, 2) := by decide +kernel
theorem dX3_strikeFrom_9 : decode cX3_strikeFrom 9 = .ok (.iload 4, 2) := by decide +kernel
theorem dX3_strikeFrom_11 : decode cX3_strikeFrom 11 = .ok (.aload_n 0, 1) := by decide +kernel
theorem dX3_strikeFrom_12 : decode cX3_strikeFrom 12 = .ok (.getfield 16, 3) := by decide +kernel
theorem dX3_strikeFrom_15 : decode cX3_strikeFrom 15 = .ok (.invokevirtual 34, 3) := by decide +kernel
theorem dX3_strikeFrom_18 : decode cX3_strikeFrom 18 = .ok (.if_icmp .ge 41, 3) := by decide +kernel
theorem dX3_strikeFrom_21 : decode cX3_strikeFrom 21 = .ok (.aload_n 0, 1) := by decide +kernel
theorem dX3_strikeFrom_22 : decode cX3_strikeFrom 22 = .ok (.getfield 16, 3) := by decide +kernel
theorem dX3_strikeFrom_25 : decode cX3_strikeFrom 25 = .ok (.iload 4, 2) := by decide +kernel
theorem dX3_strikeFrom_27 : decode cX3_strikeFrom 27 = .ok (.invokevirtual 141, 3) := by decide +kernel
theorem dX3_strikeFrom_30 : decode cX3_strikeFrom 30 = .ok (.checkcast 92, 3) := by decide +kernel
theorem dX3_strikeFrom_33 : decode cX3_strikeFrom 33 = .ok (.astore 5, 2) := by decide +kernel
theorem dX3_strikeFrom_35 : decode cX3_strikeFrom 35 = .ok (.aload 5, 2) := by decide +kernel
theorem dX3_strikeFrom_37 : decode cX3_strikeFrom 37 = .ok (.getfield 145, 3) := by decide +kernel
theorem dX3_strikeFrom_40 : decode cX3_strikeFrom 40 = .ok (.iload_n 2, 1) := by decide +kernel
theorem dX3_strikeFrom_41 : decode cX3_strikeFrom 41 = .ok (.if_icmp .ne 12, 3) := by decide +kernel
theorem dX3_strikeFrom_44 : decode cX3_strikeFrom 44 = .ok (.aload 5, 2) := by decide +kernel
theorem dX3_strikeFrom_46 : decode cX3_strikeFrom 46 = .ok (.iconst 1, 1) := by decide +kernel
theorem dX3_strikeFrom_47 : decode cX3_strikeFrom 47 = .ok (.putfield 136, 3) := by decide +kernel
theorem dX3_strikeFrom_50 : decode cX3_strikeFrom 50 = .ok (.iinc 3 1, 3) := by decide +kernel
theorem dX3_strikeFrom_53 : decode cX3_strikeFrom 53 = .ok (.iinc 4 1, 3) := by decide +kernel
theorem dX3_strikeFrom_56 : decode cX3_strikeFrom 56 = .ok (.goto (-47), 3) := by decide +kernel
theorem dX3_strikeFrom_59 : decode cX3_strikeFrom 59 = .ok (.iload_n 3, 1) := by decide +kernel
theorem dX3_strikeFrom_60 : decode cX3_strikeFrom 60 = .ok (.ireturn, 1) := by decide +kernel
theorem dX3_tallyValues_0 : decode cX3_tallyValues 0 = .ok (.aload_n 0, 1) := by decide +kernel
theorem dX3_tallyValues_1 : decode cX3_tallyValues 1 = .ok (.getfield 23, 3) := by decide +kernel
theorem dX3_tallyValues_4 : decode cX3_tallyValues 4 = .ok (.iconst 0, 1) := by decide +kernel
theorem dX3_tallyValues_5 : decode cX3_tallyValues 5 = .ok (.invokestatic 196, 3) := by decide +kernel
theorem dX3_tallyValues_8 : decode cX3_tallyValues 8 = .ok (.iconst 0, 1) := by decide +kernel
theorem dX3_tallyValues_9 : decode cX3_tallyValues 9 = .ok (.istore_n 2, 1) := by decide +kernel
theorem dX3_tallyValues_10 : decode cX3_tallyValues 10 = .ok (.iconst 0, 1) := by decide +kernel
theorem dX3_tallyValues_11 : decode cX3_tallyValues 11 = .ok (.istore_n 3, 1) := by decide +kernel
theorem dX3_tallyValues_12 : decode cX3_tallyValues 12 = .ok (.iload_n 3, 1) := by decide +kernel
theorem dX3_tallyValues_13 : decode cX3_tallyValues 13 = .ok (.aload_n 0, 1) := by decide +kernel
theorem dX3_tallyValues_14 : decode cX3_tallyValues 14 = .ok (.getfield 16, 3) := by decide +kernel
theorem dX3_tallyValues_17 : decode cX3_tallyValues 17 = .ok (.invokevirtual 34, 3) := by decide +kernel
theorem dX3_tallyValues_20 : decode cX3_tallyValues 20 = .ok (.if_icmp .ge 69, 3) := by decide +kernel
theorem dX3_tallyValues_23 : decode cX3_tallyValues 23 = .ok (.aload_n 0, 1) := by decide +kernel
theorem dX3_tallyValues_24 : decode cX3_tallyValues 24 = .ok (.getfield 16, 3) := by decide +kernel
theorem dX3_tallyValues_27 : decode cX3_tallyValues 27 = .ok (.iload_n 3, 1) := by decide +kernel
theorem dX3_tallyValues_28 : decode cX3_tallyValues 28 = .ok (.invokevirtual 141, 3) := by decide +kernel
theorem dX3_tallyValues_31 : decode cX3_tallyValues 31 = .ok (.checkcast 92, 3) := by decide +kernel
theorem dX3_tallyValues_34 : decode cX3_tallyValues 34 = .ok (.astore 4, 2) := by decide +kernel
theorem dX3_tallyValues_36 : decode cX3_tallyValues 36 = .ok (.aload 4, 2) := by decide +kernel
theorem dX3_tallyValues_38 : decode cX3_tallyValues 38 = .ok (.iload_n 1, 1) := by decide +kernel
theorem dX3_tallyValues_39 : decode cX3_tallyValues 39 = .ok (.invokevirtual 163, 3) := by decide +kernel
theorem dX3_tallyValues_42 : decode cX3_tallyValues 42 = .ok (.ifCond .eq 41, 3) := by decide +kernel
theorem dX3_tallyValues_45 : decode cX3_tallyValues 45 = .ok (.aload 4, 2) := by decide +kernel
theorem dX3_tallyValues_47 : decode cX3_tallyValues 47 = .ok (.getfield 109, 3) := by decide +kernel
theorem dX3_tallyValues_50 : decode cX3_tallyValues 50 = .ok (.ifCond .lt 33, 3) := by decide +kernel
theorem dX3_tallyValues_53 : decode cX3_tallyValues 53 = .ok (.aload 4, 2) := by decide +kernel
theorem dX3_tallyValues_55 : decode cX3_tallyValues 55 = .ok (.getfield 109, 3) := by decide +kernel
theorem dX3_tallyValues_58 : decode cX3_tallyValues 58 = .ok (.aload_n 0, 1) := by decide +kernel
theorem dX3_tallyValues_59 : decode cX3_tallyValues 59 = .ok (.getfield 23, 3) := by decide +kernel
theorem dX3_tallyValues_62 : decode cX3_tallyValues 62 = .ok (.arraylength, 1) := by decide +kernel
theorem dX3_tallyValues_63 : decode cX3_tallyValues 63 = .ok (.if_icmp .ge 20, 3) := by decide +kernel
theorem dX3_tallyValues_66 : decode cX3_tallyValues 66 = .ok (.aload_n 0, 1) := by decide +kernel
theorem dX3_tallyValues_67 : decode cX3_tallyValues 67 = .ok (.getfield 23, 3) := by decide +kernel
theorem dX3_tallyValues_70 : decode cX3_tallyValues 70 = .ok (.aload 4, 2) := by decide +kernel
theorem dX3_tallyValues_72 : decode cX3_tallyValues 72 = .ok (.getfield 109, 3) := by decide +kernel
theorem dX3_tallyValues_75 : decode cX3_tallyValues 75 = .ok (.dup2, 1) := by decide +kernel
theorem dX3_tallyValues_76 : decode cX3_tallyValues 76 = .ok (.iaload, 1) := by decide +kernel
theorem dX3_tallyValues_77 : decode cX3_tallyValues 77 = .ok (.iconst 1, 1) := by decide +kernel
theorem dX3_tallyValues_78 : decode cX3_tallyValues 78 = .ok (.iadd, 1) := by decide +kernel
theorem dX3_tallyValues_79 : decode cX3_tallyValues 79 = .ok (.iastore, 1) := by decide +kernel
theorem dX3_tallyValues_80 : decode cX3_tallyValues 80 = .ok (.iinc 2 1, 3) := by decide +kernel
theorem dX3_tallyValues_83 : decode cX3_tallyValues 83 = .ok (.iinc 3 1, 3) := by decide +kernel
theorem dX3_tallyValues_86 : decode cX3_tallyValues 86 = .ok (.goto (-74), 3) := by decide +kernel
theorem dX3_tallyValues_89 : decode cX3_tallyValues 89 = .ok (.iload_n 2, 1) := by decide +kernel
theorem dX3_tallyValues_90 : decode cX3_tallyValues 90 = .ok (.ireturn, 1) := by decide +kernel
theorem dX4_init_0 : decode cX4_init 0 = .ok (.aload_n 0, 1) := by decide +kernel
theorem dX4_init_1 : decode cX4_init 1 = .ok (.invokespecial 1, 3) := by decide +kernel
theorem dX4_init_4 : decode cX4_init 4 = .ok (.aload_n 0, 1) := by decide +kernel
theorem dX4_init_5 : decode cX4_init 5 = .ok (.bipush 16, 2) := by decide +kernel
theorem dX4_init_7 : decode cX4_init 7 = .ok (.newarray .int, 2) := by decide +kernel
theorem dX4_init_9 : decode cX4_init 9 = .ok (.putfield 7, 3) := by decide +kernel
theorem dX4_init_12 : decode cX4_init 12 = .ok (.aload_n 0, 1) := by decide +kernel
theorem dX4_init_13 : decode cX4_init 13 = .ok (.bipush 16, 2) := by decide +kernel
theorem dX4_init_15 : decode cX4_init 15 = .ok (.newarray .int, 2) := by decide +kernel
theorem dX4_init_17 : decode cX4_init 17 = .ok (.putfield 13, 3) := by decide +kernel
theorem dX4_init_20 : decode cX4_init 20 = .ok (.aload_n 0, 1) := by decide +kernel
theorem dX4_init_21 : decode cX4_init 21 = .ok (.bipush 16, 2) := by decide +kernel
theorem dX4_init_23 : decode cX4_init 23 = .ok (.newarray .boolean, 2) := by decide +kernel
theorem dX4_init_25 : decode cX4_init 25 = .ok (.putfield 16, 3) := by decide +kernel
theorem dX4_init_28 : decode cX4_init 28 = .ok (.aload_n 0, 1) := by decide +kernel
theorem dX4_init_29 : decode cX4_init 29 = .ok (.bipush 16, 2) := by decide +kernel
theorem dX4_init_31 : decode cX4_init 31 = .ok (.newarray .boolean, 2) := by decide +kernel
theorem dX4_init_33 : decode cX4_init 33 = .ok (.putfield 20, 3) := by decide +kernel
theorem dX4_init_36 : decode cX4_init 36 = .ok (.aload_n 0, 1) := by decide +kernel
theorem dX4_init_37 : decode cX4_init 37 = .ok (.iconst 4, 1) := by decide +kernel
theorem dX4_init_38 : decode cX4_init 38 = .ok (.newarray .int, 2) := by decide +kernel
theorem dX4_init_40 : decode cX4_init 40 = .ok (.putfield 23, 3) := by decide +kernel
theorem dX4_init_43 : decode cX4_init 43 = .ok (.aload_n 0, 1) := by decide +kernel
theorem dX4_init_44 : decode cX4_init 44 = .ok (.bipush 100, 2) := by decide +kernel
theorem dX4_init_46 : decode cX4_init 46 = .ok (.newarray .int, 2) := by decide +kernel
theorem dX4_init_48 : decode cX4_init 48 = .ok (.putfield 26, 3) := by decide +kernel
theorem dX4_init_51 : decode cX4_init 51 = .ok (.aload_n 0, 1) := by decide +kernel
theorem dX4_init_52 : decode cX4_init 52 = .ok (.bipush 100, 2) := by decide +kernel
theorem dX4_init_54 : decode cX4_init 54 = .ok (.newarray .int, 2) := by decide +kernel
theorem dX4_init_56 : decode cX4_init 56 = .ok (.putfield 29, 3) := by decide +kernel
theorem dX4_init_59 : decode cX4_init 59 = .ok (.aload_n 0, 1) := by decide +kernel
theorem dX4_init_60 : decode cX4_init 60 = .ok (.bipush 100, 2) := by decide +kernel
theorem dX4_init_62 : decode cX4_init 62 = .ok (.newarray .int, 2) := by decide +kernel
theorem dX4_init_64 : decode cX4_init 64 = .ok (.putfield 32, 3) := by decide +kernel
theorem dX4_init_67 : decode cX4_init 67 = .ok (.aload_n 0, 1) := by decide +kernel
theorem dX4_init_68 : decode cX4_init 68 = .ok (.bipush 100, 2) := by decide +kernel
theorem dX4_init_70 : decode cX4_init 70 = .ok (.newarray .int, 2) := by decide +kernel
theorem dX4_init_72 : decode cX4_init 72 = .ok (.putfield 35, 3) := by decide +kernel
theorem dX4_init_75 : decode cX4_init 75 = .ok (.aload_n 0, 1) := by decide +kernel
theorem dX4_init_76 : decode cX4_init 76 = .ok (.bipush 100, 2) := by decide +kernel
theorem dX4_init_78 : decode cX4_init 78 = .ok (.newarray .int, 2) := by decide +kernel
theorem dX4_init_80 : decode cX4_init 80 = .ok (.putfield 38, 3) := by decide +kernel
theorem dX4_init_83 : decode cX4_init 83 = .ok (.aload_n 0, 1) := by decide +kernel
theorem dX4_init_84 : decode cX4_init 84 = .ok (.bipush 100, 2) := by decide +kernel
theorem dX4_init_86 : decode cX4_init 86 = .ok (.newarray .int, 2) := by decide +kernel
theorem dX4_init_88 : decode cX4_init 88 = .ok (.putfield 41, 3) := by decide +kernel
theorem dX4_init_91 : decode cX4_init 91 = .ok (.aload_n 0, 1) := by decide +kernel
theorem dX4_init_92 : decode cX4_init 92 = .ok (.bipush 100, 2) := by decide +kernel
theorem dX4_init_94 : decode cX4_init 94 = .ok (.newarray .int, 2) := by decide +kernel
theorem dX4_init_96 : decode cX4_init 96 = .ok (.putfield 44, 3) := by decide +kernel
theorem dX4_init_99 : decode cX4_init 99 = .ok (.aload_n 0, 1) := by decide +kernel
theorem dX4_init_100 : decode cX4_init 100 = .ok (.bipush 100, 2) := by decide +kernel
theorem dX4_init_102 : decode cX4_init 102 = .ok (.newarray .boolean, 2) := by decide +kernel
theorem dX4_init_104 : decode cX4_init 104 = .ok (.putfield 47, 3) := by decide +kernel
theorem dX4_init_107 : decode cX4_init 107 = .ok (.return_, 1) := by decide +kernel
theorem dX4_thrown_0 : decode cX4_thrown 0 = .ok (.aload_n 0, 1) := by decide +kernel
theorem dX4_thrown_1 : decode cX4_thrown 1 = .ok (.getfield 50, 3) := by decide +kernel
theorem dX4_thrown_4 : decode cX4_thrown 4 = .ok (.ireturn, 1) := by decide +kernel
theorem dX4_fails_0 : decode cX4_fails 0 = .ok (.aload_n 0, 1) := by decide +kernel
theorem dX4_fails_1 : decode cX4_fails 1 = .ok (.iload_n 1, 1) := by decide +kernel
theorem dX4_fails_2 : decode cX4_fails 2 = .ok (.putfield 50, 3) := by decide +kernel
theorem dX4_fails_5 : decode cX4_fails 5 = .ok (.iconst 0, 1) := by decide +kernel
theorem dX4_fails_6 : decode cX4_fails 6 = .ok (.ireturn, 1) := by decide +kernel
theorem dX4_in_0 : decode cX4_in 0 = .ok (.iload_n 0, 1) := by decide +kernel
theorem dX4_in_1 : decode cX4_in 1 = .ok (.iload_n 1, 1) := by decide +kernel
theorem dX4_in_2 : decode cX4_in 2 = .ok (.if_icmp .lt 12, 3) := by decide +kernel
theorem dX4_in_5 : decode cX4_in 5 = .ok (.iload_n 0, 1) := by decide +kernel
theorem dX4_in_6 : decode cX4_in 6 = .ok (.iload_n 2, 1) := by decide +kernel
theorem dX4_in_7 : decode cX4_in 7 = .ok (.if_icmp .gt 7, 3) := by decide +kernel
theorem dX4_in_10 : decode cX4_in 10 = .ok (.iconst 1, 1) := by decide +kernel
theorem dX4_in_11 : decode cX4_in 11 = .ok (.goto 4, 3) := by decide +kernel
theorem dX4_in_14 : decode cX4_in 14 = .ok (.iconst 0, 1) := by decide +kernel
theorem dX4_in_15 : decode cX4_in 15 = .ok (.ireturn, 1) := by decide +kernel
theorem dX4_isPromise_0 : decode cX4_isPromise 0 = .ok (.iload_n 1, 1) := by decide +kernel
theorem dX4_isPromise_1 : decode cX4_isPromise 1 = .ok (.iconst 0, 1) := by decide +kernel
theorem dX4_isPromise_2 : decode cX4_isPromise 2 = .ok (.aload_n 0, 1) := by decide +kernel
theorem dX4_isPromise_3 : decode cX4_isPromise 3 = .ok (.getfield 54, 3) := by decide +kernel
theorem dX4_isPromise_6 : decode cX4_isPromise 6 = .ok (.iconst 1, 1) := by decide +kernel
theorem dX4_isPromise_7 : decode cX4_isPromise 7 = .ok (.isub, 1) := by decide +kernel
theorem dX4_isPromise_8 : decode cX4_isPromise 8 = .ok (.invokestatic 57, 3) := by decide +kernel
theorem dX4_isPromise_11 : decode cX4_isPromise 11 = .ok (.ireturn, 1) := by decide +kernel
theorem dX4_isTable_0 : decode cX4_isTable 0 = .ok (.iload_n 0, 1) := by decide +kernel
theorem dX4_isTable_1 : decode cX4_isTable 1 = .ok (.iconst 0, 1) := by decide +kernel
theorem dX4_isTable_2 : decode cX4_isTable 2 = .ok (.iconst 3, 1) := by decide +kernel
theorem dX4_isTable_3 : decode cX4_isTable 3 = .ok (.invokestatic 57, 3) := by decide +kernel
theorem dX4_isTable_6 : decode cX4_isTable 6 = .ok (.ireturn, 1) := by decide +kernel
theorem dX4_isEntry_0 : decode cX4_isEntry 0 = .ok (.iload_n 1, 1) := by decide +kernel
theorem dX4_isEntry_1 : decode cX4_isEntry 1 = .ok (.iconst 0, 1) := by decide +kernel
theorem dX4_isEntry_2 : decode cX4_isEntry 2 = .ok (.aload_n 0, 1) := by decide +kernel
theorem dX4_isEntry_3 : decode cX4_isEntry 3 = .ok (.getfield 61, 3) := by decide +kernel
theorem dX4_isEntry_6 : decode cX4_isEntry 6 = .ok (.iconst 1, 1) := by decide +kernel
theorem dX4_isEntry_7 : decode cX4_isEntry 7 = .ok (.isub, 1) := by decide +kernel
theorem dX4_isEntry_8 : decode cX4_isEntry 8 = .ok (.invokestatic 57, 3) := by decide +kernel
theorem dX4_isEntry_11 : decode cX4_isEntry 11 = .ok (.ireturn, 1) := by decide +kernel
theorem dX4_isDie_0 : decode cX4_isDie 0 = .ok (.iload_n 0, 1) := by decide +kernel
theorem dX4_isDie_1 : decode cX4_isDie 1 = .ok (.iconst 2, 1) := by decide +kernel
theorem dX4_isDie_2 : decode cX4_isDie 2 = .ok (.sipush 1000, 3) := by decide +kernel
theorem dX4_isDie_5 : decode cX4_isDie 5 = .ok (.invokestatic 57, 3) := by decide +kernel
theorem dX4_isDie_8 : decode cX4_isDie 8 = .ok (.ireturn, 1) := by decide +kernel
theorem dX4_signOf_0 : decode cX4_signOf 0 = .ok (.iload_n 0, 1) := by decide +kernel
theorem dX4_signOf_1 : decode cX4_signOf 1 = .ok (.i2l, 1) := by decide +kernel
theorem dX4_signOf_2 : decode cX4_signOf 2 = .ok (.iload_n 0, 1) := by decide +kernel
theorem dX4_signOf_3 : decode cX4_signOf 3 = .ok (.i2l, 1) := by decide +kernel
theorem dX4_signOf_4 : decode cX4_signOf 4 = .ok (.lmul, 1) := by decide +kernel
theorem dX4_signOf_5 : decode cX4_signOf 5 = .ok (.ldc2_w 64, 3) := by decide +kernel
theorem dX4_signOf_8 : decode cX4_signOf 8 = .ok (.iload_n 0, 1) := by decide +kernel
theorem dX4_signOf_9 : decode cX4_signOf 9 = .ok (.i2l, 1) := by decide +kernel
theorem dX4_signOf_10 : decode cX4_signOf 10 = .ok (.lmul, 1) := by decide +kernel
theorem dX4_signOf_11 : decode cX4_signOf 11 = .ok (.ladd, 1) := by decide +kernel
theorem dX4_signOf_12 : decode cX4_signOf 12 = .ok (.ldc2_w 66, 3) := by decide +kernel
theorem dX4_signOf_15 : decode cX4_signOf 15 = .ok (.ladd, 1) := by decide +kernel
theorem dX4_signOf_16 : decode cX4_signOf 16 = .ok (.ldc2_w 68, 3) := by decide +kernel
theorem dX4_signOf_19 : decode cX4_signOf 19 = .ok (.lrem, 1) := by decide +kernel
theorem dX4_signOf_20 : decode cX4_signOf 20 = .ok (.l2i, 1) := by decide +kernel
theorem dX4_signOf_21 : decode cX4_signOf 21 = .ok (.ireturn, 1) := by decide +kernel
theorem dX4_promise_0 : decode cX4_promise 0 = .ok (.aload_n 0, 1) := by decide +kernel
theorem dX4_promise_1 : decode cX4_promise 1 = .ok (.iconst 0, 1) := by decide +kernel
theorem dX4_promise_2 : decode cX4_promise 2 = .ok (.putfield 50, 3) := by decide +kernel
theorem dX4_promise_5 : decode cX4_promise 5 = .ok (.iload_n 1, 1) := by decide +kernel
theorem dX4_promise_6 : decode cX4_promise 6 = .ok (.iconst 0, 1) := by decide +kernel
theorem dX4_promise_7 : decode cX4_promise 7 = .ok (.ldc 70, 2) := by decide +kernel
theorem dX4_promise_9 : decode cX4_promise 9 = .ok (.invokestatic 57, 3) := by decide +kernel
theorem dX4_promise_12 : decode cX4_promise 12 = .ok (.ifCond .ne 9, 3) := by decide +kernel
theorem dX4_promise_15 : decode cX4_promise 15 = .ok (.aload_n 0, 1) := by decide +kernel
theorem dX4_promise_16 : decode cX4_promise 16 = .ok (.iconst 1, 1) := by decide +kernel
theorem dX4_promise_17 : decode cX4_promise 17 = .ok (.invokevirtual 71, 3) := by decide +kernel
theorem dX4_promise_20 : decode cX4_promise 20 = .ok (.ireturn, 1) := by decide +kernel
theorem dX4_promise_21 : decode cX4_promise 21 = .ok (.aload_n 0, 1) := by decide +kernel
theorem dX4_promise_22 : decode cX4_promise 22 = .ok (.getfield 54, 3) := by decide +kernel
theorem dX4_promise_25 : decode cX4_promise 25 = .ok (.bipush 16, 2) := by decide +kernel
theorem dX4_promise_27 : decode cX4_promise 27 = .ok (.if_icmp .ne 9, 3) := by decide +kernel
theorem dX4_promise_30 : decode cX4_promise 30 = .ok (.aload_n 0, 1) := by decide +kernel
theorem dX4_promise_31 : decode cX4_promise 31 = .ok (.iconst 2, 1) := by decide +kernel
theorem dX4_promise_32 : decode cX4_promise 32 = .ok (.invokevirtual 71, 3) := by decide +kernel
theorem dX4_promise_35 : decode cX4_promise 35 = .ok (.ireturn, 1) := by decide +kernel
theorem dX4_promise_36 : decode cX4_promise 36 = .ok (.aload_n 0, 1) := by decide +kernel
theorem dX4_promise_37 : decode cX4_promise 37 = .ok (.getfield 7, 3) := by decide +kernel
theorem dX4_promise_40 : decode cX4_promise 40 = .ok (.aload_n 0, 1) := by decide +kernel
theorem dX4_promise_41 : decode cX4_promise 41 = .ok (.getfield 54, 3) := by decide +kernel
theorem dX4_promise_44 : decode cX4_promise 44 = .ok (.iload_n 1, 1) := by decide +kernel
theorem dX4_promise_45 : decode cX4_promise 45 = .ok (.iastore, 1) := by decide +kernel
theorem dX4_promise_46 : decode cX4_promise 46 = .ok (.aload_n 0, 1) := by decide +kernel
theorem dX4_promise_47 : decode cX4_promise 47 = .ok (.getfield 13, 3) := by decide +kernel
theorem dX4_promise_50 : decode cX4_promise 50 = .ok (.aload_n 0, 1) := by decide +kernel
theorem dX4_promise_51 : decode cX4_promise 51 = .ok (.getfield 54, 3) := by decide +kernel
theorem dX4_promise_54 : decode cX4_promise 54 = .ok (.iload_n 1, 1) := by decide +kernel
theorem dX4_promise_55 : decode cX4_promise 55 = .ok (.iastore, 1) := by decide +kernel
theorem dX4_promise_56 : decode cX4_promise 56 = .ok (.aload_n 0, 1) := by decide +kernel
theorem dX4_promise_57 : decode cX4_promise 57 = .ok (.dup, 1) := by decide +kernel
theorem dX4_promise_58 : decode cX4_promise 58 = .ok (.getfield 54, 3) := by decide +kernel
theorem dX4_promise_61 : decode cX4_promise 61 = .ok (.iconst 1, 1) := by decide +kernel
theorem dX4_promise_62 : decode cX4_promise 62 = .ok (.iadd, 1) := by decide +kernel
theorem dX4_promise_63 : decode cX4_promise 63 = .ok (.putfield 54, 3) := by decide +kernel
theorem dX4_promise_66 : decode cX4_promise 66 = .ok (.aload_n 0, 1) := by decide +kernel
theorem dX4_promise_67 : decode cX4_promise 67 = .ok (.getfield 54, 3) := by decide +kernel
theorem dX4_promise_70 : decode cX4_promise 70 = .ok (.iconst 1, 1) := by decide +kernel
theorem dX4_promise_71 : decode cX4_promise 71 = .ok (.isub, 1) := by decide +kernel
theorem dX4_promise_72 : decode cX4_promise 72 = .ok (.ireturn, 1) := by decide +kernel
theorem dX4_sign_0 : decode cX4_sign 0 = .ok (.aload_n 0, 1) := by decide +kernel
theorem dX4_sign_1 : decode cX4_sign 1 = .ok (.iconst 0, 1) := by decide +kernel
theorem dX4_sign_2 : decode cX4_sign 2 = .ok (.putfield 50, 3) := by decide +kernel
theorem dX4_sign_5 : decode cX4_sign 5 = .ok (.aload_n 0, 1) := by decide +kernel
theorem dX4_sign_6 : decode cX4_sign 6 = .ok (.iload_n 1, 1) := by decide +kernel
theorem dX4_sign_7 : decode cX4_sign 7 = .ok (.invokevirtual 75, 3) := by decide +kernel
theorem dX4_sign_10 : decode cX4_sign 10 = .ok (.ifCond .eq 15, 3) := by decide +kernel
theorem dX4_sign_13 : decode cX4_sign 13 = .ok (.aload_n 0, 1) := by decide +kernel
theorem dX4_sign_14 : decode cX4_sign 14 = .ok (.getfield 7, 3) := by decide +kernel
theorem dX4_sign_17 : decode cX4_sign 17 = .ok (.iload_n 1, 1) := by decide +kernel
theorem dX4_sign_18 : decode cX4_sign 18 = .ok (.iaload, 1) := by decide +kernel
theorem dX4_sign_19 : decode cX4_sign 19 = .ok (.invokestatic 79, 3) := by decide +kernel
theorem dX4_sign_22 : decode cX4_sign 22 = .ok (.goto 8, 3) := by decide +kernel
theorem dX4_sign_25 : decode cX4_sign 25 = .ok (.aload_n 0, 1) := by decide +kernel
theorem dX4_sign_26 : decode cX4_sign 26 = .ok (.iconst 1, 1) := by decide +kernel
theorem dX4_sign_27 : decode cX4_sign 27 = .ok (.invokevirtual 71, 3) := by decide +kernel
theorem dX4_sign_30 : decode cX4_sign 30 = .ok (.ireturn, 1) := by decide +kernel
theorem dX4_seedsOf_0 : decode cX4_seedsOf 0 = .ok (.aload_n 0, 1) := by decide +kernel
theorem dX4_seedsOf_1 : decode cX4_seedsOf 1 = .ok (.iconst 0, 1) := by decide +kernel
theorem dX4_seedsOf_2 : decode cX4_seedsOf 2 = .ok (.putfield 50, 3) := by decide +kernel
theorem dX4_seedsOf_5 : decode cX4_seedsOf 5 = .ok (.aload_n 0, 1) := by decide +kernel
theorem dX4_seedsOf_6 : decode cX4_seedsOf 6 = .ok (.iload_n 1, 1) := by decide +kernel
theorem dX4_seedsOf_7 : decode cX4_seedsOf 7 = .ok (.invokevirtual 75, 3) := by decide +kernel
theorem dX4_seedsOf_10 : decode cX4_seedsOf 10 = .ok (.ifCond .ne 9, 3) := by decide +kernel
theorem dX4_seedsOf_13 : decode cX4_seedsOf 13 = .ok (.aload_n 0, 1) := by decide +kernel
theorem dX4_seedsOf_14 : decode cX4_seedsOf 14 = .ok (.iconst 1, 1) := by decide +kernel
theorem dX4_seedsOf_15 : decode cX4_seedsOf 15 = .ok (.invokevirtual 71, 3) := by decide +kernel
theorem dX4_seedsOf_18 : decode cX4_seedsOf 18 = .ok (.ireturn, 1) := by decide +kernel
theorem dX4_seedsOf_19 : decode cX4_seedsOf 19 = .ok (.aload_n 0, 1) := by decide +kernel
theorem dX4_seedsOf_20 : decode cX4_seedsOf 20 = .ok (.getfield 7, 3) := by decide +kernel
theorem dX4_seedsOf_23 : decode cX4_seedsOf 23 = .ok (.iload_n 1, 1) := by decide +kernel
theorem dX4_seedsOf_24 : decode cX4_seedsOf 24 = .ok (.iaload, 1) := by decide +kernel
theorem dX4_seedsOf_25 : decode cX4_seedsOf 25 = .ok (.invokestatic 79, 3) := by decide +kernel
theorem dX4_seedsOf_28 : decode cX4_seedsOf 28 = .ok (.istore_n 2, 1) := by decide +kernel
theorem dX4_seedsOf_29 : decode cX4_seedsOf 29 = .ok (.iconst 0, 1) := by decide +kernel
theorem dX4_seedsOf_30 : decode cX4_seedsOf 30 = .ok (.istore_n 3, 1) := by decide +kernel
theorem dX4_seedsOf_31 : decode cX4_seedsOf 31 = .ok (.iconst 0, 1) := by decide +kernel
theorem dX4_seedsOf_32 : decode cX4_seedsOf 32 = .ok (.istore 4, 2) := by decide +kernel
theorem dX4_seedsOf_34 : decode cX4_seedsOf 34 = .ok (.iload 4, 2) := by decide +kernel
theorem dX4_seedsOf_36 : decode cX4_seedsOf 36 = .ok (.ldc 82, 2) := by decide +kernel
theorem dX4_seedsOf_38 : decode cX4_seedsOf 38 = .ok (.if_icmp .ge 26, 3) := by decide +kernel
theorem dX4_seedsOf_41 : decode cX4_seedsOf 41 = .ok (.iload_n 3, 1) := by decide +kernel
theorem dX4_seedsOf_42 : decode cX4_seedsOf 42 = .ok (.iload 4, 2) := by decide +kernel
theorem dX4_seedsOf_44 : decode cX4_seedsOf 44 = .ok (.invokestatic 79, 3) := by decide +kernel
theorem dX4_seedsOf_47 : decode cX4_seedsOf 47 = .ok (.iload_n 2, 1) := by decide +kernel
theorem dX4_seedsOf_48 : decode cX4_seedsOf 48 = .ok (.if_icmp .ne 7, 3) := by decide +kernel
theorem dX4_seedsOf_51 : decode cX4_seedsOf 51 = .ok (.iconst 1, 1) := by decide +kernel
theorem dX4_seedsOf_52 : decode cX4_seedsOf 52 = .ok (.goto 4, 3) := by decide +kernel
theorem dX4_seedsOf_55 : decode cX4_seedsOf 55 = .ok (.iconst 0, 1) := by decide +kernel
theorem dX4_seedsOf_56 : decode cX4_seedsOf 56 = .ok (.iadd, 1) := by decide +kernel
theorem dX4_seedsOf_57 : decode cX4_seedsOf 57 = .ok (.istore_n 3, 1) := by decide +kernel
theorem dX4_seedsOf_58 : decode cX4_seedsOf 58 = .ok (.iinc 4 1, 3) := by decide +kernel
theorem dX4_seedsOf_61 : decode cX4_seedsOf 61 = .ok (.goto (-27), 3) := by decide +kernel
theorem dX4_seedsOf_64 : decode cX4_seedsOf 64 = .ok (.iload_n 3, 1) := by decide +kernel
theorem dX4_seedsOf_65 : decode cX4_seedsOf 65 = .ok (.ireturn, 1) := by decide +kernel
theorem dX4_open_0 : decode cX4_open 0 = .ok (.aload_n 0, 1) := by decide +kernel
theorem dX4_open_1 : decode cX4_open 1 = .ok (.iconst 0, 1) := by decide +kernel
theorem dX4_open_2 : decode cX4_open 2 = .ok (.putfield 50, 3) := by decide +kernel
theorem dX4_open_5 : decode cX4_open 5 = .ok (.aload_n 0, 1) := by decide +kernel
theorem dX4_open_6 : decode cX4_open 6 = .ok (.iload_n 1, 1) := by decide +kernel
theorem dX4_open_7 : decode cX4_open 7 = .ok (.invokevirtual 75, 3) := by decide +kernel
theorem dX4_open_10 : decode cX4_open 10 = .ok (.ifCond .ne 9, 3) := by decide +kernel
theorem dX4_open_13 : decode cX4_open 13 = .ok (.aload_n 0, 1) := by decide +kernel
theorem dX4_open_14 : decode cX4_open 14 = .ok (.iconst 1, 1) := by decide +kernel
theorem dX4_open_15 : decode cX4_open 15 = .ok (.invokevirtual 71, 3) := by decide +kernel
theorem dX4_open_18 : decode cX4_open 18 = .ok (.ireturn, 1) := by decide +kernel
theorem dX4_open_19 : decode cX4_open 19 = .ok (.aload_n 0, 1) := by decide +kernel
theorem dX4_open_20 : decode cX4_open 20 = .ok (.getfield 16, 3) := by decide +kernel
theorem dX4_open_23 : decode cX4_open 23 = .ok (.iload_n 1, 1) := by decide +kernel
theorem dX4_open_24 : decode cX4_open 24 = .ok (.baload, 1) := by decide +kernel
theorem dX4_open_25 : decode cX4_open 25 = .ok (.ifCond .eq 9, 3) := by decide +kernel
theorem dX4_open_28 : decode cX4_open 28 = .ok (.aload_n 0, 1) := by decide +kernel
theorem dX4_open_29 : decode cX4_open 29 = .ok (.iconst 2, 1) := by decide +kernel
theorem dX4_open_30 : decode cX4_open 30 = .ok (.invokevirtual 71, 3) := by decide +kernel
theorem dX4_open_33 : decode cX4_open 33 = .ok (.ireturn, 1) := by decide +kernel
theorem dX4_open_34 : decode cX4_open 34 = .ok (.aload_n 0, 1) := by decide +kernel
theorem dX4_open_35 : decode cX4_open 35 = .ok (.getfield 16, 3) := by decide +kernel
theorem dX4_open_38 : decode cX4_open 38 = .ok (.iload_n 1, 1) := by decide +kernel
theorem dX4_open_39 : decode cX4_open 39 = .ok (.iconst 1, 1) := by decide +kernel
theorem dX4_open_40 : decode cX4_open 40 = .ok (.bastore, 1) := by decide +kernel
theorem dX4_open_41 : decode cX4_open 41 = .ok (.aload_n 0, 1) := by decide +kernel
theorem dX4_open_42 : decode cX4_open 42 = .ok (.getfield 7, 3) := by decide +kernel
theorem dX4_open_45 : decode cX4_open 45 = .ok (.iload_n 1, 1) := by decide +kernel
theorem dX4_open_46 : decode cX4_open 46 = .ok (.iaload, 1) := by decide +kernel
theorem dX4_open_47 : decode cX4_open 47 = .ok (.ireturn, 1) := by decide +kernel
theorem dX4_isOpened_0 : decode cX4_isOpened 0 = .ok (.aload_n 0, 1) := by decide +kernel
theorem dX4_isOpened_1 : decode cX4_isOpened 1 = .ok (.aload_n 0, 1) := by decide +kernel
theorem dX4_isOpened_2 : decode cX4_isOpened 2 = .ok (.iload_n 1, 1) := by decide +kernel
theorem dX4_isOpened_3 : decode cX4_isOpened 3 = .ok (.invokevirtual 75, 3) := by decide +kernel
theorem dX4_isOpened_6 : decode cX4_isOpened 6 = .ok (.ifCond .eq 7, 3) := by decide +kernel
theorem dX4_isOpened_9 : decode cX4_isOpened 9 = .ok (.iconst 0, 1) := by decide +kernel
theorem dX4_isOpened_10 : decode cX4_isOpened 10 = .ok (.goto 4, 3) := by decide +kernel
theorem dX4_isOpened_13 : decode cX4_isOpened 13 = .ok (.iconst 1, 1) := by decide +kernel
theorem dX4_isOpened_14 : decode cX4_isOpened 14 = .ok (.putfield 50, 3) := by decide +kernel
theorem dX4_isOpened_17 : decode cX4_isOpened 17 = .ok (.aload_n 0, 1) := by decide +kernel
theorem dX4_isOpened_18 : decode cX4_isOpened 18 = .ok (.getfield 50, 3) := by decide +kernel
theorem dX4_isOpened_21 : decode cX4_isOpened 21 = .ok (.ifCond .ne 16, 3) := by decide +kernel
theorem dX4_isOpened_24 : decode cX4_isOpened 24 = .ok (.aload_n 0, 1) := by decide +kernel
theorem dX4_isOpened_25 : decode cX4_isOpened 25 = .ok (.getfield 16, 3) := by decide +kernel
theorem dX4_isOpened_28 : decode cX4_isOpened 28 = .ok (.iload_n 1, 1) := by decide +kernel
theorem dX4_isOpened_29 : decode cX4_isOpened 29 = .ok (.baload, 1) := by decide +kernel
theorem dX4_isOpened_30 : decode cX4_isOpened 30 = .ok (.ifCond .eq 7, 3) := by decide +kernel
theorem dX4_isOpened_33 : decode cX4_isOpened 33 = .ok (.iconst 1, 1) := by decide +kernel
theorem dX4_isOpened_34 : decode cX4_isOpened 34 = .ok (.goto 4, 3) := by decide +kernel
theorem dX4_isOpened_37 : decode cX4_isOpened 37 = .ok (.iconst 0, 1) := by decide +kernel
theorem dX4_isOpened_38 : decode cX4_isOpened 38 = .ok (.ireturn, 1) := by decide +kernel
theorem dX4_setPart_0 : decode cX4_setPart 0 = .ok (.aload_n 0, 1) := by decide +kernel
theorem dX4_setPart_1 : decode cX4_setPart 1 = .ok (.iconst 0, 1) := by decide +kernel
theorem dX4_setPart_2 : decode cX4_setPart 2 = .ok (.putfield 50, 3) := by decide +kernel
theorem dX4_setPart_5 : decode cX4_setPart 5 = .ok (.iload_n 1, 1) := by decide +kernel
theorem dX4_setPart_6 : decode cX4_setPart 6 = .ok (.invokestatic 83, 3) := by decide +kernel
theorem dX4_setPart_9 : decode cX4_setPart 9 = .ok (.ifCond .ne 9, 3) := by decide +kernel
theorem dX4_setPart_12 : decode cX4_setPart 12 = .ok (.aload_n 0, 1) := by decide +kernel
theorem dX4_setPart_13 : decode cX4_setPart 13 = .ok (.iconst 1, 1) := by decide +kernel
theorem dX4_setPart_14 : decode cX4_setPart 14 = .ok (.invokevirtual 71, 3) := by decide +kernel
theorem dX4_setPart_17 : decode cX4_setPart 17 = .ok (.ireturn, 1) := by decide +kernel
theorem dX4_setPart_18 : decode cX4_setPart 18 = .ok (.iload_n 2, 1) := by decide +kernel
theorem dX4_setPart_19 : decode cX4_setPart 19 = .ok (.iconst 0, 1) := by decide +kernel
theorem dX4_setPart_20 : decode cX4_setPart 20 = .ok (.sipush 999, 3) := by decide +kernel
theorem dX4_setPart_23 : decode cX4_setPart 23 = .ok (.invokestatic 57, 3) := by decide +kernel
theorem dX4_setPart_26 : decode cX4_setPart 26 = .ok (.ifCond .ne 9, 3) := by decide +kernel
theorem dX4_setPart_29 : decode cX4_setPart 29 = .ok (.aload_n 0, 1) := by decide +kernel
theorem dX4_setPart_30 : decode cX4_setPart 30 = .ok (.iconst 2, 1) := by decide +kernel
theorem dX4_setPart_31 : decode cX4_setPart 31 = .ok (.invokevirtual 71, 3) := by decide +kernel
theorem dX4_setPart_34 : decode cX4_setPart 34 = .ok (.ireturn, 1) := by decide +kernel
theorem dX4_setPart_35 : decode cX4_setPart 35 = .ok (.aload_n 0, 1) := by decide +kernel
theorem dX4_setPart_36 : decode cX4_setPart 36 = .ok (.getfield 23, 3) := by decide +kernel
theorem dX4_setPart_39 : decode cX4_setPart 39 = .ok (.iload_n 1, 1) := by decide +kernel
theorem dX4_setPart_40 : decode cX4_setPart 40 = .ok (.iaload, 1) := by decide +kernel
theorem dX4_setPart_41 : decode cX4_setPart 41 = .ok (.istore_n 3, 1) := by decide +kernel
theorem dX4_setPart_42 : decode cX4_setPart 42 = .ok (.aload_n 0, 1) := by decide +kernel
theorem dX4_setPart_43 : decode cX4_setPart 43 = .ok (.getfield 23, 3) := by decide +kernel
theorem dX4_setPart_46 : decode cX4_setPart 46 = .ok (.iload_n 1, 1) := by decide +kernel
theorem dX4_setPart_47 : decode cX4_setPart 47 = .ok (.iload_n 2, 1) := by decide +kernel
theorem dX4_setPart_48 : decode cX4_setPart 48 = .ok (.iastore, 1) := by decide +kernel
theorem dX4_setPart_49 : decode cX4_setPart 49 = .ok (.iload_n 3, 1) := by decide +kernel
theorem dX4_setPart_50 : decode cX4_setPart 50 = .ok (.ireturn, 1) := by decide +kernel
theorem dX4_rolls_0 : decode cX4_rolls 0 = .ok (.ldc 82, 2) := by decide +kernel
theorem dX4_rolls_2 : decode cX4_rolls 2 = .ok (.iload_n 3, 1) := by decide +kernel
theorem dX4_rolls_3 : decode cX4_rolls 3 = .ok (.idiv, 1) := by decide +kernel
theorem dX4_rolls_4 : decode cX4_rolls 4 = .ok (.iload_n 3, 1) := by decide +kernel
theorem dX4_rolls_5 : decode cX4_rolls 5 = .ok (.imul, 1) := by decide +kernel
theorem dX4_rolls_6 : decode cX4_rolls 6 = .ok (.istore 4, 2) := by decide +kernel
theorem dX4_rolls_8 : decode cX4_rolls 8 = .ok (.aload_n 0, 1) := by decide +kernel
theorem dX4_rolls_9 : decode cX4_rolls 9 = .ok (.sipush 1105, 3) := by decide +kernel
theorem dX4_rolls_12 : decode cX4_rolls 12 = .ok (.iload_n 1, 1) := by decide +kernel
theorem dX4_rolls_13 : decode cX4_rolls 13 = .ok (.imul, 1) := by decide +kernel
theorem dX4_rolls_14 : decode cX4_rolls 14 = .ok (.sipush 12345, 3) := by decide +kernel
theorem dX4_rolls_17 : decode cX4_rolls 17 = .ok (.iadd, 1) := by decide +kernel
theorem dX4_rolls_18 : decode cX4_rolls 18 = .ok (.iconst 2, 1) := by decide +kernel
theorem dX4_rolls_19 : decode cX4_rolls 19 = .ok (.iload_n 2, 1) := by decide +kernel
theorem dX4_rolls_20 : decode cX4_rolls 20 = .ok (.imul, 1) := by decide +kernel
theorem dX4_rolls_21 : decode cX4_rolls 21 = .ok (.iadd, 1) := by decide +kernel
theorem dX4_rolls_22 : decode cX4_rolls 22 = .ok (.ldc 82, 2) := by decide +kernel
theorem dX4_rolls_24 : decode cX4_rolls 24 = .ok (.irem, 1) := by decide +kernel
theorem dX4_rolls_25 : decode cX4_rolls 25 = .ok (.putfield 86, 3) := by decide +kernel
theorem dX4_rolls_28 : decode cX4_rolls 28 = .ok (.aload_n 0, 1) := by decide +kernel
theorem dX4_rolls_29 : decode cX4_rolls 29 = .ok (.iconst 0, 1) := by decide +kernel
theorem dX4_rolls_30 : decode cX4_rolls 30 = .ok (.putfield 89, 3) := by decide +kernel
theorem dX4_rolls_33 : decode cX4_rolls 33 = .ok (.aload_n 0, 1) := by decide +kernel
theorem dX4_rolls_34 : decode cX4_rolls 34 = .ok (.getfield 86, 3) := by decide +kernel
theorem dX4_rolls_37 : decode cX4_rolls 37 = .ok (.iload 4, 2) := by decide +kernel
theorem dX4_rolls_39 : decode cX4_rolls 39 = .ok (.if_icmp .lt 39, 3) := by decide +kernel
theorem dX4_rolls_42 : decode cX4_rolls 42 = .ok (.aload_n 0, 1) := by decide +kernel
theorem dX4_rolls_43 : decode cX4_rolls 43 = .ok (.sipush 1105, 3) := by decide +kernel
theorem dX4_rolls_46 : decode cX4_rolls 46 = .ok (.aload_n 0, 1) := by decide +kernel
theorem dX4_rolls_47 : decode cX4_rolls 47 = .ok (.getfield 86, 3) := by decide +kernel
theorem dX4_rolls_50 : decode cX4_rolls 50 = .ok (.imul, 1) := by decide +kernel
theorem dX4_rolls_51 : decode cX4_rolls 51 = .ok (.sipush 12345, 3) := by decide +kernel
theorem dX4_rolls_54 : decode cX4_rolls 54 = .ok (.iadd, 1) := by decide +kernel
theorem dX4_rolls_55 : decode cX4_rolls 55 = .ok (.iconst 2, 1) := by decide +kernel
theorem dX4_rolls_56 : decode cX4_rolls 56 = .ok (.iload_n 2, 1) := by decide +kernel
theorem dX4_rolls_57 : decode cX4_rolls 57 = .ok (.imul, 1) := by decide +kernel
theorem dX4_rolls_58 : decode cX4_rolls 58 = .ok (.iadd, 1) := by decide +kernel
theorem dX4_rolls_59 : decode cX4_rolls 59 = .ok (.ldc 82, 2) := by decide +kernel
theorem dX4_rolls_61 : decode cX4_rolls 61 = .ok (.irem, 1) := by decide +kernel
theorem dX4_rolls_62 : decode cX4_rolls 62 = .ok (.putfield 86, 3) := by decide +kernel
theorem dX4_rolls_65 : decode cX4_rolls 65 = .ok (.aload_n 0, 1) := by decide +kernel
theorem dX4_rolls_66 : decode cX4_rolls 66 = .ok (.dup, 1) := by decide +kernel
theorem dX4_rolls_67 : decode cX4_rolls 67 = .ok (.getfield 89, 3) := by decide +kernel
theorem dX4_rolls_70 : decode cX4_rolls 70 = .ok (.iconst 1, 1) := by decide +kernel
theorem dX4_rolls_71 : decode cX4_rolls 71 = .ok (.iadd, 1) := by decide +kernel
theorem dX4_rolls_72 : decode cX4_rolls 72 = .ok (.putfield 89, 3) := by decide +kernel
theorem dX4_rolls_75 : decode cX4_rolls 75 = .ok (.goto (-42), 3) := by decide +kernel
theorem dX4_rolls_78 : decode cX4_rolls 78 = .ok (.aload_n 0, 1) := by decide +kernel
theorem dX4_rolls_79 : decode cX4_rolls 79 = .ok (.getfield 86, 3) := by decide +kernel
theorem dX4_rolls_82 : decode cX4_rolls 82 = .ok (.iload_n 3, 1) := by decide +kernel
theorem dX4_rolls_83 : decode cX4_rolls 83 = .ok (.irem, 1) := by decide +kernel
theorem dX4_rolls_84 : decode cX4_rolls 84 = .ok (.iconst 1, 1) := by decide +kernel
theorem dX4_rolls_85 : decode cX4_rolls 85 = .ok (.iadd, 1) := by decide +kernel
theorem dX4_rolls_86 : decode cX4_rolls 86 = .ok (.ireturn, 1) := by decide +kernel
theorem dX4_sumOf_0 : decode cX4_sumOf 0 = .ok (.iload_n 1, 1) := by decide +kernel
theorem dX4_sumOf_1 : decode cX4_sumOf 1 = .ok (.ifCond .ne 8, 3) := by decide +kernel
theorem dX4_sumOf_4 : decode cX4_sumOf 4 = .ok (.bipush 17, 2) := by decide +kernel
theorem dX4_sumOf_6 : decode cX4_sumOf 6 = .ok (.goto 11, 3) := by decide +kernel
theorem dX4_sumOf_9 : decode cX4_sumOf 9 = .ok (.aload_n 0, 1) := by decide +kernel
theorem dX4_sumOf_10 : decode cX4_sumOf 10 = .ok (.getfield 44, 3) := by decide +kernel
theorem dX4_sumOf_13 : decode cX4_sumOf 13 = .ok (.iload_n 1, 1) := by decide +kernel
theorem dX4_sumOf_14 : decode cX4_sumOf 14 = .ok (.iconst 1, 1) := by decide +kernel
theorem dX4_sumOf_15 : decode cX4_sumOf 15 = .ok (.isub, 1) := by decide +kernel
theorem dX4_sumOf_16 : decode cX4_sumOf 16 = .ok (.iaload, 1) := by decide +kernel
theorem dX4_sumOf_17 : decode cX4_sumOf 17 = .ok (.istore_n 2, 1) := by decide +kernel
theorem dX4_sumOf_18 : decode cX4_sumOf 18 = .ok (.bipush 31, 2) := by decide +kernel
theorem dX4_sumOf_20 : decode cX4_sumOf 20 = .ok (.iload_n 2, 1) := by decide +kernel
theorem dX4_sumOf_21 : decode cX4_sumOf 21 = .ok (.imul, 1) := by decide +kernel
theorem dX4_sumOf_22 : decode cX4_sumOf 22 = .ok (.bipush 7, 2) := by decide +kernel
theorem dX4_sumOf_24 : decode cX4_sumOf 24 = .ok (.aload_n 0, 1) := by decide +kernel
theorem dX4_sumOf_25 : decode cX4_sumOf 25 = .ok (.getfield 26, 3) := by decide +kernel
theorem dX4_sumOf_28 : decode cX4_sumOf 28 = .ok (.iload_n 1, 1) := by decide +kernel
theorem dX4_sumOf_29 : decode cX4_sumOf 29 = .ok (.iaload, 1) := by decide +kernel
theorem dX4_sumOf_30 : decode cX4_sumOf 30 = .ok (.imul, 1) := by decide +kernel
theorem dX4_sumOf_31 : decode cX4_sumOf 31 = .ok (.iadd, 1) := by decide +kernel
theorem dX4_sumOf_32 : decode cX4_sumOf 32 = .ok (.iconst 5, 1) := by decide +kernel
theorem dX4_sumOf_33 : decode cX4_sumOf 33 = .ok (.aload_n 0, 1) := by decide +kernel
theorem dX4_sumOf_34 : decode cX4_sumOf 34 = .ok (.getfield 29, 3) := by decide +kernel
theorem dX4_sumOf_37 : decode cX4_sumOf 37 = .ok (.iload_n 1, 1) := by decide +kernel
theorem dX4_sumOf_38 : decode cX4_sumOf 38 = .ok (.iaload, 1) := by decide +kernel
theorem dX4_sumOf_39 : decode cX4_sumOf 39 = .ok (.imul, 1) := by decide +kernel
theorem dX4_sumOf_40 : decode cX4_sumOf 40 = .ok (.iadd, 1) := by decide +kernel
theorem dX4_sumOf_41 : decode cX4_sumOf 41 = .ok (.iconst 3, 1) := by decide +kernel
theorem dX4_sumOf_42 : decode cX4_sumOf 42 = .ok (.aload_n 0, 1) := by decide +kernel
theorem dX4_sumOf_43 : decode cX4_sumOf 43 = .ok (.getfield 35, 3) := by decide +kernel
theorem dX4_sumOf_46 : decode cX4_sumOf 46 = .ok (.iload_n 1, 1) := by decide +kernel
theorem dX4_sumOf_47 : decode cX4_sumOf 47 = .ok (.iaload, 1) := by decide +kernel
theorem dX4_sumOf_48 : decode cX4_sumOf 48 = .ok (.imul, 1) := by decide +kernel
theorem dX4_sumOf_49 : decode cX4_sumOf 49 = .ok (.iadd, 1) := by decide +kernel
theorem dX4_sumOf_50 : decode cX4_sumOf 50 = .ok (.bipush 11, 2) := by decide +kernel
theorem dX4_sumOf_52 : decode cX4_sumOf 52 = .ok (.aload_n 0, 1) := by decide +kernel
theorem dX4_sumOf_53 : decode cX4_sumOf 53 = .ok (.getfield 38, 3) := by decide +kernel
theorem dX4_sumOf_56 : decode cX4_sumOf 56 = .ok (.iload_n 1, 1) := by decide +kernel
theorem dX4_sumOf_57 : decode cX4_sumOf 57 = .ok (.iaload, 1) := by decide +kernel
theorem dX4_sumOf_58 : decode cX4_sumOf 58 = .ok (.imul, 1) := by decide +kernel
theorem dX4_sumOf_59 : decode cX4_sumOf 59 = .ok (.iadd, 1) := by decide +kernel
theorem dX4_sumOf_60 : decode cX4_sumOf 60 = .ok (.aload_n 0, 1) := by decide +kernel
theorem dX4_sumOf_61 : decode cX4_sumOf 61 = .ok (.getfield 41, 3) := by decide +kernel
theorem dX4_sumOf_64 : decode cX4_sumOf 64 = .ok (.iload_n 1, 1) := by decide +kernel
theorem dX4_sumOf_65 : decode cX4_sumOf 65 = .ok (.iaload, 1) := by decide +kernel
theorem dX4_sumOf_66 : decode cX4_sumOf 66 = .ok (.iadd, 1) := by decide +kernel
theorem dX4_sumOf_67 : decode cX4_sumOf 67 = .ok (.ldc 92, 2) := by decide +kernel
theorem dX4_sumOf_69 : decode cX4_sumOf 69 = .ok (.irem, 1) := by decide +kernel
theorem dX4_sumOf_70 : decode cX4_sumOf 70 = .ok (.ireturn, 1) := by decide +kernel
theorem dX4_roll_0 : decode cX4_roll 0 = .ok (.aload_n 0, 1) := by decide +kernel
theorem dX4_roll_1 : decode cX4_roll 1 = .ok (.iconst 0, 1) := by decide +kernel
theorem dX4_roll_2 : decode cX4_roll 2 = .ok (.putfield 50, 3) := by decide +kernel
theorem dX4_roll_5 : decode cX4_roll 5 = .ok (.aload_n 0, 1) := by decide +kernel
theorem dX4_roll_6 : decode cX4_roll 6 = .ok (.iload_n 1, 1) := by decide +kernel
theorem dX4_roll_7 : decode cX4_roll 7 = .ok (.invokevirtual 75, 3) := by decide +kernel
theorem dX4_roll_10 : decode cX4_roll 10 = .ok (.ifCond .eq 10, 3) := by decide +kernel
theorem dX4_roll_13 : decode cX4_roll 13 = .ok (.iload_n 2, 1) := by decide +kernel
theorem dX4_roll_14 : decode cX4_roll 14 = .ok (.invokestatic 83, 3) := by decide +kernel
theorem dX4_roll_17 : decode cX4_roll 17 = .ok (.ifCond .ne 9, 3) := by decide +kernel
theorem dX4_roll_20 : decode cX4_roll 20 = .ok (.aload_n 0, 1) := by decide +kernel
theorem dX4_roll_21 : decode cX4_roll 21 = .ok (.iconst 1, 1) := by decide +kernel
theorem dX4_roll_22 : decode cX4_roll 22 = .ok (.invokevirtual 71, 3) := by decide +kernel
theorem dX4_roll_25 : decode cX4_roll 25 = .ok (.ireturn, 1) := by decide +kernel
theorem dX4_roll_26 : decode cX4_roll 26 = .ok (.iload_n 3, 1) := by decide +kernel
theorem dX4_roll_27 : decode cX4_roll 27 = .ok (.invokestatic 93, 3) := by decide +kernel
theorem dX4_roll_30 : decode cX4_roll 30 = .ok (.ifCond .ne 9, 3) := by decide +kernel
theorem dX4_roll_33 : decode cX4_roll 33 = .ok (.aload_n 0, 1) := by decide +kernel
theorem dX4_roll_34 : decode cX4_roll 34 = .ok (.iconst 2, 1) := by decide +kernel
theorem dX4_roll_35 : decode cX4_roll 35 = .ok (.invokevirtual 71, 3) := by decide +kernel
theorem dX4_roll_38 : decode cX4_roll 38 = .ok (.ireturn, 1) := by decide +kernel
theorem dX4_roll_39 : decode cX4_roll 39 = .ok (.aload_n 0, 1) := by decide +kernel
theorem dX4_roll_40 : decode cX4_roll 40 = .ok (.getfield 16, 3) := by decide +kernel
theorem dX4_roll_43 : decode cX4_roll 43 = .ok (.iload_n 1, 1) := by decide +kernel
theorem dX4_roll_44 : decode cX4_roll 44 = .ok (.baload, 1) := by decide +kernel
theorem dX4_roll_45 : decode cX4_roll 45 = .ok (.ifCond .ne 12, 3) := by decide +kernel
theorem dX4_roll_48 : decode cX4_roll 48 = .ok (.aload_n 0, 1) := by decide +kernel
theorem dX4_roll_49 : decode cX4_roll 49 = .ok (.getfield 61, 3) := by decide +kernel
theorem dX4_roll_52 : decode cX4_roll 52 = .ok (.bipush 100, 2) := by decide +kernel
theorem dX4_roll_54 : decode cX4_roll 54 = .ok (.if_icmp .ne 9, 3) := by decide +kernel
theorem dX4_roll_57 : decode cX4_roll 57 = .ok (.aload_n 0, 1) := by decide +kernel
theorem dX4_roll_58 : decode cX4_roll 58 = .ok (.iconst 3, 1) := by decide +kernel
theorem dX4_roll_59 : decode cX4_roll 59 = .ok (.invokevirtual 71, 3) := by decide +kernel
theorem dX4_roll_62 : decode cX4_roll 62 = .ok (.ireturn, 1) := by decide +kernel
theorem dX4_roll_63 : decode cX4_roll 63 = .ok (.aload_n 0, 1) := by decide +kernel
theorem dX4_roll_64 : decode cX4_roll 64 = .ok (.aload_n 0, 1) := by decide +kernel
theorem dX4_roll_65 : decode cX4_roll 65 = .ok (.getfield 13, 3) := by decide +kernel
theorem dX4_roll_68 : decode cX4_roll 68 = .ok (.iload_n 1, 1) := by decide +kernel
theorem dX4_roll_69 : decode cX4_roll 69 = .ok (.iaload, 1) := by decide +kernel
theorem dX4_roll_70 : decode cX4_roll 70 = .ok (.aload_n 0, 1) := by decide +kernel
theorem dX4_roll_71 : decode cX4_roll 71 = .ok (.getfield 23, 3) := by decide +kernel
theorem dX4_roll_74 : decode cX4_roll 74 = .ok (.iload_n 2, 1) := by decide +kernel
theorem dX4_roll_75 : decode cX4_roll 75 = .ok (.iaload, 1) := by decide +kernel
theorem dX4_roll_76 : decode cX4_roll 76 = .ok (.iload_n 3, 1) := by decide +kernel
theorem dX4_roll_77 : decode cX4_roll 77 = .ok (.invokevirtual 96, 3) := by decide +kernel
theorem dX4_roll_80 : decode cX4_roll 80 = .ok (.istore 4, 2) := by decide +kernel
theorem dX4_roll_82 : decode cX4_roll 82 = .ok (.aload_n 0, 1) := by decide +kernel
theorem dX4_roll_83 : decode cX4_roll 83 = .ok (.getfield 13, 3) := by decide +kernel
theorem dX4_roll_86 : decode cX4_roll 86 = .ok (.iload_n 1, 1) := by decide +kernel
theorem dX4_roll_87 : decode cX4_roll 87 = .ok (.aload_n 0, 1) := by decide +kernel
theorem dX4_roll_88 : decode cX4_roll 88 = .ok (.getfield 86, 3) := by decide +kernel
theorem dX4_roll_91 : decode cX4_roll 91 = .ok (.iastore, 1) := by decide +kernel
theorem dX4_roll_92 : decode cX4_roll 92 = .ok (.aload_n 0, 1) := by decide +kernel
theorem dX4_roll_93 : decode cX4_roll 93 = .ok (.getfield 26, 3) := by decide +kernel
theorem dX4_roll_96 : decode cX4_roll 96 = .ok (.aload_n 0, 1) := by decide +kernel
theorem dX4_roll_97 : decode cX4_roll 97 = .ok (.getfield 61, 3) := by decide +kernel
theorem dX4_roll_100 : decode cX4_roll 100 = .ok (.iload_n 1, 1) := by decide +kernel
theorem dX4_roll_101 : decode cX4_roll 101 = .ok (.iastore, 1) := by decide +kernel
theorem dX4_roll_102 : decode cX4_roll 102 = .ok (.aload_n 0, 1) := by decide +kernel
theorem dX4_roll_103 : decode cX4_roll 103 = .ok (.getfield 29, 3) := by decide +kernel
theorem dX4_roll_106 : decode cX4_roll 106 = .ok (.aload_n 0, 1) := by decide +kernel
theorem dX4_roll_107 : decode cX4_roll 107 = .ok (.getfield 61, 3) := by decide +kernel
theorem dX4_roll_110 : decode cX4_roll 110 = .ok (.iload_n 2, 1) := by decide +kernel
theorem dX4_roll_111 : decode cX4_roll 111 = .ok (.iastore, 1) := by decide +kernel
theorem dX4_roll_112 : decode cX4_roll 112 = .ok (.aload_n 0, 1) := by decide +kernel
theorem dX4_roll_113 : decode cX4_roll 113 = .ok (.getfield 32, 3) := by decide +kernel
theorem dX4_roll_116 : decode cX4_roll 116 = .ok (.aload_n 0, 1) := by decide +kernel
theorem dX4_roll_117 : decode cX4_roll 117 = .ok (.getfield 61, 3) := by decide +kernel
theorem dX4_roll_120 : decode cX4_roll 120 = .ok (.aload_n 0, 1) := by decide +kernel
theorem dX4_roll_121 : decode cX4_roll 121 = .ok (.getfield 23, 3) := by decide +kernel
theorem dX4_roll_124 : decode cX4_roll 124 = .ok (.iload_n 2, 1) := by decide +kernel
theorem dX4_roll_125 : decode cX4_roll 125 = .ok (.iaload, 1) := by decide +kernel
theorem dX4_roll_126 : decode cX4_roll 126 = .ok (.iastore, 1) := by decide +kernel
theorem dX4_roll_127 : decode cX4_roll 127 = .ok (.aload_n 0, 1) := by decide +kernel
theorem dX4_roll_128 : decode cX4_roll 128 = .ok (.getfield 35, 3) := by decide +kernel
theorem dX4_roll_131 : decode cX4_roll 131 = .ok (.aload_n 0, 1) := by decide +kernel
theorem dX4_roll_132 : decode cX4_roll 132 = .ok (.getfield 61, 3) := by decide +kernel
theorem dX4_roll_135 : decode cX4_roll 135 = .ok (.iload_n 3, 1) := by decide +kernel
theorem dX4_roll_136 : decode cX4_roll 136 = .ok (.iastore, 1) := by decide +kernel
theorem dX4_roll_137 : decode cX4_roll 137 = .ok (.aload_n 0, 1) := by decide +kernel
theorem dX4_roll_138 : decode cX4_roll 138 = .ok (.getfield 38, 3) := by decide +kernel
theorem dX4_roll_141 : decode cX4_roll 141 = .ok (.aload_n 0, 1) := by decide +kernel
theorem dX4_roll_142 : decode cX4_roll 142 = .ok (.getfield 61, 3) := by decide +kernel
theorem dX4_roll_145 : decode cX4_roll 145 = .ok (.iload 4, 2) := by decide +kernel
theorem dX4_roll_147 : decode cX4_roll 147 = .ok (.iastore, 1) := by decide +kernel
theorem dX4_roll_148 : decode cX4_roll 148 = .ok (.aload_n 0, 1) := by decide +kernel
theorem dX4_roll_149 : decode cX4_roll 149 = .ok (.getfield 41, 3) := by decide +kernel
theorem dX4_roll_152 : decode cX4_roll 152 = .ok (.aload_n 0, 1) := by decide +kernel
theorem dX4_roll_153 : decode cX4_roll 153 = .ok (.getfield 61, 3) := by decide +kernel
theorem dX4_roll_156 : decode cX4_roll 156 = .ok (.aload_n 0, 1) := by decide +kernel
theorem dX4_roll_157 : decode cX4_roll 157 = .ok (.getfield 89, 3) := by decide +kernel
theorem dX4_roll_160 : decode cX4_roll 160 = .ok (.iastore, 1) := by decide +kernel
theorem dX4_roll_161 : decode cX4_roll 161 = .ok (.aload_n 0, 1) := by decide +kernel
theorem dX4_roll_162 : decode cX4_roll 162 = .ok (.getfield 44, 3) := by decide +kernel
theorem dX4_roll_165 : decode cX4_roll 165 = .ok (.aload_n 0, 1) := by decide +kernel
theorem dX4_roll_166 : decode cX4_roll 166 = .ok (.getfield 61, 3) := by decide +kernel
theorem dX4_roll_169 : decode cX4_roll 169 = .ok (.aload_n 0, 1) := by decide +kernel
theorem dX4_roll_170 : decode cX4_roll 170 = .ok (.aload_n 0, 1) := by decide +kernel
theorem dX4_roll_171 : decode cX4_roll 171 = .ok (.getfield 61, 3) := by decide +kernel
theorem dX4_roll_174 : decode cX4_roll 174 = .ok (.invokevirtual 100, 3) := by decide +kernel
theorem dX4_roll_177 : decode cX4_roll 177 = .ok (.iastore, 1) := by decide +kernel
theorem dX4_roll_178 : decode cX4_roll 178 = .ok (.aload_n 0, 1) := by decide +kernel
theorem dX4_roll_179 : decode cX4_roll 179 = .ok (.dup, 1) := by decide +kernel
theorem dX4_roll_180 : decode cX4_roll 180 = .ok (.getfield 61, 3) := by decide +kernel
theorem dX4_roll_183 : decode cX4_roll 183 = .ok (.iconst 1, 1) := by decide +kernel
theorem dX4_roll_184 : decode cX4_roll 184 = .ok (.iadd, 1) := by decide +kernel
theorem dX4_roll_185 : decode cX4_roll 185 = .ok (.putfield 61, 3) := by decide +kernel
theorem dX4_roll_188 : decode cX4_roll 188 = .ok (.iload 4, 2) := by decide +kernel
theorem dX4_roll_190 : decode cX4_roll 190 = .ok (.ireturn, 1) := by decide +kernel
theorem dX4_entries_0 : decode cX4_entries 0 = .ok (.aload_n 0, 1) := by decide +kernel
theorem dX4_entries_1 : decode cX4_entries 1 = .ok (.iconst 0, 1) := by decide +kernel
theorem dX4_entries_2 : decode cX4_entries 2 = .ok (.putfield 50, 3) := by decide +kernel
theorem dX4_entries_5 : decode cX4_entries 5 = .ok (.aload_n 0, 1) := by decide +kernel
theorem dX4_entries_6 : decode cX4_entries 6 = .ok (.getfield 61, 3) := by decide +kernel
theorem dX4_entries_9 : decode cX4_entries 9 = .ok (.ireturn, 1) := by decide +kernel
theorem dX4_value_0 : decode cX4_value 0 = .ok (.aload_n 0, 1) := by decide +kernel
theorem dX4_value_1 : decode cX4_value 1 = .ok (.iconst 0, 1) := by decide +kernel
theorem dX4_value_2 : decode cX4_value 2 = .ok (.putfield 50, 3) := by decide +kernel
theorem dX4_value_5 : decode cX4_value 5 = .ok (.aload_n 0, 1) := by decide +kernel
theorem dX4_value_6 : decode cX4_value 6 = .ok (.iload_n 1, 1) := by decide +kernel
theorem dX4_value_7 : decode cX4_value 7 = .ok (.invokevirtual 103, 3) := by decide +kernel
theorem dX4_value_10 : decode cX4_value 10 = .ok (.ifCond .eq 12, 3) := by decide +kernel
theorem dX4_value_13 : decode cX4_value 13 = .ok (.aload_n 0, 1) := by decide +kernel
theorem dX4_value_14 : decode cX4_value 14 = .ok (.getfield 38, 3) := by decide +kernel
theorem dX4_value_17 : decode cX4_value 17 = .ok (.iload_n 1, 1) := by decide +kernel
theorem dX4_value_18 : decode cX4_value 18 = .ok (.iaload, 1) := by decide +kernel
theorem dX4_value_19 : decode cX4_value 19 = .ok (.goto 8, 3) := by decide +kernel
theorem dX4_value_22 : decode cX4_value 22 = .ok (.aload_n 0, 1) := by decide +kernel
theorem dX4_value_23 : decode cX4_value 23 = .ok (.iconst 1, 1) := by decide +kernel
theorem dX4_value_24 : decode cX4_value 24 = .ok (.invokevirtual 71, 3) := by decide +kernel
theorem dX4_value_27 : decode cX4_value 27 = .ok (.ireturn, 1) := by decide +kernel
theorem dX4_rejected_0 : decode cX4_rejected 0 = .ok (.aload_n 0, 1) := by decide +kernel
theorem dX4_rejected_1 : decode cX4_rejected 1 = .ok (.iconst 0, 1) := by decide +kernel
theorem dX4_rejected_2 : decode cX4_rejected 2 = .ok (.putfield 50, 3) := by decide +kernel
theorem dX4_rejected_5 : decode cX4_rejected 5 = .ok (.aload_n 0, 1) := by decide +kernel
theorem dX4_rejected_6 : decode cX4_rejected 6 = .ok (.iload_n 1, 1) := by decide +kernel
theorem dX4_rejected_7 : decode cX4_rejected 7 = .ok (.invokevirtual 103, 3) := by decide +kernel
theorem dX4_rejected_10 : decode cX4_rejected 10 = .ok (.ifCond .eq 12, 3) := by decide +kernel
theorem dX4_rejected_13 : decode cX4_rejected 13 = .ok (.aload_n 0, 1) := by decide +kernel
theorem dX4_rejected_14 : decode cX4_rejected 14 = .ok (.getfield 41, 3) := by decide +kernel
theorem dX4_rejected_17 : decode cX4_rejected 17 = .ok (.iload_n 1, 1) := by decide +kernel
theorem dX4_rejected_18 : decode cX4_rejected 18 = .ok (.iaload, 1) := by decide +kernel
theorem dX4_rejected_19 : decode cX4_rejected 19 = .ok (.goto 8, 3) := by decide +kernel
theorem dX4_rejected_22 : decode cX4_rejected 22 = .ok (.aload_n 0, 1) := by decide +kernel
theorem dX4_rejected_23 : decode cX4_rejected 23 = .ok (.iconst 1, 1) := by decide +kernel
theorem dX4_rejected_24 : decode cX4_rejected 24 = .ok (.invokevirtual 71, 3) := by decide +kernel
theorem dX4_rejected_27 : decode cX4_rejected 27 = .ok (.ireturn, 1) := by decide +kernel
theorem dX4_sum_0 : decode cX4_sum 0 = .ok (.aload_n 0, 1) := by decide +kernel
theorem dX4_sum_1 : decode cX4_sum 1 = .ok (.iconst 0, 1) := by decide +kernel
theorem dX4_sum_2 : decode cX4_sum 2 = .ok (.putfield 50, 3) := by decide +kernel
theorem dX4_sum_5 : decode cX4_sum 5 = .ok (.aload_n 0, 1) := by decide +kernel
theorem dX4_sum_6 : decode cX4_sum 6 = .ok (.iload_n 1, 1) := by decide +kernel
theorem dX4_sum_7 : decode cX4_sum 7 = .ok (.invokevirtual 103, 3) := by decide +kernel
theorem dX4_sum_10 : decode cX4_sum 10 = .ok (.ifCond .eq 12, 3) := by decide +kernel
theorem dX4_sum_13 : decode cX4_sum 13 = .ok (.aload_n 0, 1) := by decide +kernel
theorem dX4_sum_14 : decode cX4_sum 14 = .ok (.getfield 44, 3) := by decide +kernel
theorem dX4_sum_17 : decode cX4_sum 17 = .ok (.iload_n 1, 1) := by decide +kernel
theorem dX4_sum_18 : decode cX4_sum 18 = .ok (.iaload, 1) := by decide +kernel
theorem dX4_sum_19 : decode cX4_sum 19 = .ok (.goto 8, 3) := by decide +kernel
theorem dX4_sum_22 : decode cX4_sum 22 = .ok (.aload_n 0, 1) := by decide +kernel
theorem dX4_sum_23 : decode cX4_sum 23 = .ok (.iconst 1, 1) := by decide +kernel
theorem dX4_sum_24 : decode cX4_sum 24 = .ok (.invokevirtual 71, 3) := by decide +kernel
theorem dX4_sum_27 : decode cX4_sum 27 = .ok (.ireturn, 1) := by decide +kernel
theorem dX4_alter_0 : decode cX4_alter 0 = .ok (.aload_n 0, 1) := by decide +kernel
theorem dX4_alter_1 : decode cX4_alter 1 = .ok (.iconst 0, 1) := by decide +kernel
