theorem dX10_init_0 : decode cX10_init 0 = .ok (.aload_n 0, 1) := by decide +kernel
theorem dX10_init_1 : decode cX10_init 1 = .ok (.invokespecial 1, 3) := by decide +kernel
theorem dX10_init_4 : decode cX10_init 4 = .ok (.aload_n 0, 1) := by decide +kernel
theorem dX10_init_5 : decode cX10_init 5 = .ok (.bipush 10, 2) := by decide +kernel
theorem dX10_init_7 : decode cX10_init 7 = .ok (.newarray .boolean, 2) := by decide +kernel
theorem dX10_init_9 : decode cX10_init 9 = .ok (.putfield 7, 3) := by decide +kernel
theorem dX10_init_12 : decode cX10_init 12 = .ok (.return_, 1) := by decide +kernel
theorem dX11_init_0 : decode cX11_init 0 = .ok (.aload_n 0, 1) := by decide +kernel
theorem dX11_init_1 : decode cX11_init 1 = .ok (.invokespecial 1, 3) := by decide +kernel
theorem dX11_init_4 : decode cX11_init 4 = .ok (.aload_n 0, 1) := by decide +kernel
theorem dX11_init_5 : decode cX11_init 5 = .ok (.new 7, 3) := by decide +kernel
theorem dX11_init_8 : decode cX11_init 8 = .ok (.dup, 1) := by decide +kernel
theorem dX11_init_9 : decode cX11_init 9 = .ok (.invokespecial 9, 3) := by decide +kernel
theorem dX11_init_12 : decode cX11_init 12 = .ok (.putfield 10, 3) := by decide +kernel
theorem dX11_init_15 : decode cX11_init 15 = .ok (.aload_n 0, 1) := by decide +kernel
theorem dX11_init_16 : decode cX11_init 16 = .ok (.new 7, 3) := by decide +kernel
theorem dX11_init_19 : decode cX11_init 19 = .ok (.dup, 1) := by decide +kernel
theorem dX11_init_20 : decode cX11_init 20 = .ok (.invokespecial 9, 3) := by decide +kernel
theorem dX11_init_23 : decode cX11_init 23 = .ok (.putfield 16, 3) := by decide +kernel
theorem dX11_init_26 : decode cX11_init 26 = .ok (.return_, 1) := by decide +kernel
theorem dX11_thrown_0 : decode cX11_thrown 0 = .ok (.aload_n 0, 1) := by decide +kernel
theorem dX11_thrown_1 : decode cX11_thrown 1 = .ok (.getfield 19, 3) := by decide +kernel
theorem dX11_thrown_4 : decode cX11_thrown 4 = .ok (.ireturn, 1) := by decide +kernel
theorem dX11_in_0 : decode cX11_in 0 = .ok (.iload_n 0, 1) := by decide +kernel
theorem dX11_in_1 : decode cX11_in 1 = .ok (.iload_n 1, 1) := by decide +kernel
theorem dX11_in_2 : decode cX11_in 2 = .ok (.if_icmp .lt 12, 3) := by decide +kernel
theorem dX11_in_5 : decode cX11_in 5 = .ok (.iload_n 0, 1) := by decide +kernel
theorem dX11_in_6 : decode cX11_in 6 = .ok (.iload_n 2, 1) := by decide +kernel
theorem dX11_in_7 : decode cX11_in 7 = .ok (.if_icmp .gt 7, 3) := by decide +kernel
theorem dX11_in_10 : decode cX11_in 10 = .ok (.iconst 1, 1) := by decide +kernel
theorem dX11_in_11 : decode cX11_in 11 = .ok (.goto 4, 3) := by decide +kernel
theorem dX11_in_14 : decode cX11_in 14 = .ok (.iconst 0, 1) := by decide +kernel
theorem dX11_in_15 : decode cX11_in 15 = .ok (.ireturn, 1) := by decide +kernel
theorem dX11_fails_0 : decode cX11_fails 0 = .ok (.iload_n 1, 1) := by decide +kernel
theorem dX11_fails_1 : decode cX11_fails 1 = .ok (.ifCond .eq 15, 3) := by decide +kernel
theorem dX11_fails_4 : decode cX11_fails 4 = .ok (.aload_n 0, 1) := by decide +kernel
theorem dX11_fails_5 : decode cX11_fails 5 = .ok (.getfield 19, 3) := by decide +kernel
theorem dX11_fails_8 : decode cX11_fails 8 = .ok (.ifCond .ne 8, 3) := by decide +kernel
theorem dX11_fails_11 : decode cX11_fails 11 = .ok (.aload_n 0, 1) := by decide +kernel
theorem dX11_fails_12 : decode cX11_fails 12 = .ok (.iload_n 2, 1) := by decide +kernel
theorem dX11_fails_13 : decode cX11_fails 13 = .ok (.putfield 19, 3) := by decide +kernel
theorem dX11_fails_16 : decode cX11_fails 16 = .ok (.aload_n 0, 1) := by decide +kernel
theorem dX11_fails_17 : decode cX11_fails 17 = .ok (.getfield 19, 3) := by decide +kernel
theorem dX11_fails_20 : decode cX11_fails 20 = .ok (.ifCond .eq 7, 3) := by decide +kernel
theorem dX11_fails_23 : decode cX11_fails 23 = .ok (.iconst 1, 1) := by decide +kernel
theorem dX11_fails_24 : decode cX11_fails 24 = .ok (.goto 4, 3) := by decide +kernel
theorem dX11_fails_27 : decode cX11_fails 27 = .ok (.iconst 0, 1) := by decide +kernel
theorem dX11_fails_28 : decode cX11_fails 28 = .ok (.ireturn, 1) := by decide +kernel
theorem dX11_noSkill_0 : decode cX11_noSkill 0 = .ok (.iload_n 1, 1) := by decide +kernel
theorem dX11_noSkill_1 : decode cX11_noSkill 1 = .ok (.iconst 0, 1) := by decide +kernel
theorem dX11_noSkill_2 : decode cX11_noSkill 2 = .ok (.aload_n 0, 1) := by decide +kernel
theorem dX11_noSkill_3 : decode cX11_noSkill 3 = .ok (.getfield 10, 3) := by decide +kernel
theorem dX11_noSkill_6 : decode cX11_noSkill 6 = .ok (.invokevirtual 23, 3) := by decide +kernel
theorem dX11_noSkill_9 : decode cX11_noSkill 9 = .ok (.iconst 1, 1) := by decide +kernel
theorem dX11_noSkill_10 : decode cX11_noSkill 10 = .ok (.isub, 1) := by decide +kernel
theorem dX11_noSkill_11 : decode cX11_noSkill 11 = .ok (.invokestatic 27, 3) := by decide +kernel
theorem dX11_noSkill_14 : decode cX11_noSkill 14 = .ok (.ifCond .ne 7, 3) := by decide +kernel
theorem dX11_noSkill_17 : decode cX11_noSkill 17 = .ok (.iconst 1, 1) := by decide +kernel
theorem dX11_noSkill_18 : decode cX11_noSkill 18 = .ok (.goto 4, 3) := by decide +kernel
theorem dX11_noSkill_21 : decode cX11_noSkill 21 = .ok (.iconst 0, 1) := by decide +kernel
theorem dX11_noSkill_22 : decode cX11_noSkill 22 = .ok (.ireturn, 1) := by decide +kernel
theorem dX11_noLearner_0 : decode cX11_noLearner 0 = .ok (.iload_n 1, 1) := by decide +kernel
theorem dX11_noLearner_1 : decode cX11_noLearner 1 = .ok (.iconst 0, 1) := by decide +kernel
theorem dX11_noLearner_2 : decode cX11_noLearner 2 = .ok (.aload_n 0, 1) := by decide +kernel
theorem dX11_noLearner_3 : decode cX11_noLearner 3 = .ok (.getfield 16, 3) := by decide +kernel
theorem dX11_noLearner_6 : decode cX11_noLearner 6 = .ok (.invokevirtual 23, 3) := by decide +kernel
theorem dX11_noLearner_9 : decode cX11_noLearner 9 = .ok (.iconst 1, 1) := by decide +kernel
theorem dX11_noLearner_10 : decode cX11_noLearner 10 = .ok (.isub, 1) := by decide +kernel
theorem dX11_noLearner_11 : decode cX11_noLearner 11 = .ok (.invokestatic 27, 3) := by decide +kernel
theorem dX11_noLearner_14 : decode cX11_noLearner 14 = .ok (.ifCond .ne 7, 3) := by decide +kernel
theorem dX11_noLearner_17 : decode cX11_noLearner 17 = .ok (.iconst 1, 1) := by decide +kernel
theorem dX11_noLearner_18 : decode cX11_noLearner 18 = .ok (.goto 4, 3) := by decide +kernel
theorem dX11_noLearner_21 : decode cX11_noLearner 21 = .ok (.iconst 0, 1) := by decide +kernel
theorem dX11_noLearner_22 : decode cX11_noLearner 22 = .ok (.ireturn, 1) := by decide +kernel
theorem dX11_no_0 : decode cX11_no 0 = .ok (.aload_n 0, 1) := by decide +kernel
theorem dX11_no_1 : decode cX11_no 1 = .ok (.aload_n 0, 1) := by decide +kernel
theorem dX11_no_2 : decode cX11_no 2 = .ok (.iload_n 1, 1) := by decide +kernel
theorem dX11_no_3 : decode cX11_no 3 = .ok (.invokevirtual 31, 3) := by decide +kernel
theorem dX11_no_6 : decode cX11_no 6 = .ok (.ifCond .ne 11, 3) := by decide +kernel
theorem dX11_no_9 : decode cX11_no 9 = .ok (.aload_n 0, 1) := by decide +kernel
theorem dX11_no_10 : decode cX11_no 10 = .ok (.iload_n 2, 1) := by decide +kernel
theorem dX11_no_11 : decode cX11_no 11 = .ok (.invokevirtual 35, 3) := by decide +kernel
theorem dX11_no_14 : decode cX11_no 14 = .ok (.ifCond .eq 7, 3) := by decide +kernel
theorem dX11_no_17 : decode cX11_no 17 = .ok (.iconst 1, 1) := by decide +kernel
theorem dX11_no_18 : decode cX11_no 18 = .ok (.goto 4, 3) := by decide +kernel
theorem dX11_no_21 : decode cX11_no 21 = .ok (.iconst 0, 1) := by decide +kernel
theorem dX11_no_22 : decode cX11_no 22 = .ok (.iconst 1, 1) := by decide +kernel
theorem dX11_no_23 : decode cX11_no 23 = .ok (.invokevirtual 38, 3) := by decide +kernel
theorem dX11_no_26 : decode cX11_no 26 = .ok (.ireturn, 1) := by decide +kernel
theorem dX11_of_0 : decode cX11_of 0 = .ok (.aload_n 0, 1) := by decide +kernel
theorem dX11_of_1 : decode cX11_of 1 = .ok (.getfield 16, 3) := by decide +kernel
theorem dX11_of_4 : decode cX11_of 4 = .ok (.iload_n 1, 1) := by decide +kernel
theorem dX11_of_5 : decode cX11_of 5 = .ok (.invokevirtual 42, 3) := by decide +kernel
theorem dX11_of_8 : decode cX11_of 8 = .ok (.checkcast 46, 3) := by decide +kernel
theorem dX11_of_11 : decode cX11_of 11 = .ok (.getfield 48, 3) := by decide +kernel
theorem dX11_of_14 : decode cX11_of 14 = .ok (.iload_n 2, 1) := by decide +kernel
theorem dX11_of_15 : decode cX11_of 15 = .ok (.aaload, 1) := by decide +kernel
theorem dX11_of_16 : decode cX11_of 16 = .ok (.areturn, 1) := by decide +kernel
theorem dX11_addSkill_0 : decode cX11_addSkill 0 = .ok (.aload_n 0, 1) := by decide +kernel
theorem dX11_addSkill_1 : decode cX11_addSkill 1 = .ok (.iconst 0, 1) := by decide +kernel
theorem dX11_addSkill_2 : decode cX11_addSkill 2 = .ok (.putfield 19, 3) := by decide +kernel
theorem dX11_addSkill_5 : decode cX11_addSkill 5 = .ok (.aload_n 0, 1) := by decide +kernel
theorem dX11_addSkill_6 : decode cX11_addSkill 6 = .ok (.iload_n 1, 1) := by decide +kernel
theorem dX11_addSkill_7 : decode cX11_addSkill 7 = .ok (.iconst 0, 1) := by decide +kernel
theorem dX11_addSkill_8 : decode cX11_addSkill 8 = .ok (.sipush 500, 3) := by decide +kernel
theorem dX11_addSkill_11 : decode cX11_addSkill 11 = .ok (.invokestatic 27, 3) := by decide +kernel
theorem dX11_addSkill_14 : decode cX11_addSkill 14 = .ok (.ifCond .eq 25, 3) := by decide +kernel
theorem dX11_addSkill_17 : decode cX11_addSkill 17 = .ok (.iload_n 2, 1) := by decide +kernel
theorem dX11_addSkill_18 : decode cX11_addSkill 18 = .ok (.iconst 0, 1) := by decide +kernel
theorem dX11_addSkill_19 : decode cX11_addSkill 19 = .ok (.sipush 500, 3) := by decide +kernel
theorem dX11_addSkill_22 : decode cX11_addSkill 22 = .ok (.invokestatic 27, 3) := by decide +kernel
theorem dX11_addSkill_25 : decode cX11_addSkill 25 = .ok (.ifCond .eq 14, 3) := by decide +kernel
theorem dX11_addSkill_28 : decode cX11_addSkill 28 = .ok (.iload_n 3, 1) := by decide +kernel
theorem dX11_addSkill_29 : decode cX11_addSkill 29 = .ok (.iconst 0, 1) := by decide +kernel
theorem dX11_addSkill_30 : decode cX11_addSkill 30 = .ok (.sipush 500, 3) := by decide +kernel
theorem dX11_addSkill_33 : decode cX11_addSkill 33 = .ok (.invokestatic 27, 3) := by decide +kernel
theorem dX11_addSkill_36 : decode cX11_addSkill 36 = .ok (.ifCond .ne 7, 3) := by decide +kernel
theorem dX11_addSkill_39 : decode cX11_addSkill 39 = .ok (.iconst 1, 1) := by decide +kernel
theorem dX11_addSkill_40 : decode cX11_addSkill 40 = .ok (.goto 4, 3) := by decide +kernel
theorem dX11_addSkill_43 : decode cX11_addSkill 43 = .ok (.iconst 0, 1) := by decide +kernel
theorem dX11_addSkill_44 : decode cX11_addSkill 44 = .ok (.iconst 1, 1) := by decide +kernel
theorem dX11_addSkill_45 : decode cX11_addSkill 45 = .ok (.invokevirtual 38, 3) := by decide +kernel
theorem dX11_addSkill_48 : decode cX11_addSkill 48 = .ok (.ifCond .ne 28, 3) := by decide +kernel
theorem dX11_addSkill_51 : decode cX11_addSkill 51 = .ok (.aload_n 0, 1) := by decide +kernel
theorem dX11_addSkill_52 : decode cX11_addSkill 52 = .ok (.aload_n 0, 1) := by decide +kernel
theorem dX11_addSkill_53 : decode cX11_addSkill 53 = .ok (.getfield 10, 3) := by decide +kernel
theorem dX11_addSkill_56 : decode cX11_addSkill 56 = .ok (.invokevirtual 23, 3) := by decide +kernel
theorem dX11_addSkill_59 : decode cX11_addSkill 59 = .ok (.bipush 10, 2) := by decide +kernel
theorem dX11_addSkill_61 : decode cX11_addSkill 61 = .ok (.if_icmp .ne 7, 3) := by decide +kernel
theorem dX11_addSkill_64 : decode cX11_addSkill 64 = .ok (.iconst 1, 1) := by decide +kernel
theorem dX11_addSkill_65 : decode cX11_addSkill 65 = .ok (.goto 4, 3) := by decide +kernel
theorem dX11_addSkill_68 : decode cX11_addSkill 68 = .ok (.iconst 0, 1) := by decide +kernel
theorem dX11_addSkill_69 : decode cX11_addSkill 69 = .ok (.iconst 2, 1) := by decide +kernel
theorem dX11_addSkill_70 : decode cX11_addSkill 70 = .ok (.invokevirtual 38, 3) := by decide +kernel
theorem dX11_addSkill_73 : decode cX11_addSkill 73 = .ok (.ifCond .eq 5, 3) := by decide +kernel
theorem dX11_addSkill_76 : decode cX11_addSkill 76 = .ok (.iconst 0, 1) := by decide +kernel
theorem dX11_addSkill_77 : decode cX11_addSkill 77 = .ok (.ireturn, 1) := by decide +kernel
theorem dX11_addSkill_78 : decode cX11_addSkill 78 = .ok (.new 52, 3) := by decide +kernel
theorem dX11_addSkill_81 : decode cX11_addSkill 81 = .ok (.dup, 1) := by decide +kernel
theorem dX11_addSkill_82 : decode cX11_addSkill 82 = .ok (.invokespecial 54, 3) := by decide +kernel
theorem dX11_addSkill_85 : decode cX11_addSkill 85 = .ok (.astore 4, 2) := by decide +kernel
theorem dX11_addSkill_87 : decode cX11_addSkill 87 = .ok (.aload 4, 2) := by decide +kernel
theorem dX11_addSkill_89 : decode cX11_addSkill 89 = .ok (.iload_n 1, 1) := by decide +kernel
theorem dX11_addSkill_90 : decode cX11_addSkill 90 = .ok (.putfield 55, 3) := by decide +kernel
theorem dX11_addSkill_93 : decode cX11_addSkill 93 = .ok (.aload 4, 2) := by decide +kernel
theorem dX11_addSkill_95 : decode cX11_addSkill 95 = .ok (.iload_n 2, 1) := by decide +kernel
theorem dX11_addSkill_96 : decode cX11_addSkill 96 = .ok (.putfield 58, 3) := by decide +kernel
theorem dX11_addSkill_99 : decode cX11_addSkill 99 = .ok (.aload 4, 2) := by decide +kernel
theorem dX11_addSkill_101 : decode cX11_addSkill 101 = .ok (.iload_n 3, 1) := by decide +kernel
theorem dX11_addSkill_102 : decode cX11_addSkill 102 = .ok (.putfield 61, 3) := by decide +kernel
theorem dX11_addSkill_105 : decode cX11_addSkill 105 = .ok (.aload_n 0, 1) := by decide +kernel
theorem dX11_addSkill_106 : decode cX11_addSkill 106 = .ok (.getfield 10, 3) := by decide +kernel
theorem dX11_addSkill_109 : decode cX11_addSkill 109 = .ok (.aload 4, 2) := by decide +kernel
theorem dX11_addSkill_111 : decode cX11_addSkill 111 = .ok (.invokevirtual 64, 3) := by decide +kernel
theorem dX11_addSkill_114 : decode cX11_addSkill 114 = .ok (.pop, 1) := by decide +kernel
theorem dX11_addSkill_115 : decode cX11_addSkill 115 = .ok (.aload_n 0, 1) := by decide +kernel
theorem dX11_addSkill_116 : decode cX11_addSkill 116 = .ok (.getfield 10, 3) := by decide +kernel
theorem dX11_addSkill_119 : decode cX11_addSkill 119 = .ok (.invokevirtual 23, 3) := by decide +kernel
theorem dX11_addSkill_122 : decode cX11_addSkill 122 = .ok (.iconst 1, 1) := by decide +kernel
theorem dX11_addSkill_123 : decode cX11_addSkill 123 = .ok (.isub, 1) := by decide +kernel
theorem dX11_addSkill_124 : decode cX11_addSkill 124 = .ok (.ireturn, 1) := by decide +kernel
theorem dX11_hangsOn_0 : decode cX11_hangsOn 0 = .ok (.bipush 10, 2) := by decide +kernel
theorem dX11_hangsOn_2 : decode cX11_hangsOn 2 = .ok (.newarray .boolean, 2) := by decide +kernel
theorem dX11_hangsOn_4 : decode cX11_hangsOn 4 = .ok (.astore_n 3, 1) := by decide +kernel
theorem dX11_hangsOn_5 : decode cX11_hangsOn 5 = .ok (.aload_n 3, 1) := by decide +kernel
theorem dX11_hangsOn_6 : decode cX11_hangsOn 6 = .ok (.iload_n 1, 1) := by decide +kernel
theorem dX11_hangsOn_7 : decode cX11_hangsOn 7 = .ok (.iconst 1, 1) := by decide +kernel
theorem dX11_hangsOn_8 : decode cX11_hangsOn 8 = .ok (.bastore, 1) := by decide +kernel
theorem dX11_hangsOn_9 : decode cX11_hangsOn 9 = .ok (.iconst 0, 1) := by decide +kernel
theorem dX11_hangsOn_10 : decode cX11_hangsOn 10 = .ok (.istore 4, 2) := by decide +kernel
theorem dX11_hangsOn_12 : decode cX11_hangsOn 12 = .ok (.iload 4, 2) := by decide +kernel
theorem dX11_hangsOn_14 : decode cX11_hangsOn 14 = .ok (.aload_n 0, 1) := by decide +kernel
theorem dX11_hangsOn_15 : decode cX11_hangsOn 15 = .ok (.getfield 10, 3) := by decide +kernel
theorem dX11_hangsOn_18 : decode cX11_hangsOn 18 = .ok (.invokevirtual 23, 3) := by decide +kernel
theorem dX11_hangsOn_21 : decode cX11_hangsOn 21 = .ok (.if_icmp .ge 95, 3) := by decide +kernel
theorem dX11_hangsOn_24 : decode cX11_hangsOn 24 = .ok (.iconst 0, 1) := by decide +kernel
theorem dX11_hangsOn_25 : decode cX11_hangsOn 25 = .ok (.istore 5, 2) := by decide +kernel
theorem dX11_hangsOn_27 : decode cX11_hangsOn 27 = .ok (.iload 5, 2) := by decide +kernel
theorem dX11_hangsOn_29 : decode cX11_hangsOn 29 = .ok (.aload_n 0, 1) := by decide +kernel
theorem dX11_hangsOn_30 : decode cX11_hangsOn 30 = .ok (.getfield 10, 3) := by decide +kernel
theorem dX11_hangsOn_33 : decode cX11_hangsOn 33 = .ok (.invokevirtual 23, 3) := by decide +kernel
theorem dX11_hangsOn_36 : decode cX11_hangsOn 36 = .ok (.if_icmp .ge 74, 3) := by decide +kernel
theorem dX11_hangsOn_39 : decode cX11_hangsOn 39 = .ok (.iconst 0, 1) := by decide +kernel
theorem dX11_hangsOn_40 : decode cX11_hangsOn 40 = .ok (.istore 6, 2) := by decide +kernel
theorem dX11_hangsOn_42 : decode cX11_hangsOn 42 = .ok (.iload 6, 2) := by decide +kernel
theorem dX11_hangsOn_44 : decode cX11_hangsOn 44 = .ok (.aload_n 0, 1) := by decide +kernel
theorem dX11_hangsOn_45 : decode cX11_hangsOn 45 = .ok (.getfield 10, 3) := by decide +kernel
theorem dX11_hangsOn_48 : decode cX11_hangsOn 48 = .ok (.invokevirtual 23, 3) := by decide +kernel
theorem dX11_hangsOn_51 : decode cX11_hangsOn 51 = .ok (.if_icmp .ge 53, 3) := by decide +kernel
theorem dX11_hangsOn_54 : decode cX11_hangsOn 54 = .ok (.aload_n 3, 1) := by decide +kernel
theorem dX11_hangsOn_55 : decode cX11_hangsOn 55 = .ok (.iload 6, 2) := by decide +kernel
theorem dX11_hangsOn_57 : decode cX11_hangsOn 57 = .ok (.aload_n 3, 1) := by decide +kernel
theorem dX11_hangsOn_58 : decode cX11_hangsOn 58 = .ok (.iload 6, 2) := by decide +kernel
theorem dX11_hangsOn_60 : decode cX11_hangsOn 60 = .ok (.baload, 1) := by decide +kernel
theorem dX11_hangsOn_61 : decode cX11_hangsOn 61 = .ok (.ifCond .ne 31, 3) := by decide +kernel
theorem dX11_hangsOn_64 : decode cX11_hangsOn 64 = .ok (.aload_n 3, 1) := by decide +kernel
theorem dX11_hangsOn_65 : decode cX11_hangsOn 65 = .ok (.iload 5, 2) := by decide +kernel
theorem dX11_hangsOn_67 : decode cX11_hangsOn 67 = .ok (.baload, 1) := by decide +kernel
theorem dX11_hangsOn_68 : decode cX11_hangsOn 68 = .ok (.ifCond .eq 28, 3) := by decide +kernel
theorem dX11_hangsOn_71 : decode cX11_hangsOn 71 = .ok (.aload_n 0, 1) := by decide +kernel
theorem dX11_hangsOn_72 : decode cX11_hangsOn 72 = .ok (.getfield 10, 3) := by decide +kernel
theorem dX11_hangsOn_75 : decode cX11_hangsOn 75 = .ok (.iload 5, 2) := by decide +kernel
theorem dX11_hangsOn_77 : decode cX11_hangsOn 77 = .ok (.invokevirtual 42, 3) := by decide +kernel
theorem dX11_hangsOn_80 : decode cX11_hangsOn 80 = .ok (.checkcast 52, 3) := by decide +kernel
theorem dX11_hangsOn_83 : decode cX11_hangsOn 83 = .ok (.getfield 68, 3) := by decide +kernel
theorem dX11_hangsOn_86 : decode cX11_hangsOn 86 = .ok (.iload 6, 2) := by decide +kernel
theorem dX11_hangsOn_88 : decode cX11_hangsOn 88 = .ok (.baload, 1) := by decide +kernel
theorem dX11_hangsOn_89 : decode cX11_hangsOn 89 = .ok (.ifCond .eq 7, 3) := by decide +kernel
theorem dX11_hangsOn_92 : decode cX11_hangsOn 92 = .ok (.iconst 1, 1) := by decide +kernel
theorem dX11_hangsOn_93 : decode cX11_hangsOn 93 = .ok (.goto 4, 3) := by decide +kernel
theorem dX11_hangsOn_96 : decode cX11_hangsOn 96 = .ok (.iconst 0, 1) := by decide +kernel
theorem dX11_hangsOn_97 : decode cX11_hangsOn 97 = .ok (.bastore, 1) := by decide +kernel
theorem dX11_hangsOn_98 : decode cX11_hangsOn 98 = .ok (.iinc 6 1, 3) := by decide +kernel
theorem dX11_hangsOn_101 : decode cX11_hangsOn 101 = .ok (.goto (-59), 3) := by decide +kernel
theorem dX11_hangsOn_104 : decode cX11_hangsOn 104 = .ok (.iinc 5 1, 3) := by decide +kernel
theorem dX11_hangsOn_107 : decode cX11_hangsOn 107 = .ok (.goto (-80), 3) := by decide +kernel
theorem dX11_hangsOn_110 : decode cX11_hangsOn 110 = .ok (.iinc 4 1, 3) := by decide +kernel
theorem dX11_hangsOn_113 : decode cX11_hangsOn 113 = .ok (.goto (-101), 3) := by decide +kernel
theorem dX11_hangsOn_116 : decode cX11_hangsOn 116 = .ok (.aload_n 3, 1) := by decide +kernel
theorem dX11_hangsOn_117 : decode cX11_hangsOn 117 = .ok (.iload_n 2, 1) := by decide +kernel
theorem dX11_hangsOn_118 : decode cX11_hangsOn 118 = .ok (.baload, 1) := by decide +kernel
theorem dX11_hangsOn_119 : decode cX11_hangsOn 119 = .ok (.ireturn, 1) := by decide +kernel
theorem dX11_addNeed_0 : decode cX11_addNeed 0 = .ok (.aload_n 0, 1) := by decide +kernel
theorem dX11_addNeed_1 : decode cX11_addNeed 1 = .ok (.iconst 0, 1) := by decide +kernel
theorem dX11_addNeed_2 : decode cX11_addNeed 2 = .ok (.putfield 19, 3) := by decide +kernel
theorem dX11_addNeed_5 : decode cX11_addNeed 5 = .ok (.aload_n 0, 1) := by decide +kernel
theorem dX11_addNeed_6 : decode cX11_addNeed 6 = .ok (.aload_n 0, 1) := by decide +kernel
theorem dX11_addNeed_7 : decode cX11_addNeed 7 = .ok (.iload_n 1, 1) := by decide +kernel
theorem dX11_addNeed_8 : decode cX11_addNeed 8 = .ok (.invokevirtual 35, 3) := by decide +kernel
theorem dX11_addNeed_11 : decode cX11_addNeed 11 = .ok (.ifCond .ne 11, 3) := by decide +kernel
theorem dX11_addNeed_14 : decode cX11_addNeed 14 = .ok (.aload_n 0, 1) := by decide +kernel
theorem dX11_addNeed_15 : decode cX11_addNeed 15 = .ok (.iload_n 2, 1) := by decide +kernel
theorem dX11_addNeed_16 : decode cX11_addNeed 16 = .ok (.invokevirtual 35, 3) := by decide +kernel
theorem dX11_addNeed_19 : decode cX11_addNeed 19 = .ok (.ifCond .eq 7, 3) := by decide +kernel
theorem dX11_addNeed_22 : decode cX11_addNeed 22 = .ok (.iconst 1, 1) := by decide +kernel
theorem dX11_addNeed_23 : decode cX11_addNeed 23 = .ok (.goto 4, 3) := by decide +kernel
theorem dX11_addNeed_26 : decode cX11_addNeed 26 = .ok (.iconst 0, 1) := by decide +kernel
theorem dX11_addNeed_27 : decode cX11_addNeed 27 = .ok (.iconst 1, 1) := by decide +kernel
theorem dX11_addNeed_28 : decode cX11_addNeed 28 = .ok (.invokevirtual 38, 3) := by decide +kernel
theorem dX11_addNeed_31 : decode cX11_addNeed 31 = .ok (.ifCond .ne 17, 3) := by decide +kernel
theorem dX11_addNeed_34 : decode cX11_addNeed 34 = .ok (.aload_n 0, 1) := by decide +kernel
theorem dX11_addNeed_35 : decode cX11_addNeed 35 = .ok (.aload_n 0, 1) := by decide +kernel
theorem dX11_addNeed_36 : decode cX11_addNeed 36 = .ok (.iload_n 2, 1) := by decide +kernel
theorem dX11_addNeed_37 : decode cX11_addNeed 37 = .ok (.iload_n 1, 1) := by decide +kernel
theorem dX11_addNeed_38 : decode cX11_addNeed 38 = .ok (.invokevirtual 72, 3) := by decide +kernel
theorem dX11_addNeed_41 : decode cX11_addNeed 41 = .ok (.iconst 2, 1) := by decide +kernel
theorem dX11_addNeed_42 : decode cX11_addNeed 42 = .ok (.invokevirtual 38, 3) := by decide +kernel
theorem dX11_addNeed_45 : decode cX11_addNeed 45 = .ok (.ifCond .eq 5, 3) := by decide +kernel
theorem dX11_addNeed_48 : decode cX11_addNeed 48 = .ok (.iconst 0, 1) := by decide +kernel
theorem dX11_addNeed_49 : decode cX11_addNeed 49 = .ok (.ireturn, 1) := by decide +kernel
theorem dX11_addNeed_50 : decode cX11_addNeed 50 = .ok (.aload_n 0, 1) := by decide +kernel
theorem dX11_addNeed_51 : decode cX11_addNeed 51 = .ok (.getfield 10, 3) := by decide +kernel
theorem dX11_addNeed_54 : decode cX11_addNeed 54 = .ok (.iload_n 1, 1) := by decide +kernel
theorem dX11_addNeed_55 : decode cX11_addNeed 55 = .ok (.invokevirtual 42, 3) := by decide +kernel
theorem dX11_addNeed_58 : decode cX11_addNeed 58 = .ok (.checkcast 52, 3) := by decide +kernel
theorem dX11_addNeed_61 : decode cX11_addNeed 61 = .ok (.getfield 68, 3) := by decide +kernel
theorem dX11_addNeed_64 : decode cX11_addNeed 64 = .ok (.iload_n 2, 1) := by decide +kernel
theorem dX11_addNeed_65 : decode cX11_addNeed 65 = .ok (.baload, 1) := by decide +kernel
theorem dX11_addNeed_66 : decode cX11_addNeed 66 = .ok (.istore_n 3, 1) := by decide +kernel
theorem dX11_addNeed_67 : decode cX11_addNeed 67 = .ok (.aload_n 0, 1) := by decide +kernel
theorem dX11_addNeed_68 : decode cX11_addNeed 68 = .ok (.getfield 10, 3) := by decide +kernel
theorem dX11_addNeed_71 : decode cX11_addNeed 71 = .ok (.iload_n 1, 1) := by decide +kernel
theorem dX11_addNeed_72 : decode cX11_addNeed 72 = .ok (.invokevirtual 42, 3) := by decide +kernel
theorem dX11_addNeed_75 : decode cX11_addNeed 75 = .ok (.checkcast 52, 3) := by decide +kernel
theorem dX11_addNeed_78 : decode cX11_addNeed 78 = .ok (.getfield 68, 3) := by decide +kernel
theorem dX11_addNeed_81 : decode cX11_addNeed 81 = .ok (.iload_n 2, 1) := by decide +kernel
theorem dX11_addNeed_82 : decode cX11_addNeed 82 = .ok (.iconst 1, 1) := by decide +kernel
theorem dX11_addNeed_83 : decode cX11_addNeed 83 = .ok (.bastore, 1) := by decide +kernel
theorem dX11_addNeed_84 : decode cX11_addNeed 84 = .ok (.iload_n 3, 1) := by decide +kernel
theorem dX11_addNeed_85 : decode cX11_addNeed 85 = .ok (.ifCond .ne 7, 3) := by decide +kernel
theorem dX11_addNeed_88 : decode cX11_addNeed 88 = .ok (.iconst 1, 1) := by decide +kernel
theorem dX11_addNeed_89 : decode cX11_addNeed 89 = .ok (.goto 4, 3) := by decide +kernel
theorem dX11_addNeed_92 : decode cX11_addNeed 92 = .ok (.iconst 0, 1) := by decide +kernel
theorem dX11_addNeed_93 : decode cX11_addNeed 93 = .ok (.ireturn, 1) := by decide +kernel
theorem dX11_addLearner_0 : decode cX11_addLearner 0 = .ok (.aload_n 0, 1) := by decide +kernel
theorem dX11_addLearner_1 : decode cX11_addLearner 1 = .ok (.iconst 0, 1) := by decide +kernel
theorem dX11_addLearner_2 : decode cX11_addLearner 2 = .ok (.putfield 19, 3) := by decide +kernel
theorem dX11_addLearner_5 : decode cX11_addLearner 5 = .ok (.aload_n 0, 1) := by decide +kernel
theorem dX11_addLearner_6 : decode cX11_addLearner 6 = .ok (.aload_n 0, 1) := by decide +kernel
theorem dX11_addLearner_7 : decode cX11_addLearner 7 = .ok (.getfield 16, 3) := by decide +kernel
theorem dX11_addLearner_10 : decode cX11_addLearner 10 = .ok (.invokevirtual 23, 3) := by decide +kernel
theorem dX11_addLearner_13 : decode cX11_addLearner 13 = .ok (.iconst 4, 1) := by decide +kernel
theorem dX11_addLearner_14 : decode cX11_addLearner 14 = .ok (.if_icmp .ne 7, 3) := by decide +kernel
theorem dX11_addLearner_17 : decode cX11_addLearner 17 = .ok (.iconst 1, 1) := by decide +kernel
theorem dX11_addLearner_18 : decode cX11_addLearner 18 = .ok (.goto 4, 3) := by decide +kernel
theorem dX11_addLearner_21 : decode cX11_addLearner 21 = .ok (.iconst 0, 1) := by decide +kernel
theorem dX11_addLearner_22 : decode cX11_addLearner 22 = .ok (.iconst 1, 1) := by decide +kernel
theorem dX11_addLearner_23 : decode cX11_addLearner 23 = .ok (.invokevirtual 38, 3) := by decide +kernel
theorem dX11_addLearner_26 : decode cX11_addLearner 26 = .ok (.ifCond .eq 5, 3) := by decide +kernel
theorem dX11_addLearner_29 : decode cX11_addLearner 29 = .ok (.iconst 0, 1) := by decide +kernel
theorem dX11_addLearner_30 : decode cX11_addLearner 30 = .ok (.ireturn, 1) := by decide +kernel
theorem dX11_addLearner_31 : decode cX11_addLearner 31 = .ok (.aload_n 0, 1) := by decide +kernel
theorem dX11_addLearner_32 : decode cX11_addLearner 32 = .ok (.getfield 16, 3) := by decide +kernel
theorem dX11_addLearner_35 : decode cX11_addLearner 35 = .ok (.new 46, 3) := by decide +kernel
theorem dX11_addLearner_38 : decode cX11_addLearner 38 = .ok (.dup, 1) := by decide +kernel
theorem dX11_addLearner_39 : decode cX11_addLearner 39 = .ok (.invokespecial 76, 3) := by decide +kernel
theorem dX11_addLearner_42 : decode cX11_addLearner 42 = .ok (.invokevirtual 64, 3) := by decide +kernel
theorem dX11_addLearner_45 : decode cX11_addLearner 45 = .ok (.pop, 1) := by decide +kernel
theorem dX11_addLearner_46 : decode cX11_addLearner 46 = .ok (.aload_n 0, 1) := by decide +kernel
theorem dX11_addLearner_47 : decode cX11_addLearner 47 = .ok (.getfield 16, 3) := by decide +kernel
theorem dX11_addLearner_50 : decode cX11_addLearner 50 = .ok (.invokevirtual 23, 3) := by decide +kernel
theorem dX11_addLearner_53 : decode cX11_addLearner 53 = .ok (.iconst 1, 1) := by decide +kernel
theorem dX11_addLearner_54 : decode cX11_addLearner 54 = .ok (.isub, 1) := by decide +kernel
theorem dX11_addLearner_55 : decode cX11_addLearner 55 = .ok (.ireturn, 1) := by decide +kernel
theorem dX11_openFor_0 : decode cX11_openFor 0 = .ok (.iconst 1, 1) := by decide +kernel
theorem dX11_openFor_1 : decode cX11_openFor 1 = .ok (.istore_n 3, 1) := by decide +kernel
theorem dX11_openFor_2 : decode cX11_openFor 2 = .ok (.iconst 0, 1) := by decide +kernel
theorem dX11_openFor_3 : decode cX11_openFor 3 = .ok (.istore 4, 2) := by decide +kernel
theorem dX11_openFor_5 : decode cX11_openFor 5 = .ok (.iload 4, 2) := by decide +kernel
theorem dX11_openFor_7 : decode cX11_openFor 7 = .ok (.aload_n 0, 1) := by decide +kernel
theorem dX11_openFor_8 : decode cX11_openFor 8 = .ok (.getfield 10, 3) := by decide +kernel
theorem dX11_openFor_11 : decode cX11_openFor 11 = .ok (.invokevirtual 23, 3) := by decide +kernel
theorem dX11_openFor_14 : decode cX11_openFor 14 = .ok (.if_icmp .ge 55, 3) := by decide +kernel
theorem dX11_openFor_17 : decode cX11_openFor 17 = .ok (.iload_n 3, 1) := by decide +kernel
theorem dX11_openFor_18 : decode cX11_openFor 18 = .ok (.ifCond .eq 43, 3) := by decide +kernel
theorem dX11_openFor_21 : decode cX11_openFor 21 = .ok (.aload_n 0, 1) := by decide +kernel
theorem dX11_openFor_22 : decode cX11_openFor 22 = .ok (.getfield 10, 3) := by decide +kernel
theorem dX11_openFor_25 : decode cX11_openFor 25 = .ok (.iload_n 2, 1) := by decide +kernel
theorem dX11_openFor_26 : decode cX11_openFor 26 = .ok (.invokevirtual 42, 3) := by decide +kernel
theorem dX11_openFor_29 : decode cX11_openFor 29 = .ok (.checkcast 52, 3) := by decide +kernel
theorem dX11_openFor_32 : decode cX11_openFor 32 = .ok (.getfield 68, 3) := by decide +kernel
theorem dX11_openFor_35 : decode cX11_openFor 35 = .ok (.iload 4, 2) := by decide +kernel
theorem dX11_openFor_37 : decode cX11_openFor 37 = .ok (.baload, 1) := by decide +kernel
theorem dX11_openFor_38 : decode cX11_openFor 38 = .ok (.ifCond .eq 19, 3) := by decide +kernel
theorem dX11_openFor_41 : decode cX11_openFor 41 = .ok (.aload_n 0, 1) := by decide +kernel
theorem dX11_openFor_42 : decode cX11_openFor 42 = .ok (.iload_n 1, 1) := by decide +kernel
theorem dX11_openFor_43 : decode cX11_openFor 43 = .ok (.iload 4, 2) := by decide +kernel
theorem dX11_openFor_45 : decode cX11_openFor 45 = .ok (.invokevirtual 77, 3) := by decide +kernel
theorem dX11_openFor_48 : decode cX11_openFor 48 = .ok (.getfield 81, 3) := by decide +kernel
theorem dX11_openFor_51 : decode cX11_openFor 51 = .ok (.sipush 700, 3) := by decide +kernel
theorem dX11_openFor_54 : decode cX11_openFor 54 = .ok (.if_icmp .lt 7, 3) := by decide +kernel
theorem dX11_openFor_57 : decode cX11_openFor 57 = .ok (.iconst 1, 1) := by decide +kernel
theorem dX11_openFor_58 : decode cX11_openFor 58 = .ok (.goto 4, 3) := by decide +kernel
theorem dX11_openFor_61 : decode cX11_openFor 61 = .ok (.iconst 0, 1) := by decide +kernel
theorem dX11_openFor_62 : decode cX11_openFor 62 = .ok (.istore_n 3, 1) := by decide +kernel
theorem dX11_openFor_63 : decode cX11_openFor 63 = .ok (.iinc 4 1, 3) := by decide +kernel
theorem dX11_openFor_66 : decode cX11_openFor 66 = .ok (.goto (-61), 3) := by decide +kernel
theorem dX11_openFor_69 : decode cX11_openFor 69 = .ok (.iload_n 3, 1) := by decide +kernel
theorem dX11_openFor_70 : decode cX11_openFor 70 = .ok (.ifCond .ne 15, 3) := by decide +kernel
theorem dX11_openFor_73 : decode cX11_openFor 73 = .ok (.aload_n 0, 1) := by decide +kernel
theorem dX11_openFor_74 : decode cX11_openFor 74 = .ok (.iload_n 1, 1) := by decide +kernel
theorem dX11_openFor_75 : decode cX11_openFor 75 = .ok (.iload_n 2, 1) := by decide +kernel
theorem dX11_openFor_76 : decode cX11_openFor 76 = .ok (.invokevirtual 77, 3) := by decide +kernel
theorem dX11_openFor_79 : decode cX11_openFor 79 = .ok (.getfield 86, 3) := by decide +kernel
theorem dX11_openFor_82 : decode cX11_openFor 82 = .ok (.ifCond .eq 7, 3) := by decide +kernel
theorem dX11_openFor_85 : decode cX11_openFor 85 = .ok (.iconst 1, 1) := by decide +kernel
theorem dX11_openFor_86 : decode cX11_openFor 86 = .ok (.goto 4, 3) := by decide +kernel
theorem dX11_openFor_89 : decode cX11_openFor 89 = .ok (.iconst 0, 1) := by decide +kernel
theorem dX11_openFor_90 : decode cX11_openFor 90 = .ok (.ireturn, 1) := by decide +kernel
theorem dX11_open_0 : decode cX11_open 0 = .ok (.aload_n 0, 1) := by decide +kernel
theorem dX11_open_1 : decode cX11_open 1 = .ok (.iconst 0, 1) := by decide +kernel
theorem dX11_open_2 : decode cX11_open 2 = .ok (.putfield 19, 3) := by decide +kernel
theorem dX11_open_5 : decode cX11_open 5 = .ok (.aload_n 0, 1) := by decide +kernel
theorem dX11_open_6 : decode cX11_open 6 = .ok (.iload_n 1, 1) := by decide +kernel
theorem dX11_open_7 : decode cX11_open 7 = .ok (.iload_n 2, 1) := by decide +kernel
theorem dX11_open_8 : decode cX11_open 8 = .ok (.invokevirtual 90, 3) := by decide +kernel
theorem dX11_open_11 : decode cX11_open 11 = .ok (.ifCond .eq 5, 3) := by decide +kernel
theorem dX11_open_14 : decode cX11_open 14 = .ok (.iconst 0, 1) := by decide +kernel
theorem dX11_open_15 : decode cX11_open 15 = .ok (.ireturn, 1) := by decide +kernel
theorem dX11_open_16 : decode cX11_open 16 = .ok (.aload_n 0, 1) := by decide +kernel
theorem dX11_open_17 : decode cX11_open 17 = .ok (.iload_n 1, 1) := by decide +kernel
theorem dX11_open_18 : decode cX11_open 18 = .ok (.iload_n 2, 1) := by decide +kernel
theorem dX11_open_19 : decode cX11_open 19 = .ok (.invokevirtual 93, 3) := by decide +kernel
theorem dX11_open_22 : decode cX11_open 22 = .ok (.istore_n 3, 1) := by decide +kernel
theorem dX11_open_23 : decode cX11_open 23 = .ok (.aload_n 0, 1) := by decide +kernel
theorem dX11_open_24 : decode cX11_open 24 = .ok (.iload_n 1, 1) := by decide +kernel
theorem dX11_open_25 : decode cX11_open 25 = .ok (.iload_n 2, 1) := by decide +kernel
theorem dX11_open_26 : decode cX11_open 26 = .ok (.invokevirtual 77, 3) := by decide +kernel
theorem dX11_open_29 : decode cX11_open 29 = .ok (.iconst 1, 1) := by decide +kernel
theorem dX11_open_30 : decode cX11_open 30 = .ok (.putfield 86, 3) := by decide +kernel
theorem dX11_open_33 : decode cX11_open 33 = .ok (.iload_n 3, 1) := by decide +kernel
theorem dX11_open_34 : decode cX11_open 34 = .ok (.ifCond .ne 7, 3) := by decide +kernel
theorem dX11_open_37 : decode cX11_open 37 = .ok (.iconst 1, 1) := by decide +kernel
theorem dX11_open_38 : decode cX11_open 38 = .ok (.goto 4, 3) := by decide +kernel
theorem dX11_open_41 : decode cX11_open 41 = .ok (.iconst 0, 1) := by decide +kernel
theorem dX11_open_42 : decode cX11_open 42 = .ok (.ireturn, 1) := by decide +kernel
theorem dX11_isOpen_0 : decode cX11_isOpen 0 = .ok (.aload_n 0, 1) := by decide +kernel
theorem dX11_isOpen_1 : decode cX11_isOpen 1 = .ok (.iconst 0, 1) := by decide +kernel
theorem dX11_isOpen_2 : decode cX11_isOpen 2 = .ok (.putfield 19, 3) := by decide +kernel
theorem dX11_isOpen_5 : decode cX11_isOpen 5 = .ok (.aload_n 0, 1) := by decide +kernel
theorem dX11_isOpen_6 : decode cX11_isOpen 6 = .ok (.iload_n 1, 1) := by decide +kernel
theorem dX11_isOpen_7 : decode cX11_isOpen 7 = .ok (.iload_n 2, 1) := by decide +kernel
theorem dX11_isOpen_8 : decode cX11_isOpen 8 = .ok (.invokevirtual 90, 3) := by decide +kernel
theorem dX11_isOpen_11 : decode cX11_isOpen 11 = .ok (.ifCond .ne 16, 3) := by decide +kernel
theorem dX11_isOpen_14 : decode cX11_isOpen 14 = .ok (.aload_n 0, 1) := by decide +kernel
theorem dX11_isOpen_15 : decode cX11_isOpen 15 = .ok (.iload_n 1, 1) := by decide +kernel
theorem dX11_isOpen_16 : decode cX11_isOpen 16 = .ok (.iload_n 2, 1) := by decide +kernel
theorem dX11_isOpen_17 : decode cX11_isOpen 17 = .ok (.invokevirtual 93, 3) := by decide +kernel
theorem dX11_isOpen_20 : decode cX11_isOpen 20 = .ok (.ifCond .eq 7, 3) := by decide +kernel
theorem dX11_isOpen_23 : decode cX11_isOpen 23 = .ok (.iconst 1, 1) := by decide +kernel
theorem dX11_isOpen_24 : decode cX11_isOpen 24 = .ok (.goto 4, 3) := by decide +kernel
theorem dX11_isOpen_27 : decode cX11_isOpen 27 = .ok (.iconst 0, 1) := by decide +kernel
theorem dX11_isOpen_28 : decode cX11_isOpen 28 = .ok (.ireturn, 1) := by decide +kernel
theorem dX11_moved_0 : decode cX11_moved 0 = .ok (.iload_n 1, 1) := by decide +kernel
theorem dX11_moved_1 : decode cX11_moved 1 = .ok (.iload_n 2, 1) := by decide +kernel
theorem dX11_moved_2 : decode cX11_moved 2 = .ok (.ifCond .eq 14, 3) := by decide +kernel
theorem dX11_moved_5 : decode cX11_moved 5 = .ok (.sipush 1000, 3) := by decide +kernel
theorem dX11_moved_8 : decode cX11_moved 8 = .ok (.aload_n 0, 1) := by decide +kernel
theorem dX11_moved_9 : decode cX11_moved 9 = .ok (.getfield 58, 3) := by decide +kernel
theorem dX11_moved_12 : decode cX11_moved 12 = .ok (.isub, 1) := by decide +kernel
theorem dX11_moved_13 : decode cX11_moved 13 = .ok (.goto 7, 3) := by decide +kernel
theorem dX11_moved_16 : decode cX11_moved 16 = .ok (.aload_n 0, 1) := by decide +kernel
theorem dX11_moved_17 : decode cX11_moved 17 = .ok (.getfield 58, 3) := by decide +kernel
theorem dX11_moved_20 : decode cX11_moved 20 = .ok (.imul, 1) := by decide +kernel
theorem dX11_moved_21 : decode cX11_moved 21 = .ok (.istore_n 3, 1) := by decide +kernel
theorem dX11_moved_22 : decode cX11_moved 22 = .ok (.sipush 1000, 3) := by decide +kernel
theorem dX11_moved_25 : decode cX11_moved 25 = .ok (.iload_n 1, 1) := by decide +kernel
theorem dX11_moved_26 : decode cX11_moved 26 = .ok (.isub, 1) := by decide +kernel
theorem dX11_moved_27 : decode cX11_moved 27 = .ok (.iload_n 2, 1) := by decide +kernel
theorem dX11_moved_28 : decode cX11_moved 28 = .ok (.ifCond .eq 10, 3) := by decide +kernel
theorem dX11_moved_31 : decode cX11_moved 31 = .ok (.aload_n 0, 1) := by decide +kernel
theorem dX11_moved_32 : decode cX11_moved 32 = .ok (.getfield 55, 3) := by decide +kernel
theorem dX11_moved_35 : decode cX11_moved 35 = .ok (.goto 11, 3) := by decide +kernel
theorem dX11_moved_38 : decode cX11_moved 38 = .ok (.sipush 1000, 3) := by decide +kernel
theorem dX11_moved_41 : decode cX11_moved 41 = .ok (.aload_n 0, 1) := by decide +kernel
theorem dX11_moved_42 : decode cX11_moved 42 = .ok (.getfield 55, 3) := by decide +kernel
theorem dX11_moved_45 : decode cX11_moved 45 = .ok (.isub, 1) := by decide +kernel
theorem dX11_moved_46 : decode cX11_moved 46 = .ok (.imul, 1) := by decide +kernel
theorem dX11_moved_47 : decode cX11_moved 47 = .ok (.istore 4, 2) := by decide +kernel
theorem dX11_moved_49 : decode cX11_moved 49 = .ok (.iload_n 3, 1) := by decide +kernel
theorem dX11_moved_50 : decode cX11_moved 50 = .ok (.iload 4, 2) := by decide +kernel
theorem dX11_moved_52 : decode cX11_moved 52 = .ok (.iadd, 1) := by decide +kernel
theorem dX11_moved_53 : decode cX11_moved 53 = .ok (.ifCond .ne 7, 3) := by decide +kernel
theorem dX11_moved_56 : decode cX11_moved 56 = .ok (.iload_n 1, 1) := by decide +kernel
theorem dX11_moved_57 : decode cX11_moved 57 = .ok (.goto 16, 3) := by decide +kernel
theorem dX11_moved_60 : decode cX11_moved 60 = .ok (.iload_n 3, 1) := by decide +kernel
theorem dX11_moved_61 : decode cX11_moved 61 = .ok (.i2l, 1) := by decide +kernel
theorem dX11_moved_62 : decode cX11_moved 62 = .ok (.ldc2_w 96, 3) := by decide +kernel
theorem dX11_moved_65 : decode cX11_moved 65 = .ok (.lmul, 1) := by decide +kernel
theorem dX11_moved_66 : decode cX11_moved 66 = .ok (.iload_n 3, 1) := by decide +kernel
theorem dX11_moved_67 : decode cX11_moved 67 = .ok (.iload 4, 2) := by decide +kernel
theorem dX11_moved_69 : decode cX11_moved 69 = .ok (.iadd, 1) := by decide +kernel
theorem dX11_moved_70 : decode cX11_moved 70 = .ok (.i2l, 1) := by decide +kernel
theorem dX11_moved_71 : decode cX11_moved 71 = .ok (.ldiv, 1) := by decide +kernel
theorem dX11_moved_72 : decode cX11_moved 72 = .ok (.l2i, 1) := by decide +kernel
theorem dX11_moved_73 : decode cX11_moved 73 = .ok (.istore 5, 2) := by decide +kernel
theorem dX11_moved_75 : decode cX11_moved 75 = .ok (.iload 5, 2) := by decide +kernel
theorem dX11_moved_77 : decode cX11_moved 77 = .ok (.sipush 1000, 3) := by decide +kernel
theorem dX11_moved_80 : decode cX11_moved 80 = .ok (.iload 5, 2) := by decide +kernel
theorem dX11_moved_82 : decode cX11_moved 82 = .ok (.isub, 1) := by decide +kernel
theorem dX11_moved_83 : decode cX11_moved 83 = .ok (.aload_n 0, 1) := by decide +kernel
theorem dX11_moved_84 : decode cX11_moved 84 = .ok (.getfield 61, 3) := by decide +kernel
theorem dX11_moved_87 : decode cX11_moved 87 = .ok (.imul, 1) := by decide +kernel
theorem dX11_moved_88 : decode cX11_moved 88 = .ok (.sipush 1000, 3) := by decide +kernel
theorem dX11_moved_91 : decode cX11_moved 91 = .ok (.idiv, 1) := by decide +kernel
theorem dX11_moved_92 : decode cX11_moved 92 = .ok (.iadd, 1) := by decide +kernel
theorem dX11_moved_93 : decode cX11_moved 93 = .ok (.ireturn, 1) := by decide +kernel
theorem dX11_setOdds_0 : decode cX11_setOdds 0 = .ok (.aload_n 0, 1) := by decide +kernel
theorem dX11_setOdds_1 : decode cX11_setOdds 1 = .ok (.iconst 0, 1) := by decide +kernel
theorem dX11_setOdds_2 : decode cX11_setOdds 2 = .ok (.putfield 19, 3) := by decide +kernel
theorem dX11_setOdds_5 : decode cX11_setOdds 5 = .ok (.aload_n 0, 1) := by decide +kernel
theorem dX11_setOdds_6 : decode cX11_setOdds 6 = .ok (.iload_n 1, 1) := by decide +kernel
theorem dX11_setOdds_7 : decode cX11_setOdds 7 = .ok (.iload_n 2, 1) := by decide +kernel
theorem dX11_setOdds_8 : decode cX11_setOdds 8 = .ok (.invokevirtual 90, 3) := by decide +kernel
theorem dX11_setOdds_11 : decode cX11_setOdds 11 = .ok (.ifCond .ne 27, 3) := by decide +kernel
theorem dX11_setOdds_14 : decode cX11_setOdds 14 = .ok (.aload_n 0, 1) := by decide +kernel
theorem dX11_setOdds_15 : decode cX11_setOdds 15 = .ok (.iload_n 3, 1) := by decide +kernel
theorem dX11_setOdds_16 : decode cX11_setOdds 16 = .ok (.iconst 0, 1) := by decide +kernel
theorem dX11_setOdds_17 : decode cX11_setOdds 17 = .ok (.sipush 1000, 3) := by decide +kernel
theorem dX11_setOdds_20 : decode cX11_setOdds 20 = .ok (.invokestatic 27, 3) := by decide +kernel
theorem dX11_setOdds_23 : decode cX11_setOdds 23 = .ok (.ifCond .ne 7, 3) := by decide +kernel
theorem dX11_setOdds_26 : decode cX11_setOdds 26 = .ok (.iconst 1, 1) := by decide +kernel
theorem dX11_setOdds_27 : decode cX11_setOdds 27 = .ok (.goto 4, 3) := by decide +kernel
theorem dX11_setOdds_30 : decode cX11_setOdds 30 = .ok (.iconst 0, 1) := by decide +kernel
theorem dX11_setOdds_31 : decode cX11_setOdds 31 = .ok (.iconst 2, 1) := by decide +kernel
theorem dX11_setOdds_32 : decode cX11_setOdds 32 = .ok (.invokevirtual 38, 3) := by decide +kernel
theorem dX11_setOdds_35 : decode cX11_setOdds 35 = .ok (.ifCond .eq 5, 3) := by decide +kernel
theorem dX11_setOdds_38 : decode cX11_setOdds 38 = .ok (.iconst 0, 1) := by decide +kernel
theorem dX11_setOdds_39 : decode cX11_setOdds 39 = .ok (.ireturn, 1) := by decide +kernel
theorem dX11_setOdds_40 : decode cX11_setOdds 40 = .ok (.aload_n 0, 1) := by decide +kernel
theorem dX11_setOdds_41 : decode cX11_setOdds 41 = .ok (.iload_n 1, 1) := by decide +kernel
theorem dX11_setOdds_42 : decode cX11_setOdds 42 = .ok (.iload_n 2, 1) := by decide +kernel
theorem dX11_setOdds_43 : decode cX11_setOdds 43 = .ok (.invokevirtual 77, 3) := by decide +kernel
theorem dX11_setOdds_46 : decode cX11_setOdds 46 = .ok (.astore 4, 2) := by decide +kernel
theorem dX11_setOdds_48 : decode cX11_setOdds 48 = .ok (.aload 4, 2) := by decide +kernel
theorem dX11_setOdds_50 : decode cX11_setOdds 50 = .ok (.getfield 81, 3) := by decide +kernel
theorem dX11_setOdds_53 : decode cX11_setOdds 53 = .ok (.istore 5, 2) := by decide +kernel
theorem dX11_setOdds_55 : decode cX11_setOdds 55 = .ok (.aload 4, 2) := by decide +kernel
theorem dX11_setOdds_57 : decode cX11_setOdds 57 = .ok (.iload_n 3, 1) := by decide +kernel
theorem dX11_setOdds_58 : decode cX11_setOdds 58 = .ok (.putfield 81, 3) := by decide +kernel
theorem dX11_setOdds_61 : decode cX11_setOdds 61 = .ok (.aload 4, 2) := by decide +kernel
theorem dX11_setOdds_63 : decode cX11_setOdds 63 = .ok (.iload_n 3, 1) := by decide +kernel
theorem dX11_setOdds_64 : decode cX11_setOdds 64 = .ok (.putfield 98, 3) := by decide +kernel
theorem dX11_setOdds_67 : decode cX11_setOdds 67 = .ok (.aload 4, 2) := by decide +kernel
theorem dX11_setOdds_69 : decode cX11_setOdds 69 = .ok (.getfield 101, 3) := by decide +kernel
theorem dX11_setOdds_72 : decode cX11_setOdds 72 = .ok (.invokevirtual 104, 3) := by decide +kernel
theorem dX11_setOdds_75 : decode cX11_setOdds 75 = .ok (.iload 5, 2) := by decide +kernel
theorem dX11_setOdds_77 : decode cX11_setOdds 77 = .ok (.ireturn, 1) := by decide +kernel
theorem dX11_othersDue_0 : decode cX11_othersDue 0 = .ok (.iconst 0, 1) := by decide +kernel
theorem dX11_othersDue_1 : decode cX11_othersDue 1 = .ok (.istore 4, 2) := by decide +kernel
theorem dX11_othersDue_3 : decode cX11_othersDue 3 = .ok (.iconst 0, 1) := by decide +kernel
theorem dX11_othersDue_4 : decode cX11_othersDue 4 = .ok (.istore 5, 2) := by decide +kernel
theorem dX11_othersDue_6 : decode cX11_othersDue 6 = .ok (.iload 5, 2) := by decide +kernel
theorem dX11_othersDue_8 : decode cX11_othersDue 8 = .ok (.aload_n 0, 1) := by decide +kernel
theorem dX11_othersDue_9 : decode cX11_othersDue 9 = .ok (.getfield 10, 3) := by decide +kernel
theorem dX11_othersDue_12 : decode cX11_othersDue 12 = .ok (.invokevirtual 23, 3) := by decide +kernel
theorem dX11_othersDue_15 : decode cX11_othersDue 15 = .ok (.if_icmp .ge 39, 3) := by decide +kernel
theorem dX11_othersDue_18 : decode cX11_othersDue 18 = .ok (.iload 4, 2) := by decide +kernel
theorem dX11_othersDue_20 : decode cX11_othersDue 20 = .ok (.iload 5, 2) := by decide +kernel
theorem dX11_othersDue_22 : decode cX11_othersDue 22 = .ok (.iload_n 2, 1) := by decide +kernel
theorem dX11_othersDue_23 : decode cX11_othersDue 23 = .ok (.if_icmp .eq 21, 3) := by decide +kernel
theorem dX11_othersDue_26 : decode cX11_othersDue 26 = .ok (.aload_n 0, 1) := by decide +kernel
theorem dX11_othersDue_27 : decode cX11_othersDue 27 = .ok (.iload_n 1, 1) := by decide +kernel
theorem dX11_othersDue_28 : decode cX11_othersDue 28 = .ok (.iload 5, 2) := by decide +kernel
theorem dX11_othersDue_30 : decode cX11_othersDue 30 = .ok (.invokevirtual 77, 3) := by decide +kernel
theorem dX11_othersDue_33 : decode cX11_othersDue 33 = .ok (.getfield 107, 3) := by decide +kernel
theorem dX11_othersDue_36 : decode cX11_othersDue 36 = .ok (.iload_n 3, 1) := by decide +kernel
theorem dX11_othersDue_37 : decode cX11_othersDue 37 = .ok (.if_icmp .ne 7, 3) := by decide +kernel
theorem dX11_othersDue_40 : decode cX11_othersDue 40 = .ok (.iconst 1, 1) := by decide +kernel
theorem dX11_othersDue_41 : decode cX11_othersDue 41 = .ok (.goto 4, 3) := by decide +kernel
theorem dX11_othersDue_44 : decode cX11_othersDue 44 = .ok (.iconst 0, 1) := by decide +kernel
theorem dX11_othersDue_45 : decode cX11_othersDue 45 = .ok (.iadd, 1) := by decide +kernel
theorem dX11_othersDue_46 : decode cX11_othersDue 46 = .ok (.istore 4, 2) := by decide +kernel
theorem dX11_othersDue_48 : decode cX11_othersDue 48 = .ok (.iinc 5 1, 3) := by decide +kernel
theorem dX11_othersDue_51 : decode cX11_othersDue 51 = .ok (.goto (-45), 3) := by decide +kernel
theorem dX11_othersDue_54 : decode cX11_othersDue 54 = .ok (.iload 4, 2) := by decide +kernel
theorem dX11_othersDue_56 : decode cX11_othersDue 56 = .ok (.ireturn, 1) := by decide +kernel
theorem dX11_note_0 : decode cX11_note 0 = .ok (.aload_n 0, 1) := by decide +kernel
theorem dX11_note_1 : decode cX11_note 1 = .ok (.iload_n 1, 1) := by decide +kernel
theorem dX11_note_2 : decode cX11_note 2 = .ok (.iload_n 2, 1) := by decide +kernel
theorem dX11_note_3 : decode cX11_note 3 = .ok (.invokevirtual 77, 3) := by decide +kernel
theorem dX11_note_6 : decode cX11_note 6 = .ok (.astore 4, 2) := by decide +kernel
theorem dX11_note_8 : decode cX11_note 8 = .ok (.aload 4, 2) := by decide +kernel
theorem dX11_note_10 : decode cX11_note 10 = .ok (.getfield 101, 3) := by decide +kernel
theorem dX11_note_13 : decode cX11_note 13 = .ok (.iload_n 3, 1) := by decide +kernel
theorem dX11_note_14 : decode cX11_note 14 = .ok (.invokestatic 110, 3) := by decide +kernel
theorem dX11_note_17 : decode cX11_note 17 = .ok (.invokevirtual 64, 3) := by decide +kernel
theorem dX11_note_20 : decode cX11_note 20 = .ok (.pop, 1) := by decide +kernel
theorem dX11_note_21 : decode cX11_note 21 = .ok (.aload 4, 2) := by decide +kernel
theorem dX11_note_23 : decode cX11_note 23 = .ok (.aload_n 0, 1) := by decide +kernel
theorem dX11_note_24 : decode cX11_note 24 = .ok (.getfield 10, 3) := by decide +kernel
theorem dX11_note_27 : decode cX11_note 27 = .ok (.iload_n 2, 1) := by decide +kernel
theorem dX11_note_28 : decode cX11_note 28 = .ok (.invokevirtual 42, 3) := by decide +kernel
theorem dX11_note_31 : decode cX11_note 31 = .ok (.checkcast 52, 3) := by decide +kernel
theorem dX11_note_34 : decode cX11_note 34 = .ok (.aload 4, 2) := by decide +kernel
theorem dX11_note_36 : decode cX11_note 36 = .ok (.getfield 81, 3) := by decide +kernel
theorem dX11_note_39 : decode cX11_note 39 = .ok (.iload_n 3, 1) := by decide +kernel
theorem dX11_note_40 : decode cX11_note 40 = .ok (.invokestatic 116, 3) := by decide +kernel
theorem dX11_note_43 : decode cX11_note 43 = .ok (.putfield 81, 3) := by decide +kernel
theorem dX11_note_46 : decode cX11_note 46 = .ok (.aload 4, 2) := by decide +kernel
theorem dX11_note_48 : decode cX11_note 48 = .ok (.iload_n 3, 1) := by decide +kernel
theorem dX11_note_49 : decode cX11_note 49 = .ok (.ifCond .eq 13, 3) := by decide +kernel
theorem dX11_note_52 : decode cX11_note 52 = .ok (.aload 4, 2) := by decide +kernel
theorem dX11_note_54 : decode cX11_note 54 = .ok (.getfield 120, 3) := by decide +kernel
theorem dX11_note_57 : decode cX11_note 57 = .ok (.iconst 1, 1) := by decide +kernel
theorem dX11_note_58 : decode cX11_note 58 = .ok (.iadd, 1) := by decide +kernel
theorem dX11_note_59 : decode cX11_note 59 = .ok (.goto 4, 3) := by decide +kernel
theorem dX11_note_62 : decode cX11_note 62 = .ok (.iconst 0, 1) := by decide +kernel
theorem dX11_note_63 : decode cX11_note 63 = .ok (.putfield 120, 3) := by decide +kernel
theorem dX11_note_66 : decode cX11_note 66 = .ok (.aload_n 0, 1) := by decide +kernel
theorem dX11_note_67 : decode cX11_note 67 = .ok (.getfield 123, 3) := by decide +kernel
theorem dX11_note_70 : decode cX11_note 70 = .ok (.iconst 1, 1) := by decide +kernel
theorem dX11_note_71 : decode cX11_note 71 = .ok (.iadd, 1) := by decide +kernel
theorem dX11_note_72 : decode cX11_note 72 = .ok (.istore 5, 2) := by decide +kernel
theorem dX11_note_74 : decode cX11_note 74 = .ok (.iload_n 3, 1) := by decide +kernel
theorem dX11_note_75 : decode cX11_note 75 = .ok (.ifCond .eq 47, 3) := by decide +kernel
theorem dX11_note_78 : decode cX11_note 78 = .ok (.iconst 1, 1) := by decide +kernel
theorem dX11_note_79 : decode cX11_note 79 = .ok (.istore 6, 2) := by decide +kernel
theorem dX11_note_81 : decode cX11_note 81 = .ok (.iconst 1, 1) := by decide +kernel
theorem dX11_note_82 : decode cX11_note 82 = .ok (.istore 7, 2) := by decide +kernel
theorem dX11_note_84 : decode cX11_note 84 = .ok (.iload 7, 2) := by decide +kernel
theorem dX11_note_86 : decode cX11_note 86 = .ok (.aload 4, 2) := by decide +kernel
theorem dX11_note_88 : decode cX11_note 88 = .ok (.getfield 120, 3) := by decide +kernel
theorem dX11_note_91 : decode cX11_note 91 = .ok (.if_icmp .ge 22, 3) := by decide +kernel
theorem dX11_note_94 : decode cX11_note 94 = .ok (.iload 6, 2) := by decide +kernel
theorem dX11_note_96 : decode cX11_note 96 = .ok (.bipush 16, 2) := by decide +kernel
theorem dX11_note_98 : decode cX11_note 98 = .ok (.if_icmp .ge 15, 3) := by decide +kernel
theorem dX11_note_101 : decode cX11_note 101 = .ok (.iload 6, 2) := by decide +kernel
theorem dX11_note_103 : decode cX11_note 103 = .ok (.iconst 2, 1) := by decide +kernel
theorem dX11_note_104 : decode cX11_note 104 = .ok (.imul, 1) := by decide +kernel
theorem dX11_note_105 : decode cX11_note 105 = .ok (.istore 6, 2) := by decide +kernel
theorem dX11_note_107 : decode cX11_note 107 = .ok (.iinc 7 1, 3) := by decide +kernel
theorem dX11_note_110 : decode cX11_note 110 = .ok (.goto (-26), 3) := by decide +kernel
theorem dX11_note_113 : decode cX11_note 113 = .ok (.aload_n 0, 1) := by decide +kernel
theorem dX11_note_114 : decode cX11_note 114 = .ok (.getfield 123, 3) := by decide +kernel
theorem dX11_note_117 : decode cX11_note 117 = .ok (.iload 6, 2) := by decide +kernel
theorem dX11_note_119 : decode cX11_note 119 = .ok (.iadd, 1) := by decide +kernel
theorem dX11_note_120 : decode cX11_note 120 = .ok (.istore 5, 2) := by decide +kernel
theorem dX11_note_122 : decode cX11_note 122 = .ok (.aload_n 0, 1) := by decide +kernel
theorem dX11_note_123 : decode cX11_note 123 = .ok (.iload_n 1, 1) := by decide +kernel
theorem dX11_note_124 : decode cX11_note 124 = .ok (.iload_n 2, 1) := by decide +kernel
theorem dX11_note_125 : decode cX11_note 125 = .ok (.iload 5, 2) := by decide +kernel
theorem dX11_note_127 : decode cX11_note 127 = .ok (.invokevirtual 126, 3) := by decide +kernel
theorem dX11_note_130 : decode cX11_note 130 = .ok (.iconst 2, 1) := by decide +kernel
theorem dX11_note_131 : decode cX11_note 131 = .ok (.if_icmp .lt 9, 3) := by decide +kernel
theorem dX11_note_134 : decode cX11_note 134 = .ok (.iinc 5 1, 3) := by decide +kernel
theorem dX11_note_137 : decode cX11_note 137 = .ok (.goto (-15), 3) := by decide +kernel
theorem dX11_note_140 : decode cX11_note 140 = .ok (.aload 4, 2) := by decide +kernel
theorem dX11_note_142 : decode cX11_note 142 = .ok (.iload 5, 2) := by decide +kernel
theorem dX11_note_144 : decode cX11_note 144 = .ok (.putfield 107, 3) := by decide +kernel
theorem dX11_note_147 : decode cX11_note 147 = .ok (.return_, 1) := by decide +kernel
theorem dX11_answer_0 : decode cX11_answer 0 = .ok (.aload_n 0, 1) := by decide +kernel
theorem dX11_answer_1 : decode cX11_answer 1 = .ok (.iconst 0, 1) := by decide +kernel
theorem dX11_answer_2 : decode cX11_answer 2 = .ok (.putfield 19, 3) := by decide +kernel
theorem dX11_answer_5 : decode cX11_answer 5 = .ok (.aload_n 0, 1) := by decide +kernel
theorem dX11_answer_6 : decode cX11_answer 6 = .ok (.iload_n 1, 1) := by decide +kernel
theorem dX11_answer_7 : decode cX11_answer 7 = .ok (.iload_n 2, 1) := by decide +kernel
theorem dX11_answer_8 : decode cX11_answer 8 = .ok (.invokevirtual 90, 3) := by decide +kernel
theorem dX11_answer_11 : decode cX11_answer 11 = .ok (.ifCond .ne 25, 3) := by decide +kernel
theorem dX11_answer_14 : decode cX11_answer 14 = .ok (.aload_n 0, 1) := by decide +kernel
theorem dX11_answer_15 : decode cX11_answer 15 = .ok (.aload_n 0, 1) := by decide +kernel
theorem dX11_answer_16 : decode cX11_answer 16 = .ok (.iload_n 1, 1) := by decide +kernel
theorem dX11_answer_17 : decode cX11_answer 17 = .ok (.iload_n 2, 1) := by decide +kernel
theorem dX11_answer_18 : decode cX11_answer 18 = .ok (.invokevirtual 93, 3) := by decide +kernel
theorem dX11_answer_21 : decode cX11_answer 21 = .ok (.ifCond .ne 7, 3) := by decide +kernel
theorem dX11_answer_24 : decode cX11_answer 24 = .ok (.iconst 1, 1) := by decide +kernel
theorem dX11_answer_25 : decode cX11_answer 25 = .ok (.goto 4, 3) := by decide +kernel
theorem dX11_answer_28 : decode cX11_answer 28 = .ok (.iconst 0, 1) := by decide +kernel
theorem dX11_answer_29 : decode cX11_answer 29 = .ok (.iconst 2, 1) := by decide +kernel
theorem dX11_answer_30 : decode cX11_answer 30 = .ok (.invokevirtual 38, 3) := by decide +kernel
theorem dX11_answer_33 : decode cX11_answer 33 = .ok (.ifCond .eq 5, 3) := by decide +kernel
theorem dX11_answer_36 : decode cX11_answer 36 = .ok (.iconst 0, 1) := by decide +kernel
theorem dX11_answer_37 : decode cX11_answer 37 = .ok (.ireturn, 1) := by decide +kernel
theorem dX11_answer_38 : decode cX11_answer 38 = .ok (.aload_n 0, 1) := by decide +kernel
theorem dX11_answer_39 : decode cX11_answer 39 = .ok (.iload_n 1, 1) := by decide +kernel
theorem dX11_answer_40 : decode cX11_answer 40 = .ok (.iload_n 2, 1) := by decide +kernel
theorem dX11_answer_41 : decode cX11_answer 41 = .ok (.iload_n 3, 1) := by decide +kernel
theorem dX11_answer_42 : decode cX11_answer 42 = .ok (.invokevirtual 130, 3) := by decide +kernel
theorem dX11_answer_45 : decode cX11_answer 45 = .ok (.aload_n 0, 1) := by decide +kernel
theorem dX11_answer_46 : decode cX11_answer 46 = .ok (.iload_n 1, 1) := by decide +kernel
theorem dX11_answer_47 : decode cX11_answer 47 = .ok (.iload_n 2, 1) := by decide +kernel
theorem dX11_answer_48 : decode cX11_answer 48 = .ok (.invokevirtual 77, 3) := by decide +kernel
theorem dX11_answer_51 : decode cX11_answer 51 = .ok (.getfield 81, 3) := by decide +kernel
theorem dX11_answer_54 : decode cX11_answer 54 = .ok (.ireturn, 1) := by decide +kernel
theorem dX11_odds_0 : decode cX11_odds 0 = .ok (.aload_n 0, 1) := by decide +kernel
theorem dX11_odds_1 : decode cX11_odds 1 = .ok (.iconst 0, 1) := by decide +kernel
theorem dX11_odds_2 : decode cX11_odds 2 = .ok (.putfield 19, 3) := by decide +kernel
theorem dX11_odds_5 : decode cX11_odds 5 = .ok (.aload_n 0, 1) := by decide +kernel
theorem dX11_odds_6 : decode cX11_odds 6 = .ok (.iload_n 1, 1) := by decide +kernel
theorem dX11_odds_7 : decode cX11_odds 7 = .ok (.iload_n 2, 1) := by decide +kernel
theorem dX11_odds_8 : decode cX11_odds 8 = .ok (.invokevirtual 90, 3) := by decide +kernel
theorem dX11_odds_11 : decode cX11_odds 11 = .ok (.ifCond .eq 7, 3) := by decide +kernel
theorem dX11_odds_14 : decode cX11_odds 14 = .ok (.iconst 0, 1) := by decide +kernel
theorem dX11_odds_15 : decode cX11_odds 15 = .ok (.goto 12, 3) := by decide +kernel
theorem dX11_odds_18 : decode cX11_odds 18 = .ok (.aload_n 0, 1) := by decide +kernel
theorem dX11_odds_19 : decode cX11_odds 19 = .ok (.iload_n 1, 1) := by decide +kernel
theorem dX11_odds_20 : decode cX11_odds 20 = .ok (.iload_n 2, 1) := by decide +kernel
theorem dX11_odds_21 : decode cX11_odds 21 = .ok (.invokevirtual 77, 3) := by decide +kernel
theorem dX11_odds_24 : decode cX11_odds 24 = .ok (.getfield 81, 3) := by decide +kernel
theorem dX11_odds_27 : decode cX11_odds 27 = .ok (.ireturn, 1) := by decide +kernel
theorem dX11_oddsAnew_0 : decode cX11_oddsAnew 0 = .ok (.aload_n 0, 1) := by decide +kernel
theorem dX11_oddsAnew_1 : decode cX11_oddsAnew 1 = .ok (.iconst 0, 1) := by decide +kernel
theorem dX11_oddsAnew_2 : decode cX11_oddsAnew 2 = .ok (.putfield 19, 3) := by decide +kernel
theorem dX11_oddsAnew_5 : decode cX11_oddsAnew 5 = .ok (.aload_n 0, 1) := by decide +kernel
theorem dX11_oddsAnew_6 : decode cX11_oddsAnew 6 = .ok (.iload_n 1, 1) := by decide +kernel
theorem dX11_oddsAnew_7 : decode cX11_oddsAnew 7 = .ok (.iload_n 2, 1) := by decide +kernel
theorem dX11_oddsAnew_8 : decode cX11_oddsAnew 8 = .ok (.invokevirtual 90, 3) := by decide +kernel
theorem dX11_oddsAnew_11 : decode cX11_oddsAnew 11 = .ok (.ifCond .eq 5, 3) := by decide +kernel
theorem dX11_oddsAnew_14 : decode cX11_oddsAnew 14 = .ok (.iconst 0, 1) := by decide +kernel
theorem dX11_oddsAnew_15 : decode cX11_oddsAnew 15 = .ok (.ireturn, 1) := by decide +kernel
theorem dX11_oddsAnew_16 : decode cX11_oddsAnew 16 = .ok (.aload_n 0, 1) := by decide +kernel
theorem dX11_oddsAnew_17 : decode cX11_oddsAnew 17 = .ok (.iload_n 1, 1) := by decide +kernel
theorem dX11_oddsAnew_18 : decode cX11_oddsAnew 18 = .ok (.iload_n 2, 1) := by decide +kernel
theorem dX11_oddsAnew_19 : decode cX11_oddsAnew 19 = .ok (.invokevirtual 77, 3) := by decide +kernel
theorem dX11_oddsAnew_22 : decode cX11_oddsAnew 22 = .ok (.getfield 98, 3) := by decide +kernel
theorem dX11_oddsAnew_25 : decode cX11_oddsAnew 25 = .ok (.istore_n 3, 1) := by decide +kernel
theorem dX11_oddsAnew_26 : decode cX11_oddsAnew 26 = .ok (.aload_n 0, 1) := by decide +kernel
theorem dX11_oddsAnew_27 : decode cX11_oddsAnew 27 = .ok (.iload_n 1, 1) := by decide +kernel
theorem dX11_oddsAnew_28 : decode cX11_oddsAnew 28 = .ok (.iload_n 2, 1) := by decide +kernel
theorem dX11_oddsAnew_29 : decode cX11_oddsAnew 29 = .ok (.invokevirtual 77, 3) := by decide +kernel
theorem dX11_oddsAnew_32 : decode cX11_oddsAnew 32 = .ok (.getfield 101, 3) := by decide +kernel
theorem dX11_oddsAnew_35 : decode cX11_oddsAnew 35 = .ok (.invokevirtual 134, 3) := by decide +kernel
theorem dX11_oddsAnew_38 : decode cX11_oddsAnew 38 = .ok (.astore 4, 2) := by decide +kernel
theorem dX11_oddsAnew_40 : decode cX11_oddsAnew 40 = .ok (.aload 4, 2) := by decide +kernel
theorem dX11_oddsAnew_42 : decode cX11_oddsAnew 42 = .ok (.invokeinterface 138 1, 5) := by decide +kernel
theorem dX11_oddsAnew_47 : decode cX11_oddsAnew 47 = .ok (.ifCond .eq 39, 3) := by decide +kernel
theorem dX11_oddsAnew_50 : decode cX11_oddsAnew 50 = .ok (.aload 4, 2) := by decide +kernel
theorem dX11_oddsAnew_52 : decode cX11_oddsAnew 52 = .ok (.invokeinterface 144 1, 5) := by decide +kernel
theorem dX11_oddsAnew_57 : decode cX11_oddsAnew 57 = .ok (.checkcast 111, 3) := by decide +kernel
theorem dX11_oddsAnew_60 : decode cX11_oddsAnew 60 = .ok (.invokevirtual 148, 3) := by decide +kernel
theorem dX11_oddsAnew_63 : decode cX11_oddsAnew 63 = .ok (.istore 5, 2) := by decide +kernel
theorem dX11_oddsAnew_65 : decode cX11_oddsAnew 65 = .ok (.aload_n 0, 1) := by decide +kernel
theorem dX11_oddsAnew_66 : decode cX11_oddsAnew 66 = .ok (.getfield 10, 3) := by decide +kernel
theorem dX11_oddsAnew_69 : decode cX11_oddsAnew 69 = .ok (.iload_n 2, 1) := by decide +kernel
theorem dX11_oddsAnew_70 : decode cX11_oddsAnew 70 = .ok (.invokevirtual 42, 3) := by decide +kernel
theorem dX11_oddsAnew_73 : decode cX11_oddsAnew 73 = .ok (.checkcast 52, 3) := by decide +kernel
theorem dX11_oddsAnew_76 : decode cX11_oddsAnew 76 = .ok (.iload_n 3, 1) := by decide +kernel
theorem dX11_oddsAnew_77 : decode cX11_oddsAnew 77 = .ok (.iload 5, 2) := by decide +kernel
theorem dX11_oddsAnew_79 : decode cX11_oddsAnew 79 = .ok (.invokestatic 116, 3) := by decide +kernel
theorem dX11_oddsAnew_82 : decode cX11_oddsAnew 82 = .ok (.istore_n 3, 1) := by decide +kernel
theorem dX11_oddsAnew_83 : decode cX11_oddsAnew 83 = .ok (.goto (-43), 3) := by decide +kernel
theorem dX11_oddsAnew_86 : decode cX11_oddsAnew 86 = .ok (.iload_n 3, 1) := by decide +kernel
theorem dX11_oddsAnew_87 : decode cX11_oddsAnew 87 = .ok (.ireturn, 1) := by decide +kernel
theorem dX11_answers_0 : decode cX11_answers 0 = .ok (.aload_n 0, 1) := by decide +kernel
theorem dX11_answers_1 : decode cX11_answers 1 = .ok (.iconst 0, 1) := by decide +kernel
theorem dX11_answers_2 : decode cX11_answers 2 = .ok (.putfield 19, 3) := by decide +kernel
theorem dX11_answers_5 : decode cX11_answers 5 = .ok (.aload_n 0, 1) := by decide +kernel
theorem dX11_answers_6 : decode cX11_answers 6 = .ok (.iload_n 1, 1) := by decide +kernel
theorem dX11_answers_7 : decode cX11_answers 7 = .ok (.iload_n 2, 1) := by decide +kernel
theorem dX11_answers_8 : decode cX11_answers 8 = .ok (.invokevirtual 90, 3) := by decide +kernel
theorem dX11_answers_11 : decode cX11_answers 11 = .ok (.ifCond .eq 7, 3) := by decide +kernel
theorem dX11_answers_14 : decode cX11_answers 14 = .ok (.iconst 0, 1) := by decide +kernel
theorem dX11_answers_15 : decode cX11_answers 15 = .ok (.goto 15, 3) := by decide +kernel
theorem dX11_answers_18 : decode cX11_answers 18 = .ok (.aload_n 0, 1) := by decide +kernel
theorem dX11_answers_19 : decode cX11_answers 19 = .ok (.iload_n 1, 1) := by decide +kernel
theorem dX11_answers_20 : decode cX11_answers 20 = .ok (.iload_n 2, 1) := by decide +kernel
theorem dX11_answers_21 : decode cX11_answers 21 = .ok (.invokevirtual 77, 3) := by decide +kernel
theorem dX11_answers_24 : decode cX11_answers 24 = .ok (.getfield 101, 3) := by decide +kernel
theorem dX11_answers_27 : decode cX11_answers 27 = .ok (.invokevirtual 23, 3) := by decide +kernel
theorem dX11_answers_30 : decode cX11_answers 30 = .ok (.ireturn, 1) := by decide +kernel
theorem dX11_nextDay_0 : decode cX11_nextDay 0 = .ok (.aload_n 0, 1) := by decide +kernel
theorem dX11_nextDay_1 : decode cX11_nextDay 1 = .ok (.iconst 0, 1) := by decide +kernel
theorem dX11_nextDay_2 : decode cX11_nextDay 2 = .ok (.putfield 19, 3) := by decide +kernel
theorem dX11_nextDay_5 : decode cX11_nextDay 5 = .ok (.aload_n 0, 1) := by decide +kernel
theorem dX11_nextDay_6 : decode cX11_nextDay 6 = .ok (.aload_n 0, 1) := by decide +kernel
theorem dX11_nextDay_7 : decode cX11_nextDay 7 = .ok (.getfield 123, 3) := by decide +kernel
theorem dX11_nextDay_10 : decode cX11_nextDay 10 = .ok (.sipush 200, 3) := by decide +kernel
theorem dX11_nextDay_13 : decode cX11_nextDay 13 = .ok (.if_icmp .ne 7, 3) := by decide +kernel
theorem dX11_nextDay_16 : decode cX11_nextDay 16 = .ok (.iconst 1, 1) := by decide +kernel
theorem dX11_nextDay_17 : decode cX11_nextDay 17 = .ok (.goto 4, 3) := by decide +kernel
theorem dX11_nextDay_20 : decode cX11_nextDay 20 = .ok (.iconst 0, 1) := by decide +kernel
theorem dX11_nextDay_21 : decode cX11_nextDay 21 = .ok (.iconst 1, 1) := by decide +kernel
theorem dX11_nextDay_22 : decode cX11_nextDay 22 = .ok (.invokevirtual 38, 3) := by decide +kernel
theorem dX11_nextDay_25 : decode cX11_nextDay 25 = .ok (.ifCond .eq 5, 3) := by decide +kernel
theorem dX11_nextDay_28 : decode cX11_nextDay 28 = .ok (.iconst 0, 1) := by decide +kernel
theorem dX11_nextDay_29 : decode cX11_nextDay 29 = .ok (.ireturn, 1) := by decide +kernel
theorem dX11_nextDay_30 : decode cX11_nextDay 30 = .ok (.aload_n 0, 1) := by decide +kernel
theorem dX11_nextDay_31 : decode cX11_nextDay 31 = .ok (.dup, 1) := by decide +kernel
theorem dX11_nextDay_32 : decode cX11_nextDay 32 = .ok (.getfield 123, 3) := by decide +kernel
theorem dX11_nextDay_35 : decode cX11_nextDay 35 = .ok (.iconst 1, 1) := by decide +kernel
theorem dX11_nextDay_36 : decode cX11_nextDay 36 = .ok (.iadd, 1) := by decide +kernel
theorem dX11_nextDay_37 : decode cX11_nextDay 37 = .ok (.putfield 123, 3) := by decide +kernel
theorem dX11_nextDay_40 : decode cX11_nextDay 40 = .ok (.aload_n 0, 1) := by decide +kernel
theorem dX11_nextDay_41 : decode cX11_nextDay 41 = .ok (.getfield 123, 3) := by decide +kernel
theorem dX11_nextDay_44 : decode cX11_nextDay 44 = .ok (.ireturn, 1) := by decide +kernel
theorem dX11_due_0 : decode cX11_due 0 = .ok (.aload_n 0, 1) := by decide +kernel
theorem dX11_due_1 : decode cX11_due 1 = .ok (.iconst 0, 1) := by decide +kernel
theorem dX11_due_2 : decode cX11_due 2 = .ok (.putfield 19, 3) := by decide +kernel
theorem dX11_due_5 : decode cX11_due 5 = .ok (.aload_n 0, 1) := by decide +kernel
theorem dX11_due_6 : decode cX11_due 6 = .ok (.iload_n 1, 1) := by decide +kernel
theorem dX11_due_7 : decode cX11_due 7 = .ok (.iload_n 2, 1) := by decide +kernel
theorem dX11_due_8 : decode cX11_due 8 = .ok (.invokevirtual 90, 3) := by decide +kernel
theorem dX11_due_11 : decode cX11_due 11 = .ok (.ifCond .ne 29, 3) := by decide +kernel
theorem dX11_due_14 : decode cX11_due 14 = .ok (.aload_n 0, 1) := by decide +kernel
theorem dX11_due_15 : decode cX11_due 15 = .ok (.aload_n 0, 1) := by decide +kernel
theorem dX11_due_16 : decode cX11_due 16 = .ok (.iload_n 1, 1) := by decide +kernel
theorem dX11_due_17 : decode cX11_due 17 = .ok (.iload_n 2, 1) := by decide +kernel
theorem dX11_due_18 : decode cX11_due 18 = .ok (.invokevirtual 77, 3) := by decide +kernel
theorem dX11_due_21 : decode cX11_due 21 = .ok (.getfield 107, 3) := by decide +kernel
theorem dX11_due_24 : decode cX11_due 24 = .ok (.iconst (-1), 1) := by decide +kernel
theorem dX11_due_25 : decode cX11_due 25 = .ok (.if_icmp .ne 7, 3) := by decide +kernel
theorem dX11_due_28 : decode cX11_due 28 = .ok (.iconst 1, 1) := by decide +kernel
theorem dX11_due_29 : decode cX11_due 29 = .ok (.goto 4, 3) := by decide +kernel
theorem dX11_due_32 : decode cX11_due 32 = .ok (.iconst 0, 1) := by decide +kernel
theorem dX11_due_33 : decode cX11_due 33 = .ok (.iconst 2, 1) := by decide +kernel
theorem dX11_due_34 : decode cX11_due 34 = .ok (.invokevirtual 38, 3) := by decide +kernel
theorem dX11_due_37 : decode cX11_due 37 = .ok (.ifCond .eq 7, 3) := by decide +kernel
theorem dX11_due_40 : decode cX11_due 40 = .ok (.iconst 0, 1) := by decide +kernel
theorem dX11_due_41 : decode cX11_due 41 = .ok (.goto 12, 3) := by decide +kernel
theorem dX11_due_44 : decode cX11_due 44 = .ok (.aload_n 0, 1) := by decide +kernel
theorem dX11_due_45 : decode cX11_due 45 = .ok (.iload_n 1, 1) := by decide +kernel
theorem dX11_due_46 : decode cX11_due 46 = .ok (.iload_n 2, 1) := by decide +kernel
theorem dX11_due_47 : decode cX11_due 47 = .ok (.invokevirtual 77, 3) := by decide +kernel
theorem dX11_due_50 : decode cX11_due 50 = .ok (.getfield 107, 3) := by decide +kernel
theorem dX11_due_53 : decode cX11_due 53 = .ok (.ireturn, 1) := by decide +kernel
theorem dX11_dueNow_0 : decode cX11_dueNow 0 = .ok (.new 7, 3) := by decide +kernel
theorem dX11_dueNow_3 : decode cX11_dueNow 3 = .ok (.dup, 1) := by decide +kernel
theorem dX11_dueNow_4 : decode cX11_dueNow 4 = .ok (.invokespecial 9, 3) := by decide +kernel
theorem dX11_dueNow_7 : decode cX11_dueNow 7 = .ok (.astore_n 2, 1) := by decide +kernel
theorem dX11_dueNow_8 : decode cX11_dueNow 8 = .ok (.iconst 0, 1) := by decide +kernel
theorem dX11_dueNow_9 : decode cX11_dueNow 9 = .ok (.istore_n 3, 1) := by decide +kernel
theorem dX11_dueNow_10 : decode cX11_dueNow 10 = .ok (.iload_n 3, 1) := by decide +kernel
theorem dX11_dueNow_11 : decode cX11_dueNow 11 = .ok (.aload_n 0, 1) := by decide +kernel
theorem dX11_dueNow_12 : decode cX11_dueNow 12 = .ok (.getfield 123, 3) := by decide +kernel
theorem dX11_dueNow_15 : decode cX11_dueNow 15 = .ok (.if_icmp .gt 54, 3) := by decide +kernel
theorem dX11_dueNow_18 : decode cX11_dueNow 18 = .ok (.iconst 0, 1) := by decide +kernel
theorem dX11_dueNow_19 : decode cX11_dueNow 19 = .ok (.istore 4, 2) := by decide +kernel
theorem dX11_dueNow_21 : decode cX11_dueNow 21 = .ok (.iload 4, 2) := by decide +kernel
theorem dX11_dueNow_23 : decode cX11_dueNow 23 = .ok (.aload_n 0, 1) := by decide +kernel
theorem dX11_dueNow_24 : decode cX11_dueNow 24 = .ok (.getfield 10, 3) := by decide +kernel
theorem dX11_dueNow_27 : decode cX11_dueNow 27 = .ok (.invokevirtual 23, 3) := by decide +kernel
theorem dX11_dueNow_30 : decode cX11_dueNow 30 = .ok (.if_icmp .ge 33, 3) := by decide +kernel
theorem dX11_dueNow_33 : decode cX11_dueNow 33 = .ok (.aload_n 0, 1) := by decide +kernel
theorem dX11_dueNow_34 : decode cX11_dueNow 34 = .ok (.iload_n 1, 1) := by decide +kernel
theorem dX11_dueNow_35 : decode cX11_dueNow 35 = .ok (.iload 4, 2) := by decide +kernel
theorem dX11_dueNow_37 : decode cX11_dueNow 37 = .ok (.invokevirtual 77, 3) := by decide +kernel
theorem dX11_dueNow_40 : decode cX11_dueNow 40 = .ok (.getfield 107, 3) := by decide +kernel
theorem dX11_dueNow_43 : decode cX11_dueNow 43 = .ok (.iload_n 3, 1) := by decide +kernel
theorem dX11_dueNow_44 : decode cX11_dueNow 44 = .ok (.if_icmp .ne 13, 3) := by decide +kernel
theorem dX11_dueNow_47 : decode cX11_dueNow 47 = .ok (.aload_n 2, 1) := by decide +kernel
theorem dX11_dueNow_48 : decode cX11_dueNow 48 = .ok (.iload 4, 2) := by decide +kernel
theorem dX11_dueNow_50 : decode cX11_dueNow 50 = .ok (.invokestatic 151, 3) := by decide +kernel
theorem dX11_dueNow_53 : decode cX11_dueNow 53 = .ok (.invokevirtual 64, 3) := by decide +kernel
theorem dX11_dueNow_56 : decode cX11_dueNow 56 = .ok (.pop, 1) := by decide +kernel
theorem dX11_dueNow_57 : decode cX11_dueNow 57 = .ok (.iinc 4 1, 3) := by decide +kernel
theorem dX11_dueNow_60 : decode cX11_dueNow 60 = .ok (.goto (-39), 3) := by decide +kernel
theorem dX11_dueNow_63 : decode cX11_dueNow 63 = .ok (.iinc 3 1, 3) := by decide +kernel
theorem dX11_dueNow_66 : decode cX11_dueNow 66 = .ok (.goto (-56), 3) := by decide +kernel
theorem dX11_dueNow_69 : decode cX11_dueNow 69 = .ok (.aload_n 2, 1) := by decide +kernel
theorem dX11_dueNow_70 : decode cX11_dueNow 70 = .ok (.areturn, 1) := by decide +kernel
theorem dX11_reviews_0 : decode cX11_reviews 0 = .ok (.aload_n 0, 1) := by decide +kernel
theorem dX11_reviews_1 : decode cX11_reviews 1 = .ok (.iconst 0, 1) := by decide +kernel
theorem dX11_reviews_2 : decode cX11_reviews 2 = .ok (.putfield 19, 3) := by decide +kernel
theorem dX11_reviews_5 : decode cX11_reviews 5 = .ok (.aload_n 0, 1) := by decide +kernel
theorem dX11_reviews_6 : decode cX11_reviews 6 = .ok (.aload_n 0, 1) := by decide +kernel
theorem dX11_reviews_7 : decode cX11_reviews 7 = .ok (.iload_n 1, 1) := by decide +kernel
theorem dX11_reviews_8 : decode cX11_reviews 8 = .ok (.invokevirtual 31, 3) := by decide +kernel
theorem dX11_reviews_11 : decode cX11_reviews 11 = .ok (.iconst 1, 1) := by decide +kernel
theorem dX11_reviews_12 : decode cX11_reviews 12 = .ok (.invokevirtual 38, 3) := by decide +kernel
theorem dX11_reviews_15 : decode cX11_reviews 15 = .ok (.ifCond .eq 7, 3) := by decide +kernel
theorem dX11_reviews_18 : decode cX11_reviews 18 = .ok (.iconst 0, 1) := by decide +kernel
theorem dX11_reviews_19 : decode cX11_reviews 19 = .ok (.goto 11, 3) := by decide +kernel
theorem dX11_reviews_22 : decode cX11_reviews 22 = .ok (.aload_n 0, 1) := by decide +kernel
theorem dX11_reviews_23 : decode cX11_reviews 23 = .ok (.iload_n 1, 1) := by decide +kernel
theorem dX11_reviews_24 : decode cX11_reviews 24 = .ok (.invokevirtual 156, 3) := by decide +kernel
theorem dX11_reviews_27 : decode cX11_reviews 27 = .ok (.invokevirtual 23, 3) := by decide +kernel
theorem dX11_reviews_30 : decode cX11_reviews 30 = .ok (.ireturn, 1) := by decide +kernel
theorem dX11_reviewAt_0 : decode cX11_reviewAt 0 = .ok (.aload_n 0, 1) := by decide +kernel
theorem dX11_reviewAt_1 : decode cX11_reviewAt 1 = .ok (.iconst 0, 1) := by decide +kernel
theorem dX11_reviewAt_2 : decode cX11_reviewAt 2 = .ok (.putfield 19, 3) := by decide +kernel
theorem dX11_reviewAt_5 : decode cX11_reviewAt 5 = .ok (.aload_n 0, 1) := by decide +kernel
theorem dX11_reviewAt_6 : decode cX11_reviewAt 6 = .ok (.aload_n 0, 1) := by decide +kernel
theorem dX11_reviewAt_7 : decode cX11_reviewAt 7 = .ok (.iload_n 1, 1) := by decide +kernel
theorem dX11_reviewAt_8 : decode cX11_reviewAt 8 = .ok (.invokevirtual 31, 3) := by decide +kernel
theorem dX11_reviewAt_11 : decode cX11_reviewAt 11 = .ok (.iconst 1, 1) := by decide +kernel
theorem dX11_reviewAt_12 : decode cX11_reviewAt 12 = .ok (.invokevirtual 38, 3) := by decide +kernel
theorem dX11_reviewAt_15 : decode cX11_reviewAt 15 = .ok (.ifCond .eq 5, 3) := by decide +kernel
theorem dX11_reviewAt_18 : decode cX11_reviewAt 18 = .ok (.iconst 0, 1) := by decide +kernel
theorem dX11_reviewAt_19 : decode cX11_reviewAt 19 = .ok (.ireturn, 1) := by decide +kernel
theorem dX11_reviewAt_20 : decode cX11_reviewAt 20 = .ok (.aload_n 0, 1) := by decide +kernel
theorem dX11_reviewAt_21 : decode cX11_reviewAt 21 = .ok (.iload_n 1, 1) := by decide +kernel
theorem dX11_reviewAt_22 : decode cX11_reviewAt 22 = .ok (.invokevirtual 156, 3) := by decide +kernel
theorem dX11_reviewAt_25 : decode cX11_reviewAt 25 = .ok (.astore_n 3, 1) := by decide +kernel
theorem dX11_reviewAt_26 : decode cX11_reviewAt 26 = .ok (.aload_n 0, 1) := by decide +kernel
theorem dX11_reviewAt_27 : decode cX11_reviewAt 27 = .ok (.iload_n 2, 1) := by decide +kernel
theorem dX11_reviewAt_28 : decode cX11_reviewAt 28 = .ok (.iconst 0, 1) := by decide +kernel
theorem dX11_reviewAt_29 : decode cX11_reviewAt 29 = .ok (.aload_n 3, 1) := by decide +kernel
theorem dX11_reviewAt_30 : decode cX11_reviewAt 30 = .ok (.invokevirtual 23, 3) := by decide +kernel
theorem dX11_reviewAt_33 : decode cX11_reviewAt 33 = .ok (.iconst 1, 1) := by decide +kernel
theorem dX11_reviewAt_34 : decode cX11_reviewAt 34 = .ok (.isub, 1) := by decide +kernel
theorem dX11_reviewAt_35 : decode cX11_reviewAt 35 = .ok (.invokestatic 27, 3) := by decide +kernel
theorem dX11_reviewAt_38 : decode cX11_reviewAt 38 = .ok (.ifCond .ne 7, 3) := by decide +kernel
theorem dX11_reviewAt_41 : decode cX11_reviewAt 41 = .ok (.iconst 1, 1) := by decide +kernel
theorem dX11_reviewAt_42 : decode cX11_reviewAt 42 = .ok (.goto 4, 3) := by decide +kernel
theorem dX11_reviewAt_45 : decode cX11_reviewAt 45 = .ok (.iconst 0, 1) := by decide +kernel
theorem dX11_reviewAt_46 : decode cX11_reviewAt 46 = .ok (.iconst 2, 1) := by decide +kernel
theorem dX11_reviewAt_47 : decode cX11_reviewAt 47 = .ok (.invokevirtual 38, 3) := by decide +kernel
theorem dX11_reviewAt_50 : decode cX11_reviewAt 50 = .ok (.ifCond .eq 7, 3) := by decide +kernel
theorem dX11_reviewAt_53 : decode cX11_reviewAt 53 = .ok (.iconst 0, 1) := by decide +kernel
theorem dX11_reviewAt_54 : decode cX11_reviewAt 54 = .ok (.goto 14, 3) := by decide +kernel
theorem dX11_reviewAt_57 : decode cX11_reviewAt 57 = .ok (.aload_n 3, 1) := by decide +kernel
theorem dX11_reviewAt_58 : decode cX11_reviewAt 58 = .ok (.iload_n 2, 1) := by decide +kernel
theorem dX11_reviewAt_59 : decode cX11_reviewAt 59 = .ok (.invokevirtual 42, 3) := by decide +kernel
theorem dX11_reviewAt_62 : decode cX11_reviewAt 62 = .ok (.checkcast 152, 3) := by decide +kernel
theorem dX11_reviewAt_65 : decode cX11_reviewAt 65 = .ok (.invokevirtual 160, 3) := by decide +kernel
theorem dX11_reviewAt_68 : decode cX11_reviewAt 68 = .ok (.ireturn, 1) := by decide +kernel
theorem dX11_choose_0 : decode cX11_choose 0 = .ok (.aload_n 0, 1) := by decide +kernel
theorem dX11_choose_1 : decode cX11_choose 1 = .ok (.iconst 0, 1) := by decide +kernel
theorem dX11_choose_2 : decode cX11_choose 2 = .ok (.putfield 19, 3) := by decide +kernel
theorem dX11_choose_5 : decode cX11_choose 5 = .ok (.aload_n 0, 1) := by decide +kernel
theorem dX11_choose_6 : decode cX11_choose 6 = .ok (.aload_n 0, 1) := by decide +kernel
theorem dX11_choose_7 : decode cX11_choose 7 = .ok (.iload_n 1, 1) := by decide +kernel
theorem dX11_choose_8 : decode cX11_choose 8 = .ok (.invokevirtual 31, 3) := by decide +kernel
theorem dX11_choose_11 : decode cX11_choose 11 = .ok (.iconst 1, 1) := by decide +kernel
theorem dX11_choose_12 : decode cX11_choose 12 = .ok (.invokevirtual 38, 3) := by decide +kernel
theorem dX11_choose_15 : decode cX11_choose 15 = .ok (.ifCond .eq 5, 3) := by decide +kernel
theorem dX11_choose_18 : decode cX11_choose 18 = .ok (.iconst 0, 1) := by decide +kernel
theorem dX11_choose_19 : decode cX11_choose 19 = .ok (.ireturn, 1) := by decide +kernel
theorem dX11_choose_20 : decode cX11_choose 20 = .ok (.aload_n 0, 1) := by decide +kernel
theorem dX11_choose_21 : decode cX11_choose 21 = .ok (.iload_n 1, 1) := by decide +kernel
theorem dX11_choose_22 : decode cX11_choose 22 = .ok (.invokevirtual 156, 3) := by decide +kernel
theorem dX11_choose_25 : decode cX11_choose 25 = .ok (.invokevirtual 134, 3) := by decide +kernel
theorem dX11_choose_28 : decode cX11_choose 28 = .ok (.astore_n 2, 1) := by decide +kernel
theorem dX11_choose_29 : decode cX11_choose 29 = .ok (.aload_n 2, 1) := by decide +kernel
theorem dX11_choose_30 : decode cX11_choose 30 = .ok (.invokeinterface 138 1, 5) := by decide +kernel
theorem dX11_choose_35 : decode cX11_choose 35 = .ok (.ifCond .eq 30, 3) := by decide +kernel
theorem dX11_choose_38 : decode cX11_choose 38 = .ok (.aload_n 2, 1) := by decide +kernel
theorem dX11_choose_39 : decode cX11_choose 39 = .ok (.invokeinterface 144 1, 5) := by decide +kernel
theorem dX11_choose_44 : decode cX11_choose 44 = .ok (.checkcast 152, 3) := by decide +kernel
theorem dX11_choose_47 : decode cX11_choose 47 = .ok (.invokevirtual 160, 3) := by decide +kernel
theorem dX11_choose_50 : decode cX11_choose 50 = .ok (.istore_n 3, 1) := by decide +kernel
theorem dX11_choose_51 : decode cX11_choose 51 = .ok (.aload_n 0, 1) := by decide +kernel
theorem dX11_choose_52 : decode cX11_choose 52 = .ok (.iload_n 1, 1) := by decide +kernel
theorem dX11_choose_53 : decode cX11_choose 53 = .ok (.iload_n 3, 1) := by decide +kernel
theorem dX11_choose_54 : decode cX11_choose 54 = .ok (.invokevirtual 93, 3) := by decide +kernel
theorem dX11_choose_57 : decode cX11_choose 57 = .ok (.ifCond .eq 5, 3) := by decide +kernel
theorem dX11_choose_60 : decode cX11_choose 60 = .ok (.iload_n 3, 1) := by decide +kernel
theorem dX11_choose_61 : decode cX11_choose 61 = .ok (.ireturn, 1) := by decide +kernel
theorem dX11_choose_62 : decode cX11_choose 62 = .ok (.goto (-33), 3) := by decide +kernel
theorem dX11_choose_65 : decode cX11_choose 65 = .ok (.iconst (-1), 1) := by decide +kernel
theorem dX11_choose_66 : decode cX11_choose 66 = .ok (.istore_n 2, 1) := by decide +kernel
theorem dX11_choose_67 : decode cX11_choose 67 = .ok (.iconst (-1), 1) := by decide +kernel
theorem dX11_choose_68 : decode cX11_choose 68 = .ok (.istore_n 3, 1) := by decide +kernel
theorem dX11_choose_69 : decode cX11_choose 69 = .ok (.iconst 0, 1) := by decide +kernel
theorem dX11_choose_70 : decode cX11_choose 70 = .ok (.istore 4, 2) := by decide +kernel
theorem dX11_choose_72 : decode cX11_choose 72 = .ok (.iload 4, 2) := by decide +kernel
theorem dX11_choose_74 : decode cX11_choose 74 = .ok (.aload_n 0, 1) := by decide +kernel
theorem dX11_choose_75 : decode cX11_choose 75 = .ok (.getfield 10, 3) := by decide +kernel
theorem dX11_choose_78 : decode cX11_choose 78 = .ok (.invokevirtual 23, 3) := by decide +kernel
theorem dX11_choose_81 : decode cX11_choose 81 = .ok (.if_icmp .ge 77, 3) := by decide +kernel
theorem dX11_choose_84 : decode cX11_choose 84 = .ok (.sipush 1000, 3) := by decide +kernel
theorem dX11_choose_87 : decode cX11_choose 87 = .ok (.aload_n 0, 1) := by decide +kernel
theorem dX11_choose_88 : decode cX11_choose 88 = .ok (.iload_n 1, 1) := by decide +kernel
theorem dX11_choose_89 : decode cX11_choose 89 = .ok (.iload 4, 2) := by decide +kernel
theorem dX11_choose_91 : decode cX11_choose 91 = .ok (.invokevirtual 77, 3) := by decide +kernel
theorem dX11_choose_94 : decode cX11_choose 94 = .ok (.getfield 81, 3) := by decide +kernel
theorem dX11_choose_97 : decode cX11_choose 97 = .ok (.isub, 1) := by decide +kernel
theorem dX11_choose_98 : decode cX11_choose 98 = .ok (.aload_n 0, 1) := by decide +kernel
theorem dX11_choose_99 : decode cX11_choose 99 = .ok (.getfield 10, 3) := by decide +kernel
theorem dX11_choose_102 : decode cX11_choose 102 = .ok (.iload 4, 2) := by decide +kernel
theorem dX11_choose_104 : decode cX11_choose 104 = .ok (.invokevirtual 42, 3) := by decide +kernel
theorem dX11_choose_107 : decode cX11_choose 107 = .ok (.checkcast 52, 3) := by decide +kernel
theorem dX11_choose_110 : decode cX11_choose 110 = .ok (.getfield 61, 3) := by decide +kernel
theorem dX11_choose_113 : decode cX11_choose 113 = .ok (.imul, 1) := by decide +kernel
theorem dX11_choose_114 : decode cX11_choose 114 = .ok (.istore 5, 2) := by decide +kernel
theorem dX11_choose_116 : decode cX11_choose 116 = .ok (.aload_n 0, 1) := by decide +kernel
theorem dX11_choose_117 : decode cX11_choose 117 = .ok (.iload_n 1, 1) := by decide +kernel
theorem dX11_choose_118 : decode cX11_choose 118 = .ok (.iload 4, 2) := by decide +kernel
theorem dX11_choose_120 : decode cX11_choose 120 = .ok (.invokevirtual 77, 3) := by decide +kernel
theorem dX11_choose_123 : decode cX11_choose 123 = .ok (.getfield 107, 3) := by decide +kernel
theorem dX11_choose_126 : decode cX11_choose 126 = .ok (.iconst (-1), 1) := by decide +kernel
theorem dX11_choose_127 : decode cX11_choose 127 = .ok (.if_icmp .ne 25, 3) := by decide +kernel
theorem dX11_choose_130 : decode cX11_choose 130 = .ok (.aload_n 0, 1) := by decide +kernel
theorem dX11_choose_131 : decode cX11_choose 131 = .ok (.iload_n 1, 1) := by decide +kernel
theorem dX11_choose_132 : decode cX11_choose 132 = .ok (.iload 4, 2) := by decide +kernel
theorem dX11_choose_134 : decode cX11_choose 134 = .ok (.invokevirtual 93, 3) := by decide +kernel
theorem dX11_choose_137 : decode cX11_choose 137 = .ok (.ifCond .eq 15, 3) := by decide +kernel
theorem dX11_choose_140 : decode cX11_choose 140 = .ok (.iload 5, 2) := by decide +kernel
theorem dX11_choose_142 : decode cX11_choose 142 = .ok (.iload_n 3, 1) := by decide +kernel
theorem dX11_choose_143 : decode cX11_choose 143 = .ok (.if_icmp .le 9, 3) := by decide +kernel
theorem dX11_choose_146 : decode cX11_choose 146 = .ok (.iload 4, 2) := by decide +kernel
theorem dX11_choose_148 : decode cX11_choose 148 = .ok (.istore_n 2, 1) := by decide +kernel
theorem dX11_choose_149 : decode cX11_choose 149 = .ok (.iload 5, 2) := by decide +kernel
theorem dX11_choose_151 : decode cX11_choose 151 = .ok (.istore_n 3, 1) := by decide +kernel
theorem dX11_choose_152 : decode cX11_choose 152 = .ok (.iinc 4 1, 3) := by decide +kernel
theorem dX11_choose_155 : decode cX11_choose 155 = .ok (.goto (-83), 3) := by decide +kernel
theorem dX11_choose_158 : decode cX11_choose 158 = .ok (.aload_n 0, 1) := by decide +kernel
theorem dX11_choose_159 : decode cX11_choose 159 = .ok (.iload_n 2, 1) := by decide +kernel
theorem dX11_choose_160 : decode cX11_choose 160 = .ok (.iconst (-1), 1) := by decide +kernel
theorem dX11_choose_161 : decode cX11_choose 161 = .ok (.if_icmp .ne 7, 3) := by decide +kernel
theorem dX11_choose_164 : decode cX11_choose 164 = .ok (.iconst 1, 1) := by decide +kernel
theorem dX11_choose_165 : decode cX11_choose 165 = .ok (.goto 4, 3) := by decide +kernel
theorem dX11_choose_168 : decode cX11_choose 168 = .ok (.iconst 0, 1) := by decide +kernel
theorem dX11_choose_169 : decode cX11_choose 169 = .ok (.iconst 2, 1) := by decide +kernel
theorem dX11_choose_170 : decode cX11_choose 170 = .ok (.invokevirtual 38, 3) := by decide +kernel
theorem dX11_choose_173 : decode cX11_choose 173 = .ok (.ifCond .eq 7, 3) := by decide +kernel
theorem dX11_choose_176 : decode cX11_choose 176 = .ok (.iconst 0, 1) := by decide +kernel
theorem dX11_choose_177 : decode cX11_choose 177 = .ok (.goto 4, 3) := by decide +kernel
theorem dX11_choose_180 : decode cX11_choose 180 = .ok (.iload_n 2, 1) := by decide +kernel
theorem dX11_choose_181 : decode cX11_choose 181 = .ok (.ireturn, 1) := by decide +kernel
theorem dX11_equation_0 : decode cX11_equation 0 = .ok (.iconst 2, 1) := by decide +kernel
theorem dX11_equation_1 : decode cX11_equation 1 = .ok (.iload_n 0, 1) := by decide +kernel
theorem dX11_equation_2 : decode cX11_equation 2 = .ok (.bipush 7, 2) := by decide +kernel
theorem dX11_equation_4 : decode cX11_equation 4 = .ok (.irem, 1) := by decide +kernel
theorem dX11_equation_5 : decode cX11_equation 5 = .ok (.iadd, 1) := by decide +kernel
theorem dX11_equation_6 : decode cX11_equation 6 = .ok (.istore_n 1, 1) := by decide +kernel
theorem dX11_equation_7 : decode cX11_equation 7 = .ok (.iload_n 0, 1) := by decide +kernel
theorem dX11_equation_8 : decode cX11_equation 8 = .ok (.bipush 7, 2) := by decide +kernel
theorem dX11_equation_10 : decode cX11_equation 10 = .ok (.idiv, 1) := by decide +kernel
theorem dX11_equation_11 : decode cX11_equation 11 = .ok (.iconst 2, 1) := by decide +kernel
theorem dX11_equation_12 : decode cX11_equation 12 = .ok (.irem, 1) := by decide +kernel
theorem dX11_equation_13 : decode cX11_equation 13 = .ok (.istore_n 2, 1) := by decide +kernel
theorem dX11_equation_14 : decode cX11_equation 14 = .ok (.iload_n 0, 1) := by decide +kernel
theorem dX11_equation_15 : decode cX11_equation 15 = .ok (.bipush 14, 2) := by decide +kernel
theorem dX11_equation_17 : decode cX11_equation 17 = .ok (.idiv, 1) := by decide +kernel
theorem dX11_equation_18 : decode cX11_equation 18 = .ok (.bipush 10, 2) := by decide +kernel
theorem dX11_equation_20 : decode cX11_equation 20 = .ok (.irem, 1) := by decide +kernel
theorem dX11_equation_21 : decode cX11_equation 21 = .ok (.iconst 4, 1) := by decide +kernel
theorem dX11_equation_22 : decode cX11_equation 22 = .ok (.isub, 1) := by decide +kernel
theorem dX11_equation_23 : decode cX11_equation 23 = .ok (.istore_n 3, 1) := by decide +kernel
theorem dX11_equation_24 : decode cX11_equation 24 = .ok (.iload_n 0, 1) := by decide +kernel
theorem dX11_equation_25 : decode cX11_equation 25 = .ok (.sipush 140, 3) := by decide +kernel
theorem dX11_equation_28 : decode cX11_equation 28 = .ok (.idiv, 1) := by decide +kernel
theorem dX11_equation_29 : decode cX11_equation 29 = .ok (.bipush 9, 2) := by decide +kernel
theorem dX11_equation_31 : decode cX11_equation 31 = .ok (.irem, 1) := by decide +kernel
theorem dX11_equation_32 : decode cX11_equation 32 = .ok (.iconst 4, 1) := by decide +kernel
theorem dX11_equation_33 : decode cX11_equation 33 = .ok (.isub, 1) := by decide +kernel
theorem dX11_equation_34 : decode cX11_equation 34 = .ok (.istore 4, 2) := by decide +kernel
theorem dX11_equation_36 : decode cX11_equation 36 = .ok (.iconst 4, 1) := by decide +kernel
theorem dX11_equation_37 : decode cX11_equation 37 = .ok (.newarray .int, 2) := by decide +kernel
theorem dX11_equation_39 : decode cX11_equation 39 = .ok (.dup, 1) := by decide +kernel
theorem dX11_equation_40 : decode cX11_equation 40 = .ok (.iconst 0, 1) := by decide +kernel
theorem dX11_equation_41 : decode cX11_equation 41 = .ok (.iload_n 1, 1) := by decide +kernel
theorem dX11_equation_42 : decode cX11_equation 42 = .ok (.iastore, 1) := by decide +kernel
theorem dX11_equation_43 : decode cX11_equation 43 = .ok (.dup, 1) := by decide +kernel
theorem dX11_equation_44 : decode cX11_equation 44 = .ok (.iconst 1, 1) := by decide +kernel
theorem dX11_equation_45 : decode cX11_equation 45 = .ok (.iload 4, 2) := by decide +kernel
theorem dX11_equation_47 : decode cX11_equation 47 = .ok (.iastore, 1) := by decide +kernel
theorem dX11_equation_48 : decode cX11_equation 48 = .ok (.dup, 1) := by decide +kernel
theorem dX11_equation_49 : decode cX11_equation 49 = .ok (.iconst 2, 1) := by decide +kernel
theorem dX11_equation_50 : decode cX11_equation 50 = .ok (.iload_n 2, 1) := by decide +kernel
theorem dX11_equation_51 : decode cX11_equation 51 = .ok (.iastore, 1) := by decide +kernel
theorem dX11_equation_52 : decode cX11_equation 52 = .ok (.dup, 1) := by decide +kernel
theorem dX11_equation_53 : decode cX11_equation 53 = .ok (.iconst 3, 1) := by decide +kernel
theorem dX11_equation_54 : decode cX11_equation 54 = .ok (.iload_n 1, 1) := by decide +kernel
theorem dX11_equation_55 : decode cX11_equation 55 = .ok (.iload_n 3, 1) := by decide +kernel
theorem dX11_equation_56 : decode cX11_equation 56 = .ok (.imul, 1) := by decide +kernel
theorem dX11_equation_57 : decode cX11_equation 57 = .ok (.iload 4, 2) := by decide +kernel
theorem dX11_equation_59 : decode cX11_equation 59 = .ok (.iadd, 1) := by decide +kernel
theorem dX11_equation_60 : decode cX11_equation 60 = .ok (.iload_n 2, 1) := by decide +kernel
theorem dX11_equation_61 : decode cX11_equation 61 = .ok (.iload_n 3, 1) := by decide +kernel
theorem dX11_equation_62 : decode cX11_equation 62 = .ok (.imul, 1) := by decide +kernel
theorem dX11_equation_63 : decode cX11_equation 63 = .ok (.isub, 1) := by decide +kernel
theorem dX11_equation_64 : decode cX11_equation 64 = .ok (.iastore, 1) := by decide +kernel
theorem dX11_equation_65 : decode cX11_equation 65 = .ok (.astore 5, 2) := by decide +kernel
theorem dX11_equation_67 : decode cX11_equation 67 = .ok (.aload 5, 2) := by decide +kernel
theorem dX11_equation_69 : decode cX11_equation 69 = .ok (.areturn, 1) := by decide +kernel
theorem dX11_areSame_0 : decode cX11_areSame 0 = .ok (.aload_n 0, 1) := by decide +kernel
theorem dX11_areSame_1 : decode cX11_areSame 1 = .ok (.iconst 0, 1) := by decide +kernel
theorem dX11_areSame_2 : decode cX11_areSame 2 = .ok (.iaload, 1) := by decide +kernel
theorem dX11_areSame_3 : decode cX11_areSame 3 = .ok (.aload_n 1, 1) := by decide +kernel
theorem dX11_areSame_4 : decode cX11_areSame 4 = .ok (.iconst 0, 1) := by decide +kernel
theorem dX11_areSame_5 : decode cX11_areSame 5 = .ok (.iaload, 1) := by decide +kernel
theorem dX11_areSame_6 : decode cX11_areSame 6 = .ok (.if_icmp .ne 34, 3) := by decide +kernel
theorem dX11_areSame_9 : decode cX11_areSame 9 = .ok (.aload_n 0, 1) := by decide +kernel
theorem dX11_areSame_10 : decode cX11_areSame 10 = .ok (.iconst 1, 1) := by decide +kernel
theorem dX11_areSame_11 : decode cX11_areSame 11 = .ok (.iaload, 1) := by decide +kernel
theorem dX11_areSame_12 : decode cX11_areSame 12 = .ok (.aload_n 1, 1) := by decide +kernel
theorem dX11_areSame_13 : decode cX11_areSame 13 = .ok (.iconst 1, 1) := by decide +kernel
theorem dX11_areSame_14 : decode cX11_areSame 14 = .ok (.iaload, 1) := by decide +kernel
theorem dX11_areSame_15 : decode cX11_areSame 15 = .ok (.if_icmp .ne 25, 3) := by decide +kernel
theorem dX11_areSame_18 : decode cX11_areSame 18 = .ok (.aload_n 0, 1) := by decide +kernel
theorem dX11_areSame_19 : decode cX11_areSame 19 = .ok (.iconst 2, 1) := by decide +kernel
theorem dX11_areSame_20 : decode cX11_areSame 20 = .ok (.iaload, 1) := by decide +kernel
theorem dX11_areSame_21 : decode cX11_areSame 21 = .ok (.aload_n 1, 1) := by decide +kernel
theorem dX11_areSame_22 : decode cX11_areSame 22 = .ok (.iconst 2, 1) := by decide +kernel
theorem dX11_areSame_23 : decode cX11_areSame 23 = .ok (.iaload, 1) := by decide +kernel
theorem dX11_areSame_24 : decode cX11_areSame 24 = .ok (.if_icmp .ne 16, 3) := by decide +kernel
theorem dX11_areSame_27 : decode cX11_areSame 27 = .ok (.aload_n 0, 1) := by decide +kernel
theorem dX11_areSame_28 : decode cX11_areSame 28 = .ok (.iconst 3, 1) := by decide +kernel
theorem dX11_areSame_29 : decode cX11_areSame 29 = .ok (.iaload, 1) := by decide +kernel
theorem dX11_areSame_30 : decode cX11_areSame 30 = .ok (.aload_n 1, 1) := by decide +kernel
theorem dX11_areSame_31 : decode cX11_areSame 31 = .ok (.iconst 3, 1) := by decide +kernel
theorem dX11_areSame_32 : decode cX11_areSame 32 = .ok (.iaload, 1) := by decide +kernel
theorem dX11_areSame_33 : decode cX11_areSame 33 = .ok (.if_icmp .ne 7, 3) := by decide +kernel
theorem dX11_areSame_36 : decode cX11_areSame 36 = .ok (.iconst 1, 1) := by decide +kernel
theorem dX11_areSame_37 : decode cX11_areSame 37 = .ok (.goto 4, 3) := by decide +kernel
theorem dX11_areSame_40 : decode cX11_areSame 40 = .ok (.iconst 0, 1) := by decide +kernel
theorem dX11_areSame_41 : decode cX11_areSame 41 = .ok (.ireturn, 1) := by decide +kernel
theorem dX11_wasLately_0 : decode cX11_wasLately 0 = .ok (.iconst 0, 1) := by decide +kernel
theorem dX11_wasLately_1 : decode cX11_wasLately 1 = .ok (.istore_n 2, 1) := by decide +kernel
theorem dX11_wasLately_2 : decode cX11_wasLately 2 = .ok (.iconst 0, 1) := by decide +kernel
theorem dX11_wasLately_3 : decode cX11_wasLately 3 = .ok (.aload_n 0, 1) := by decide +kernel
theorem dX11_wasLately_4 : decode cX11_wasLately 4 = .ok (.getfield 163, 3) := by decide +kernel
theorem dX11_wasLately_7 : decode cX11_wasLately 7 = .ok (.invokevirtual 23, 3) := by decide +kernel
theorem dX11_wasLately_10 : decode cX11_wasLately 10 = .ok (.iconst 3, 1) := by decide +kernel
theorem dX11_wasLately_11 : decode cX11_wasLately 11 = .ok (.isub, 1) := by decide +kernel
theorem dX11_wasLately_12 : decode cX11_wasLately 12 = .ok (.invokestatic 166, 3) := by decide +kernel
theorem dX11_wasLately_15 : decode cX11_wasLately 15 = .ok (.istore_n 3, 1) := by decide +kernel
theorem dX11_wasLately_16 : decode cX11_wasLately 16 = .ok (.iload_n 3, 1) := by decide +kernel
theorem dX11_wasLately_17 : decode cX11_wasLately 17 = .ok (.aload_n 0, 1) := by decide +kernel
theorem dX11_wasLately_18 : decode cX11_wasLately 18 = .ok (.getfield 163, 3) := by decide +kernel
theorem dX11_wasLately_21 : decode cX11_wasLately 21 = .ok (.invokevirtual 23, 3) := by decide +kernel
theorem dX11_wasLately_24 : decode cX11_wasLately 24 = .ok (.if_icmp .ge 37, 3) := by decide +kernel
theorem dX11_wasLately_27 : decode cX11_wasLately 27 = .ok (.iload_n 2, 1) := by decide +kernel
theorem dX11_wasLately_28 : decode cX11_wasLately 28 = .ok (.ifCond .ne 21, 3) := by decide +kernel
theorem dX11_wasLately_31 : decode cX11_wasLately 31 = .ok (.aload_n 0, 1) := by decide +kernel
theorem dX11_wasLately_32 : decode cX11_wasLately 32 = .ok (.getfield 163, 3) := by decide +kernel
theorem dX11_wasLately_35 : decode cX11_wasLately 35 = .ok (.iload_n 3, 1) := by decide +kernel
theorem dX11_wasLately_36 : decode cX11_wasLately 36 = .ok (.invokevirtual 42, 3) := by decide +kernel
theorem dX11_wasLately_39 : decode cX11_wasLately 39 = .ok (.checkcast 172, 3) := by decide +kernel
theorem dX11_wasLately_42 : decode cX11_wasLately 42 = .ok (.aload_n 1, 1) := by decide +kernel
theorem dX11_wasLately_43 : decode cX11_wasLately 43 = .ok (.invokestatic 174, 3) := by decide +kernel
theorem dX11_wasLately_46 : decode cX11_wasLately 46 = .ok (.ifCond .eq 7, 3) := by decide +kernel
theorem dX11_wasLately_49 : decode cX11_wasLately 49 = .ok (.iconst 1, 1) := by decide +kernel
theorem dX11_wasLately_50 : decode cX11_wasLately 50 = .ok (.goto 4, 3) := by decide +kernel
theorem dX11_wasLately_53 : decode cX11_wasLately 53 = .ok (.iconst 0, 1) := by decide +kernel
theorem dX11_wasLately_54 : decode cX11_wasLately 54 = .ok (.istore_n 2, 1) := by decide +kernel
theorem dX11_wasLately_55 : decode cX11_wasLately 55 = .ok (.iinc 3 1, 3) := by decide +kernel
theorem dX11_wasLately_58 : decode cX11_wasLately 58 = .ok (.goto (-42), 3) := by decide +kernel
theorem dX11_wasLately_61 : decode cX11_wasLately 61 = .ok (.iload_n 2, 1) := by decide +kernel
theorem dX11_wasLately_62 : decode cX11_wasLately 62 = .ok (.ireturn, 1) := by decide +kernel
theorem dX11_make_0 : decode cX11_make 0 = .ok (.aload_n 0, 1) := by decide +kernel
theorem dX11_make_1 : decode cX11_make 1 = .ok (.iconst 0, 1) := by decide +kernel
theorem dX11_make_2 : decode cX11_make 2 = .ok (.putfield 19, 3) := by decide +kernel
theorem dX11_make_5 : decode cX11_make 5 = .ok (.aload_n 0, 1) := by decide +kernel
theorem dX11_make_6 : decode cX11_make 6 = .ok (.iload_n 1, 1) := by decide +kernel
theorem dX11_make_7 : decode cX11_make 7 = .ok (.iload_n 2, 1) := by decide +kernel
theorem dX11_make_8 : decode cX11_make 8 = .ok (.invokevirtual 90, 3) := by decide +kernel
theorem dX11_make_11 : decode cX11_make 11 = .ok (.ifCond .ne 49, 3) := by decide +kernel
theorem dX11_make_14 : decode cX11_make 14 = .ok (.aload_n 0, 1) := by decide +kernel
theorem dX11_make_15 : decode cX11_make 15 = .ok (.iload_n 3, 1) := by decide +kernel
theorem dX11_make_16 : decode cX11_make 16 = .ok (.iconst 0, 1) := by decide +kernel
theorem dX11_make_17 : decode cX11_make 17 = .ok (.sipush 1259, 3) := by decide +kernel
theorem dX11_make_20 : decode cX11_make 20 = .ok (.invokestatic 27, 3) := by decide +kernel
theorem dX11_make_23 : decode cX11_make 23 = .ok (.ifCond .ne 7, 3) := by decide +kernel
theorem dX11_make_26 : decode cX11_make 26 = .ok (.iconst 1, 1) := by decide +kernel
theorem dX11_make_27 : decode cX11_make 27 = .ok (.goto 4, 3) := by decide +kernel
theorem dX11_make_30 : decode cX11_make 30 = .ok (.iconst 0, 1) := by decide +kernel
theorem dX11_make_31 : decode cX11_make 31 = .ok (.iconst 2, 1) := by decide +kernel
theorem dX11_make_32 : decode cX11_make 32 = .ok (.invokevirtual 38, 3) := by decide +kernel
theorem dX11_make_35 : decode cX11_make 35 = .ok (.ifCond .ne 25, 3) := by decide +kernel
theorem dX11_make_38 : decode cX11_make 38 = .ok (.aload_n 0, 1) := by decide +kernel
theorem dX11_make_39 : decode cX11_make 39 = .ok (.aload_n 0, 1) := by decide +kernel
theorem dX11_make_40 : decode cX11_make 40 = .ok (.iload_n 1, 1) := by decide +kernel
theorem dX11_make_41 : decode cX11_make 41 = .ok (.iload_n 2, 1) := by decide +kernel
theorem dX11_make_42 : decode cX11_make 42 = .ok (.invokevirtual 93, 3) := by decide +kernel
theorem dX11_make_45 : decode cX11_make 45 = .ok (.ifCond .ne 7, 3) := by decide +kernel
theorem dX11_make_48 : decode cX11_make 48 = .ok (.iconst 1, 1) := by decide +kernel
theorem dX11_make_49 : decode cX11_make 49 = .ok (.goto 4, 3) := by decide +kernel
theorem dX11_make_52 : decode cX11_make 52 = .ok (.iconst 0, 1) := by decide +kernel
theorem dX11_make_53 : decode cX11_make 53 = .ok (.iconst 3, 1) := by decide +kernel
theorem dX11_make_54 : decode cX11_make 54 = .ok (.invokevirtual 38, 3) := by decide +kernel
theorem dX11_make_57 : decode cX11_make 57 = .ok (.ifCond .eq 5, 3) := by decide +kernel
theorem dX11_make_60 : decode cX11_make 60 = .ok (.iconst 0, 1) := by decide +kernel
theorem dX11_make_61 : decode cX11_make 61 = .ok (.ireturn, 1) := by decide +kernel
theorem dX11_make_62 : decode cX11_make 62 = .ok (.aload_n 0, 1) := by decide +kernel
theorem dX11_make_63 : decode cX11_make 63 = .ok (.getfield 16, 3) := by decide +kernel
theorem dX11_make_66 : decode cX11_make 66 = .ok (.iload_n 1, 1) := by decide +kernel
theorem dX11_make_67 : decode cX11_make 67 = .ok (.invokevirtual 42, 3) := by decide +kernel
theorem dX11_make_70 : decode cX11_make 70 = .ok (.checkcast 46, 3) := by decide +kernel
theorem dX11_make_73 : decode cX11_make 73 = .ok (.astore 4, 2) := by decide +kernel
theorem dX11_make_75 : decode cX11_make 75 = .ok (.iload_n 3, 1) := by decide +kernel
theorem dX11_make_76 : decode cX11_make 76 = .ok (.istore 5, 2) := by decide +kernel
theorem dX11_make_78 : decode cX11_make 78 = .ok (.aload 4, 2) := by decide +kernel
theorem dX11_make_80 : decode cX11_make 80 = .ok (.iload 5, 2) := by decide +kernel
theorem dX11_make_82 : decode cX11_make 82 = .ok (.invokestatic 178, 3) := by decide +kernel
theorem dX11_make_85 : decode cX11_make 85 = .ok (.invokestatic 182, 3) := by decide +kernel
theorem dX11_make_88 : decode cX11_make 88 = .ok (.ifCond .eq 16, 3) := by decide +kernel
theorem dX11_make_91 : decode cX11_make 91 = .ok (.iload 5, 2) := by decide +kernel
theorem dX11_make_93 : decode cX11_make 93 = .ok (.iconst 1, 1) := by decide +kernel
theorem dX11_make_94 : decode cX11_make 94 = .ok (.iadd, 1) := by decide +kernel
theorem dX11_make_95 : decode cX11_make 95 = .ok (.sipush 1260, 3) := by decide +kernel
theorem dX11_make_98 : decode cX11_make 98 = .ok (.irem, 1) := by decide +kernel
theorem dX11_make_99 : decode cX11_make 99 = .ok (.istore 5, 2) := by decide +kernel
theorem dX11_make_101 : decode cX11_make 101 = .ok (.goto (-23), 3) := by decide +kernel
theorem dX11_make_104 : decode cX11_make 104 = .ok (.aload 4, 2) := by decide +kernel
theorem dX11_make_106 : decode cX11_make 106 = .ok (.iload 5, 2) := by decide +kernel
theorem dX11_make_108 : decode cX11_make 108 = .ok (.invokestatic 178, 3) := by decide +kernel
theorem dX11_make_111 : decode cX11_make 111 = .ok (.putfield 186, 3) := by decide +kernel
theorem dX11_make_114 : decode cX11_make 114 = .ok (.aload 4, 2) := by decide +kernel
theorem dX11_make_116 : decode cX11_make 116 = .ok (.getfield 163, 3) := by decide +kernel
theorem dX11_make_119 : decode cX11_make 119 = .ok (.aload 4, 2) := by decide +kernel
theorem dX11_make_121 : decode cX11_make 121 = .ok (.getfield 186, 3) := by decide +kernel
theorem dX11_make_124 : decode cX11_make 124 = .ok (.invokevirtual 64, 3) := by decide +kernel
theorem dX11_make_127 : decode cX11_make 127 = .ok (.pop, 1) := by decide +kernel
theorem dX11_make_128 : decode cX11_make 128 = .ok (.aload 4, 2) := by decide +kernel
theorem dX11_make_130 : decode cX11_make 130 = .ok (.iload_n 2, 1) := by decide +kernel
theorem dX11_make_131 : decode cX11_make 131 = .ok (.putfield 188, 3) := by decide +kernel
theorem dX11_make_134 : decode cX11_make 134 = .ok (.aload 4, 2) := by decide +kernel
theorem dX11_make_136 : decode cX11_make 136 = .ok (.iconst 0, 1) := by decide +kernel
theorem dX11_make_137 : decode cX11_make 137 = .ok (.putfield 191, 3) := by decide +kernel
theorem dX11_make_140 : decode cX11_make 140 = .ok (.aload 4, 2) := by decide +kernel
theorem dX11_make_142 : decode cX11_make 142 = .ok (.iconst 0, 1) := by decide +kernel
theorem dX11_make_143 : decode cX11_make 143 = .ok (.putfield 194, 3) := by decide +kernel
theorem dX11_make_146 : decode cX11_make 146 = .ok (.iload 5, 2) := by decide +kernel
theorem dX11_make_148 : decode cX11_make 148 = .ok (.ireturn, 1) := by decide +kernel
theorem dX11_noExercise_0 : decode cX11_noExercise 0 = .ok (.aload_n 0, 1) := by decide +kernel
theorem dX11_noExercise_1 : decode cX11_noExercise 1 = .ok (.aload_n 0, 1) := by decide +kernel
theorem dX11_noExercise_2 : decode cX11_noExercise 2 = .ok (.getfield 16, 3) := by decide +kernel
theorem dX11_noExercise_5 : decode cX11_noExercise 5 = .ok (.iload_n 1, 1) := by decide +kernel
theorem dX11_noExercise_6 : decode cX11_noExercise 6 = .ok (.invokevirtual 42, 3) := by decide +kernel
theorem dX11_noExercise_9 : decode cX11_noExercise 9 = .ok (.checkcast 46, 3) := by decide +kernel
theorem dX11_noExercise_12 : decode cX11_noExercise 12 = .ok (.getfield 186, 3) := by decide +kernel
theorem dX11_noExercise_15 : decode cX11_noExercise 15 = .ok (.ifnonnull 7, 3) := by decide +kernel
theorem dX11_noExercise_18 : decode cX11_noExercise 18 = .ok (.iconst 1, 1) := by decide +kernel
theorem dX11_noExercise_19 : decode cX11_noExercise 19 = .ok (.goto 4, 3) := by decide +kernel
theorem dX11_noExercise_22 : decode cX11_noExercise 22 = .ok (.iconst 0, 1) := by decide +kernel
theorem dX11_noExercise_23 : decode cX11_noExercise 23 = .ok (.iload_n 2, 1) := by decide +kernel
theorem dX11_noExercise_24 : decode cX11_noExercise 24 = .ok (.invokevirtual 38, 3) := by decide +kernel
theorem dX11_noExercise_27 : decode cX11_noExercise 27 = .ok (.ireturn, 1) := by decide +kernel
theorem dX11_part_0 : decode cX11_part 0 = .ok (.aload_n 0, 1) := by decide +kernel
theorem dX11_part_1 : decode cX11_part 1 = .ok (.iconst 0, 1) := by decide +kernel
theorem dX11_part_2 : decode cX11_part 2 = .ok (.putfield 19, 3) := by decide +kernel
theorem dX11_part_5 : decode cX11_part 5 = .ok (.aload_n 0, 1) := by decide +kernel
theorem dX11_part_6 : decode cX11_part 6 = .ok (.aload_n 0, 1) := by decide +kernel
theorem dX11_part_7 : decode cX11_part 7 = .ok (.iload_n 1, 1) := by decide +kernel
theorem dX11_part_8 : decode cX11_part 8 = .ok (.invokevirtual 31, 3) := by decide +kernel
theorem dX11_part_11 : decode cX11_part 11 = .ok (.iconst 1, 1) := by decide +kernel
theorem dX11_part_12 : decode cX11_part 12 = .ok (.invokevirtual 38, 3) := by decide +kernel
theorem dX11_part_15 : decode cX11_part 15 = .ok (.ifCond .ne 36, 3) := by decide +kernel
theorem dX11_part_18 : decode cX11_part 18 = .ok (.aload_n 0, 1) := by decide +kernel
theorem dX11_part_19 : decode cX11_part 19 = .ok (.iload_n 2, 1) := by decide +kernel
theorem dX11_part_20 : decode cX11_part 20 = .ok (.bipush 97, 2) := by decide +kernel
theorem dX11_part_22 : decode cX11_part 22 = .ok (.bipush 100, 2) := by decide +kernel
theorem dX11_part_24 : decode cX11_part 24 = .ok (.invokestatic 27, 3) := by decide +kernel
theorem dX11_part_27 : decode cX11_part 27 = .ok (.ifCond .ne 7, 3) := by decide +kernel
theorem dX11_part_30 : decode cX11_part 30 = .ok (.iconst 1, 1) := by decide +kernel
theorem dX11_part_31 : decode cX11_part 31 = .ok (.goto 4, 3) := by decide +kernel
theorem dX11_part_34 : decode cX11_part 34 = .ok (.iconst 0, 1) := by decide +kernel
theorem dX11_part_35 : decode cX11_part 35 = .ok (.iconst 2, 1) := by decide +kernel
theorem dX11_part_36 : decode cX11_part 36 = .ok (.invokevirtual 38, 3) := by decide +kernel
theorem dX11_part_39 : decode cX11_part 39 = .ok (.ifCond .ne 12, 3) := by decide +kernel
theorem dX11_part_42 : decode cX11_part 42 = .ok (.aload_n 0, 1) := by decide +kernel
theorem dX11_part_43 : decode cX11_part 43 = .ok (.iload_n 1, 1) := by decide +kernel
theorem dX11_part_44 : decode cX11_part 44 = .ok (.iconst 3, 1) := by decide +kernel
theorem dX11_part_45 : decode cX11_part 45 = .ok (.invokevirtual 197, 3) := by decide +kernel
theorem dX11_part_48 : decode cX11_part 48 = .ok (.ifCond .eq 5, 3) := by decide +kernel
theorem dX11_part_51 : decode cX11_part 51 = .ok (.iconst 0, 1) := by decide +kernel
theorem dX11_part_52 : decode cX11_part 52 = .ok (.ireturn, 1) := by decide +kernel
theorem dX11_part_53 : decode cX11_part 53 = .ok (.aload_n 0, 1) := by decide +kernel
theorem dX11_part_54 : decode cX11_part 54 = .ok (.getfield 16, 3) := by decide +kernel
theorem dX11_part_57 : decode cX11_part 57 = .ok (.iload_n 1, 1) := by decide +kernel
theorem dX11_part_58 : decode cX11_part 58 = .ok (.invokevirtual 42, 3) := by decide +kernel
theorem dX11_part_61 : decode cX11_part 61 = .ok (.checkcast 46, 3) := by decide +kernel
theorem dX11_part_64 : decode cX11_part 64 = .ok (.getfield 186, 3) := by decide +kernel
theorem dX11_part_67 : decode cX11_part 67 = .ok (.iload_n 2, 1) := by decide +kernel
theorem dX11_part_68 : decode cX11_part 68 = .ok (.bipush 97, 2) := by decide +kernel
theorem dX11_part_70 : decode cX11_part 70 = .ok (.isub, 1) := by decide +kernel
theorem dX11_part_71 : decode cX11_part 71 = .ok (.iaload, 1) := by decide +kernel
theorem dX11_part_72 : decode cX11_part 72 = .ok (.ireturn, 1) := by decide +kernel
theorem dX11_follows_0 : decode cX11_follows 0 = .ok (.aload_n 0, 1) := by decide +kernel
theorem dX11_follows_1 : decode cX11_follows 1 = .ok (.iconst 0, 1) := by decide +kernel
theorem dX11_follows_2 : decode cX11_follows 2 = .ok (.iaload, 1) := by decide +kernel
theorem dX11_follows_3 : decode cX11_follows 3 = .ok (.aload_n 0, 1) := by decide +kernel
theorem dX11_follows_4 : decode cX11_follows 4 = .ok (.iconst 2, 1) := by decide +kernel
theorem dX11_follows_5 : decode cX11_follows 5 = .ok (.iaload, 1) := by decide +kernel
theorem dX11_follows_6 : decode cX11_follows 6 = .ok (.isub, 1) := by decide +kernel
theorem dX11_follows_7 : decode cX11_follows 7 = .ok (.i2l, 1) := by decide +kernel
theorem dX11_follows_8 : decode cX11_follows 8 = .ok (.lstore_n 2, 1) := by decide +kernel
theorem dX11_follows_9 : decode cX11_follows 9 = .ok (.aload_n 0, 1) := by decide +kernel
theorem dX11_follows_10 : decode cX11_follows 10 = .ok (.iconst 3, 1) := by decide +kernel
theorem dX11_follows_11 : decode cX11_follows 11 = .ok (.iaload, 1) := by decide +kernel
theorem dX11_follows_12 : decode cX11_follows 12 = .ok (.aload_n 0, 1) := by decide +kernel
theorem dX11_follows_13 : decode cX11_follows 13 = .ok (.iconst 1, 1) := by decide +kernel
theorem dX11_follows_14 : decode cX11_follows 14 = .ok (.iaload, 1) := by decide +kernel
theorem dX11_follows_15 : decode cX11_follows 15 = .ok (.isub, 1) := by decide +kernel
theorem dX11_follows_16 : decode cX11_follows 16 = .ok (.i2l, 1) := by decide +kernel
theorem dX11_follows_17 : decode cX11_follows 17 = .ok (.lstore 4, 2) := by decide +kernel
theorem dX11_follows_19 : decode cX11_follows 19 = .ok (.aload_n 1, 1) := by decide +kernel
theorem dX11_follows_20 : decode cX11_follows 20 = .ok (.iconst 0, 1) := by decide +kernel
theorem dX11_follows_21 : decode cX11_follows 21 = .ok (.iaload, 1) := by decide +kernel
theorem dX11_follows_22 : decode cX11_follows 22 = .ok (.aload_n 1, 1) := by decide +kernel
theorem dX11_follows_23 : decode cX11_follows 23 = .ok (.iconst 2, 1) := by decide +kernel
theorem dX11_follows_24 : decode cX11_follows 24 = .ok (.iaload, 1) := by decide +kernel
theorem dX11_follows_25 : decode cX11_follows 25 = .ok (.isub, 1) := by decide +kernel
theorem dX11_follows_26 : decode cX11_follows 26 = .ok (.i2l, 1) := by decide +kernel
theorem dX11_follows_27 : decode cX11_follows 27 = .ok (.lstore 6, 2) := by decide +kernel
theorem dX11_follows_29 : decode cX11_follows 29 = .ok (.aload_n 1, 1) := by decide +kernel
theorem dX11_follows_30 : decode cX11_follows 30 = .ok (.iconst 3, 1) := by decide +kernel
theorem dX11_follows_31 : decode cX11_follows 31 = .ok (.iaload, 1) := by decide +kernel
theorem dX11_follows_32 : decode cX11_follows 32 = .ok (.aload_n 1, 1) := by decide +kernel
theorem dX11_follows_33 : decode cX11_follows 33 = .ok (.iconst 1, 1) := by decide +kernel
theorem dX11_follows_34 : decode cX11_follows 34 = .ok (.iaload, 1) := by decide +kernel
theorem dX11_follows_35 : decode cX11_follows 35 = .ok (.isub, 1) := by decide +kernel
theorem dX11_follows_36 : decode cX11_follows 36 = .ok (.i2l, 1) := by decide +kernel
theorem dX11_follows_37 : decode cX11_follows 37 = .ok (.lstore 8, 2) := by decide +kernel
theorem dX11_follows_39 : decode cX11_follows 39 = .ok (.lload_n 2, 1) := by decide +kernel
theorem dX11_follows_40 : decode cX11_follows 40 = .ok (.lconst 0, 1) := by decide +kernel
theorem dX11_follows_41 : decode cX11_follows 41 = .ok (.lcmp, 1) := by decide +kernel
theorem dX11_follows_42 : decode cX11_follows 42 = .ok (.ifCond .eq 10, 3) := by decide +kernel
theorem dX11_follows_45 : decode cX11_follows 45 = .ok (.lload 6, 2) := by decide +kernel
theorem dX11_follows_47 : decode cX11_follows 47 = .ok (.lconst 0, 1) := by decide +kernel
theorem dX11_follows_48 : decode cX11_follows 48 = .ok (.lcmp, 1) := by decide +kernel
theorem dX11_follows_49 : decode cX11_follows 49 = .ok (.ifCond .ne 43, 3) := by decide +kernel
theorem dX11_follows_52 : decode cX11_follows 52 = .ok (.lload_n 2, 1) := by decide +kernel
theorem dX11_follows_53 : decode cX11_follows 53 = .ok (.lload 6, 2) := by decide +kernel
theorem dX11_follows_55 : decode cX11_follows 55 = .ok (.lcmp, 1) := by decide +kernel
theorem dX11_follows_56 : decode cX11_follows 56 = .ok (.ifCond .ne 34, 3) := by decide +kernel
theorem dX11_follows_59 : decode cX11_follows 59 = .ok (.lload 4, 2) := by decide +kernel
theorem dX11_follows_61 : decode cX11_follows 61 = .ok (.lconst 0, 1) := by decide +kernel
theorem dX11_follows_62 : decode cX11_follows 62 = .ok (.lcmp, 1) := by decide +kernel
theorem dX11_follows_63 : decode cX11_follows 63 = .ok (.ifCond .ne 7, 3) := by decide +kernel
theorem dX11_follows_66 : decode cX11_follows 66 = .ok (.iconst 1, 1) := by decide +kernel
theorem dX11_follows_67 : decode cX11_follows 67 = .ok (.goto 4, 3) := by decide +kernel
theorem dX11_follows_70 : decode cX11_follows 70 = .ok (.iconst 0, 1) := by decide +kernel
theorem dX11_follows_71 : decode cX11_follows 71 = .ok (.lload 8, 2) := by decide +kernel
theorem dX11_follows_73 : decode cX11_follows 73 = .ok (.lconst 0, 1) := by decide +kernel
theorem dX11_follows_74 : decode cX11_follows 74 = .ok (.lcmp, 1) := by decide +kernel
theorem dX11_follows_75 : decode cX11_follows 75 = .ok (.ifCond .ne 7, 3) := by decide +kernel
theorem dX11_follows_78 : decode cX11_follows 78 = .ok (.iconst 1, 1) := by decide +kernel
theorem dX11_follows_79 : decode cX11_follows 79 = .ok (.goto 4, 3) := by decide +kernel
theorem dX11_follows_82 : decode cX11_follows 82 = .ok (.iconst 0, 1) := by decide +kernel
theorem dX11_follows_83 : decode cX11_follows 83 = .ok (.if_icmp .ne 7, 3) := by decide +kernel
theorem dX11_follows_86 : decode cX11_follows 86 = .ok (.iconst 1, 1) := by decide +kernel
theorem dX11_follows_87 : decode cX11_follows 87 = .ok (.goto 4, 3) := by decide +kernel
theorem dX11_follows_90 : decode cX11_follows 90 = .ok (.iconst 0, 1) := by decide +kernel
theorem dX11_follows_91 : decode cX11_follows 91 = .ok (.ireturn, 1) := by decide +kernel
theorem dX11_follows_92 : decode cX11_follows 92 = .ok (.lload 4, 2) := by decide +kernel
theorem dX11_follows_94 : decode cX11_follows 94 = .ok (.lload 6, 2) := by decide +kernel
theorem dX11_follows_96 : decode cX11_follows 96 = .ok (.lmul, 1) := by decide +kernel
theorem dX11_follows_97 : decode cX11_follows 97 = .ok (.lload 8, 2) := by decide +kernel
theorem dX11_follows_99 : decode cX11_follows 99 = .ok (.lload_n 2, 1) := by decide +kernel
theorem dX11_follows_100 : decode cX11_follows 100 = .ok (.lmul, 1) := by decide +kernel
theorem dX11_follows_101 : decode cX11_follows 101 = .ok (.lcmp, 1) := by decide +kernel
theorem dX11_follows_102 : decode cX11_follows 102 = .ok (.ifCond .ne 7, 3) := by decide +kernel
theorem dX11_follows_105 : decode cX11_follows 105 = .ok (.iconst 1, 1) := by decide +kernel
theorem dX11_follows_106 : decode cX11_follows 106 = .ok (.goto 4, 3) := by decide +kernel
theorem dX11_follows_109 : decode cX11_follows 109 = .ok (.iconst 0, 1) := by decide +kernel
theorem dX11_follows_110 : decode cX11_follows 110 = .ok (.ireturn, 1) := by decide +kernel
theorem dX11_step_0 : decode cX11_step 0 = .ok (.aload_n 0, 1) := by decide +kernel
theorem dX11_step_1 : decode cX11_step 1 = .ok (.iconst 0, 1) := by decide +kernel
theorem dX11_step_2 : decode cX11_step 2 = .ok (.putfield 19, 3) := by decide +kernel
theorem dX11_step_5 : decode cX11_step 5 = .ok (.iload_n 2, 1) := by decide +kernel
theorem dX11_step_6 : decode cX11_step 6 = .ok (.sipush (-9999), 3) := by decide +kernel
theorem dX11_step_9 : decode cX11_step 9 = .ok (.sipush 9999, 3) := by decide +kernel
theorem dX11_step_12 : decode cX11_step 12 = .ok (.invokestatic 27, 3) := by decide +kernel
theorem dX11_step_15 : decode cX11_step 15 = .ok (.ifCond .eq 48, 3) := by decide +kernel
theorem dX11_step_18 : decode cX11_step 18 = .ok (.iload_n 3, 1) := by decide +kernel
theorem dX11_step_19 : decode cX11_step 19 = .ok (.sipush (-9999), 3) := by decide +kernel
theorem dX11_step_22 : decode cX11_step 22 = .ok (.sipush 9999, 3) := by decide +kernel
theorem dX11_step_25 : decode cX11_step 25 = .ok (.invokestatic 27, 3) := by decide +kernel
theorem dX11_step_28 : decode cX11_step 28 = .ok (.ifCond .eq 35, 3) := by decide +kernel
theorem dX11_step_31 : decode cX11_step 31 = .ok (.iload 4, 2) := by decide +kernel
theorem dX11_step_33 : decode cX11_step 33 = .ok (.sipush (-9999), 3) := by decide +kernel
theorem dX11_step_36 : decode cX11_step 36 = .ok (.sipush 9999, 3) := by decide +kernel
theorem dX11_step_39 : decode cX11_step 39 = .ok (.invokestatic 27, 3) := by decide +kernel
theorem dX11_step_42 : decode cX11_step 42 = .ok (.ifCond .eq 21, 3) := by decide +kernel
theorem dX11_step_45 : decode cX11_step 45 = .ok (.iload 5, 2) := by decide +kernel
theorem dX11_step_47 : decode cX11_step 47 = .ok (.sipush (-9999), 3) := by decide +kernel
theorem dX11_step_50 : decode cX11_step 50 = .ok (.sipush 9999, 3) := by decide +kernel
theorem dX11_step_53 : decode cX11_step 53 = .ok (.invokestatic 27, 3) := by decide +kernel
theorem dX11_step_56 : decode cX11_step 56 = .ok (.ifCond .eq 7, 3) := by decide +kernel
theorem dX11_step_59 : decode cX11_step 59 = .ok (.iconst 1, 1) := by decide +kernel
theorem dX11_step_60 : decode cX11_step 60 = .ok (.goto 4, 3) := by decide +kernel
theorem dX11_step_63 : decode cX11_step 63 = .ok (.iconst 0, 1) := by decide +kernel
theorem dX11_step_64 : decode cX11_step 64 = .ok (.istore 6, 2) := by decide +kernel
theorem dX11_step_66 : decode cX11_step 66 = .ok (.aload_n 0, 1) := by decide +kernel
theorem dX11_step_67 : decode cX11_step 67 = .ok (.aload_n 0, 1) := by decide +kernel
theorem dX11_step_68 : decode cX11_step 68 = .ok (.iload_n 1, 1) := by decide +kernel
theorem dX11_step_69 : decode cX11_step 69 = .ok (.invokevirtual 31, 3) := by decide +kernel
theorem dX11_step_72 : decode cX11_step 72 = .ok (.iconst 1, 1) := by decide +kernel
theorem dX11_step_73 : decode cX11_step 73 = .ok (.invokevirtual 38, 3) := by decide +kernel
theorem dX11_step_76 : decode cX11_step 76 = .ok (.ifCond .ne 30, 3) := by decide +kernel
theorem dX11_step_79 : decode cX11_step 79 = .ok (.aload_n 0, 1) := by decide +kernel
theorem dX11_step_80 : decode cX11_step 80 = .ok (.iload 6, 2) := by decide +kernel
theorem dX11_step_82 : decode cX11_step 82 = .ok (.ifCond .ne 7, 3) := by decide +kernel
theorem dX11_step_85 : decode cX11_step 85 = .ok (.iconst 1, 1) := by decide +kernel
theorem dX11_step_86 : decode cX11_step 86 = .ok (.goto 4, 3) := by decide +kernel
theorem dX11_step_89 : decode cX11_step 89 = .ok (.iconst 0, 1) := by decide +kernel
theorem dX11_step_90 : decode cX11_step 90 = .ok (.iconst 2, 1) := by decide +kernel
theorem dX11_step_91 : decode cX11_step 91 = .ok (.invokevirtual 38, 3) := by decide +kernel
theorem dX11_step_94 : decode cX11_step 94 = .ok (.ifCond .ne 12, 3) := by decide +kernel
theorem dX11_step_97 : decode cX11_step 97 = .ok (.aload_n 0, 1) := by decide +kernel
theorem dX11_step_98 : decode cX11_step 98 = .ok (.iload_n 1, 1) := by decide +kernel
theorem dX11_step_99 : decode cX11_step 99 = .ok (.iconst 3, 1) := by decide +kernel
theorem dX11_step_100 : decode cX11_step 100 = .ok (.invokevirtual 197, 3) := by decide +kernel
theorem dX11_step_103 : decode cX11_step 103 = .ok (.ifCond .eq 5, 3) := by decide +kernel
theorem dX11_step_106 : decode cX11_step 106 = .ok (.iconst 0, 1) := by decide +kernel
theorem dX11_step_107 : decode cX11_step 107 = .ok (.ireturn, 1) := by decide +kernel
theorem dX11_step_108 : decode cX11_step 108 = .ok (.aload_n 0, 1) := by decide +kernel
theorem dX11_step_109 : decode cX11_step 109 = .ok (.getfield 16, 3) := by decide +kernel
theorem dX11_step_112 : decode cX11_step 112 = .ok (.iload_n 1, 1) := by decide +kernel
theorem dX11_step_113 : decode cX11_step 113 = .ok (.invokevirtual 42, 3) := by decide +kernel
theorem dX11_step_116 : decode cX11_step 116 = .ok (.checkcast 46, 3) := by decide +kernel
theorem dX11_step_119 : decode cX11_step 119 = .ok (.astore 7, 2) := by decide +kernel
theorem dX11_step_121 : decode cX11_step 121 = .ok (.iconst 4, 1) := by decide +kernel
theorem dX11_step_122 : decode cX11_step 122 = .ok (.newarray .int, 2) := by decide +kernel
theorem dX11_step_124 : decode cX11_step 124 = .ok (.dup, 1) := by decide +kernel
theorem dX11_step_125 : decode cX11_step 125 = .ok (.iconst 0, 1) := by decide +kernel
theorem dX11_step_126 : decode cX11_step 126 = .ok (.iload_n 2, 1) := by decide +kernel
theorem dX11_step_127 : decode cX11_step 127 = .ok (.iastore, 1) := by decide +kernel
theorem dX11_step_128 : decode cX11_step 128 = .ok (.dup, 1) := by decide +kernel
theorem dX11_step_129 : decode cX11_step 129 = .ok (.iconst 1, 1) := by decide +kernel
theorem dX11_step_130 : decode cX11_step 130 = .ok (.iload_n 3, 1) := by decide +kernel
theorem dX11_step_131 : decode cX11_step 131 = .ok (.iastore, 1) := by decide +kernel
theorem dX11_step_132 : decode cX11_step 132 = .ok (.dup, 1) := by decide +kernel
theorem dX11_step_133 : decode cX11_step 133 = .ok (.iconst 2, 1) := by decide +kernel
theorem dX11_step_134 : decode cX11_step 134 = .ok (.iload 4, 2) := by decide +kernel
theorem dX11_step_136 : decode cX11_step 136 = .ok (.iastore, 1) := by decide +kernel
theorem dX11_step_137 : decode cX11_step 137 = .ok (.dup, 1) := by decide +kernel
theorem dX11_step_138 : decode cX11_step 138 = .ok (.iconst 3, 1) := by decide +kernel
theorem dX11_step_139 : decode cX11_step 139 = .ok (.iload 5, 2) := by decide +kernel
theorem dX11_step_141 : decode cX11_step 141 = .ok (.iastore, 1) := by decide +kernel
theorem dX11_step_142 : decode cX11_step 142 = .ok (.astore 8, 2) := by decide +kernel
theorem dX11_step_144 : decode cX11_step 144 = .ok (.aload 7, 2) := by decide +kernel
theorem dX11_step_146 : decode cX11_step 146 = .ok (.getfield 186, 3) := by decide +kernel
theorem dX11_step_149 : decode cX11_step 149 = .ok (.aload 8, 2) := by decide +kernel
theorem dX11_step_151 : decode cX11_step 151 = .ok (.invokestatic 200, 3) := by decide +kernel
theorem dX11_step_154 : decode cX11_step 154 = .ok (.ifCond .ne 34, 3) := by decide +kernel
theorem dX11_step_157 : decode cX11_step 157 = .ok (.aload 7, 2) := by decide +kernel
theorem dX11_step_159 : decode cX11_step 159 = .ok (.aload 7, 2) := by decide +kernel
theorem dX11_step_161 : decode cX11_step 161 = .ok (.getfield 186, 3) := by decide +kernel
theorem dX11_step_164 : decode cX11_step 164 = .ok (.putfield 203, 3) := by decide +kernel
theorem dX11_step_167 : decode cX11_step 167 = .ok (.aload 7, 2) := by decide +kernel
theorem dX11_step_169 : decode cX11_step 169 = .ok (.aload 8, 2) := by decide +kernel
theorem dX11_step_171 : decode cX11_step 171 = .ok (.putfield 206, 3) := by decide +kernel
theorem dX11_step_174 : decode cX11_step 174 = .ok (.aload 7, 2) := by decide +kernel
theorem dX11_step_176 : decode cX11_step 176 = .ok (.dup, 1) := by decide +kernel
theorem dX11_step_177 : decode cX11_step 177 = .ok (.getfield 191, 3) := by decide +kernel
theorem dX11_step_180 : decode cX11_step 180 = .ok (.iconst 1, 1) := by decide +kernel
theorem dX11_step_181 : decode cX11_step 181 = .ok (.iadd, 1) := by decide +kernel
theorem dX11_step_182 : decode cX11_step 182 = .ok (.putfield 191, 3) := by decide +kernel
theorem dX11_step_185 : decode cX11_step 185 = .ok (.bipush 119, 2) := by decide +kernel
theorem dX11_step_187 : decode cX11_step 187 = .ok (.ireturn, 1) := by decide +kernel
theorem dX11_step_188 : decode cX11_step 188 = .ok (.aload 7, 2) := by decide +kernel
theorem dX11_step_190 : decode cX11_step 190 = .ok (.aload 8, 2) := by decide +kernel
theorem dX11_step_192 : decode cX11_step 192 = .ok (.putfield 186, 3) := by decide +kernel
theorem dX11_step_195 : decode cX11_step 195 = .ok (.iload_n 2, 1) := by decide +kernel
theorem dX11_step_196 : decode cX11_step 196 = .ok (.iconst 1, 1) := by decide +kernel
theorem dX11_step_197 : decode cX11_step 197 = .ok (.if_icmp .ne 12, 3) := by decide +kernel
theorem dX11_step_200 : decode cX11_step 200 = .ok (.iload_n 3, 1) := by decide +kernel
theorem dX11_step_201 : decode cX11_step 201 = .ok (.ifCond .ne 8, 3) := by decide +kernel
theorem dX11_step_204 : decode cX11_step 204 = .ok (.iload 4, 2) := by decide +kernel
theorem dX11_step_206 : decode cX11_step 206 = .ok (.ifCond .eq 6, 3) := by decide +kernel
theorem dX11_step_209 : decode cX11_step 209 = .ok (.bipush 102, 2) := by decide +kernel
theorem dX11_step_211 : decode cX11_step 211 = .ok (.ireturn, 1) := by decide +kernel
theorem dX11_step_212 : decode cX11_step 212 = .ok (.aload 7, 2) := by decide +kernel
theorem dX11_step_214 : decode cX11_step 214 = .ok (.aconst_null, 1) := by decide +kernel
theorem dX11_step_215 : decode cX11_step 215 = .ok (.putfield 186, 3) := by decide +kernel
theorem dX11_step_218 : decode cX11_step 218 = .ok (.aload_n 0, 1) := by decide +kernel
theorem dX11_step_219 : decode cX11_step 219 = .ok (.iload_n 1, 1) := by decide +kernel
theorem dX11_step_220 : decode cX11_step 220 = .ok (.aload 7, 2) := by decide +kernel
theorem dX11_step_222 : decode cX11_step 222 = .ok (.getfield 188, 3) := by decide +kernel
theorem dX11_step_225 : decode cX11_step 225 = .ok (.aload 7, 2) := by decide +kernel
theorem dX11_step_227 : decode cX11_step 227 = .ok (.getfield 191, 3) := by decide +kernel
theorem dX11_step_230 : decode cX11_step 230 = .ok (.ifCond .ne 15, 3) := by decide +kernel
theorem dX11_step_233 : decode cX11_step 233 = .ok (.aload 7, 2) := by decide +kernel
theorem dX11_step_235 : decode cX11_step 235 = .ok (.getfield 194, 3) := by decide +kernel
theorem dX11_step_238 : decode cX11_step 238 = .ok (.ifCond .ne 7, 3) := by decide +kernel
theorem dX11_step_241 : decode cX11_step 241 = .ok (.iconst 1, 1) := by decide +kernel
theorem dX11_step_242 : decode cX11_step 242 = .ok (.goto 4, 3) := by decide +kernel
theorem dX11_step_245 : decode cX11_step 245 = .ok (.iconst 0, 1) := by decide +kernel
theorem dX11_step_246 : decode cX11_step 246 = .ok (.invokevirtual 130, 3) := by decide +kernel
theorem dX11_step_249 : decode cX11_step 249 = .ok (.bipush 115, 2) := by decide +kernel
theorem dX11_step_251 : decode cX11_step 251 = .ok (.ireturn, 1) := by decide +kernel
theorem dX11_row_0 : decode cX11_row 0 = .ok (.iconst 4, 1) := by decide +kernel
theorem dX11_row_1 : decode cX11_row 1 = .ok (.newarray .int, 2) := by decide +kernel
theorem dX11_row_3 : decode cX11_row 3 = .ok (.dup, 1) := by decide +kernel
theorem dX11_row_4 : decode cX11_row 4 = .ok (.iconst 0, 1) := by decide +kernel
theorem dX11_row_5 : decode cX11_row 5 = .ok (.iload_n 0, 1) := by decide +kernel
theorem dX11_row_6 : decode cX11_row 6 = .ok (.iastore, 1) := by decide +kernel
theorem dX11_row_7 : decode cX11_row 7 = .ok (.dup, 1) := by decide +kernel
theorem dX11_row_8 : decode cX11_row 8 = .ok (.iconst 1, 1) := by decide +kernel
theorem dX11_row_9 : decode cX11_row 9 = .ok (.iload_n 1, 1) := by decide +kernel
theorem dX11_row_10 : decode cX11_row 10 = .ok (.iastore, 1) := by decide +kernel
theorem dX11_row_11 : decode cX11_row 11 = .ok (.dup, 1) := by decide +kernel
theorem dX11_row_12 : decode cX11_row 12 = .ok (.iconst 2, 1) := by decide +kernel
theorem dX11_row_13 : decode cX11_row 13 = .ok (.iload_n 2, 1) := by decide +kernel
theorem dX11_row_14 : decode cX11_row 14 = .ok (.iastore, 1) := by decide +kernel
theorem dX11_row_15 : decode cX11_row 15 = .ok (.dup, 1) := by decide +kernel
theorem dX11_row_16 : decode cX11_row 16 = .ok (.iconst 3, 1) := by decide +kernel
theorem dX11_row_17 : decode cX11_row 17 = .ok (.iload_n 3, 1) := by decide +kernel
theorem dX11_row_18 : decode cX11_row 18 = .ok (.iastore, 1) := by decide +kernel
theorem dX11_row_19 : decode cX11_row 19 = .ok (.astore 4, 2) := by decide +kernel
theorem dX11_row_21 : decode cX11_row 21 = .ok (.aload 4, 2) := by decide +kernel
theorem dX11_row_23 : decode cX11_row 23 = .ok (.areturn, 1) := by decide +kernel
theorem dX11_done_0 : decode cX11_done 0 = .ok (.aload_n 1, 1) := by decide +kernel
theorem dX11_done_1 : decode cX11_done 1 = .ok (.iconst 0, 1) := by decide +kernel
theorem dX11_done_2 : decode cX11_done 2 = .ok (.iaload, 1) := by decide +kernel
theorem dX11_done_3 : decode cX11_done 3 = .ok (.istore_n 2, 1) := by decide +kernel
theorem dX11_done_4 : decode cX11_done 4 = .ok (.aload_n 1, 1) := by decide +kernel
theorem dX11_done_5 : decode cX11_done 5 = .ok (.iconst 1, 1) := by decide +kernel
theorem dX11_done_6 : decode cX11_done 6 = .ok (.iaload, 1) := by decide +kernel
theorem dX11_done_7 : decode cX11_done 7 = .ok (.istore_n 3, 1) := by decide +kernel
theorem dX11_done_8 : decode cX11_done 8 = .ok (.aload_n 1, 1) := by decide +kernel
theorem dX11_done_9 : decode cX11_done 9 = .ok (.iconst 2, 1) := by decide +kernel
theorem dX11_done_10 : decode cX11_done 10 = .ok (.iaload, 1) := by decide +kernel
theorem dX11_done_11 : decode cX11_done 11 = .ok (.istore 4, 2) := by decide +kernel
theorem dX11_done_13 : decode cX11_done 13 = .ok (.aload_n 1, 1) := by decide +kernel
theorem dX11_done_14 : decode cX11_done 14 = .ok (.iconst 3, 1) := by decide +kernel
theorem dX11_done_15 : decode cX11_done 15 = .ok (.iaload, 1) := by decide +kernel
theorem dX11_done_16 : decode cX11_done 16 = .ok (.istore 5, 2) := by decide +kernel
theorem dX11_done_18 : decode cX11_done 18 = .ok (.iload_n 3, 1) := by decide +kernel
theorem dX11_done_19 : decode cX11_done 19 = .ok (.ifCond .ne 23, 3) := by decide +kernel
theorem dX11_done_22 : decode cX11_done 22 = .ok (.iload 4, 2) := by decide +kernel
theorem dX11_done_24 : decode cX11_done 24 = .ok (.ifCond .ne 18, 3) := by decide +kernel
theorem dX11_done_27 : decode cX11_done 27 = .ok (.iload_n 2, 1) := by decide +kernel
theorem dX11_done_28 : decode cX11_done 28 = .ok (.ifCond .eq 14, 3) := by decide +kernel
theorem dX11_done_31 : decode cX11_done 31 = .ok (.iload 5, 2) := by decide +kernel
theorem dX11_done_33 : decode cX11_done 33 = .ok (.iload_n 2, 1) := by decide +kernel
theorem dX11_done_34 : decode cX11_done 34 = .ok (.irem, 1) := by decide +kernel
theorem dX11_done_35 : decode cX11_done 35 = .ok (.ifCond .ne 7, 3) := by decide +kernel
theorem dX11_done_38 : decode cX11_done 38 = .ok (.iconst 1, 1) := by decide +kernel
theorem dX11_done_39 : decode cX11_done 39 = .ok (.goto 4, 3) := by decide +kernel
theorem dX11_done_42 : decode cX11_done 42 = .ok (.iconst 0, 1) := by decide +kernel
theorem dX11_done_43 : decode cX11_done 43 = .ok (.istore 6, 2) := by decide +kernel
theorem dX11_done_45 : decode cX11_done 45 = .ok (.iload_n 0, 1) := by decide +kernel
theorem dX11_done_46 : decode cX11_done 46 = .ok (.tableswitch 176 0 9 #[54, 66, 78, 88, 102, 122, 134, 176, 146, 158], 54) := by decide +kernel
theorem dX11_done_100 : decode cX11_done 100 = .ok (.iload_n 2, 1) := by decide +kernel
theorem dX11_done_101 : decode cX11_done 101 = .ok (.iconst 0, 1) := by decide +kernel
theorem dX11_done_102 : decode cX11_done 102 = .ok (.iload 4, 2) := by decide +kernel
theorem dX11_done_104 : decode cX11_done 104 = .ok (.iload 5, 2) := by decide +kernel
theorem dX11_done_106 : decode cX11_done 106 = .ok (.iload_n 3, 1) := by decide +kernel
theorem dX11_done_107 : decode cX11_done 107 = .ok (.isub, 1) := by decide +kernel
theorem dX11_done_108 : decode cX11_done 108 = .ok (.invokestatic 209, 3) := by decide +kernel
theorem dX11_done_111 : decode cX11_done 111 = .ok (.areturn, 1) := by decide +kernel
theorem dX11_done_112 : decode cX11_done 112 = .ok (.iload_n 2, 1) := by decide +kernel
theorem dX11_done_113 : decode cX11_done 113 = .ok (.iload 4, 2) := by decide +kernel
theorem dX11_done_115 : decode cX11_done 115 = .ok (.isub, 1) := by decide +kernel
theorem dX11_done_116 : decode cX11_done 116 = .ok (.iload_n 3, 1) := by decide +kernel
theorem dX11_done_117 : decode cX11_done 117 = .ok (.iconst 0, 1) := by decide +kernel
theorem dX11_done_118 : decode cX11_done 118 = .ok (.iload 5, 2) := by decide +kernel
theorem dX11_done_120 : decode cX11_done 120 = .ok (.invokestatic 209, 3) := by decide +kernel
theorem dX11_done_123 : decode cX11_done 123 = .ok (.areturn, 1) := by decide +kernel
theorem dX11_done_124 : decode cX11_done 124 = .ok (.iload 4, 2) := by decide +kernel
theorem dX11_done_126 : decode cX11_done 126 = .ok (.iload 5, 2) := by decide +kernel
theorem dX11_done_128 : decode cX11_done 128 = .ok (.iload_n 2, 1) := by decide +kernel
theorem dX11_done_129 : decode cX11_done 129 = .ok (.iload_n 3, 1) := by decide +kernel
theorem dX11_done_130 : decode cX11_done 130 = .ok (.invokestatic 209, 3) := by decide +kernel
theorem dX11_done_133 : decode cX11_done 133 = .ok (.areturn, 1) := by decide +kernel
theorem dX11_done_134 : decode cX11_done 134 = .ok (.iload_n 2, 1) := by decide +kernel
theorem dX11_done_135 : decode cX11_done 135 = .ok (.ineg, 1) := by decide +kernel
theorem dX11_done_136 : decode cX11_done 136 = .ok (.iload_n 3, 1) := by decide +kernel
theorem dX11_done_137 : decode cX11_done 137 = .ok (.ineg, 1) := by decide +kernel
theorem dX11_done_138 : decode cX11_done 138 = .ok (.iload 4, 2) := by decide +kernel
theorem dX11_done_140 : decode cX11_done 140 = .ok (.ineg, 1) := by decide +kernel
theorem dX11_done_141 : decode cX11_done 141 = .ok (.iload 5, 2) := by decide +kernel
theorem dX11_done_143 : decode cX11_done 143 = .ok (.ineg, 1) := by decide +kernel
theorem dX11_done_144 : decode cX11_done 144 = .ok (.invokestatic 209, 3) := by decide +kernel
theorem dX11_done_147 : decode cX11_done 147 = .ok (.areturn, 1) := by decide +kernel
theorem dX11_done_148 : decode cX11_done 148 = .ok (.iload 6, 2) := by decide +kernel
theorem dX11_done_150 : decode cX11_done 150 = .ok (.ifCond .eq 16, 3) := by decide +kernel
theorem dX11_done_153 : decode cX11_done 153 = .ok (.iconst 1, 1) := by decide +kernel
theorem dX11_done_154 : decode cX11_done 154 = .ok (.iconst 0, 1) := by decide +kernel
theorem dX11_done_155 : decode cX11_done 155 = .ok (.iconst 0, 1) := by decide +kernel
theorem dX11_done_156 : decode cX11_done 156 = .ok (.iload 5, 2) := by decide +kernel
theorem dX11_done_158 : decode cX11_done 158 = .ok (.iload_n 2, 1) := by decide +kernel
theorem dX11_done_159 : decode cX11_done 159 = .ok (.idiv, 1) := by decide +kernel
theorem dX11_done_160 : decode cX11_done 160 = .ok (.invokestatic 209, 3) := by decide +kernel
theorem dX11_done_163 : decode cX11_done 163 = .ok (.goto 4, 3) := by decide +kernel
theorem dX11_done_166 : decode cX11_done 166 = .ok (.aconst_null, 1) := by decide +kernel
theorem dX11_done_167 : decode cX11_done 167 = .ok (.areturn, 1) := by decide +kernel
theorem dX11_done_168 : decode cX11_done 168 = .ok (.iload_n 2, 1) := by decide +kernel
theorem dX11_done_169 : decode cX11_done 169 = .ok (.iconst 0, 1) := by decide +kernel
theorem dX11_done_170 : decode cX11_done 170 = .ok (.iload 4, 2) := by decide +kernel
theorem dX11_done_172 : decode cX11_done 172 = .ok (.iload 5, 2) := by decide +kernel
theorem dX11_done_174 : decode cX11_done 174 = .ok (.iload_n 3, 1) := by decide +kernel
theorem dX11_done_175 : decode cX11_done 175 = .ok (.iadd, 1) := by decide +kernel
theorem dX11_done_176 : decode cX11_done 176 = .ok (.invokestatic 209, 3) := by decide +kernel
theorem dX11_done_179 : decode cX11_done 179 = .ok (.areturn, 1) := by decide +kernel
theorem dX11_done_180 : decode cX11_done 180 = .ok (.iload_n 2, 1) := by decide +kernel
theorem dX11_done_181 : decode cX11_done 181 = .ok (.iload 4, 2) := by decide +kernel
theorem dX11_done_183 : decode cX11_done 183 = .ok (.iadd, 1) := by decide +kernel
theorem dX11_done_184 : decode cX11_done 184 = .ok (.iload_n 3, 1) := by decide +kernel
theorem dX11_done_185 : decode cX11_done 185 = .ok (.iconst 0, 1) := by decide +kernel
theorem dX11_done_186 : decode cX11_done 186 = .ok (.iload 5, 2) := by decide +kernel
theorem dX11_done_188 : decode cX11_done 188 = .ok (.invokestatic 209, 3) := by decide +kernel
theorem dX11_done_191 : decode cX11_done 191 = .ok (.areturn, 1) := by decide +kernel
theorem dX11_done_192 : decode cX11_done 192 = .ok (.iload_n 2, 1) := by decide +kernel
theorem dX11_done_193 : decode cX11_done 193 = .ok (.ineg, 1) := by decide +kernel
theorem dX11_done_194 : decode cX11_done 194 = .ok (.iload_n 3, 1) := by decide +kernel
theorem dX11_done_195 : decode cX11_done 195 = .ok (.ineg, 1) := by decide +kernel
theorem dX11_done_196 : decode cX11_done 196 = .ok (.iload 4, 2) := by decide +kernel
theorem dX11_done_198 : decode cX11_done 198 = .ok (.iload 5, 2) := by decide +kernel
theorem dX11_done_200 : decode cX11_done 200 = .ok (.invokestatic 209, 3) := by decide +kernel
theorem dX11_done_203 : decode cX11_done 203 = .ok (.areturn, 1) := by decide +kernel
theorem dX11_done_204 : decode cX11_done 204 = .ok (.iload 6, 2) := by decide +kernel
theorem dX11_done_206 : decode cX11_done 206 = .ok (.ifCond .eq 14, 3) := by decide +kernel
theorem dX11_done_209 : decode cX11_done 209 = .ok (.iconst 1, 1) := by decide +kernel
theorem dX11_done_210 : decode cX11_done 210 = .ok (.iconst 0, 1) := by decide +kernel
theorem dX11_done_211 : decode cX11_done 211 = .ok (.iconst 0, 1) := by decide +kernel
theorem dX11_done_212 : decode cX11_done 212 = .ok (.iload 5, 2) := by decide +kernel
theorem dX11_done_214 : decode cX11_done 214 = .ok (.invokestatic 209, 3) := by decide +kernel
theorem dX11_done_217 : decode cX11_done 217 = .ok (.goto 4, 3) := by decide +kernel
theorem dX11_done_220 : decode cX11_done 220 = .ok (.aconst_null, 1) := by decide +kernel
theorem dX11_done_221 : decode cX11_done 221 = .ok (.areturn, 1) := by decide +kernel
theorem dX11_done_222 : decode cX11_done 222 = .ok (.aconst_null, 1) := by decide +kernel
theorem dX11_done_223 : decode cX11_done 223 = .ok (.areturn, 1) := by decide +kernel
theorem dX11_explained_0 : decode cX11_explained 0 = .ok (.aload_n 0, 1) := by decide +kernel
theorem dX11_explained_1 : decode cX11_explained 1 = .ok (.aload_n 1, 1) := by decide +kernel
theorem dX11_explained_2 : decode cX11_explained 2 = .ok (.invokestatic 174, 3) := by decide +kernel
theorem dX11_explained_5 : decode cX11_explained 5 = .ok (.ifCond .eq 15, 3) := by decide +kernel
theorem dX11_explained_8 : decode cX11_explained 8 = .ok (.bipush 100, 2) := by decide +kernel
theorem dX11_explained_10 : decode cX11_explained 10 = .ok (.iload_n 3, 1) := by decide +kernel
theorem dX11_explained_11 : decode cX11_explained 11 = .ok (.invokestatic 212, 3) := by decide +kernel
theorem dX11_explained_14 : decode cX11_explained 14 = .ok (.imul, 1) := by decide +kernel
theorem dX11_explained_15 : decode cX11_explained 15 = .ok (.iload_n 3, 1) := by decide +kernel
theorem dX11_explained_16 : decode cX11_explained 16 = .ok (.iadd, 1) := by decide +kernel
theorem dX11_explained_17 : decode cX11_explained 17 = .ok (.goto 4, 3) := by decide +kernel
theorem dX11_explained_20 : decode cX11_explained 20 = .ok (.iconst (-1), 1) := by decide +kernel
theorem dX11_explained_21 : decode cX11_explained 21 = .ok (.istore 4, 2) := by decide +kernel
theorem dX11_explained_23 : decode cX11_explained 23 = .ok (.iconst 0, 1) := by decide +kernel
theorem dX11_explained_24 : decode cX11_explained 24 = .ok (.istore 5, 2) := by decide +kernel
theorem dX11_explained_26 : decode cX11_explained 26 = .ok (.iload 5, 2) := by decide +kernel
theorem dX11_explained_28 : decode cX11_explained 28 = .ok (.bipush 10, 2) := by decide +kernel
theorem dX11_explained_30 : decode cX11_explained 30 = .ok (.if_icmp .ge 111, 3) := by decide +kernel
theorem dX11_explained_33 : decode cX11_explained 33 = .ok (.iload_n 2, 1) := by decide +kernel
theorem dX11_explained_34 : decode cX11_explained 34 = .ok (.ifCond .le 107, 3) := by decide +kernel
theorem dX11_explained_37 : decode cX11_explained 37 = .ok (.iload 5, 2) := by decide +kernel
theorem dX11_explained_39 : decode cX11_explained 39 = .ok (.aload_n 0, 1) := by decide +kernel
theorem dX11_explained_40 : decode cX11_explained 40 = .ok (.invokestatic 216, 3) := by decide +kernel
theorem dX11_explained_43 : decode cX11_explained 43 = .ok (.astore 6, 2) := by decide +kernel
theorem dX11_explained_45 : decode cX11_explained 45 = .ok (.aload 6, 2) := by decide +kernel
theorem dX11_explained_47 : decode cX11_explained 47 = .ok (.ifnull 88, 3) := by decide +kernel
theorem dX11_explained_50 : decode cX11_explained 50 = .ok (.iload 5, 2) := by decide +kernel
theorem dX11_explained_52 : decode cX11_explained 52 = .ok (.iconst 5, 1) := by decide +kernel
theorem dX11_explained_53 : decode cX11_explained 53 = .ok (.if_icmp .lt 23, 3) := by decide +kernel
theorem dX11_explained_56 : decode cX11_explained 56 = .ok (.aload 6, 2) := by decide +kernel
theorem dX11_explained_58 : decode cX11_explained 58 = .ok (.iload 5, 2) := by decide +kernel
theorem dX11_explained_60 : decode cX11_explained 60 = .ok (.iconst 5, 1) := by decide +kernel
theorem dX11_explained_61 : decode cX11_explained 61 = .ok (.isub, 1) := by decide +kernel
theorem dX11_explained_62 : decode cX11_explained 62 = .ok (.aload_n 0, 1) := by decide +kernel
theorem dX11_explained_63 : decode cX11_explained 63 = .ok (.invokestatic 216, 3) := by decide +kernel
theorem dX11_explained_66 : decode cX11_explained 66 = .ok (.invokestatic 174, 3) := by decide +kernel
theorem dX11_explained_69 : decode cX11_explained 69 = .ok (.ifCond .ne 7, 3) := by decide +kernel
theorem dX11_explained_72 : decode cX11_explained 72 = .ok (.iconst 1, 1) := by decide +kernel
theorem dX11_explained_73 : decode cX11_explained 73 = .ok (.goto 4, 3) := by decide +kernel
theorem dX11_explained_76 : decode cX11_explained 76 = .ok (.iconst 0, 1) := by decide +kernel
theorem dX11_explained_77 : decode cX11_explained 77 = .ok (.istore 7, 2) := by decide +kernel
theorem dX11_explained_79 : decode cX11_explained 79 = .ok (.aload 6, 2) := by decide +kernel
theorem dX11_explained_81 : decode cX11_explained 81 = .ok (.aload_n 1, 1) := by decide +kernel
theorem dX11_explained_82 : decode cX11_explained 82 = .ok (.iload_n 2, 1) := by decide +kernel
theorem dX11_explained_83 : decode cX11_explained 83 = .ok (.iconst 1, 1) := by decide +kernel
theorem dX11_explained_84 : decode cX11_explained 84 = .ok (.isub, 1) := by decide +kernel
theorem dX11_explained_85 : decode cX11_explained 85 = .ok (.iload 7, 2) := by decide +kernel
theorem dX11_explained_87 : decode cX11_explained 87 = .ok (.ifCond .eq 14, 3) := by decide +kernel
theorem dX11_explained_90 : decode cX11_explained 90 = .ok (.iload_n 3, 1) := by decide +kernel
theorem dX11_explained_91 : decode cX11_explained 91 = .ok (.iconst 1, 1) := by decide +kernel
theorem dX11_explained_92 : decode cX11_explained 92 = .ok (.iload 5, 2) := by decide +kernel
theorem dX11_explained_94 : decode cX11_explained 94 = .ok (.iconst 5, 1) := by decide +kernel
theorem dX11_explained_95 : decode cX11_explained 95 = .ok (.isub, 1) := by decide +kernel
theorem dX11_explained_96 : decode cX11_explained 96 = .ok (.ishl, 1) := by decide +kernel
theorem dX11_explained_97 : decode cX11_explained 97 = .ok (.ior, 1) := by decide +kernel
theorem dX11_explained_98 : decode cX11_explained 98 = .ok (.goto 4, 3) := by decide +kernel
theorem dX11_explained_101 : decode cX11_explained 101 = .ok (.iload_n 3, 1) := by decide +kernel
theorem dX11_explained_102 : decode cX11_explained 102 = .ok (.invokestatic 220, 3) := by decide +kernel
theorem dX11_explained_105 : decode cX11_explained 105 = .ok (.istore 8, 2) := by decide +kernel
theorem dX11_explained_107 : decode cX11_explained 107 = .ok (.iload 8, 2) := by decide +kernel
theorem dX11_explained_109 : decode cX11_explained 109 = .ok (.iconst (-1), 1) := by decide +kernel
theorem dX11_explained_110 : decode cX11_explained 110 = .ok (.if_icmp .eq 21, 3) := by decide +kernel
theorem dX11_explained_113 : decode cX11_explained 113 = .ok (.iload 4, 2) := by decide +kernel
theorem dX11_explained_115 : decode cX11_explained 115 = .ok (.iconst (-1), 1) := by decide +kernel
theorem dX11_explained_116 : decode cX11_explained 116 = .ok (.if_icmp .eq 10, 3) := by decide +kernel
theorem dX11_explained_119 : decode cX11_explained 119 = .ok (.iload 8, 2) := by decide +kernel
theorem dX11_explained_121 : decode cX11_explained 121 = .ok (.iload 4, 2) := by decide +kernel
theorem dX11_explained_123 : decode cX11_explained 123 = .ok (.if_icmp .ge 8, 3) := by decide +kernel
theorem dX11_explained_126 : decode cX11_explained 126 = .ok (.iload 8, 2) := by decide +kernel
theorem dX11_explained_128 : decode cX11_explained 128 = .ok (.goto 5, 3) := by decide +kernel
theorem dX11_explained_131 : decode cX11_explained 131 = .ok (.iload 4, 2) := by decide +kernel
theorem dX11_explained_133 : decode cX11_explained 133 = .ok (.istore 4, 2) := by decide +kernel
theorem dX11_explained_135 : decode cX11_explained 135 = .ok (.iinc 5 1, 3) := by decide +kernel
theorem dX11_explained_138 : decode cX11_explained 138 = .ok (.goto (-112), 3) := by decide +kernel
theorem dX11_explained_141 : decode cX11_explained 141 = .ok (.iload 4, 2) := by decide +kernel
theorem dX11_explained_143 : decode cX11_explained 143 = .ok (.ireturn, 1) := by decide +kernel
theorem dX11_explain_0 : decode cX11_explain 0 = .ok (.aload_n 0, 1) := by decide +kernel
theorem dX11_explain_1 : decode cX11_explain 1 = .ok (.iconst 0, 1) := by decide +kernel
theorem dX11_explain_2 : decode cX11_explain 2 = .ok (.putfield 19, 3) := by decide +kernel
theorem dX11_explain_5 : decode cX11_explain 5 = .ok (.aload_n 0, 1) := by decide +kernel
theorem dX11_explain_6 : decode cX11_explain 6 = .ok (.aload_n 0, 1) := by decide +kernel
theorem dX11_explain_7 : decode cX11_explain 7 = .ok (.iload_n 1, 1) := by decide +kernel
theorem dX11_explain_8 : decode cX11_explain 8 = .ok (.invokevirtual 31, 3) := by decide +kernel
theorem dX11_explain_11 : decode cX11_explain 11 = .ok (.iconst 1, 1) := by decide +kernel
theorem dX11_explain_12 : decode cX11_explain 12 = .ok (.invokevirtual 38, 3) := by decide +kernel
theorem dX11_explain_15 : decode cX11_explain 15 = .ok (.ifCond .ne 33, 3) := by decide +kernel
theorem dX11_explain_18 : decode cX11_explain 18 = .ok (.aload_n 0, 1) := by decide +kernel
theorem dX11_explain_19 : decode cX11_explain 19 = .ok (.aload_n 0, 1) := by decide +kernel
theorem dX11_explain_20 : decode cX11_explain 20 = .ok (.getfield 16, 3) := by decide +kernel
theorem dX11_explain_23 : decode cX11_explain 23 = .ok (.iload_n 1, 1) := by decide +kernel
theorem dX11_explain_24 : decode cX11_explain 24 = .ok (.invokevirtual 42, 3) := by decide +kernel
theorem dX11_explain_27 : decode cX11_explain 27 = .ok (.checkcast 46, 3) := by decide +kernel
theorem dX11_explain_30 : decode cX11_explain 30 = .ok (.getfield 206, 3) := by decide +kernel
theorem dX11_explain_33 : decode cX11_explain 33 = .ok (.ifnonnull 7, 3) := by decide +kernel
theorem dX11_explain_36 : decode cX11_explain 36 = .ok (.iconst 1, 1) := by decide +kernel
theorem dX11_explain_37 : decode cX11_explain 37 = .ok (.goto 4, 3) := by decide +kernel
theorem dX11_explain_40 : decode cX11_explain 40 = .ok (.iconst 0, 1) := by decide +kernel
theorem dX11_explain_41 : decode cX11_explain 41 = .ok (.iconst 2, 1) := by decide +kernel
theorem dX11_explain_42 : decode cX11_explain 42 = .ok (.invokevirtual 38, 3) := by decide +kernel
theorem dX11_explain_45 : decode cX11_explain 45 = .ok (.ifCond .eq 5, 3) := by decide +kernel
theorem dX11_explain_48 : decode cX11_explain 48 = .ok (.iconst 0, 1) := by decide +kernel
theorem dX11_explain_49 : decode cX11_explain 49 = .ok (.ireturn, 1) := by decide +kernel
theorem dX11_explain_50 : decode cX11_explain 50 = .ok (.aload_n 0, 1) := by decide +kernel
theorem dX11_explain_51 : decode cX11_explain 51 = .ok (.getfield 16, 3) := by decide +kernel
theorem dX11_explain_54 : decode cX11_explain 54 = .ok (.iload_n 1, 1) := by decide +kernel
theorem dX11_explain_55 : decode cX11_explain 55 = .ok (.invokevirtual 42, 3) := by decide +kernel
theorem dX11_explain_58 : decode cX11_explain 58 = .ok (.checkcast 46, 3) := by decide +kernel
theorem dX11_explain_61 : decode cX11_explain 61 = .ok (.getfield 203, 3) := by decide +kernel
theorem dX11_explain_64 : decode cX11_explain 64 = .ok (.aload_n 0, 1) := by decide +kernel
theorem dX11_explain_65 : decode cX11_explain 65 = .ok (.getfield 16, 3) := by decide +kernel
theorem dX11_explain_68 : decode cX11_explain 68 = .ok (.iload_n 1, 1) := by decide +kernel
theorem dX11_explain_69 : decode cX11_explain 69 = .ok (.invokevirtual 42, 3) := by decide +kernel
theorem dX11_explain_72 : decode cX11_explain 72 = .ok (.checkcast 46, 3) := by decide +kernel
theorem dX11_explain_75 : decode cX11_explain 75 = .ok (.getfield 206, 3) := by decide +kernel
theorem dX11_explain_78 : decode cX11_explain 78 = .ok (.iconst 3, 1) := by decide +kernel
theorem dX11_explain_79 : decode cX11_explain 79 = .ok (.iconst 0, 1) := by decide +kernel
theorem dX11_explain_80 : decode cX11_explain 80 = .ok (.invokestatic 220, 3) := by decide +kernel
theorem dX11_explain_83 : decode cX11_explain 83 = .ok (.istore_n 2, 1) := by decide +kernel
theorem dX11_explain_84 : decode cX11_explain 84 = .ok (.aload_n 0, 1) := by decide +kernel
theorem dX11_explain_85 : decode cX11_explain 85 = .ok (.iload_n 2, 1) := by decide +kernel
theorem dX11_explain_86 : decode cX11_explain 86 = .ok (.iconst (-1), 1) := by decide +kernel
theorem dX11_explain_87 : decode cX11_explain 87 = .ok (.if_icmp .ne 7, 3) := by decide +kernel
theorem dX11_explain_90 : decode cX11_explain 90 = .ok (.iconst 1, 1) := by decide +kernel
theorem dX11_explain_91 : decode cX11_explain 91 = .ok (.goto 4, 3) := by decide +kernel
theorem dX11_explain_94 : decode cX11_explain 94 = .ok (.iconst 0, 1) := by decide +kernel
theorem dX11_explain_95 : decode cX11_explain 95 = .ok (.iconst 3, 1) := by decide +kernel
theorem dX11_explain_96 : decode cX11_explain 96 = .ok (.invokevirtual 38, 3) := by decide +kernel
theorem dX11_explain_99 : decode cX11_explain 99 = .ok (.ifCond .eq 7, 3) := by decide +kernel
theorem dX11_explain_102 : decode cX11_explain 102 = .ok (.iconst 0, 1) := by decide +kernel
theorem dX11_explain_103 : decode cX11_explain 103 = .ok (.goto 7, 3) := by decide +kernel
theorem dX11_explain_106 : decode cX11_explain 106 = .ok (.iload_n 2, 1) := by decide +kernel
theorem dX11_explain_107 : decode cX11_explain 107 = .ok (.bipush 100, 2) := by decide +kernel
theorem dX11_explain_109 : decode cX11_explain 109 = .ok (.irem, 1) := by decide +kernel
theorem dX11_explain_110 : decode cX11_explain 110 = .ok (.ireturn, 1) := by decide +kernel
theorem dX11_hint_0 : decode cX11_hint 0 = .ok (.aload_n 0, 1) := by decide +kernel
theorem dX11_hint_1 : decode cX11_hint 1 = .ok (.iconst 0, 1) := by decide +kernel
theorem dX11_hint_2 : decode cX11_hint 2 = .ok (.putfield 19, 3) := by decide +kernel
theorem dX11_hint_5 : decode cX11_hint 5 = .ok (.aload_n 0, 1) := by decide +kernel
theorem dX11_hint_6 : decode cX11_hint 6 = .ok (.aload_n 0, 1) := by decide +kernel
theorem dX11_hint_7 : decode cX11_hint 7 = .ok (.iload_n 1, 1) := by decide +kernel
theorem dX11_hint_8 : decode cX11_hint 8 = .ok (.invokevirtual 31, 3) := by decide +kernel
theorem dX11_hint_11 : decode cX11_hint 11 = .ok (.iconst 1, 1) := by decide +kernel
theorem dX11_hint_12 : decode cX11_hint 12 = .ok (.invokevirtual 38, 3) := by decide +kernel
theorem dX11_hint_15 : decode cX11_hint 15 = .ok (.ifCond .ne 12, 3) := by decide +kernel
theorem dX11_hint_18 : decode cX11_hint 18 = .ok (.aload_n 0, 1) := by decide +kernel
theorem dX11_hint_19 : decode cX11_hint 19 = .ok (.iload_n 1, 1) := by decide +kernel
theorem dX11_hint_20 : decode cX11_hint 20 = .ok (.iconst 2, 1) := by decide +kernel
theorem dX11_hint_21 : decode cX11_hint 21 = .ok (.invokevirtual 197, 3) := by decide +kernel
theorem dX11_hint_24 : decode cX11_hint 24 = .ok (.ifCond .eq 5, 3) := by decide +kernel
theorem dX11_hint_27 : decode cX11_hint 27 = .ok (.iconst 0, 1) := by decide +kernel
theorem dX11_hint_28 : decode cX11_hint 28 = .ok (.ireturn, 1) := by decide +kernel
theorem dX11_hint_29 : decode cX11_hint 29 = .ok (.aload_n 0, 1) := by decide +kernel
theorem dX11_hint_30 : decode cX11_hint 30 = .ok (.getfield 16, 3) := by decide +kernel
theorem dX11_hint_33 : decode cX11_hint 33 = .ok (.iload_n 1, 1) := by decide +kernel
theorem dX11_hint_34 : decode cX11_hint 34 = .ok (.invokevirtual 42, 3) := by decide +kernel
theorem dX11_hint_37 : decode cX11_hint 37 = .ok (.checkcast 46, 3) := by decide +kernel
theorem dX11_hint_40 : decode cX11_hint 40 = .ok (.astore_n 2, 1) := by decide +kernel
theorem dX11_hint_41 : decode cX11_hint 41 = .ok (.aload_n 2, 1) := by decide +kernel
theorem dX11_hint_42 : decode cX11_hint 42 = .ok (.dup, 1) := by decide +kernel
theorem dX11_hint_43 : decode cX11_hint 43 = .ok (.getfield 194, 3) := by decide +kernel
theorem dX11_hint_46 : decode cX11_hint 46 = .ok (.iconst 1, 1) := by decide +kernel
theorem dX11_hint_47 : decode cX11_hint 47 = .ok (.iadd, 1) := by decide +kernel
theorem dX11_hint_48 : decode cX11_hint 48 = .ok (.putfield 194, 3) := by decide +kernel
theorem dX11_hint_51 : decode cX11_hint 51 = .ok (.iconst 3, 1) := by decide +kernel
theorem dX11_hint_52 : decode cX11_hint 52 = .ok (.newarray .int, 2) := by decide +kernel
theorem dX11_hint_54 : decode cX11_hint 54 = .ok (.dup, 1) := by decide +kernel
theorem dX11_hint_55 : decode cX11_hint 55 = .ok (.iconst 0, 1) := by decide +kernel
theorem dX11_hint_56 : decode cX11_hint 56 = .ok (.iconst 1, 1) := by decide +kernel
theorem dX11_hint_57 : decode cX11_hint 57 = .ok (.iastore, 1) := by decide +kernel
theorem dX11_hint_58 : decode cX11_hint 58 = .ok (.dup, 1) := by decide +kernel
theorem dX11_hint_59 : decode cX11_hint 59 = .ok (.iconst 1, 1) := by decide +kernel
theorem dX11_hint_60 : decode cX11_hint 60 = .ok (.iconst 0, 1) := by decide +kernel
theorem dX11_hint_61 : decode cX11_hint 61 = .ok (.iastore, 1) := by decide +kernel
theorem dX11_hint_62 : decode cX11_hint 62 = .ok (.dup, 1) := by decide +kernel
theorem dX11_hint_63 : decode cX11_hint 63 = .ok (.iconst 2, 1) := by decide +kernel
theorem dX11_hint_64 : decode cX11_hint 64 = .ok (.iconst 4, 1) := by decide +kernel
theorem dX11_hint_65 : decode cX11_hint 65 = .ok (.iastore, 1) := by decide +kernel
theorem dX11_hint_66 : decode cX11_hint 66 = .ok (.astore_n 3, 1) := by decide +kernel
theorem dX11_hint_67 : decode cX11_hint 67 = .ok (.aload_n 3, 1) := by decide +kernel
theorem dX11_hint_68 : decode cX11_hint 68 = .ok (.astore 4, 2) := by decide +kernel
theorem dX11_hint_70 : decode cX11_hint 70 = .ok (.aload 4, 2) := by decide +kernel
theorem dX11_hint_72 : decode cX11_hint 72 = .ok (.arraylength, 1) := by decide +kernel
theorem dX11_hint_73 : decode cX11_hint 73 = .ok (.istore 5, 2) := by decide +kernel
theorem dX11_hint_75 : decode cX11_hint 75 = .ok (.iconst 0, 1) := by decide +kernel
theorem dX11_hint_76 : decode cX11_hint 76 = .ok (.istore 6, 2) := by decide +kernel
theorem dX11_hint_78 : decode cX11_hint 78 = .ok (.iload 6, 2) := by decide +kernel
theorem dX11_hint_80 : decode cX11_hint 80 = .ok (.iload 5, 2) := by decide +kernel
theorem dX11_hint_82 : decode cX11_hint 82 = .ok (.if_icmp .ge 47, 3) := by decide +kernel
theorem dX11_hint_85 : decode cX11_hint 85 = .ok (.aload 4, 2) := by decide +kernel
theorem dX11_hint_87 : decode cX11_hint 87 = .ok (.iload 6, 2) := by decide +kernel
theorem dX11_hint_89 : decode cX11_hint 89 = .ok (.iaload, 1) := by decide +kernel
theorem dX11_hint_90 : decode cX11_hint 90 = .ok (.istore 7, 2) := by decide +kernel
theorem dX11_hint_92 : decode cX11_hint 92 = .ok (.iload 7, 2) := by decide +kernel
theorem dX11_hint_94 : decode cX11_hint 94 = .ok (.aload_n 2, 1) := by decide +kernel
theorem dX11_hint_95 : decode cX11_hint 95 = .ok (.getfield 186, 3) := by decide +kernel
theorem dX11_hint_98 : decode cX11_hint 98 = .ok (.invokestatic 216, 3) := by decide +kernel
theorem dX11_hint_101 : decode cX11_hint 101 = .ok (.astore 8, 2) := by decide +kernel
theorem dX11_hint_103 : decode cX11_hint 103 = .ok (.aload 8, 2) := by decide +kernel
theorem dX11_hint_105 : decode cX11_hint 105 = .ok (.ifnull 18, 3) := by decide +kernel
theorem dX11_hint_108 : decode cX11_hint 108 = .ok (.aload 8, 2) := by decide +kernel
theorem dX11_hint_110 : decode cX11_hint 110 = .ok (.aload_n 2, 1) := by decide +kernel
theorem dX11_hint_111 : decode cX11_hint 111 = .ok (.getfield 186, 3) := by decide +kernel
theorem dX11_hint_114 : decode cX11_hint 114 = .ok (.invokestatic 174, 3) := by decide +kernel
theorem dX11_hint_117 : decode cX11_hint 117 = .ok (.ifCond .ne 6, 3) := by decide +kernel
theorem dX11_hint_120 : decode cX11_hint 120 = .ok (.iload 7, 2) := by decide +kernel
theorem dX11_hint_122 : decode cX11_hint 122 = .ok (.ireturn, 1) := by decide +kernel
theorem dX11_hint_123 : decode cX11_hint 123 = .ok (.iinc 6 1, 3) := by decide +kernel
theorem dX11_hint_126 : decode cX11_hint 126 = .ok (.goto (-48), 3) := by decide +kernel
theorem dX11_hint_129 : decode cX11_hint 129 = .ok (.iconst 3, 1) := by decide +kernel
theorem dX11_hint_130 : decode cX11_hint 130 = .ok (.ireturn, 1) := by decide +kernel
theorem dX11_faults_0 : decode cX11_faults 0 = .ok (.aload_n 0, 1) := by decide +kernel
theorem dX11_faults_1 : decode cX11_faults 1 = .ok (.iconst 0, 1) := by decide +kernel
theorem dX11_faults_2 : decode cX11_faults 2 = .ok (.putfield 19, 3) := by decide +kernel
theorem dX11_faults_5 : decode cX11_faults 5 = .ok (.aload_n 0, 1) := by decide +kernel
theorem dX11_faults_6 : decode cX11_faults 6 = .ok (.aload_n 0, 1) := by decide +kernel
theorem dX11_faults_7 : decode cX11_faults 7 = .ok (.iload_n 1, 1) := by decide +kernel
theorem dX11_faults_8 : decode cX11_faults 8 = .ok (.invokevirtual 31, 3) := by decide +kernel
theorem dX11_faults_11 : decode cX11_faults 11 = .ok (.iconst 1, 1) := by decide +kernel
theorem dX11_faults_12 : decode cX11_faults 12 = .ok (.invokevirtual 38, 3) := by decide +kernel
theorem dX11_faults_15 : decode cX11_faults 15 = .ok (.ifCond .ne 12, 3) := by decide +kernel
theorem dX11_faults_18 : decode cX11_faults 18 = .ok (.aload_n 0, 1) := by decide +kernel
theorem dX11_faults_19 : decode cX11_faults 19 = .ok (.iload_n 1, 1) := by decide +kernel
theorem dX11_faults_20 : decode cX11_faults 20 = .ok (.iconst 2, 1) := by decide +kernel
theorem dX11_faults_21 : decode cX11_faults 21 = .ok (.invokevirtual 197, 3) := by decide +kernel
theorem dX11_faults_24 : decode cX11_faults 24 = .ok (.ifCond .eq 5, 3) := by decide +kernel
theorem dX11_faults_27 : decode cX11_faults 27 = .ok (.iconst 0, 1) := by decide +kernel
theorem dX11_faults_28 : decode cX11_faults 28 = .ok (.ireturn, 1) := by decide +kernel
theorem dX11_faults_29 : decode cX11_faults 29 = .ok (.bipush 10, 2) := by decide +kernel
theorem dX11_faults_31 : decode cX11_faults 31 = .ok (.aload_n 0, 1) := by decide +kernel
theorem dX11_faults_32 : decode cX11_faults 32 = .ok (.getfield 16, 3) := by decide +kernel
theorem dX11_faults_35 : decode cX11_faults 35 = .ok (.iload_n 1, 1) := by decide +kernel
theorem dX11_faults_36 : decode cX11_faults 36 = .ok (.invokevirtual 42, 3) := by decide +kernel
theorem dX11_faults_39 : decode cX11_faults 39 = .ok (.checkcast 46, 3) := by decide +kernel
theorem dX11_faults_42 : decode cX11_faults 42 = .ok (.getfield 191, 3) := by decide +kernel
theorem dX11_faults_45 : decode cX11_faults 45 = .ok (.imul, 1) := by decide +kernel
theorem dX11_faults_46 : decode cX11_faults 46 = .ok (.aload_n 0, 1) := by decide +kernel
theorem dX11_faults_47 : decode cX11_faults 47 = .ok (.getfield 16, 3) := by decide +kernel
theorem dX11_faults_50 : decode cX11_faults 50 = .ok (.iload_n 1, 1) := by decide +kernel
theorem dX11_faults_51 : decode cX11_faults 51 = .ok (.invokevirtual 42, 3) := by decide +kernel
theorem dX11_faults_54 : decode cX11_faults 54 = .ok (.checkcast 46, 3) := by decide +kernel
theorem dX11_faults_57 : decode cX11_faults 57 = .ok (.getfield 194, 3) := by decide +kernel
theorem dX11_faults_60 : decode cX11_faults 60 = .ok (.iadd, 1) := by decide +kernel
theorem dX11_faults_61 : decode cX11_faults 61 = .ok (.ireturn, 1) := by decide +kernel
theorem dX11_checksum_0 : decode cX11_checksum 0 = .ok (.aload_n 0, 1) := by decide +kernel
theorem dX11_checksum_1 : decode cX11_checksum 1 = .ok (.iconst 0, 1) := by decide +kernel
theorem dX11_checksum_2 : decode cX11_checksum 2 = .ok (.putfield 19, 3) := by decide +kernel
theorem dX11_checksum_5 : decode cX11_checksum 5 = .ok (.lconst 0, 1) := by decide +kernel
theorem dX11_checksum_6 : decode cX11_checksum 6 = .ok (.lstore_n 1, 1) := by decide +kernel
theorem dX11_checksum_7 : decode cX11_checksum 7 = .ok (.aload_n 0, 1) := by decide +kernel
theorem dX11_checksum_8 : decode cX11_checksum 8 = .ok (.getfield 16, 3) := by decide +kernel
theorem dX11_checksum_11 : decode cX11_checksum 11 = .ok (.invokevirtual 134, 3) := by decide +kernel
theorem dX11_checksum_14 : decode cX11_checksum 14 = .ok (.astore_n 3, 1) := by decide +kernel
theorem dX11_checksum_15 : decode cX11_checksum 15 = .ok (.aload_n 3, 1) := by decide +kernel
theorem dX11_checksum_16 : decode cX11_checksum 16 = .ok (.invokeinterface 138 1, 5) := by decide +kernel
theorem dX11_checksum_21 : decode cX11_checksum 21 = .ok (.ifCond .eq 57, 3) := by decide +kernel
theorem dX11_checksum_24 : decode cX11_checksum 24 = .ok (.aload_n 3, 1) := by decide +kernel
theorem dX11_checksum_25 : decode cX11_checksum 25 = .ok (.invokeinterface 144 1, 5) := by decide +kernel
theorem dX11_checksum_30 : decode cX11_checksum 30 = .ok (.checkcast 46, 3) := by decide +kernel
theorem dX11_checksum_33 : decode cX11_checksum 33 = .ok (.astore 4, 2) := by decide +kernel
theorem dX11_checksum_35 : decode cX11_checksum 35 = .ok (.iconst 0, 1) := by decide +kernel
theorem dX11_checksum_36 : decode cX11_checksum 36 = .ok (.istore 5, 2) := by decide +kernel
theorem dX11_checksum_38 : decode cX11_checksum 38 = .ok (.iload 5, 2) := by decide +kernel
theorem dX11_checksum_40 : decode cX11_checksum 40 = .ok (.aload_n 0, 1) := by decide +kernel
theorem dX11_checksum_41 : decode cX11_checksum 41 = .ok (.getfield 10, 3) := by decide +kernel
theorem dX11_checksum_44 : decode cX11_checksum 44 = .ok (.invokevirtual 23, 3) := by decide +kernel
theorem dX11_checksum_47 : decode cX11_checksum 47 = .ok (.if_icmp .ge 28, 3) := by decide +kernel
theorem dX11_checksum_50 : decode cX11_checksum 50 = .ok (.ldc2_w 224, 3) := by decide +kernel
theorem dX11_checksum_53 : decode cX11_checksum 53 = .ok (.lload_n 1, 1) := by decide +kernel
theorem dX11_checksum_54 : decode cX11_checksum 54 = .ok (.lmul, 1) := by decide +kernel
theorem dX11_checksum_55 : decode cX11_checksum 55 = .ok (.aload 4, 2) := by decide +kernel
theorem dX11_checksum_57 : decode cX11_checksum 57 = .ok (.getfield 48, 3) := by decide +kernel
theorem dX11_checksum_60 : decode cX11_checksum 60 = .ok (.iload 5, 2) := by decide +kernel
theorem dX11_checksum_62 : decode cX11_checksum 62 = .ok (.aaload, 1) := by decide +kernel
theorem dX11_checksum_63 : decode cX11_checksum 63 = .ok (.getfield 81, 3) := by decide +kernel
theorem dX11_checksum_66 : decode cX11_checksum 66 = .ok (.i2l, 1) := by decide +kernel
theorem dX11_checksum_67 : decode cX11_checksum 67 = .ok (.ladd, 1) := by decide +kernel
theorem dX11_checksum_68 : decode cX11_checksum 68 = .ok (.lstore_n 1, 1) := by decide +kernel
theorem dX11_checksum_69 : decode cX11_checksum 69 = .ok (.iinc 5 1, 3) := by decide +kernel
theorem dX11_checksum_72 : decode cX11_checksum 72 = .ok (.goto (-34), 3) := by decide +kernel
theorem dX11_checksum_75 : decode cX11_checksum 75 = .ok (.goto (-60), 3) := by decide +kernel
theorem dX11_checksum_78 : decode cX11_checksum 78 = .ok (.lload_n 1, 1) := by decide +kernel
theorem dX11_checksum_79 : decode cX11_checksum 79 = .ok (.lreturn, 1) := by decide +kernel
theorem dX11_knownShare_0 : decode cX11_knownShare 0 = .ok (.aload_n 0, 1) := by decide +kernel
theorem dX11_knownShare_1 : decode cX11_knownShare 1 = .ok (.iconst 0, 1) := by decide +kernel
theorem dX11_knownShare_2 : decode cX11_knownShare 2 = .ok (.putfield 19, 3) := by decide +kernel
theorem dX11_knownShare_5 : decode cX11_knownShare 5 = .ok (.aload_n 0, 1) := by decide +kernel
theorem dX11_knownShare_6 : decode cX11_knownShare 6 = .ok (.aload_n 0, 1) := by decide +kernel
theorem dX11_knownShare_7 : decode cX11_knownShare 7 = .ok (.getfield 16, 3) := by decide +kernel
theorem dX11_knownShare_10 : decode cX11_knownShare 10 = .ok (.invokevirtual 226, 3) := by decide +kernel
theorem dX11_knownShare_13 : decode cX11_knownShare 13 = .ok (.ifCond .ne 13, 3) := by decide +kernel
theorem dX11_knownShare_16 : decode cX11_knownShare 16 = .ok (.aload_n 0, 1) := by decide +kernel
theorem dX11_knownShare_17 : decode cX11_knownShare 17 = .ok (.getfield 10, 3) := by decide +kernel
theorem dX11_knownShare_20 : decode cX11_knownShare 20 = .ok (.invokevirtual 226, 3) := by decide +kernel
theorem dX11_knownShare_23 : decode cX11_knownShare 23 = .ok (.ifCond .eq 7, 3) := by decide +kernel
theorem dX11_knownShare_26 : decode cX11_knownShare 26 = .ok (.iconst 1, 1) := by decide +kernel
theorem dX11_knownShare_27 : decode cX11_knownShare 27 = .ok (.goto 4, 3) := by decide +kernel
theorem dX11_knownShare_30 : decode cX11_knownShare 30 = .ok (.iconst 0, 1) := by decide +kernel
theorem dX11_knownShare_31 : decode cX11_knownShare 31 = .ok (.iconst 1, 1) := by decide +kernel
theorem dX11_knownShare_32 : decode cX11_knownShare 32 = .ok (.invokevirtual 38, 3) := by decide +kernel
theorem dX11_knownShare_35 : decode cX11_knownShare 35 = .ok (.ifCond .eq 5, 3) := by decide +kernel
theorem dX11_knownShare_38 : decode cX11_knownShare 38 = .ok (.fconst 0, 1) := by decide +kernel
theorem dX11_knownShare_39 : decode cX11_knownShare 39 = .ok (.freturn, 1) := by decide +kernel
theorem dX11_knownShare_40 : decode cX11_knownShare 40 = .ok (.iconst 0, 1) := by decide +kernel
theorem dX11_knownShare_41 : decode cX11_knownShare 41 = .ok (.istore_n 1, 1) := by decide +kernel
theorem dX11_knownShare_42 : decode cX11_knownShare 42 = .ok (.aload_n 0, 1) := by decide +kernel
theorem dX11_knownShare_43 : decode cX11_knownShare 43 = .ok (.getfield 16, 3) := by decide +kernel
theorem dX11_knownShare_46 : decode cX11_knownShare 46 = .ok (.invokevirtual 134, 3) := by decide +kernel
theorem dX11_knownShare_49 : decode cX11_knownShare 49 = .ok (.astore_n 2, 1) := by decide +kernel
theorem dX11_knownShare_50 : decode cX11_knownShare 50 = .ok (.aload_n 2, 1) := by decide +kernel
theorem dX11_knownShare_51 : decode cX11_knownShare 51 = .ok (.invokeinterface 138 1, 5) := by decide +kernel
theorem dX11_knownShare_56 : decode cX11_knownShare 56 = .ok (.ifCond .eq 61, 3) := by decide +kernel
theorem dX11_knownShare_59 : decode cX11_knownShare 59 = .ok (.aload_n 2, 1) := by decide +kernel
theorem dX11_knownShare_60 : decode cX11_knownShare 60 = .ok (.invokeinterface 144 1, 5) := by decide +kernel
theorem dX11_knownShare_65 : decode cX11_knownShare 65 = .ok (.checkcast 46, 3) := by decide +kernel
theorem dX11_knownShare_68 : decode cX11_knownShare 68 = .ok (.astore_n 3, 1) := by decide +kernel
theorem dX11_knownShare_69 : decode cX11_knownShare 69 = .ok (.iconst 0, 1) := by decide +kernel
theorem dX11_knownShare_70 : decode cX11_knownShare 70 = .ok (.istore 4, 2) := by decide +kernel
theorem dX11_knownShare_72 : decode cX11_knownShare 72 = .ok (.iload 4, 2) := by decide +kernel
theorem dX11_knownShare_74 : decode cX11_knownShare 74 = .ok (.aload_n 0, 1) := by decide +kernel
theorem dX11_knownShare_75 : decode cX11_knownShare 75 = .ok (.getfield 10, 3) := by decide +kernel
theorem dX11_knownShare_78 : decode cX11_knownShare 78 = .ok (.invokevirtual 23, 3) := by decide +kernel
theorem dX11_knownShare_81 : decode cX11_knownShare 81 = .ok (.if_icmp .ge 33, 3) := by decide +kernel
theorem dX11_knownShare_84 : decode cX11_knownShare 84 = .ok (.iload_n 1, 1) := by decide +kernel
theorem dX11_knownShare_85 : decode cX11_knownShare 85 = .ok (.aload_n 3, 1) := by decide +kernel
theorem dX11_knownShare_86 : decode cX11_knownShare 86 = .ok (.getfield 48, 3) := by decide +kernel
theorem dX11_knownShare_89 : decode cX11_knownShare 89 = .ok (.iload 4, 2) := by decide +kernel
theorem dX11_knownShare_91 : decode cX11_knownShare 91 = .ok (.aaload, 1) := by decide +kernel
theorem dX11_knownShare_92 : decode cX11_knownShare 92 = .ok (.getfield 81, 3) := by decide +kernel
theorem dX11_knownShare_95 : decode cX11_knownShare 95 = .ok (.sipush 700, 3) := by decide +kernel
theorem dX11_knownShare_98 : decode cX11_knownShare 98 = .ok (.if_icmp .lt 7, 3) := by decide +kernel
theorem dX11_knownShare_101 : decode cX11_knownShare 101 = .ok (.iconst 1, 1) := by decide +kernel
theorem dX11_knownShare_102 : decode cX11_knownShare 102 = .ok (.goto 4, 3) := by decide +kernel
theorem dX11_knownShare_105 : decode cX11_knownShare 105 = .ok (.iconst 0, 1) := by decide +kernel
theorem dX11_knownShare_106 : decode cX11_knownShare 106 = .ok (.iadd, 1) := by decide +kernel
theorem dX11_knownShare_107 : decode cX11_knownShare 107 = .ok (.istore_n 1, 1) := by decide +kernel
theorem dX11_knownShare_108 : decode cX11_knownShare 108 = .ok (.iinc 4 1, 3) := by decide +kernel
theorem dX11_knownShare_111 : decode cX11_knownShare 111 = .ok (.goto (-39), 3) := by decide +kernel
theorem dX11_knownShare_114 : decode cX11_knownShare 114 = .ok (.goto (-64), 3) := by decide +kernel
theorem dX11_knownShare_117 : decode cX11_knownShare 117 = .ok (.iload_n 1, 1) := by decide +kernel
theorem dX11_knownShare_118 : decode cX11_knownShare 118 = .ok (.i2f, 1) := by decide +kernel
theorem dX11_knownShare_119 : decode cX11_knownShare 119 = .ok (.aload_n 0, 1) := by decide +kernel
theorem dX11_knownShare_120 : decode cX11_knownShare 120 = .ok (.getfield 16, 3) := by decide +kernel
theorem dX11_knownShare_123 : decode cX11_knownShare 123 = .ok (.invokevirtual 23, 3) := by decide +kernel
theorem dX11_knownShare_126 : decode cX11_knownShare 126 = .ok (.aload_n 0, 1) := by decide +kernel
theorem dX11_knownShare_127 : decode cX11_knownShare 127 = .ok (.getfield 10, 3) := by decide +kernel
theorem dX11_knownShare_130 : decode cX11_knownShare 130 = .ok (.invokevirtual 23, 3) := by decide +kernel
theorem dX11_knownShare_133 : decode cX11_knownShare 133 = .ok (.imul, 1) := by decide +kernel
theorem dX11_knownShare_134 : decode cX11_knownShare 134 = .ok (.i2f, 1) := by decide +kernel
theorem dX11_knownShare_135 : decode cX11_knownShare 135 = .ok (.fdiv, 1) := by decide +kernel
theorem dX11_knownShare_136 : decode cX11_knownShare 136 = .ok (.freturn, 1) := by decide +kernel
theorem dX11_meanOdds_0 : decode cX11_meanOdds 0 = .ok (.aload_n 0, 1) := by decide +kernel
theorem dX11_meanOdds_1 : decode cX11_meanOdds 1 = .ok (.iconst 0, 1) := by decide +kernel
theorem dX11_meanOdds_2 : decode cX11_meanOdds 2 = .ok (.putfield 19, 3) := by decide +kernel
theorem dX11_meanOdds_5 : decode cX11_meanOdds 5 = .ok (.aload_n 0, 1) := by decide +kernel
theorem dX11_meanOdds_6 : decode cX11_meanOdds 6 = .ok (.aload_n 0, 1) := by decide +kernel
theorem dX11_meanOdds_7 : decode cX11_meanOdds 7 = .ok (.iload_n 1, 1) := by decide +kernel
theorem dX11_meanOdds_8 : decode cX11_meanOdds 8 = .ok (.invokevirtual 35, 3) := by decide +kernel
theorem dX11_meanOdds_11 : decode cX11_meanOdds 11 = .ok (.iconst 1, 1) := by decide +kernel
theorem dX11_meanOdds_12 : decode cX11_meanOdds 12 = .ok (.invokevirtual 38, 3) := by decide +kernel
theorem dX11_meanOdds_15 : decode cX11_meanOdds 15 = .ok (.ifCond .ne 18, 3) := by decide +kernel
theorem dX11_meanOdds_18 : decode cX11_meanOdds 18 = .ok (.aload_n 0, 1) := by decide +kernel
theorem dX11_meanOdds_19 : decode cX11_meanOdds 19 = .ok (.aload_n 0, 1) := by decide +kernel
theorem dX11_meanOdds_20 : decode cX11_meanOdds 20 = .ok (.getfield 16, 3) := by decide +kernel
theorem dX11_meanOdds_23 : decode cX11_meanOdds 23 = .ok (.invokevirtual 226, 3) := by decide +kernel
theorem dX11_meanOdds_26 : decode cX11_meanOdds 26 = .ok (.iconst 2, 1) := by decide +kernel
theorem dX11_meanOdds_27 : decode cX11_meanOdds 27 = .ok (.invokevirtual 38, 3) := by decide +kernel
theorem dX11_meanOdds_30 : decode cX11_meanOdds 30 = .ok (.ifCond .eq 5, 3) := by decide +kernel
theorem dX11_meanOdds_33 : decode cX11_meanOdds 33 = .ok (.dconst 0, 1) := by decide +kernel
theorem dX11_meanOdds_34 : decode cX11_meanOdds 34 = .ok (.dreturn, 1) := by decide +kernel
theorem dX11_meanOdds_35 : decode cX11_meanOdds 35 = .ok (.iconst 0, 1) := by decide +kernel
theorem dX11_meanOdds_36 : decode cX11_meanOdds 36 = .ok (.istore_n 2, 1) := by decide +kernel
theorem dX11_meanOdds_37 : decode cX11_meanOdds 37 = .ok (.aload_n 0, 1) := by decide +kernel
theorem dX11_meanOdds_38 : decode cX11_meanOdds 38 = .ok (.getfield 16, 3) := by decide +kernel
theorem dX11_meanOdds_41 : decode cX11_meanOdds 41 = .ok (.invokevirtual 134, 3) := by decide +kernel
theorem dX11_meanOdds_44 : decode cX11_meanOdds 44 = .ok (.astore_n 3, 1) := by decide +kernel
theorem dX11_meanOdds_45 : decode cX11_meanOdds 45 = .ok (.aload_n 3, 1) := by decide +kernel
theorem dX11_meanOdds_46 : decode cX11_meanOdds 46 = .ok (.invokeinterface 138 1, 5) := by decide +kernel
theorem dX11_meanOdds_51 : decode cX11_meanOdds 51 = .ok (.ifCond .eq 30, 3) := by decide +kernel
theorem dX11_meanOdds_54 : decode cX11_meanOdds 54 = .ok (.aload_n 3, 1) := by decide +kernel
theorem dX11_meanOdds_55 : decode cX11_meanOdds 55 = .ok (.invokeinterface 144 1, 5) := by decide +kernel
theorem dX11_meanOdds_60 : decode cX11_meanOdds 60 = .ok (.checkcast 46, 3) := by decide +kernel
theorem dX11_meanOdds_63 : decode cX11_meanOdds 63 = .ok (.astore 4, 2) := by decide +kernel
theorem dX11_meanOdds_65 : decode cX11_meanOdds 65 = .ok (.iload_n 2, 1) := by decide +kernel
theorem dX11_meanOdds_66 : decode cX11_meanOdds 66 = .ok (.aload 4, 2) := by decide +kernel
theorem dX11_meanOdds_68 : decode cX11_meanOdds 68 = .ok (.getfield 48, 3) := by decide +kernel
theorem dX11_meanOdds_71 : decode cX11_meanOdds 71 = .ok (.iload_n 1, 1) := by decide +kernel
theorem dX11_meanOdds_72 : decode cX11_meanOdds 72 = .ok (.aaload, 1) := by decide +kernel
theorem dX11_meanOdds_73 : decode cX11_meanOdds 73 = .ok (.getfield 81, 3) := by decide +kernel
theorem dX11_meanOdds_76 : decode cX11_meanOdds 76 = .ok (.iadd, 1) := by decide +kernel
theorem dX11_meanOdds_77 : decode cX11_meanOdds 77 = .ok (.istore_n 2, 1) := by decide +kernel
theorem dX11_meanOdds_78 : decode cX11_meanOdds 78 = .ok (.goto (-33), 3) := by decide +kernel
theorem dX11_meanOdds_81 : decode cX11_meanOdds 81 = .ok (.iload_n 2, 1) := by decide +kernel
theorem dX11_meanOdds_82 : decode cX11_meanOdds 82 = .ok (.i2d, 1) := by decide +kernel
theorem dX11_meanOdds_83 : decode cX11_meanOdds 83 = .ok (.aload_n 0, 1) := by decide +kernel
theorem dX11_meanOdds_84 : decode cX11_meanOdds 84 = .ok (.getfield 16, 3) := by decide +kernel
theorem dX11_meanOdds_87 : decode cX11_meanOdds 87 = .ok (.invokevirtual 23, 3) := by decide +kernel
theorem dX11_meanOdds_90 : decode cX11_meanOdds 90 = .ok (.i2d, 1) := by decide +kernel
theorem dX11_meanOdds_91 : decode cX11_meanOdds 91 = .ok (.ddiv, 1) := by decide +kernel
theorem dX11_meanOdds_92 : decode cX11_meanOdds 92 = .ok (.dreturn, 1) := by decide +kernel
theorem dX11_isSound_0 : decode cX11_isSound 0 = .ok (.aload_n 0, 1) := by decide +kernel
theorem dX11_isSound_1 : decode cX11_isSound 1 = .ok (.iconst 0, 1) := by decide +kernel
theorem dX11_isSound_2 : decode cX11_isSound 2 = .ok (.putfield 19, 3) := by decide +kernel
theorem dX11_isSound_5 : decode cX11_isSound 5 = .ok (.iconst 1, 1) := by decide +kernel
theorem dX11_isSound_6 : decode cX11_isSound 6 = .ok (.ireturn, 1) := by decide +kernel
theorem dX8_init_0 : decode cX8_init 0 = .ok (.aload_n 0, 1) := by decide +kernel
theorem dX8_init_1 : decode cX8_init 1 = .ok (.invokespecial 1, 3) := by decide +kernel
theorem dX8_init_4 : decode cX8_init 4 = .ok (.aload_n 0, 1) := by decide +kernel
theorem dX8_init_5 : decode cX8_init 5 = .ok (.sipush 200, 3) := by decide +kernel
theorem dX8_init_8 : decode cX8_init 8 = .ok (.putfield 7, 3) := by decide +kernel
theorem dX8_init_11 : decode cX8_init 11 = .ok (.aload_n 0, 1) := by decide +kernel
theorem dX8_init_12 : decode cX8_init 12 = .ok (.sipush 200, 3) := by decide +kernel
theorem dX8_init_15 : decode cX8_init 15 = .ok (.putfield 13, 3) := by decide +kernel
theorem dX8_init_18 : decode cX8_init 18 = .ok (.aload_n 0, 1) := by decide +kernel
theorem dX8_init_19 : decode cX8_init 19 = .ok (.new 16, 3) := by decide +kernel
theorem dX8_init_22 : decode cX8_init 22 = .ok (.dup, 1) := by decide +kernel
theorem dX8_init_23 : decode cX8_init 23 = .ok (.invokespecial 18, 3) := by decide +kernel
theorem dX8_init_26 : decode cX8_init 26 = .ok (.putfield 19, 3) := by decide +kernel
theorem dX8_init_29 : decode cX8_init 29 = .ok (.aload_n 0, 1) := by decide +kernel
theorem dX8_init_30 : decode cX8_init 30 = .ok (.iconst (-1), 1) := by decide +kernel
theorem dX8_init_31 : decode cX8_init 31 = .ok (.putfield 23, 3) := by decide +kernel
theorem dX8_init_34 : decode cX8_init 34 = .ok (.return_, 1) := by decide +kernel
theorem dX9_init_0 : decode cX9_init 0 = .ok (.aload_n 0, 1) := by decide +kernel
theorem dX9_init_1 : decode cX9_init 1 = .ok (.invokespecial 1, 3) := by decide +kernel
theorem dX9_init_4 : decode cX9_init 4 = .ok (.aload_n 0, 1) := by decide +kernel
theorem dX9_init_5 : decode cX9_init 5 = .ok (.bipush 10, 2) := by decide +kernel
theorem dX9_init_7 : decode cX9_init 7 = .ok (.anewarray 7, 3) := by decide +kernel
theorem dX9_init_10 : decode cX9_init 10 = .ok (.putfield 9, 3) := by decide +kernel
theorem dX9_init_13 : decode cX9_init 13 = .ok (.aload_n 0, 1) := by decide +kernel
theorem dX9_init_14 : decode cX9_init 14 = .ok (.new 15, 3) := by decide +kernel
theorem dX9_init_17 : decode cX9_init 17 = .ok (.dup, 1) := by decide +kernel
theorem dX9_init_18 : decode cX9_init 18 = .ok (.invokespecial 17, 3) := by decide +kernel
theorem dX9_init_21 : decode cX9_init 21 = .ok (.putfield 18, 3) := by decide +kernel
theorem dX9_init_24 : decode cX9_init 24 = .ok (.iconst 0, 1) := by decide +kernel
theorem dX9_init_25 : decode cX9_init 25 = .ok (.istore_n 1, 1) := by decide +kernel
theorem dX9_init_26 : decode cX9_init 26 = .ok (.iload_n 1, 1) := by decide +kernel
theorem dX9_init_27 : decode cX9_init 27 = .ok (.bipush 10, 2) := by decide +kernel
theorem dX9_init_29 : decode cX9_init 29 = .ok (.if_icmp .ge 22, 3) := by decide +kernel
theorem dX9_init_32 : decode cX9_init 32 = .ok (.aload_n 0, 1) := by decide +kernel
theorem dX9_init_33 : decode cX9_init 33 = .ok (.getfield 9, 3) := by decide +kernel
theorem dX9_init_36 : decode cX9_init 36 = .ok (.iload_n 1, 1) := by decide +kernel
theorem dX9_init_37 : decode cX9_init 37 = .ok (.new 7, 3) := by decide +kernel
theorem dX9_init_40 : decode cX9_init 40 = .ok (.dup, 1) := by decide +kernel
theorem dX9_init_41 : decode cX9_init 41 = .ok (.invokespecial 22, 3) := by decide +kernel
theorem dX9_init_44 : decode cX9_init 44 = .ok (.aastore, 1) := by decide +kernel
theorem dX9_init_45 : decode cX9_init 45 = .ok (.iinc 1 1, 3) := by decide +kernel
theorem dX9_init_48 : decode cX9_init 48 = .ok (.goto (-22), 3) := by decide +kernel
theorem dX9_init_51 : decode cX9_init 51 = .ok (.return_, 1) := by decide +kernel
