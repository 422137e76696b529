theorem dX0_init_0 : decode cX0_init 0 = .ok (.aload_n 0, 1) := by decide +kernel
theorem dX0_init_1 : decode cX0_init 1 = .ok (.invokespecial 1, 3) := by decide +kernel
theorem dX0_init_4 : decode cX0_init 4 = .ok (.aload_n 0, 1) := by decide +kernel
theorem dX0_init_5 : decode cX0_init 5 = .ok (.iload_n 1, 1) := by decide +kernel
theorem dX0_init_6 : decode cX0_init 6 = .ok (.putfield 7, 3) := by decide +kernel
theorem dX0_init_9 : decode cX0_init 9 = .ok (.aload_n 0, 1) := by decide +kernel
theorem dX0_init_10 : decode cX0_init 10 = .ok (.iload_n 2, 1) := by decide +kernel
theorem dX0_init_11 : decode cX0_init 11 = .ok (.putfield 13, 3) := by decide +kernel
theorem dX0_init_14 : decode cX0_init 14 = .ok (.aload_n 0, 1) := by decide +kernel
theorem dX0_init_15 : decode cX0_init 15 = .ok (.iload_n 3, 1) := by decide +kernel
theorem dX0_init_16 : decode cX0_init 16 = .ok (.putfield 16, 3) := by decide +kernel
theorem dX0_init_19 : decode cX0_init 19 = .ok (.aload_n 0, 1) := by decide +kernel
theorem dX0_init_20 : decode cX0_init 20 = .ok (.iload 4, 2) := by decide +kernel
theorem dX0_init_22 : decode cX0_init 22 = .ok (.putfield 19, 3) := by decide +kernel
theorem dX0_init_25 : decode cX0_init 25 = .ok (.return_, 1) := by decide +kernel
theorem dX0_become_0 : decode cX0_become 0 = .ok (.aload_n 0, 1) := by decide +kernel
theorem dX0_become_1 : decode cX0_become 1 = .ok (.aload_n 1, 1) := by decide +kernel
theorem dX0_become_2 : decode cX0_become 2 = .ok (.getfield 7, 3) := by decide +kernel
theorem dX0_become_5 : decode cX0_become 5 = .ok (.putfield 7, 3) := by decide +kernel
theorem dX0_become_8 : decode cX0_become 8 = .ok (.aload_n 0, 1) := by decide +kernel
theorem dX0_become_9 : decode cX0_become 9 = .ok (.aload_n 1, 1) := by decide +kernel
theorem dX0_become_10 : decode cX0_become 10 = .ok (.getfield 13, 3) := by decide +kernel
theorem dX0_become_13 : decode cX0_become 13 = .ok (.putfield 13, 3) := by decide +kernel
theorem dX0_become_16 : decode cX0_become 16 = .ok (.aload_n 0, 1) := by decide +kernel
theorem dX0_become_17 : decode cX0_become 17 = .ok (.aload_n 1, 1) := by decide +kernel
theorem dX0_become_18 : decode cX0_become 18 = .ok (.getfield 16, 3) := by decide +kernel
theorem dX0_become_21 : decode cX0_become 21 = .ok (.putfield 16, 3) := by decide +kernel
theorem dX0_become_24 : decode cX0_become 24 = .ok (.aload_n 0, 1) := by decide +kernel
theorem dX0_become_25 : decode cX0_become 25 = .ok (.aload_n 1, 1) := by decide +kernel
theorem dX0_become_26 : decode cX0_become 26 = .ok (.getfield 19, 3) := by decide +kernel
theorem dX0_become_29 : decode cX0_become 29 = .ok (.putfield 19, 3) := by decide +kernel
theorem dX0_become_32 : decode cX0_become 32 = .ok (.return_, 1) := by decide +kernel
theorem dX0_isSameAs_0 : decode cX0_isSameAs 0 = .ok (.aload_n 0, 1) := by decide +kernel
theorem dX0_isSameAs_1 : decode cX0_isSameAs 1 = .ok (.getfield 7, 3) := by decide +kernel
theorem dX0_isSameAs_4 : decode cX0_isSameAs 4 = .ok (.aload_n 1, 1) := by decide +kernel
theorem dX0_isSameAs_5 : decode cX0_isSameAs 5 = .ok (.getfield 7, 3) := by decide +kernel
theorem dX0_isSameAs_8 : decode cX0_isSameAs 8 = .ok (.if_icmp .ne 40, 3) := by decide +kernel
theorem dX0_isSameAs_11 : decode cX0_isSameAs 11 = .ok (.aload_n 0, 1) := by decide +kernel
theorem dX0_isSameAs_12 : decode cX0_isSameAs 12 = .ok (.getfield 13, 3) := by decide +kernel
theorem dX0_isSameAs_15 : decode cX0_isSameAs 15 = .ok (.aload_n 1, 1) := by decide +kernel
theorem dX0_isSameAs_16 : decode cX0_isSameAs 16 = .ok (.getfield 13, 3) := by decide +kernel
theorem dX0_isSameAs_19 : decode cX0_isSameAs 19 = .ok (.if_icmp .ne 29, 3) := by decide +kernel
theorem dX0_isSameAs_22 : decode cX0_isSameAs 22 = .ok (.aload_n 0, 1) := by decide +kernel
theorem dX0_isSameAs_23 : decode cX0_isSameAs 23 = .ok (.getfield 16, 3) := by decide +kernel
theorem dX0_isSameAs_26 : decode cX0_isSameAs 26 = .ok (.aload_n 1, 1) := by decide +kernel
theorem dX0_isSameAs_27 : decode cX0_isSameAs 27 = .ok (.getfield 16, 3) := by decide +kernel
theorem dX0_isSameAs_30 : decode cX0_isSameAs 30 = .ok (.if_icmp .ne 18, 3) := by decide +kernel
theorem dX0_isSameAs_33 : decode cX0_isSameAs 33 = .ok (.aload_n 0, 1) := by decide +kernel
theorem dX0_isSameAs_34 : decode cX0_isSameAs 34 = .ok (.getfield 19, 3) := by decide +kernel
theorem dX0_isSameAs_37 : decode cX0_isSameAs 37 = .ok (.aload_n 1, 1) := by decide +kernel
theorem dX0_isSameAs_38 : decode cX0_isSameAs 38 = .ok (.getfield 19, 3) := by decide +kernel
theorem dX0_isSameAs_41 : decode cX0_isSameAs 41 = .ok (.if_icmp .ne 7, 3) := by decide +kernel
theorem dX0_isSameAs_44 : decode cX0_isSameAs 44 = .ok (.iconst 1, 1) := by decide +kernel
theorem dX0_isSameAs_45 : decode cX0_isSameAs 45 = .ok (.goto 4, 3) := by decide +kernel
theorem dX0_isSameAs_48 : decode cX0_isSameAs 48 = .ok (.iconst 0, 1) := by decide +kernel
theorem dX0_isSameAs_49 : decode cX0_isSameAs 49 = .ok (.ireturn, 1) := by decide +kernel
theorem dX0_numberNamed_0 : decode cX0_numberNamed 0 = .ok (.iload_n 1, 1) := by decide +kernel
theorem dX0_numberNamed_1 : decode cX0_numberNamed 1 = .ok (.tableswitch 42 97 99 #[27, 32, 37], 27) := by decide +kernel
theorem dX0_numberNamed_28 : decode cX0_numberNamed 28 = .ok (.aload_n 0, 1) := by decide +kernel
theorem dX0_numberNamed_29 : decode cX0_numberNamed 29 = .ok (.getfield 7, 3) := by decide +kernel
theorem dX0_numberNamed_32 : decode cX0_numberNamed 32 = .ok (.ireturn, 1) := by decide +kernel
theorem dX0_numberNamed_33 : decode cX0_numberNamed 33 = .ok (.aload_n 0, 1) := by decide +kernel
theorem dX0_numberNamed_34 : decode cX0_numberNamed 34 = .ok (.getfield 13, 3) := by decide +kernel
theorem dX0_numberNamed_37 : decode cX0_numberNamed 37 = .ok (.ireturn, 1) := by decide +kernel
theorem dX0_numberNamed_38 : decode cX0_numberNamed 38 = .ok (.aload_n 0, 1) := by decide +kernel
theorem dX0_numberNamed_39 : decode cX0_numberNamed 39 = .ok (.getfield 16, 3) := by decide +kernel
theorem dX0_numberNamed_42 : decode cX0_numberNamed 42 = .ok (.ireturn, 1) := by decide +kernel
theorem dX0_numberNamed_43 : decode cX0_numberNamed 43 = .ok (.aload_n 0, 1) := by decide +kernel
theorem dX0_numberNamed_44 : decode cX0_numberNamed 44 = .ok (.getfield 19, 3) := by decide +kernel
theorem dX0_numberNamed_47 : decode cX0_numberNamed 47 = .ok (.ireturn, 1) := by decide +kernel
theorem dX0_isSolved_0 : decode cX0_isSolved 0 = .ok (.aload_n 0, 1) := by decide +kernel
theorem dX0_isSolved_1 : decode cX0_isSolved 1 = .ok (.getfield 7, 3) := by decide +kernel
theorem dX0_isSolved_4 : decode cX0_isSolved 4 = .ok (.iconst 1, 1) := by decide +kernel
theorem dX0_isSolved_5 : decode cX0_isSolved 5 = .ok (.if_icmp .ne 21, 3) := by decide +kernel
theorem dX0_isSolved_8 : decode cX0_isSolved 8 = .ok (.aload_n 0, 1) := by decide +kernel
theorem dX0_isSolved_9 : decode cX0_isSolved 9 = .ok (.getfield 13, 3) := by decide +kernel
theorem dX0_isSolved_12 : decode cX0_isSolved 12 = .ok (.ifCond .ne 14, 3) := by decide +kernel
theorem dX0_isSolved_15 : decode cX0_isSolved 15 = .ok (.aload_n 0, 1) := by decide +kernel
theorem dX0_isSolved_16 : decode cX0_isSolved 16 = .ok (.getfield 16, 3) := by decide +kernel
theorem dX0_isSolved_19 : decode cX0_isSolved 19 = .ok (.ifCond .ne 7, 3) := by decide +kernel
theorem dX0_isSolved_22 : decode cX0_isSolved 22 = .ok (.iconst 1, 1) := by decide +kernel
theorem dX0_isSolved_23 : decode cX0_isSolved 23 = .ok (.goto 4, 3) := by decide +kernel
theorem dX0_isSolved_26 : decode cX0_isSolved 26 = .ok (.iconst 0, 1) := by decide +kernel
theorem dX0_isSolved_27 : decode cX0_isSolved 27 = .ok (.ireturn, 1) := by decide +kernel
theorem dX0_hasOnlySolution_0 : decode cX0_hasOnlySolution 0 = .ok (.aload_n 0, 1) := by decide +kernel
theorem dX0_hasOnlySolution_1 : decode cX0_hasOnlySolution 1 = .ok (.getfield 7, 3) := by decide +kernel
theorem dX0_hasOnlySolution_4 : decode cX0_hasOnlySolution 4 = .ok (.aload_n 0, 1) := by decide +kernel
theorem dX0_hasOnlySolution_5 : decode cX0_hasOnlySolution 5 = .ok (.getfield 16, 3) := by decide +kernel
theorem dX0_hasOnlySolution_8 : decode cX0_hasOnlySolution 8 = .ok (.if_icmp .eq 34, 3) := by decide +kernel
theorem dX0_hasOnlySolution_11 : decode cX0_hasOnlySolution 11 = .ok (.aload_n 0, 1) := by decide +kernel
theorem dX0_hasOnlySolution_12 : decode cX0_hasOnlySolution 12 = .ok (.getfield 7, 3) := by decide +kernel
theorem dX0_hasOnlySolution_15 : decode cX0_hasOnlySolution 15 = .ok (.aload_n 0, 1) := by decide +kernel
theorem dX0_hasOnlySolution_16 : decode cX0_hasOnlySolution 16 = .ok (.getfield 16, 3) := by decide +kernel
theorem dX0_hasOnlySolution_19 : decode cX0_hasOnlySolution 19 = .ok (.isub, 1) := by decide +kernel
theorem dX0_hasOnlySolution_20 : decode cX0_hasOnlySolution 20 = .ok (.i2l, 1) := by decide +kernel
theorem dX0_hasOnlySolution_21 : decode cX0_hasOnlySolution 21 = .ok (.iload_n 1, 1) := by decide +kernel
theorem dX0_hasOnlySolution_22 : decode cX0_hasOnlySolution 22 = .ok (.i2l, 1) := by decide +kernel
theorem dX0_hasOnlySolution_23 : decode cX0_hasOnlySolution 23 = .ok (.lmul, 1) := by decide +kernel
theorem dX0_hasOnlySolution_24 : decode cX0_hasOnlySolution 24 = .ok (.aload_n 0, 1) := by decide +kernel
theorem dX0_hasOnlySolution_25 : decode cX0_hasOnlySolution 25 = .ok (.getfield 19, 3) := by decide +kernel
theorem dX0_hasOnlySolution_28 : decode cX0_hasOnlySolution 28 = .ok (.aload_n 0, 1) := by decide +kernel
theorem dX0_hasOnlySolution_29 : decode cX0_hasOnlySolution 29 = .ok (.getfield 13, 3) := by decide +kernel
theorem dX0_hasOnlySolution_32 : decode cX0_hasOnlySolution 32 = .ok (.isub, 1) := by decide +kernel
theorem dX0_hasOnlySolution_33 : decode cX0_hasOnlySolution 33 = .ok (.i2l, 1) := by decide +kernel
theorem dX0_hasOnlySolution_34 : decode cX0_hasOnlySolution 34 = .ok (.lcmp, 1) := by decide +kernel
theorem dX0_hasOnlySolution_35 : decode cX0_hasOnlySolution 35 = .ok (.ifCond .ne 7, 3) := by decide +kernel
theorem dX0_hasOnlySolution_38 : decode cX0_hasOnlySolution 38 = .ok (.iconst 1, 1) := by decide +kernel
theorem dX0_hasOnlySolution_39 : decode cX0_hasOnlySolution 39 = .ok (.goto 4, 3) := by decide +kernel
theorem dX0_hasOnlySolution_42 : decode cX0_hasOnlySolution 42 = .ok (.iconst 0, 1) := by decide +kernel
theorem dX0_hasOnlySolution_43 : decode cX0_hasOnlySolution 43 = .ok (.ireturn, 1) := by decide +kernel
theorem dX0_hasSameSolutionsAs_0 : decode cX0_hasSameSolutionsAs 0 = .ok (.aload_n 0, 1) := by decide +kernel
theorem dX0_hasSameSolutionsAs_1 : decode cX0_hasSameSolutionsAs 1 = .ok (.getfield 7, 3) := by decide +kernel
theorem dX0_hasSameSolutionsAs_4 : decode cX0_hasSameSolutionsAs 4 = .ok (.aload_n 0, 1) := by decide +kernel
theorem dX0_hasSameSolutionsAs_5 : decode cX0_hasSameSolutionsAs 5 = .ok (.getfield 16, 3) := by decide +kernel
theorem dX0_hasSameSolutionsAs_8 : decode cX0_hasSameSolutionsAs 8 = .ok (.isub, 1) := by decide +kernel
theorem dX0_hasSameSolutionsAs_9 : decode cX0_hasSameSolutionsAs 9 = .ok (.i2l, 1) := by decide +kernel
theorem dX0_hasSameSolutionsAs_10 : decode cX0_hasSameSolutionsAs 10 = .ok (.lstore_n 2, 1) := by decide +kernel
theorem dX0_hasSameSolutionsAs_11 : decode cX0_hasSameSolutionsAs 11 = .ok (.aload_n 0, 1) := by decide +kernel
theorem dX0_hasSameSolutionsAs_12 : decode cX0_hasSameSolutionsAs 12 = .ok (.getfield 19, 3) := by decide +kernel
theorem dX0_hasSameSolutionsAs_15 : decode cX0_hasSameSolutionsAs 15 = .ok (.aload_n 0, 1) := by decide +kernel
theorem dX0_hasSameSolutionsAs_16 : decode cX0_hasSameSolutionsAs 16 = .ok (.getfield 13, 3) := by decide +kernel
theorem dX0_hasSameSolutionsAs_19 : decode cX0_hasSameSolutionsAs 19 = .ok (.isub, 1) := by decide +kernel
theorem dX0_hasSameSolutionsAs_20 : decode cX0_hasSameSolutionsAs 20 = .ok (.i2l, 1) := by decide +kernel
theorem dX0_hasSameSolutionsAs_21 : decode cX0_hasSameSolutionsAs 21 = .ok (.lstore 4, 2) := by decide +kernel
theorem dX0_hasSameSolutionsAs_23 : decode cX0_hasSameSolutionsAs 23 = .ok (.aload_n 1, 1) := by decide +kernel
theorem dX0_hasSameSolutionsAs_24 : decode cX0_hasSameSolutionsAs 24 = .ok (.getfield 7, 3) := by decide +kernel
theorem dX0_hasSameSolutionsAs_27 : decode cX0_hasSameSolutionsAs 27 = .ok (.aload_n 1, 1) := by decide +kernel
theorem dX0_hasSameSolutionsAs_28 : decode cX0_hasSameSolutionsAs 28 = .ok (.getfield 16, 3) := by decide +kernel
theorem dX0_hasSameSolutionsAs_31 : decode cX0_hasSameSolutionsAs 31 = .ok (.isub, 1) := by decide +kernel
theorem dX0_hasSameSolutionsAs_32 : decode cX0_hasSameSolutionsAs 32 = .ok (.i2l, 1) := by decide +kernel
theorem dX0_hasSameSolutionsAs_33 : decode cX0_hasSameSolutionsAs 33 = .ok (.lstore 6, 2) := by decide +kernel
theorem dX0_hasSameSolutionsAs_35 : decode cX0_hasSameSolutionsAs 35 = .ok (.aload_n 1, 1) := by decide +kernel
theorem dX0_hasSameSolutionsAs_36 : decode cX0_hasSameSolutionsAs 36 = .ok (.getfield 19, 3) := by decide +kernel
theorem dX0_hasSameSolutionsAs_39 : decode cX0_hasSameSolutionsAs 39 = .ok (.aload_n 1, 1) := by decide +kernel
theorem dX0_hasSameSolutionsAs_40 : decode cX0_hasSameSolutionsAs 40 = .ok (.getfield 13, 3) := by decide +kernel
theorem dX0_hasSameSolutionsAs_43 : decode cX0_hasSameSolutionsAs 43 = .ok (.isub, 1) := by decide +kernel
theorem dX0_hasSameSolutionsAs_44 : decode cX0_hasSameSolutionsAs 44 = .ok (.i2l, 1) := by decide +kernel
theorem dX0_hasSameSolutionsAs_45 : decode cX0_hasSameSolutionsAs 45 = .ok (.lstore 8, 2) := by decide +kernel
theorem dX0_hasSameSolutionsAs_47 : decode cX0_hasSameSolutionsAs 47 = .ok (.lload_n 2, 1) := by decide +kernel
theorem dX0_hasSameSolutionsAs_48 : decode cX0_hasSameSolutionsAs 48 = .ok (.lconst 0, 1) := by decide +kernel
theorem dX0_hasSameSolutionsAs_49 : decode cX0_hasSameSolutionsAs 49 = .ok (.lcmp, 1) := by decide +kernel
theorem dX0_hasSameSolutionsAs_50 : decode cX0_hasSameSolutionsAs 50 = .ok (.ifCond .eq 10, 3) := by decide +kernel
theorem dX0_hasSameSolutionsAs_53 : decode cX0_hasSameSolutionsAs 53 = .ok (.lload 6, 2) := by decide +kernel
theorem dX0_hasSameSolutionsAs_55 : decode cX0_hasSameSolutionsAs 55 = .ok (.lconst 0, 1) := by decide +kernel
theorem dX0_hasSameSolutionsAs_56 : decode cX0_hasSameSolutionsAs 56 = .ok (.lcmp, 1) := by decide +kernel
theorem dX0_hasSameSolutionsAs_57 : decode cX0_hasSameSolutionsAs 57 = .ok (.ifCond .ne 43, 3) := by decide +kernel
theorem dX0_hasSameSolutionsAs_60 : decode cX0_hasSameSolutionsAs 60 = .ok (.lload_n 2, 1) := by decide +kernel
theorem dX0_hasSameSolutionsAs_61 : decode cX0_hasSameSolutionsAs 61 = .ok (.lload 6, 2) := by decide +kernel
theorem dX0_hasSameSolutionsAs_63 : decode cX0_hasSameSolutionsAs 63 = .ok (.lcmp, 1) := by decide +kernel
theorem dX0_hasSameSolutionsAs_64 : decode cX0_hasSameSolutionsAs 64 = .ok (.ifCond .ne 34, 3) := by decide +kernel
theorem dX0_hasSameSolutionsAs_67 : decode cX0_hasSameSolutionsAs 67 = .ok (.lload 4, 2) := by decide +kernel
theorem dX0_hasSameSolutionsAs_69 : decode cX0_hasSameSolutionsAs 69 = .ok (.lconst 0, 1) := by decide +kernel
theorem dX0_hasSameSolutionsAs_70 : decode cX0_hasSameSolutionsAs 70 = .ok (.lcmp, 1) := by decide +kernel
theorem dX0_hasSameSolutionsAs_71 : decode cX0_hasSameSolutionsAs 71 = .ok (.ifCond .ne 7, 3) := by decide +kernel
theorem dX0_hasSameSolutionsAs_74 : decode cX0_hasSameSolutionsAs 74 = .ok (.iconst 1, 1) := by decide +kernel
theorem dX0_hasSameSolutionsAs_75 : decode cX0_hasSameSolutionsAs 75 = .ok (.goto 4, 3) := by decide +kernel
theorem dX0_hasSameSolutionsAs_78 : decode cX0_hasSameSolutionsAs 78 = .ok (.iconst 0, 1) := by decide +kernel
theorem dX0_hasSameSolutionsAs_79 : decode cX0_hasSameSolutionsAs 79 = .ok (.lload 8, 2) := by decide +kernel
theorem dX0_hasSameSolutionsAs_81 : decode cX0_hasSameSolutionsAs 81 = .ok (.lconst 0, 1) := by decide +kernel
theorem dX0_hasSameSolutionsAs_82 : decode cX0_hasSameSolutionsAs 82 = .ok (.lcmp, 1) := by decide +kernel
theorem dX0_hasSameSolutionsAs_83 : decode cX0_hasSameSolutionsAs 83 = .ok (.ifCond .ne 7, 3) := by decide +kernel
theorem dX0_hasSameSolutionsAs_86 : decode cX0_hasSameSolutionsAs 86 = .ok (.iconst 1, 1) := by decide +kernel
theorem dX0_hasSameSolutionsAs_87 : decode cX0_hasSameSolutionsAs 87 = .ok (.goto 4, 3) := by decide +kernel
theorem dX0_hasSameSolutionsAs_90 : decode cX0_hasSameSolutionsAs 90 = .ok (.iconst 0, 1) := by decide +kernel
theorem dX0_hasSameSolutionsAs_91 : decode cX0_hasSameSolutionsAs 91 = .ok (.if_icmp .ne 7, 3) := by decide +kernel
theorem dX0_hasSameSolutionsAs_94 : decode cX0_hasSameSolutionsAs 94 = .ok (.iconst 1, 1) := by decide +kernel
theorem dX0_hasSameSolutionsAs_95 : decode cX0_hasSameSolutionsAs 95 = .ok (.goto 4, 3) := by decide +kernel
theorem dX0_hasSameSolutionsAs_98 : decode cX0_hasSameSolutionsAs 98 = .ok (.iconst 0, 1) := by decide +kernel
theorem dX0_hasSameSolutionsAs_99 : decode cX0_hasSameSolutionsAs 99 = .ok (.ireturn, 1) := by decide +kernel
theorem dX0_hasSameSolutionsAs_100 : decode cX0_hasSameSolutionsAs 100 = .ok (.lload 4, 2) := by decide +kernel
theorem dX0_hasSameSolutionsAs_102 : decode cX0_hasSameSolutionsAs 102 = .ok (.lload 6, 2) := by decide +kernel
theorem dX0_hasSameSolutionsAs_104 : decode cX0_hasSameSolutionsAs 104 = .ok (.lmul, 1) := by decide +kernel
theorem dX0_hasSameSolutionsAs_105 : decode cX0_hasSameSolutionsAs 105 = .ok (.lload 8, 2) := by decide +kernel
theorem dX0_hasSameSolutionsAs_107 : decode cX0_hasSameSolutionsAs 107 = .ok (.lload_n 2, 1) := by decide +kernel
theorem dX0_hasSameSolutionsAs_108 : decode cX0_hasSameSolutionsAs 108 = .ok (.lmul, 1) := by decide +kernel
theorem dX0_hasSameSolutionsAs_109 : decode cX0_hasSameSolutionsAs 109 = .ok (.lcmp, 1) := by decide +kernel
theorem dX0_hasSameSolutionsAs_110 : decode cX0_hasSameSolutionsAs 110 = .ok (.ifCond .ne 7, 3) := by decide +kernel
theorem dX0_hasSameSolutionsAs_113 : decode cX0_hasSameSolutionsAs 113 = .ok (.iconst 1, 1) := by decide +kernel
theorem dX0_hasSameSolutionsAs_114 : decode cX0_hasSameSolutionsAs 114 = .ok (.goto 4, 3) := by decide +kernel
theorem dX0_hasSameSolutionsAs_117 : decode cX0_hasSameSolutionsAs 117 = .ok (.iconst 0, 1) := by decide +kernel
theorem dX0_hasSameSolutionsAs_118 : decode cX0_hasSameSolutionsAs 118 = .ok (.ireturn, 1) := by decide +kernel
theorem dX0_applyRule_0 : decode cX0_applyRule 0 = .ok (.iload_n 1, 1) := by decide +kernel
theorem dX0_applyRule_1 : decode cX0_applyRule 1 = .ok (.tableswitch 74 0 4 #[35, 43, 51, 58, 66], 35) := by decide +kernel
theorem dX0_applyRule_36 : decode cX0_applyRule 36 = .ok (.aload_n 0, 1) := by decide +kernel
theorem dX0_applyRule_37 : decode cX0_applyRule 37 = .ok (.iload_n 2, 1) := by decide +kernel
theorem dX0_applyRule_38 : decode cX0_applyRule 38 = .ok (.invokevirtual 22, 3) := by decide +kernel
theorem dX0_applyRule_41 : decode cX0_applyRule 41 = .ok (.goto 34, 3) := by decide +kernel
theorem dX0_applyRule_44 : decode cX0_applyRule 44 = .ok (.aload_n 0, 1) := by decide +kernel
theorem dX0_applyRule_45 : decode cX0_applyRule 45 = .ok (.iload_n 2, 1) := by decide +kernel
theorem dX0_applyRule_46 : decode cX0_applyRule 46 = .ok (.invokevirtual 26, 3) := by decide +kernel
theorem dX0_applyRule_49 : decode cX0_applyRule 49 = .ok (.goto 26, 3) := by decide +kernel
theorem dX0_applyRule_52 : decode cX0_applyRule 52 = .ok (.aload_n 0, 1) := by decide +kernel
theorem dX0_applyRule_53 : decode cX0_applyRule 53 = .ok (.invokevirtual 29, 3) := by decide +kernel
theorem dX0_applyRule_56 : decode cX0_applyRule 56 = .ok (.goto 19, 3) := by decide +kernel
theorem dX0_applyRule_59 : decode cX0_applyRule 59 = .ok (.aload_n 0, 1) := by decide +kernel
theorem dX0_applyRule_60 : decode cX0_applyRule 60 = .ok (.iload_n 2, 1) := by decide +kernel
theorem dX0_applyRule_61 : decode cX0_applyRule 61 = .ok (.invokevirtual 32, 3) := by decide +kernel
theorem dX0_applyRule_64 : decode cX0_applyRule 64 = .ok (.goto 11, 3) := by decide +kernel
theorem dX0_applyRule_67 : decode cX0_applyRule 67 = .ok (.aload_n 0, 1) := by decide +kernel
theorem dX0_applyRule_68 : decode cX0_applyRule 68 = .ok (.iload_n 2, 1) := by decide +kernel
theorem dX0_applyRule_69 : decode cX0_applyRule 69 = .ok (.invokevirtual 35, 3) := by decide +kernel
theorem dX0_applyRule_72 : decode cX0_applyRule 72 = .ok (.goto 3, 3) := by decide +kernel
theorem dX0_applyRule_75 : decode cX0_applyRule 75 = .ok (.return_, 1) := by decide +kernel
theorem dX0_takeBRight_0 : decode cX0_takeBRight 0 = .ok (.aload_n 0, 1) := by decide +kernel
theorem dX0_takeBRight_1 : decode cX0_takeBRight 1 = .ok (.iload_n 1, 1) := by decide +kernel
theorem dX0_takeBRight_2 : decode cX0_takeBRight 2 = .ok (.ifCond .eq 15, 3) := by decide +kernel
theorem dX0_takeBRight_5 : decode cX0_takeBRight 5 = .ok (.aload_n 0, 1) := by decide +kernel
theorem dX0_takeBRight_6 : decode cX0_takeBRight 6 = .ok (.getfield 19, 3) := by decide +kernel
theorem dX0_takeBRight_9 : decode cX0_takeBRight 9 = .ok (.aload_n 0, 1) := by decide +kernel
theorem dX0_takeBRight_10 : decode cX0_takeBRight 10 = .ok (.getfield 13, 3) := by decide +kernel
theorem dX0_takeBRight_13 : decode cX0_takeBRight 13 = .ok (.iadd, 1) := by decide +kernel
theorem dX0_takeBRight_14 : decode cX0_takeBRight 14 = .ok (.goto 12, 3) := by decide +kernel
theorem dX0_takeBRight_17 : decode cX0_takeBRight 17 = .ok (.aload_n 0, 1) := by decide +kernel
theorem dX0_takeBRight_18 : decode cX0_takeBRight 18 = .ok (.getfield 19, 3) := by decide +kernel
theorem dX0_takeBRight_21 : decode cX0_takeBRight 21 = .ok (.aload_n 0, 1) := by decide +kernel
theorem dX0_takeBRight_22 : decode cX0_takeBRight 22 = .ok (.getfield 13, 3) := by decide +kernel
theorem dX0_takeBRight_25 : decode cX0_takeBRight 25 = .ok (.isub, 1) := by decide +kernel
theorem dX0_takeBRight_26 : decode cX0_takeBRight 26 = .ok (.putfield 19, 3) := by decide +kernel
theorem dX0_takeBRight_29 : decode cX0_takeBRight 29 = .ok (.aload_n 0, 1) := by decide +kernel
theorem dX0_takeBRight_30 : decode cX0_takeBRight 30 = .ok (.iconst 0, 1) := by decide +kernel
theorem dX0_takeBRight_31 : decode cX0_takeBRight 31 = .ok (.putfield 13, 3) := by decide +kernel
theorem dX0_takeBRight_34 : decode cX0_takeBRight 34 = .ok (.return_, 1) := by decide +kernel
theorem dX0_takeCLeft_0 : decode cX0_takeCLeft 0 = .ok (.aload_n 0, 1) := by decide +kernel
theorem dX0_takeCLeft_1 : decode cX0_takeCLeft 1 = .ok (.iload_n 1, 1) := by decide +kernel
theorem dX0_takeCLeft_2 : decode cX0_takeCLeft 2 = .ok (.ifCond .eq 15, 3) := by decide +kernel
theorem dX0_takeCLeft_5 : decode cX0_takeCLeft 5 = .ok (.aload_n 0, 1) := by decide +kernel
theorem dX0_takeCLeft_6 : decode cX0_takeCLeft 6 = .ok (.getfield 7, 3) := by decide +kernel
theorem dX0_takeCLeft_9 : decode cX0_takeCLeft 9 = .ok (.aload_n 0, 1) := by decide +kernel
theorem dX0_takeCLeft_10 : decode cX0_takeCLeft 10 = .ok (.getfield 16, 3) := by decide +kernel
theorem dX0_takeCLeft_13 : decode cX0_takeCLeft 13 = .ok (.iadd, 1) := by decide +kernel
theorem dX0_takeCLeft_14 : decode cX0_takeCLeft 14 = .ok (.goto 12, 3) := by decide +kernel
theorem dX0_takeCLeft_17 : decode cX0_takeCLeft 17 = .ok (.aload_n 0, 1) := by decide +kernel
theorem dX0_takeCLeft_18 : decode cX0_takeCLeft 18 = .ok (.getfield 7, 3) := by decide +kernel
theorem dX0_takeCLeft_21 : decode cX0_takeCLeft 21 = .ok (.aload_n 0, 1) := by decide +kernel
theorem dX0_takeCLeft_22 : decode cX0_takeCLeft 22 = .ok (.getfield 16, 3) := by decide +kernel
theorem dX0_takeCLeft_25 : decode cX0_takeCLeft 25 = .ok (.isub, 1) := by decide +kernel
theorem dX0_takeCLeft_26 : decode cX0_takeCLeft 26 = .ok (.putfield 7, 3) := by decide +kernel
theorem dX0_takeCLeft_29 : decode cX0_takeCLeft 29 = .ok (.aload_n 0, 1) := by decide +kernel
theorem dX0_takeCLeft_30 : decode cX0_takeCLeft 30 = .ok (.iconst 0, 1) := by decide +kernel
theorem dX0_takeCLeft_31 : decode cX0_takeCLeft 31 = .ok (.putfield 16, 3) := by decide +kernel
theorem dX0_takeCLeft_34 : decode cX0_takeCLeft 34 = .ok (.return_, 1) := by decide +kernel
theorem dX0_changeSides_0 : decode cX0_changeSides 0 = .ok (.aload_n 0, 1) := by decide +kernel
theorem dX0_changeSides_1 : decode cX0_changeSides 1 = .ok (.getfield 7, 3) := by decide +kernel
theorem dX0_changeSides_4 : decode cX0_changeSides 4 = .ok (.istore_n 1, 1) := by decide +kernel
theorem dX0_changeSides_5 : decode cX0_changeSides 5 = .ok (.aload_n 0, 1) := by decide +kernel
theorem dX0_changeSides_6 : decode cX0_changeSides 6 = .ok (.getfield 13, 3) := by decide +kernel
theorem dX0_changeSides_9 : decode cX0_changeSides 9 = .ok (.istore_n 2, 1) := by decide +kernel
theorem dX0_changeSides_10 : decode cX0_changeSides 10 = .ok (.aload_n 0, 1) := by decide +kernel
theorem dX0_changeSides_11 : decode cX0_changeSides 11 = .ok (.aload_n 0, 1) := by decide +kernel
theorem dX0_changeSides_12 : decode cX0_changeSides 12 = .ok (.getfield 16, 3) := by decide +kernel
theorem dX0_changeSides_15 : decode cX0_changeSides 15 = .ok (.putfield 7, 3) := by decide +kernel
theorem dX0_changeSides_18 : decode cX0_changeSides 18 = .ok (.aload_n 0, 1) := by decide +kernel
theorem dX0_changeSides_19 : decode cX0_changeSides 19 = .ok (.aload_n 0, 1) := by decide +kernel
theorem dX0_changeSides_20 : decode cX0_changeSides 20 = .ok (.getfield 19, 3) := by decide +kernel
theorem dX0_changeSides_23 : decode cX0_changeSides 23 = .ok (.putfield 13, 3) := by decide +kernel
theorem dX0_changeSides_26 : decode cX0_changeSides 26 = .ok (.aload_n 0, 1) := by decide +kernel
theorem dX0_changeSides_27 : decode cX0_changeSides 27 = .ok (.iload_n 1, 1) := by decide +kernel
theorem dX0_changeSides_28 : decode cX0_changeSides 28 = .ok (.putfield 16, 3) := by decide +kernel
theorem dX0_changeSides_31 : decode cX0_changeSides 31 = .ok (.aload_n 0, 1) := by decide +kernel
theorem dX0_changeSides_32 : decode cX0_changeSides 32 = .ok (.iload_n 2, 1) := by decide +kernel
theorem dX0_changeSides_33 : decode cX0_changeSides 33 = .ok (.putfield 19, 3) := by decide +kernel
theorem dX0_changeSides_36 : decode cX0_changeSides 36 = .ok (.return_, 1) := by decide +kernel
theorem dX0_changeSigns_0 : decode cX0_changeSigns 0 = .ok (.aload_n 0, 1) := by decide +kernel
theorem dX0_changeSigns_1 : decode cX0_changeSigns 1 = .ok (.aload_n 0, 1) := by decide +kernel
theorem dX0_changeSigns_2 : decode cX0_changeSigns 2 = .ok (.getfield 7, 3) := by decide +kernel
theorem dX0_changeSigns_5 : decode cX0_changeSigns 5 = .ok (.ineg, 1) := by decide +kernel
theorem dX0_changeSigns_6 : decode cX0_changeSigns 6 = .ok (.putfield 7, 3) := by decide +kernel
theorem dX0_changeSigns_9 : decode cX0_changeSigns 9 = .ok (.aload_n 0, 1) := by decide +kernel
theorem dX0_changeSigns_10 : decode cX0_changeSigns 10 = .ok (.aload_n 0, 1) := by decide +kernel
theorem dX0_changeSigns_11 : decode cX0_changeSigns 11 = .ok (.getfield 13, 3) := by decide +kernel
theorem dX0_changeSigns_14 : decode cX0_changeSigns 14 = .ok (.ineg, 1) := by decide +kernel
theorem dX0_changeSigns_15 : decode cX0_changeSigns 15 = .ok (.putfield 13, 3) := by decide +kernel
theorem dX0_changeSigns_18 : decode cX0_changeSigns 18 = .ok (.iload_n 1, 1) := by decide +kernel
theorem dX0_changeSigns_19 : decode cX0_changeSigns 19 = .ok (.ifCond .ne 21, 3) := by decide +kernel
theorem dX0_changeSigns_22 : decode cX0_changeSigns 22 = .ok (.aload_n 0, 1) := by decide +kernel
theorem dX0_changeSigns_23 : decode cX0_changeSigns 23 = .ok (.aload_n 0, 1) := by decide +kernel
theorem dX0_changeSigns_24 : decode cX0_changeSigns 24 = .ok (.getfield 16, 3) := by decide +kernel
theorem dX0_changeSigns_27 : decode cX0_changeSigns 27 = .ok (.ineg, 1) := by decide +kernel
theorem dX0_changeSigns_28 : decode cX0_changeSigns 28 = .ok (.putfield 16, 3) := by decide +kernel
theorem dX0_changeSigns_31 : decode cX0_changeSigns 31 = .ok (.aload_n 0, 1) := by decide +kernel
theorem dX0_changeSigns_32 : decode cX0_changeSigns 32 = .ok (.aload_n 0, 1) := by decide +kernel
theorem dX0_changeSigns_33 : decode cX0_changeSigns 33 = .ok (.getfield 19, 3) := by decide +kernel
theorem dX0_changeSigns_36 : decode cX0_changeSigns 36 = .ok (.ineg, 1) := by decide +kernel
theorem dX0_changeSigns_37 : decode cX0_changeSigns 37 = .ok (.putfield 19, 3) := by decide +kernel
theorem dX0_changeSigns_40 : decode cX0_changeSigns 40 = .ok (.return_, 1) := by decide +kernel
theorem dX0_divide_0 : decode cX0_divide 0 = .ok (.aload_n 0, 1) := by decide +kernel
theorem dX0_divide_1 : decode cX0_divide 1 = .ok (.getfield 13, 3) := by decide +kernel
theorem dX0_divide_4 : decode cX0_divide 4 = .ok (.ifCond .ne 29, 3) := by decide +kernel
theorem dX0_divide_7 : decode cX0_divide 7 = .ok (.aload_n 0, 1) := by decide +kernel
theorem dX0_divide_8 : decode cX0_divide 8 = .ok (.getfield 16, 3) := by decide +kernel
theorem dX0_divide_11 : decode cX0_divide 11 = .ok (.ifCond .ne 22, 3) := by decide +kernel
theorem dX0_divide_14 : decode cX0_divide 14 = .ok (.aload_n 0, 1) := by decide +kernel
theorem dX0_divide_15 : decode cX0_divide 15 = .ok (.getfield 7, 3) := by decide +kernel
theorem dX0_divide_18 : decode cX0_divide 18 = .ok (.ifCond .eq 15, 3) := by decide +kernel
theorem dX0_divide_21 : decode cX0_divide 21 = .ok (.aload_n 0, 1) := by decide +kernel
theorem dX0_divide_22 : decode cX0_divide 22 = .ok (.getfield 19, 3) := by decide +kernel
theorem dX0_divide_25 : decode cX0_divide 25 = .ok (.aload_n 0, 1) := by decide +kernel
theorem dX0_divide_26 : decode cX0_divide 26 = .ok (.getfield 7, 3) := by decide +kernel
theorem dX0_divide_29 : decode cX0_divide 29 = .ok (.irem, 1) := by decide +kernel
theorem dX0_divide_30 : decode cX0_divide 30 = .ok (.ifCond .eq 4, 3) := by decide +kernel
theorem dX0_divide_33 : decode cX0_divide 33 = .ok (.return_, 1) := by decide +kernel
theorem dX0_divide_34 : decode cX0_divide 34 = .ok (.iload_n 1, 1) := by decide +kernel
theorem dX0_divide_35 : decode cX0_divide 35 = .ok (.ifCond .ne 16, 3) := by decide +kernel
theorem dX0_divide_38 : decode cX0_divide 38 = .ok (.aload_n 0, 1) := by decide +kernel
theorem dX0_divide_39 : decode cX0_divide 39 = .ok (.dup, 1) := by decide +kernel
theorem dX0_divide_40 : decode cX0_divide 40 = .ok (.getfield 19, 3) := by decide +kernel
theorem dX0_divide_43 : decode cX0_divide 43 = .ok (.aload_n 0, 1) := by decide +kernel
theorem dX0_divide_44 : decode cX0_divide 44 = .ok (.getfield 7, 3) := by decide +kernel
theorem dX0_divide_47 : decode cX0_divide 47 = .ok (.idiv, 1) := by decide +kernel
theorem dX0_divide_48 : decode cX0_divide 48 = .ok (.putfield 19, 3) := by decide +kernel
theorem dX0_divide_51 : decode cX0_divide 51 = .ok (.aload_n 0, 1) := by decide +kernel
theorem dX0_divide_52 : decode cX0_divide 52 = .ok (.iconst 1, 1) := by decide +kernel
theorem dX0_divide_53 : decode cX0_divide 53 = .ok (.putfield 7, 3) := by decide +kernel
theorem dX0_divide_56 : decode cX0_divide 56 = .ok (.return_, 1) := by decide +kernel
theorem dX0_ruleToTry_0 : decode cX0_ruleToTry 0 = .ok (.aload_n 0, 1) := by decide +kernel
theorem dX0_ruleToTry_1 : decode cX0_ruleToTry 1 = .ok (.iconst 1, 1) := by decide +kernel
theorem dX0_ruleToTry_2 : decode cX0_ruleToTry 2 = .ok (.invokevirtual 38, 3) := by decide +kernel
theorem dX0_ruleToTry_5 : decode cX0_ruleToTry 5 = .ok (.ifCond .eq 5, 3) := by decide +kernel
theorem dX0_ruleToTry_8 : decode cX0_ruleToTry 8 = .ok (.iconst 1, 1) := by decide +kernel
theorem dX0_ruleToTry_9 : decode cX0_ruleToTry 9 = .ok (.ireturn, 1) := by decide +kernel
theorem dX0_ruleToTry_10 : decode cX0_ruleToTry 10 = .ok (.aload_n 0, 1) := by decide +kernel
theorem dX0_ruleToTry_11 : decode cX0_ruleToTry 11 = .ok (.iconst 0, 1) := by decide +kernel
theorem dX0_ruleToTry_12 : decode cX0_ruleToTry 12 = .ok (.invokevirtual 38, 3) := by decide +kernel
theorem dX0_ruleToTry_15 : decode cX0_ruleToTry 15 = .ok (.ifCond .eq 5, 3) := by decide +kernel
theorem dX0_ruleToTry_18 : decode cX0_ruleToTry 18 = .ok (.iconst 0, 1) := by decide +kernel
theorem dX0_ruleToTry_19 : decode cX0_ruleToTry 19 = .ok (.ireturn, 1) := by decide +kernel
theorem dX0_ruleToTry_20 : decode cX0_ruleToTry 20 = .ok (.aload_n 0, 1) := by decide +kernel
theorem dX0_ruleToTry_21 : decode cX0_ruleToTry 21 = .ok (.iconst 4, 1) := by decide +kernel
theorem dX0_ruleToTry_22 : decode cX0_ruleToTry 22 = .ok (.invokevirtual 38, 3) := by decide +kernel
theorem dX0_ruleToTry_25 : decode cX0_ruleToTry 25 = .ok (.ifCond .eq 7, 3) := by decide +kernel
theorem dX0_ruleToTry_28 : decode cX0_ruleToTry 28 = .ok (.iconst 4, 1) := by decide +kernel
theorem dX0_ruleToTry_29 : decode cX0_ruleToTry 29 = .ok (.goto 4, 3) := by decide +kernel
theorem dX0_ruleToTry_32 : decode cX0_ruleToTry 32 = .ok (.iconst 3, 1) := by decide +kernel
theorem dX0_ruleToTry_33 : decode cX0_ruleToTry 33 = .ok (.ireturn, 1) := by decide +kernel
theorem dX0_isChangedBy_0 : decode cX0_isChangedBy 0 = .ok (.new 8, 3) := by decide +kernel
theorem dX0_isChangedBy_3 : decode cX0_isChangedBy 3 = .ok (.dup, 1) := by decide +kernel
theorem dX0_isChangedBy_4 : decode cX0_isChangedBy 4 = .ok (.aload_n 0, 1) := by decide +kernel
theorem dX0_isChangedBy_5 : decode cX0_isChangedBy 5 = .ok (.getfield 7, 3) := by decide +kernel
theorem dX0_isChangedBy_8 : decode cX0_isChangedBy 8 = .ok (.aload_n 0, 1) := by decide +kernel
theorem dX0_isChangedBy_9 : decode cX0_isChangedBy 9 = .ok (.getfield 13, 3) := by decide +kernel
theorem dX0_isChangedBy_12 : decode cX0_isChangedBy 12 = .ok (.aload_n 0, 1) := by decide +kernel
theorem dX0_isChangedBy_13 : decode cX0_isChangedBy 13 = .ok (.getfield 16, 3) := by decide +kernel
theorem dX0_isChangedBy_16 : decode cX0_isChangedBy 16 = .ok (.aload_n 0, 1) := by decide +kernel
theorem dX0_isChangedBy_17 : decode cX0_isChangedBy 17 = .ok (.getfield 19, 3) := by decide +kernel
theorem dX0_isChangedBy_20 : decode cX0_isChangedBy 20 = .ok (.invokespecial 42, 3) := by decide +kernel
theorem dX0_isChangedBy_23 : decode cX0_isChangedBy 23 = .ok (.astore_n 2, 1) := by decide +kernel
theorem dX0_isChangedBy_24 : decode cX0_isChangedBy 24 = .ok (.aload_n 2, 1) := by decide +kernel
theorem dX0_isChangedBy_25 : decode cX0_isChangedBy 25 = .ok (.iload_n 1, 1) := by decide +kernel
theorem dX0_isChangedBy_26 : decode cX0_isChangedBy 26 = .ok (.iconst 0, 1) := by decide +kernel
theorem dX0_isChangedBy_27 : decode cX0_isChangedBy 27 = .ok (.invokevirtual 45, 3) := by decide +kernel
theorem dX0_isChangedBy_30 : decode cX0_isChangedBy 30 = .ok (.aload_n 2, 1) := by decide +kernel
theorem dX0_isChangedBy_31 : decode cX0_isChangedBy 31 = .ok (.aload_n 0, 1) := by decide +kernel
theorem dX0_isChangedBy_32 : decode cX0_isChangedBy 32 = .ok (.invokevirtual 49, 3) := by decide +kernel
theorem dX0_isChangedBy_35 : decode cX0_isChangedBy 35 = .ok (.ifCond .ne 7, 3) := by decide +kernel
theorem dX0_isChangedBy_38 : decode cX0_isChangedBy 38 = .ok (.iconst 1, 1) := by decide +kernel
theorem dX0_isChangedBy_39 : decode cX0_isChangedBy 39 = .ok (.goto 4, 3) := by decide +kernel
theorem dX0_isChangedBy_42 : decode cX0_isChangedBy 42 = .ok (.iconst 0, 1) := by decide +kernel
theorem dX0_isChangedBy_43 : decode cX0_isChangedBy 43 = .ok (.ireturn, 1) := by decide +kernel
theorem dX1_init_0 : decode cX1_init 0 = .ok (.aload_n 0, 1) := by decide +kernel
theorem dX1_init_1 : decode cX1_init 1 = .ok (.invokespecial 1, 3) := by decide +kernel
theorem dX1_init_4 : decode cX1_init 4 = .ok (.aload_n 0, 1) := by decide +kernel
theorem dX1_init_5 : decode cX1_init 5 = .ok (.iload_n 1, 1) := by decide +kernel
theorem dX1_init_6 : decode cX1_init 6 = .ok (.putfield 7, 3) := by decide +kernel
theorem dX1_init_9 : decode cX1_init 9 = .ok (.aload_n 0, 1) := by decide +kernel
theorem dX1_init_10 : decode cX1_init 10 = .ok (.iload_n 2, 1) := by decide +kernel
theorem dX1_init_11 : decode cX1_init 11 = .ok (.bipush 14, 2) := by decide +kernel
theorem dX1_init_13 : decode cX1_init 13 = .ok (.idiv, 1) := by decide +kernel
theorem dX1_init_14 : decode cX1_init 14 = .ok (.bipush 10, 2) := by decide +kernel
theorem dX1_init_16 : decode cX1_init 16 = .ok (.irem, 1) := by decide +kernel
theorem dX1_init_17 : decode cX1_init 17 = .ok (.iconst 4, 1) := by decide +kernel
theorem dX1_init_18 : decode cX1_init 18 = .ok (.isub, 1) := by decide +kernel
theorem dX1_init_19 : decode cX1_init 19 = .ok (.putfield 13, 3) := by decide +kernel
theorem dX1_init_22 : decode cX1_init 22 = .ok (.iconst 2, 1) := by decide +kernel
theorem dX1_init_23 : decode cX1_init 23 = .ok (.iload_n 2, 1) := by decide +kernel
theorem dX1_init_24 : decode cX1_init 24 = .ok (.bipush 7, 2) := by decide +kernel
theorem dX1_init_26 : decode cX1_init 26 = .ok (.irem, 1) := by decide +kernel
theorem dX1_init_27 : decode cX1_init 27 = .ok (.iadd, 1) := by decide +kernel
theorem dX1_init_28 : decode cX1_init 28 = .ok (.istore_n 3, 1) := by decide +kernel
theorem dX1_init_29 : decode cX1_init 29 = .ok (.iload_n 2, 1) := by decide +kernel
theorem dX1_init_30 : decode cX1_init 30 = .ok (.sipush 140, 3) := by decide +kernel
theorem dX1_init_33 : decode cX1_init 33 = .ok (.idiv, 1) := by decide +kernel
theorem dX1_init_34 : decode cX1_init 34 = .ok (.bipush 9, 2) := by decide +kernel
theorem dX1_init_36 : decode cX1_init 36 = .ok (.irem, 1) := by decide +kernel
theorem dX1_init_37 : decode cX1_init 37 = .ok (.iconst 4, 1) := by decide +kernel
theorem dX1_init_38 : decode cX1_init 38 = .ok (.isub, 1) := by decide +kernel
theorem dX1_init_39 : decode cX1_init 39 = .ok (.istore 4, 2) := by decide +kernel
theorem dX1_init_41 : decode cX1_init 41 = .ok (.iload_n 2, 1) := by decide +kernel
theorem dX1_init_42 : decode cX1_init 42 = .ok (.bipush 7, 2) := by decide +kernel
theorem dX1_init_44 : decode cX1_init 44 = .ok (.idiv, 1) := by decide +kernel
theorem dX1_init_45 : decode cX1_init 45 = .ok (.iconst 2, 1) := by decide +kernel
theorem dX1_init_46 : decode cX1_init 46 = .ok (.irem, 1) := by decide +kernel
theorem dX1_init_47 : decode cX1_init 47 = .ok (.istore 5, 2) := by decide +kernel
theorem dX1_init_49 : decode cX1_init 49 = .ok (.aload_n 0, 1) := by decide +kernel
theorem dX1_init_50 : decode cX1_init 50 = .ok (.new 16, 3) := by decide +kernel
theorem dX1_init_53 : decode cX1_init 53 = .ok (.dup, 1) := by decide +kernel
theorem dX1_init_54 : decode cX1_init 54 = .ok (.iload_n 3, 1) := by decide +kernel
theorem dX1_init_55 : decode cX1_init 55 = .ok (.iload 4, 2) := by decide +kernel
theorem dX1_init_57 : decode cX1_init 57 = .ok (.iload 5, 2) := by decide +kernel
theorem dX1_init_59 : decode cX1_init 59 = .ok (.iload_n 3, 1) := by decide +kernel
theorem dX1_init_60 : decode cX1_init 60 = .ok (.aload_n 0, 1) := by decide +kernel
theorem dX1_init_61 : decode cX1_init 61 = .ok (.getfield 13, 3) := by decide +kernel
theorem dX1_init_64 : decode cX1_init 64 = .ok (.imul, 1) := by decide +kernel
theorem dX1_init_65 : decode cX1_init 65 = .ok (.iload 4, 2) := by decide +kernel
theorem dX1_init_67 : decode cX1_init 67 = .ok (.iadd, 1) := by decide +kernel
theorem dX1_init_68 : decode cX1_init 68 = .ok (.iload 5, 2) := by decide +kernel
theorem dX1_init_70 : decode cX1_init 70 = .ok (.aload_n 0, 1) := by decide +kernel
theorem dX1_init_71 : decode cX1_init 71 = .ok (.getfield 13, 3) := by decide +kernel
theorem dX1_init_74 : decode cX1_init 74 = .ok (.imul, 1) := by decide +kernel
theorem dX1_init_75 : decode cX1_init 75 = .ok (.isub, 1) := by decide +kernel
theorem dX1_init_76 : decode cX1_init 76 = .ok (.invokespecial 18, 3) := by decide +kernel
theorem dX1_init_79 : decode cX1_init 79 = .ok (.putfield 21, 3) := by decide +kernel
theorem dX1_init_82 : decode cX1_init 82 = .ok (.return_, 1) := by decide +kernel
theorem dX1_isFaultless_0 : decode cX1_isFaultless 0 = .ok (.aload_n 0, 1) := by decide +kernel
theorem dX1_isFaultless_1 : decode cX1_isFaultless 1 = .ok (.getfield 25, 3) := by decide +kernel
theorem dX1_isFaultless_4 : decode cX1_isFaultless 4 = .ok (.ifCond .ne 14, 3) := by decide +kernel
theorem dX1_isFaultless_7 : decode cX1_isFaultless 7 = .ok (.aload_n 0, 1) := by decide +kernel
theorem dX1_isFaultless_8 : decode cX1_isFaultless 8 = .ok (.getfield 28, 3) := by decide +kernel
theorem dX1_isFaultless_11 : decode cX1_isFaultless 11 = .ok (.ifCond .ne 7, 3) := by decide +kernel
theorem dX1_isFaultless_14 : decode cX1_isFaultless 14 = .ok (.iconst 1, 1) := by decide +kernel
theorem dX1_isFaultless_15 : decode cX1_isFaultless 15 = .ok (.goto 4, 3) := by decide +kernel
theorem dX1_isFaultless_18 : decode cX1_isFaultless 18 = .ok (.iconst 0, 1) := by decide +kernel
theorem dX1_isFaultless_19 : decode cX1_isFaultless 19 = .ok (.ireturn, 1) := by decide +kernel
theorem dX2_init_0 : decode cX2_init 0 = .ok (.aload_n 0, 1) := by decide +kernel
theorem dX2_init_1 : decode cX2_init 1 = .ok (.invokespecial 3, 3) := by decide +kernel
theorem dX2_init_4 : decode cX2_init 4 = .ok (.aload_n 0, 1) := by decide +kernel
theorem dX2_init_5 : decode cX2_init 5 = .ok (.iconst 3, 1) := by decide +kernel
theorem dX2_init_6 : decode cX2_init 6 = .ok (.anewarray 11, 3) := by decide +kernel
theorem dX2_init_9 : decode cX2_init 9 = .ok (.putfield 13, 3) := by decide +kernel
theorem dX2_init_12 : decode cX2_init 12 = .ok (.aload_n 0, 1) := by decide +kernel
theorem dX2_init_13 : decode cX2_init 13 = .ok (.iconst 3, 1) := by decide +kernel
theorem dX2_init_14 : decode cX2_init 14 = .ok (.anewarray 11, 3) := by decide +kernel
theorem dX2_init_17 : decode cX2_init 17 = .ok (.putfield 17, 3) := by decide +kernel
theorem dX2_init_20 : decode cX2_init 20 = .ok (.iconst 0, 1) := by decide +kernel
theorem dX2_init_21 : decode cX2_init 21 = .ok (.istore_n 1, 1) := by decide +kernel
theorem dX2_init_22 : decode cX2_init 22 = .ok (.iload_n 1, 1) := by decide +kernel
theorem dX2_init_23 : decode cX2_init 23 = .ok (.iconst 3, 1) := by decide +kernel
theorem dX2_init_24 : decode cX2_init 24 = .ok (.if_icmp .ge 43, 3) := by decide +kernel
theorem dX2_init_27 : decode cX2_init 27 = .ok (.aload_n 0, 1) := by decide +kernel
theorem dX2_init_28 : decode cX2_init 28 = .ok (.getfield 13, 3) := by decide +kernel
theorem dX2_init_31 : decode cX2_init 31 = .ok (.iload_n 1, 1) := by decide +kernel
theorem dX2_init_32 : decode cX2_init 32 = .ok (.new 11, 3) := by decide +kernel
theorem dX2_init_35 : decode cX2_init 35 = .ok (.dup, 1) := by decide +kernel
theorem dX2_init_36 : decode cX2_init 36 = .ok (.iconst 0, 1) := by decide +kernel
theorem dX2_init_37 : decode cX2_init 37 = .ok (.iconst 0, 1) := by decide +kernel
theorem dX2_init_38 : decode cX2_init 38 = .ok (.iconst 0, 1) := by decide +kernel
theorem dX2_init_39 : decode cX2_init 39 = .ok (.iconst 0, 1) := by decide +kernel
theorem dX2_init_40 : decode cX2_init 40 = .ok (.invokespecial 20, 3) := by decide +kernel
theorem dX2_init_43 : decode cX2_init 43 = .ok (.aastore, 1) := by decide +kernel
theorem dX2_init_44 : decode cX2_init 44 = .ok (.aload_n 0, 1) := by decide +kernel
theorem dX2_init_45 : decode cX2_init 45 = .ok (.getfield 17, 3) := by decide +kernel
theorem dX2_init_48 : decode cX2_init 48 = .ok (.iload_n 1, 1) := by decide +kernel
theorem dX2_init_49 : decode cX2_init 49 = .ok (.new 11, 3) := by decide +kernel
theorem dX2_init_52 : decode cX2_init 52 = .ok (.dup, 1) := by decide +kernel
theorem dX2_init_53 : decode cX2_init 53 = .ok (.iconst 0, 1) := by decide +kernel
theorem dX2_init_54 : decode cX2_init 54 = .ok (.iconst 0, 1) := by decide +kernel
theorem dX2_init_55 : decode cX2_init 55 = .ok (.iconst 0, 1) := by decide +kernel
theorem dX2_init_56 : decode cX2_init 56 = .ok (.iconst 0, 1) := by decide +kernel
theorem dX2_init_57 : decode cX2_init 57 = .ok (.invokespecial 20, 3) := by decide +kernel
theorem dX2_init_60 : decode cX2_init 60 = .ok (.aastore, 1) := by decide +kernel
theorem dX2_init_61 : decode cX2_init 61 = .ok (.iinc 1 1, 3) := by decide +kernel
theorem dX2_init_64 : decode cX2_init 64 = .ok (.goto (-42), 3) := by decide +kernel
theorem dX2_init_67 : decode cX2_init 67 = .ok (.return_, 1) := by decide +kernel
theorem dX2_explanationOf_0 : decode cX2_explanationOf 0 = .ok (.aload_n 0, 1) := by decide +kernel
theorem dX2_explanationOf_1 : decode cX2_explanationOf 1 = .ok (.aload_n 1, 1) := by decide +kernel
theorem dX2_explanationOf_2 : decode cX2_explanationOf 2 = .ok (.getfield 23, 3) := by decide +kernel
theorem dX2_explanationOf_5 : decode cX2_explanationOf 5 = .ok (.putfield 29, 3) := by decide +kernel
theorem dX2_explanationOf_8 : decode cX2_explanationOf 8 = .ok (.aload_n 0, 1) := by decide +kernel
theorem dX2_explanationOf_9 : decode cX2_explanationOf 9 = .ok (.iconst (-1), 1) := by decide +kernel
theorem dX2_explanationOf_10 : decode cX2_explanationOf 10 = .ok (.putfield 32, 3) := by decide +kernel
theorem dX2_explanationOf_13 : decode cX2_explanationOf 13 = .ok (.aload_n 0, 1) := by decide +kernel
theorem dX2_explanationOf_14 : decode cX2_explanationOf 14 = .ok (.aload_n 1, 1) := by decide +kernel
theorem dX2_explanationOf_15 : decode cX2_explanationOf 15 = .ok (.getfield 36, 3) := by decide +kernel
theorem dX2_explanationOf_18 : decode cX2_explanationOf 18 = .ok (.iconst 0, 1) := by decide +kernel
theorem dX2_explanationOf_19 : decode cX2_explanationOf 19 = .ok (.iconst 0, 1) := by decide +kernel
theorem dX2_explanationOf_20 : decode cX2_explanationOf 20 = .ok (.invokestatic 39, 3) := by decide +kernel
theorem dX2_explanationOf_23 : decode cX2_explanationOf 23 = .ok (.aload_n 0, 1) := by decide +kernel
theorem dX2_explanationOf_24 : decode cX2_explanationOf 24 = .ok (.getfield 32, 3) := by decide +kernel
theorem dX2_explanationOf_27 : decode cX2_explanationOf 27 = .ok (.ireturn, 1) := by decide +kernel
theorem dX2_seek_0 : decode cX2_seek 0 = .ok (.aload_n 0, 1) := by decide +kernel
theorem dX2_seek_1 : decode cX2_seek 1 = .ok (.iload_n 3, 1) := by decide +kernel
theorem dX2_seek_2 : decode cX2_seek 2 = .ok (.invokevirtual 43, 3) := by decide +kernel
theorem dX2_seek_5 : decode cX2_seek 5 = .ok (.ifCond .ne 4, 3) := by decide +kernel
theorem dX2_seek_8 : decode cX2_seek 8 = .ok (.return_, 1) := by decide +kernel
theorem dX2_seek_9 : decode cX2_seek 9 = .ok (.aload_n 1, 1) := by decide +kernel
theorem dX2_seek_10 : decode cX2_seek 10 = .ok (.aload_n 0, 1) := by decide +kernel
theorem dX2_seek_11 : decode cX2_seek 11 = .ok (.getfield 29, 3) := by decide +kernel
theorem dX2_seek_14 : decode cX2_seek 14 = .ok (.invokevirtual 47, 3) := by decide +kernel
theorem dX2_seek_17 : decode cX2_seek 17 = .ok (.ifCond .eq 9, 3) := by decide +kernel
theorem dX2_seek_20 : decode cX2_seek 20 = .ok (.aload_n 0, 1) := by decide +kernel
theorem dX2_seek_21 : decode cX2_seek 21 = .ok (.iload_n 3, 1) := by decide +kernel
theorem dX2_seek_22 : decode cX2_seek 22 = .ok (.putfield 32, 3) := by decide +kernel
theorem dX2_seek_25 : decode cX2_seek 25 = .ok (.return_, 1) := by decide +kernel
theorem dX2_seek_26 : decode cX2_seek 26 = .ok (.iload_n 2, 1) := by decide +kernel
theorem dX2_seek_27 : decode cX2_seek 27 = .ok (.ifCond .lt 8, 3) := by decide +kernel
theorem dX2_seek_30 : decode cX2_seek 30 = .ok (.iload_n 2, 1) := by decide +kernel
theorem dX2_seek_31 : decode cX2_seek 31 = .ok (.iconst 3, 1) := by decide +kernel
theorem dX2_seek_32 : decode cX2_seek 32 = .ok (.if_icmp .lt 4, 3) := by decide +kernel
theorem dX2_seek_35 : decode cX2_seek 35 = .ok (.return_, 1) := by decide +kernel
theorem dX2_seek_36 : decode cX2_seek 36 = .ok (.aload_n 0, 1) := by decide +kernel
theorem dX2_seek_37 : decode cX2_seek 37 = .ok (.getfield 13, 3) := by decide +kernel
theorem dX2_seek_40 : decode cX2_seek 40 = .ok (.iload_n 2, 1) := by decide +kernel
theorem dX2_seek_41 : decode cX2_seek 41 = .ok (.aaload, 1) := by decide +kernel
theorem dX2_seek_42 : decode cX2_seek 42 = .ok (.astore 4, 2) := by decide +kernel
theorem dX2_seek_44 : decode cX2_seek 44 = .ok (.aload_n 0, 1) := by decide +kernel
theorem dX2_seek_45 : decode cX2_seek 45 = .ok (.getfield 17, 3) := by decide +kernel
theorem dX2_seek_48 : decode cX2_seek 48 = .ok (.iload_n 2, 1) := by decide +kernel
theorem dX2_seek_49 : decode cX2_seek 49 = .ok (.aaload, 1) := by decide +kernel
theorem dX2_seek_50 : decode cX2_seek 50 = .ok (.astore 5, 2) := by decide +kernel
theorem dX2_seek_52 : decode cX2_seek 52 = .ok (.iconst 0, 1) := by decide +kernel
theorem dX2_seek_53 : decode cX2_seek 53 = .ok (.istore 6, 2) := by decide +kernel
theorem dX2_seek_55 : decode cX2_seek 55 = .ok (.iload 6, 2) := by decide +kernel
theorem dX2_seek_57 : decode cX2_seek 57 = .ok (.iconst 5, 1) := by decide +kernel
theorem dX2_seek_58 : decode cX2_seek 58 = .ok (.if_icmp .ge 81, 3) := by decide +kernel
theorem dX2_seek_61 : decode cX2_seek 61 = .ok (.aload 4, 2) := by decide +kernel
theorem dX2_seek_63 : decode cX2_seek 63 = .ok (.aload_n 1, 1) := by decide +kernel
theorem dX2_seek_64 : decode cX2_seek 64 = .ok (.invokevirtual 51, 3) := by decide +kernel
theorem dX2_seek_67 : decode cX2_seek 67 = .ok (.aload 4, 2) := by decide +kernel
theorem dX2_seek_69 : decode cX2_seek 69 = .ok (.iload 6, 2) := by decide +kernel
theorem dX2_seek_71 : decode cX2_seek 71 = .ok (.iconst 0, 1) := by decide +kernel
theorem dX2_seek_72 : decode cX2_seek 72 = .ok (.invokevirtual 55, 3) := by decide +kernel
theorem dX2_seek_75 : decode cX2_seek 75 = .ok (.aload 5, 2) := by decide +kernel
theorem dX2_seek_77 : decode cX2_seek 77 = .ok (.aload_n 1, 1) := by decide +kernel
theorem dX2_seek_78 : decode cX2_seek 78 = .ok (.invokevirtual 51, 3) := by decide +kernel
theorem dX2_seek_81 : decode cX2_seek 81 = .ok (.aload 5, 2) := by decide +kernel
theorem dX2_seek_83 : decode cX2_seek 83 = .ok (.iload 6, 2) := by decide +kernel
theorem dX2_seek_85 : decode cX2_seek 85 = .ok (.iconst 1, 1) := by decide +kernel
theorem dX2_seek_86 : decode cX2_seek 86 = .ok (.invokevirtual 55, 3) := by decide +kernel
theorem dX2_seek_89 : decode cX2_seek 89 = .ok (.aload 4, 2) := by decide +kernel
theorem dX2_seek_91 : decode cX2_seek 91 = .ok (.aload_n 1, 1) := by decide +kernel
theorem dX2_seek_92 : decode cX2_seek 92 = .ok (.invokevirtual 47, 3) := by decide +kernel
theorem dX2_seek_95 : decode cX2_seek 95 = .ok (.ifCond .ne 13, 3) := by decide +kernel
theorem dX2_seek_98 : decode cX2_seek 98 = .ok (.aload_n 0, 1) := by decide +kernel
theorem dX2_seek_99 : decode cX2_seek 99 = .ok (.aload 4, 2) := by decide +kernel
theorem dX2_seek_101 : decode cX2_seek 101 = .ok (.iload_n 2, 1) := by decide +kernel
theorem dX2_seek_102 : decode cX2_seek 102 = .ok (.iconst 1, 1) := by decide +kernel
theorem dX2_seek_103 : decode cX2_seek 103 = .ok (.iadd, 1) := by decide +kernel
theorem dX2_seek_104 : decode cX2_seek 104 = .ok (.iload_n 3, 1) := by decide +kernel
theorem dX2_seek_105 : decode cX2_seek 105 = .ok (.invokestatic 39, 3) := by decide +kernel
theorem dX2_seek_108 : decode cX2_seek 108 = .ok (.aload 5, 2) := by decide +kernel
theorem dX2_seek_110 : decode cX2_seek 110 = .ok (.aload 4, 2) := by decide +kernel
theorem dX2_seek_112 : decode cX2_seek 112 = .ok (.invokevirtual 47, 3) := by decide +kernel
theorem dX2_seek_115 : decode cX2_seek 115 = .ok (.ifCond .ne 18, 3) := by decide +kernel
theorem dX2_seek_118 : decode cX2_seek 118 = .ok (.aload_n 0, 1) := by decide +kernel
theorem dX2_seek_119 : decode cX2_seek 119 = .ok (.aload 5, 2) := by decide +kernel
theorem dX2_seek_121 : decode cX2_seek 121 = .ok (.iload_n 2, 1) := by decide +kernel
theorem dX2_seek_122 : decode cX2_seek 122 = .ok (.iconst 1, 1) := by decide +kernel
theorem dX2_seek_123 : decode cX2_seek 123 = .ok (.iadd, 1) := by decide +kernel
theorem dX2_seek_124 : decode cX2_seek 124 = .ok (.iload_n 3, 1) := by decide +kernel
theorem dX2_seek_125 : decode cX2_seek 125 = .ok (.iconst 1, 1) := by decide +kernel
theorem dX2_seek_126 : decode cX2_seek 126 = .ok (.iload 6, 2) := by decide +kernel
theorem dX2_seek_128 : decode cX2_seek 128 = .ok (.ishl, 1) := by decide +kernel
theorem dX2_seek_129 : decode cX2_seek 129 = .ok (.ior, 1) := by decide +kernel
theorem dX2_seek_130 : decode cX2_seek 130 = .ok (.invokestatic 39, 3) := by decide +kernel
theorem dX2_seek_133 : decode cX2_seek 133 = .ok (.iinc 6 1, 3) := by decide +kernel
theorem dX2_seek_136 : decode cX2_seek 136 = .ok (.goto (-81), 3) := by decide +kernel
theorem dX2_seek_139 : decode cX2_seek 139 = .ok (.return_, 1) := by decide +kernel
theorem dX2_isBetter_0 : decode cX2_isBetter 0 = .ok (.aload_n 0, 1) := by decide +kernel
theorem dX2_isBetter_1 : decode cX2_isBetter 1 = .ok (.getfield 32, 3) := by decide +kernel
theorem dX2_isBetter_4 : decode cX2_isBetter 4 = .ok (.iconst (-1), 1) := by decide +kernel
theorem dX2_isBetter_5 : decode cX2_isBetter 5 = .ok (.if_icmp .ne 5, 3) := by decide +kernel
theorem dX2_isBetter_8 : decode cX2_isBetter 8 = .ok (.iconst 1, 1) := by decide +kernel
theorem dX2_isBetter_9 : decode cX2_isBetter 9 = .ok (.ireturn, 1) := by decide +kernel
theorem dX2_isBetter_10 : decode cX2_isBetter 10 = .ok (.aload_n 0, 1) := by decide +kernel
theorem dX2_isBetter_11 : decode cX2_isBetter 11 = .ok (.getfield 32, 3) := by decide +kernel
theorem dX2_isBetter_14 : decode cX2_isBetter 14 = .ok (.invokestatic 59, 3) := by decide +kernel
theorem dX2_isBetter_17 : decode cX2_isBetter 17 = .ok (.iload_n 1, 1) := by decide +kernel
theorem dX2_isBetter_18 : decode cX2_isBetter 18 = .ok (.invokestatic 59, 3) := by decide +kernel
theorem dX2_isBetter_21 : decode cX2_isBetter 21 = .ok (.isub, 1) := by decide +kernel
theorem dX2_isBetter_22 : decode cX2_isBetter 22 = .ok (.istore_n 2, 1) := by decide +kernel
theorem dX2_isBetter_23 : decode cX2_isBetter 23 = .ok (.iload_n 2, 1) := by decide +kernel
theorem dX2_isBetter_24 : decode cX2_isBetter 24 = .ok (.ifCond .gt 15, 3) := by decide +kernel
theorem dX2_isBetter_27 : decode cX2_isBetter 27 = .ok (.iload_n 2, 1) := by decide +kernel
theorem dX2_isBetter_28 : decode cX2_isBetter 28 = .ok (.ifCond .ne 15, 3) := by decide +kernel
theorem dX2_isBetter_31 : decode cX2_isBetter 31 = .ok (.iload_n 1, 1) := by decide +kernel
theorem dX2_isBetter_32 : decode cX2_isBetter 32 = .ok (.aload_n 0, 1) := by decide +kernel
theorem dX2_isBetter_33 : decode cX2_isBetter 33 = .ok (.getfield 32, 3) := by decide +kernel
theorem dX2_isBetter_36 : decode cX2_isBetter 36 = .ok (.if_icmp .ge 7, 3) := by decide +kernel
theorem dX2_isBetter_39 : decode cX2_isBetter 39 = .ok (.iconst 1, 1) := by decide +kernel
theorem dX2_isBetter_40 : decode cX2_isBetter 40 = .ok (.goto 4, 3) := by decide +kernel
theorem dX2_isBetter_43 : decode cX2_isBetter 43 = .ok (.iconst 0, 1) := by decide +kernel
theorem dX2_isBetter_44 : decode cX2_isBetter 44 = .ok (.ireturn, 1) := by decide +kernel
theorem dX3_init_0 : decode cX3_init 0 = .ok (.aload_n 0, 1) := by decide +kernel
theorem dX3_init_1 : decode cX3_init 1 = .ok (.invokespecial 3, 3) := by decide +kernel
theorem dX3_init_4 : decode cX3_init 4 = .ok (.aload_n 0, 1) := by decide +kernel
theorem dX3_init_5 : decode cX3_init 5 = .ok (.bipush 10, 2) := by decide +kernel
theorem dX3_init_7 : decode cX3_init 7 = .ok (.anewarray 9, 3) := by decide +kernel
theorem dX3_init_10 : decode cX3_init 10 = .ok (.putfield 11, 3) := by decide +kernel
theorem dX3_init_13 : decode cX3_init 13 = .ok (.aload_n 0, 1) := by decide +kernel
theorem dX3_init_14 : decode cX3_init 14 = .ok (.iconst 3, 1) := by decide +kernel
theorem dX3_init_15 : decode cX3_init 15 = .ok (.newarray .int, 2) := by decide +kernel
theorem dX3_init_17 : decode cX3_init 17 = .ok (.putfield 17, 3) := by decide +kernel
theorem dX3_init_20 : decode cX3_init 20 = .ok (.iconst 0, 1) := by decide +kernel
theorem dX3_init_21 : decode cX3_init 21 = .ok (.istore_n 1, 1) := by decide +kernel
theorem dX3_init_22 : decode cX3_init 22 = .ok (.iload_n 1, 1) := by decide +kernel
theorem dX3_init_23 : decode cX3_init 23 = .ok (.aload_n 0, 1) := by decide +kernel
theorem dX3_init_24 : decode cX3_init 24 = .ok (.getfield 11, 3) := by decide +kernel
theorem dX3_init_27 : decode cX3_init 27 = .ok (.arraylength, 1) := by decide +kernel
theorem dX3_init_28 : decode cX3_init 28 = .ok (.if_icmp .ge 22, 3) := by decide +kernel
theorem dX3_init_31 : decode cX3_init 31 = .ok (.aload_n 0, 1) := by decide +kernel
theorem dX3_init_32 : decode cX3_init 32 = .ok (.getfield 11, 3) := by decide +kernel
theorem dX3_init_35 : decode cX3_init 35 = .ok (.iload_n 1, 1) := by decide +kernel
theorem dX3_init_36 : decode cX3_init 36 = .ok (.new 9, 3) := by decide +kernel
theorem dX3_init_39 : decode cX3_init 39 = .ok (.dup, 1) := by decide +kernel
theorem dX3_init_40 : decode cX3_init 40 = .ok (.invokespecial 21, 3) := by decide +kernel
theorem dX3_init_43 : decode cX3_init 43 = .ok (.aastore, 1) := by decide +kernel
theorem dX3_init_44 : decode cX3_init 44 = .ok (.iinc 1 1, 3) := by decide +kernel
theorem dX3_init_47 : decode cX3_init 47 = .ok (.goto (-25), 3) := by decide +kernel
theorem dX3_init_50 : decode cX3_init 50 = .ok (.iconst 0, 1) := by decide +kernel
theorem dX3_init_51 : decode cX3_init 51 = .ok (.istore_n 1, 1) := by decide +kernel
theorem dX3_init_52 : decode cX3_init 52 = .ok (.iload_n 1, 1) := by decide +kernel
theorem dX3_init_53 : decode cX3_init 53 = .ok (.aload_n 0, 1) := by decide +kernel
theorem dX3_init_54 : decode cX3_init 54 = .ok (.getfield 17, 3) := by decide +kernel
theorem dX3_init_57 : decode cX3_init 57 = .ok (.arraylength, 1) := by decide +kernel
theorem dX3_init_58 : decode cX3_init 58 = .ok (.if_icmp .ge 16, 3) := by decide +kernel
theorem dX3_init_61 : decode cX3_init 61 = .ok (.aload_n 0, 1) := by decide +kernel
theorem dX3_init_62 : decode cX3_init 62 = .ok (.getfield 17, 3) := by decide +kernel
theorem dX3_init_65 : decode cX3_init 65 = .ok (.iload_n 1, 1) := by decide +kernel
theorem dX3_init_66 : decode cX3_init 66 = .ok (.iconst (-1), 1) := by decide +kernel
theorem dX3_init_67 : decode cX3_init 67 = .ok (.iastore, 1) := by decide +kernel
theorem dX3_init_68 : decode cX3_init 68 = .ok (.iinc 1 1, 3) := by decide +kernel
theorem dX3_init_71 : decode cX3_init 71 = .ok (.goto (-19), 3) := by decide +kernel
theorem dX3_init_74 : decode cX3_init 74 = .ok (.return_, 1) := by decide +kernel
theorem dX3_remembers_0 : decode cX3_remembers 0 = .ok (.iconst 0, 1) := by decide +kernel
theorem dX3_remembers_1 : decode cX3_remembers 1 = .ok (.istore_n 2, 1) := by decide +kernel
theorem dX3_remembers_2 : decode cX3_remembers 2 = .ok (.iload_n 2, 1) := by decide +kernel
theorem dX3_remembers_3 : decode cX3_remembers 3 = .ok (.aload_n 0, 1) := by decide +kernel
theorem dX3_remembers_4 : decode cX3_remembers 4 = .ok (.getfield 17, 3) := by decide +kernel
theorem dX3_remembers_7 : decode cX3_remembers 7 = .ok (.arraylength, 1) := by decide +kernel
theorem dX3_remembers_8 : decode cX3_remembers 8 = .ok (.if_icmp .ge 21, 3) := by decide +kernel
theorem dX3_remembers_11 : decode cX3_remembers 11 = .ok (.aload_n 0, 1) := by decide +kernel
theorem dX3_remembers_12 : decode cX3_remembers 12 = .ok (.getfield 17, 3) := by decide +kernel
theorem dX3_remembers_15 : decode cX3_remembers 15 = .ok (.iload_n 2, 1) := by decide +kernel
theorem dX3_remembers_16 : decode cX3_remembers 16 = .ok (.iaload, 1) := by decide +kernel
theorem dX3_remembers_17 : decode cX3_remembers 17 = .ok (.iload_n 1, 1) := by decide +kernel
theorem dX3_remembers_18 : decode cX3_remembers 18 = .ok (.if_icmp .ne 5, 3) := by decide +kernel
theorem dX3_remembers_21 : decode cX3_remembers 21 = .ok (.iconst 1, 1) := by decide +kernel
theorem dX3_remembers_22 : decode cX3_remembers 22 = .ok (.ireturn, 1) := by decide +kernel
theorem dX3_remembers_23 : decode cX3_remembers 23 = .ok (.iinc 2 1, 3) := by decide +kernel
theorem dX3_remembers_26 : decode cX3_remembers 26 = .ok (.goto (-24), 3) := by decide +kernel
theorem dX3_remembers_29 : decode cX3_remembers 29 = .ok (.iconst 0, 1) := by decide +kernel
theorem dX3_remembers_30 : decode cX3_remembers 30 = .ok (.ireturn, 1) := by decide +kernel
theorem dX3_remember_0 : decode cX3_remember 0 = .ok (.aload_n 0, 1) := by decide +kernel
theorem dX3_remember_1 : decode cX3_remember 1 = .ok (.getfield 17, 3) := by decide +kernel
theorem dX3_remember_4 : decode cX3_remember 4 = .ok (.aload_n 0, 1) := by decide +kernel
theorem dX3_remember_5 : decode cX3_remember 5 = .ok (.getfield 22, 3) := by decide +kernel
theorem dX3_remember_8 : decode cX3_remember 8 = .ok (.iload_n 1, 1) := by decide +kernel
theorem dX3_remember_9 : decode cX3_remember 9 = .ok (.iastore, 1) := by decide +kernel
theorem dX3_remember_10 : decode cX3_remember 10 = .ok (.aload_n 0, 1) := by decide +kernel
theorem dX3_remember_11 : decode cX3_remember 11 = .ok (.aload_n 0, 1) := by decide +kernel
theorem dX3_remember_12 : decode cX3_remember 12 = .ok (.getfield 22, 3) := by decide +kernel
theorem dX3_remember_15 : decode cX3_remember 15 = .ok (.iconst 1, 1) := by decide +kernel
theorem dX3_remember_16 : decode cX3_remember 16 = .ok (.iadd, 1) := by decide +kernel
theorem dX3_remember_17 : decode cX3_remember 17 = .ok (.iconst 3, 1) := by decide +kernel
theorem dX3_remember_18 : decode cX3_remember 18 = .ok (.irem, 1) := by decide +kernel
theorem dX3_remember_19 : decode cX3_remember 19 = .ok (.putfield 22, 3) := by decide +kernel
theorem dX3_remember_22 : decode cX3_remember 22 = .ok (.return_, 1) := by decide +kernel
theorem dX4_init_0 : decode cX4_init 0 = .ok (.aload_n 0, 1) := by decide +kernel
theorem dX4_init_1 : decode cX4_init 1 = .ok (.invokespecial 3, 3) := by decide +kernel
theorem dX4_init_4 : decode cX4_init 4 = .ok (.aload_n 0, 1) := by decide +kernel
theorem dX4_init_5 : decode cX4_init 5 = .ok (.sipush 200, 3) := by decide +kernel
theorem dX4_init_8 : decode cX4_init 8 = .ok (.putfield 9, 3) := by decide +kernel
theorem dX4_init_11 : decode cX4_init 11 = .ok (.aload_n 0, 1) := by decide +kernel
theorem dX4_init_12 : decode cX4_init 12 = .ok (.iconst (-1), 1) := by decide +kernel
theorem dX4_init_13 : decode cX4_init 13 = .ok (.putfield 15, 3) := by decide +kernel
theorem dX4_init_16 : decode cX4_init 16 = .ok (.aload_n 0, 1) := by decide +kernel
theorem dX4_init_17 : decode cX4_init 17 = .ok (.sipush 200, 3) := by decide +kernel
theorem dX4_init_20 : decode cX4_init 20 = .ok (.putfield 18, 3) := by decide +kernel
theorem dX4_init_23 : decode cX4_init 23 = .ok (.aload_n 0, 1) := by decide +kernel
theorem dX4_init_24 : decode cX4_init 24 = .ok (.bipush 8, 2) := by decide +kernel
theorem dX4_init_26 : decode cX4_init 26 = .ok (.newarray .long, 2) := by decide +kernel
theorem dX4_init_28 : decode cX4_init 28 = .ok (.putfield 21, 3) := by decide +kernel
theorem dX4_init_31 : decode cX4_init 31 = .ok (.return_, 1) := by decide +kernel
theorem dX4_tellOdds_0 : decode cX4_tellOdds 0 = .ok (.aload_n 0, 1) := by decide +kernel
theorem dX4_tellOdds_1 : decode cX4_tellOdds 1 = .ok (.iload_n 1, 1) := by decide +kernel
theorem dX4_tellOdds_2 : decode cX4_tellOdds 2 = .ok (.putfield 9, 3) := by decide +kernel
theorem dX4_tellOdds_5 : decode cX4_tellOdds 5 = .ok (.aload_n 0, 1) := by decide +kernel
theorem dX4_tellOdds_6 : decode cX4_tellOdds 6 = .ok (.iload_n 1, 1) := by decide +kernel
theorem dX4_tellOdds_7 : decode cX4_tellOdds 7 = .ok (.putfield 18, 3) := by decide +kernel
theorem dX4_tellOdds_10 : decode cX4_tellOdds 10 = .ok (.aload_n 0, 1) := by decide +kernel
theorem dX4_tellOdds_11 : decode cX4_tellOdds 11 = .ok (.iconst 0, 1) := by decide +kernel
theorem dX4_tellOdds_12 : decode cX4_tellOdds 12 = .ok (.putfield 25, 3) := by decide +kernel
theorem dX4_tellOdds_15 : decode cX4_tellOdds 15 = .ok (.return_, 1) := by decide +kernel
theorem dX4_noteAnswer_0 : decode cX4_noteAnswer 0 = .ok (.aload_n 0, 1) := by decide +kernel
theorem dX4_noteAnswer_1 : decode cX4_noteAnswer 1 = .ok (.getfield 25, 3) := by decide +kernel
theorem dX4_noteAnswer_4 : decode cX4_noteAnswer 4 = .ok (.ifCond .lt 13, 3) := by decide +kernel
theorem dX4_noteAnswer_7 : decode cX4_noteAnswer 7 = .ok (.aload_n 0, 1) := by decide +kernel
theorem dX4_noteAnswer_8 : decode cX4_noteAnswer 8 = .ok (.getfield 25, 3) := by decide +kernel
theorem dX4_noteAnswer_11 : decode cX4_noteAnswer 11 = .ok (.sipush 512, 3) := by decide +kernel
theorem dX4_noteAnswer_14 : decode cX4_noteAnswer 14 = .ok (.if_icmp .lt 4, 3) := by decide +kernel
theorem dX4_noteAnswer_17 : decode cX4_noteAnswer 17 = .ok (.return_, 1) := by decide +kernel
theorem dX4_noteAnswer_18 : decode cX4_noteAnswer 18 = .ok (.lconst 1, 1) := by decide +kernel
theorem dX4_noteAnswer_19 : decode cX4_noteAnswer 19 = .ok (.aload_n 0, 1) := by decide +kernel
theorem dX4_noteAnswer_20 : decode cX4_noteAnswer 20 = .ok (.getfield 25, 3) := by decide +kernel
theorem dX4_noteAnswer_23 : decode cX4_noteAnswer 23 = .ok (.bipush 64, 2) := by decide +kernel
theorem dX4_noteAnswer_25 : decode cX4_noteAnswer 25 = .ok (.irem, 1) := by decide +kernel
theorem dX4_noteAnswer_26 : decode cX4_noteAnswer 26 = .ok (.lshl, 1) := by decide +kernel
theorem dX4_noteAnswer_27 : decode cX4_noteAnswer 27 = .ok (.lstore_n 3, 1) := by decide +kernel
theorem dX4_noteAnswer_28 : decode cX4_noteAnswer 28 = .ok (.aload_n 0, 1) := by decide +kernel
theorem dX4_noteAnswer_29 : decode cX4_noteAnswer 29 = .ok (.getfield 25, 3) := by decide +kernel
theorem dX4_noteAnswer_32 : decode cX4_noteAnswer 32 = .ok (.bipush 64, 2) := by decide +kernel
theorem dX4_noteAnswer_34 : decode cX4_noteAnswer 34 = .ok (.idiv, 1) := by decide +kernel
theorem dX4_noteAnswer_35 : decode cX4_noteAnswer 35 = .ok (.istore 5, 2) := by decide +kernel
theorem dX4_noteAnswer_37 : decode cX4_noteAnswer 37 = .ok (.aload_n 0, 1) := by decide +kernel
theorem dX4_noteAnswer_38 : decode cX4_noteAnswer 38 = .ok (.getfield 21, 3) := by decide +kernel
theorem dX4_noteAnswer_41 : decode cX4_noteAnswer 41 = .ok (.iload 5, 2) := by decide +kernel
theorem dX4_noteAnswer_43 : decode cX4_noteAnswer 43 = .ok (.iload_n 2, 1) := by decide +kernel
theorem dX4_noteAnswer_44 : decode cX4_noteAnswer 44 = .ok (.ifCond .eq 15, 3) := by decide +kernel
theorem dX4_noteAnswer_47 : decode cX4_noteAnswer 47 = .ok (.aload_n 0, 1) := by decide +kernel
theorem dX4_noteAnswer_48 : decode cX4_noteAnswer 48 = .ok (.getfield 21, 3) := by decide +kernel
theorem dX4_noteAnswer_51 : decode cX4_noteAnswer 51 = .ok (.iload 5, 2) := by decide +kernel
theorem dX4_noteAnswer_53 : decode cX4_noteAnswer 53 = .ok (.laload, 1) := by decide +kernel
theorem dX4_noteAnswer_54 : decode cX4_noteAnswer 54 = .ok (.lload_n 3, 1) := by decide +kernel
theorem dX4_noteAnswer_55 : decode cX4_noteAnswer 55 = .ok (.lor, 1) := by decide +kernel
theorem dX4_noteAnswer_56 : decode cX4_noteAnswer 56 = .ok (.goto 16, 3) := by decide +kernel
theorem dX4_noteAnswer_59 : decode cX4_noteAnswer 59 = .ok (.aload_n 0, 1) := by decide +kernel
theorem dX4_noteAnswer_60 : decode cX4_noteAnswer 60 = .ok (.getfield 21, 3) := by decide +kernel
theorem dX4_noteAnswer_63 : decode cX4_noteAnswer 63 = .ok (.iload 5, 2) := by decide +kernel
theorem dX4_noteAnswer_65 : decode cX4_noteAnswer 65 = .ok (.laload, 1) := by decide +kernel
theorem dX4_noteAnswer_66 : decode cX4_noteAnswer 66 = .ok (.lload_n 3, 1) := by decide +kernel
theorem dX4_noteAnswer_67 : decode cX4_noteAnswer 67 = .ok (.ldc2_w 28, 3) := by decide +kernel
theorem dX4_noteAnswer_70 : decode cX4_noteAnswer 70 = .ok (.lxor, 1) := by decide +kernel
theorem dX4_noteAnswer_71 : decode cX4_noteAnswer 71 = .ok (.land, 1) := by decide +kernel
theorem dX4_noteAnswer_72 : decode cX4_noteAnswer 72 = .ok (.lastore, 1) := by decide +kernel
theorem dX4_noteAnswer_73 : decode cX4_noteAnswer 73 = .ok (.aload_n 0, 1) := by decide +kernel
theorem dX4_noteAnswer_74 : decode cX4_noteAnswer 74 = .ok (.dup, 1) := by decide +kernel
theorem dX4_noteAnswer_75 : decode cX4_noteAnswer 75 = .ok (.getfield 25, 3) := by decide +kernel
theorem dX4_noteAnswer_78 : decode cX4_noteAnswer 78 = .ok (.iconst 1, 1) := by decide +kernel
theorem dX4_noteAnswer_79 : decode cX4_noteAnswer 79 = .ok (.iadd, 1) := by decide +kernel
theorem dX4_noteAnswer_80 : decode cX4_noteAnswer 80 = .ok (.putfield 25, 3) := by decide +kernel
theorem dX4_noteAnswer_83 : decode cX4_noteAnswer 83 = .ok (.aload_n 0, 1) := by decide +kernel
theorem dX4_noteAnswer_84 : decode cX4_noteAnswer 84 = .ok (.aload_n 1, 1) := by decide +kernel
theorem dX4_noteAnswer_85 : decode cX4_noteAnswer 85 = .ok (.aload_n 0, 1) := by decide +kernel
theorem dX4_noteAnswer_86 : decode cX4_noteAnswer 86 = .ok (.getfield 9, 3) := by decide +kernel
theorem dX4_noteAnswer_89 : decode cX4_noteAnswer 89 = .ok (.iload_n 2, 1) := by decide +kernel
theorem dX4_noteAnswer_90 : decode cX4_noteAnswer 90 = .ok (.invokevirtual 30, 3) := by decide +kernel
theorem dX4_noteAnswer_93 : decode cX4_noteAnswer 93 = .ok (.putfield 9, 3) := by decide +kernel
theorem dX4_noteAnswer_96 : decode cX4_noteAnswer 96 = .ok (.aload_n 0, 1) := by decide +kernel
theorem dX4_noteAnswer_97 : decode cX4_noteAnswer 97 = .ok (.iload_n 2, 1) := by decide +kernel
theorem dX4_noteAnswer_98 : decode cX4_noteAnswer 98 = .ok (.ifCond .eq 12, 3) := by decide +kernel
theorem dX4_noteAnswer_101 : decode cX4_noteAnswer 101 = .ok (.aload_n 0, 1) := by decide +kernel
theorem dX4_noteAnswer_102 : decode cX4_noteAnswer 102 = .ok (.getfield 36, 3) := by decide +kernel
theorem dX4_noteAnswer_105 : decode cX4_noteAnswer 105 = .ok (.iconst 1, 1) := by decide +kernel
theorem dX4_noteAnswer_106 : decode cX4_noteAnswer 106 = .ok (.iadd, 1) := by decide +kernel
theorem dX4_noteAnswer_107 : decode cX4_noteAnswer 107 = .ok (.goto 4, 3) := by decide +kernel
theorem dX4_noteAnswer_110 : decode cX4_noteAnswer 110 = .ok (.iconst 0, 1) := by decide +kernel
theorem dX4_noteAnswer_111 : decode cX4_noteAnswer 111 = .ok (.putfield 36, 3) := by decide +kernel
theorem dX4_noteAnswer_114 : decode cX4_noteAnswer 114 = .ok (.return_, 1) := by decide +kernel
theorem dX4_oddsFromAnswers_0 : decode cX4_oddsFromAnswers 0 = .ok (.aload_n 0, 1) := by decide +kernel
theorem dX4_oddsFromAnswers_1 : decode cX4_oddsFromAnswers 1 = .ok (.getfield 18, 3) := by decide +kernel
theorem dX4_oddsFromAnswers_4 : decode cX4_oddsFromAnswers 4 = .ok (.istore_n 2, 1) := by decide +kernel
theorem dX4_oddsFromAnswers_5 : decode cX4_oddsFromAnswers 5 = .ok (.iconst 0, 1) := by decide +kernel
theorem dX4_oddsFromAnswers_6 : decode cX4_oddsFromAnswers 6 = .ok (.istore_n 3, 1) := by decide +kernel
theorem dX4_oddsFromAnswers_7 : decode cX4_oddsFromAnswers 7 = .ok (.iload_n 3, 1) := by decide +kernel
theorem dX4_oddsFromAnswers_8 : decode cX4_oddsFromAnswers 8 = .ok (.aload_n 0, 1) := by decide +kernel
theorem dX4_oddsFromAnswers_9 : decode cX4_oddsFromAnswers 9 = .ok (.getfield 25, 3) := by decide +kernel
theorem dX4_oddsFromAnswers_12 : decode cX4_oddsFromAnswers 12 = .ok (.if_icmp .ge 52, 3) := by decide +kernel
theorem dX4_oddsFromAnswers_15 : decode cX4_oddsFromAnswers 15 = .ok (.iload_n 3, 1) := by decide +kernel
theorem dX4_oddsFromAnswers_16 : decode cX4_oddsFromAnswers 16 = .ok (.sipush 512, 3) := by decide +kernel
theorem dX4_oddsFromAnswers_19 : decode cX4_oddsFromAnswers 19 = .ok (.if_icmp .ge 45, 3) := by decide +kernel
theorem dX4_oddsFromAnswers_22 : decode cX4_oddsFromAnswers 22 = .ok (.aload_n 0, 1) := by decide +kernel
theorem dX4_oddsFromAnswers_23 : decode cX4_oddsFromAnswers 23 = .ok (.getfield 21, 3) := by decide +kernel
theorem dX4_oddsFromAnswers_26 : decode cX4_oddsFromAnswers 26 = .ok (.iload_n 3, 1) := by decide +kernel
theorem dX4_oddsFromAnswers_27 : decode cX4_oddsFromAnswers 27 = .ok (.bipush 64, 2) := by decide +kernel
theorem dX4_oddsFromAnswers_29 : decode cX4_oddsFromAnswers 29 = .ok (.idiv, 1) := by decide +kernel
theorem dX4_oddsFromAnswers_30 : decode cX4_oddsFromAnswers 30 = .ok (.laload, 1) := by decide +kernel
theorem dX4_oddsFromAnswers_31 : decode cX4_oddsFromAnswers 31 = .ok (.iload_n 3, 1) := by decide +kernel
theorem dX4_oddsFromAnswers_32 : decode cX4_oddsFromAnswers 32 = .ok (.bipush 64, 2) := by decide +kernel
theorem dX4_oddsFromAnswers_34 : decode cX4_oddsFromAnswers 34 = .ok (.irem, 1) := by decide +kernel
theorem dX4_oddsFromAnswers_35 : decode cX4_oddsFromAnswers 35 = .ok (.lshr, 1) := by decide +kernel
theorem dX4_oddsFromAnswers_36 : decode cX4_oddsFromAnswers 36 = .ok (.lconst 1, 1) := by decide +kernel
theorem dX4_oddsFromAnswers_37 : decode cX4_oddsFromAnswers 37 = .ok (.land, 1) := by decide +kernel
theorem dX4_oddsFromAnswers_38 : decode cX4_oddsFromAnswers 38 = .ok (.lconst 0, 1) := by decide +kernel
theorem dX4_oddsFromAnswers_39 : decode cX4_oddsFromAnswers 39 = .ok (.lcmp, 1) := by decide +kernel
theorem dX4_oddsFromAnswers_40 : decode cX4_oddsFromAnswers 40 = .ok (.ifCond .eq 7, 3) := by decide +kernel
theorem dX4_oddsFromAnswers_43 : decode cX4_oddsFromAnswers 43 = .ok (.iconst 1, 1) := by decide +kernel
theorem dX4_oddsFromAnswers_44 : decode cX4_oddsFromAnswers 44 = .ok (.goto 4, 3) := by decide +kernel
theorem dX4_oddsFromAnswers_47 : decode cX4_oddsFromAnswers 47 = .ok (.iconst 0, 1) := by decide +kernel
theorem dX4_oddsFromAnswers_48 : decode cX4_oddsFromAnswers 48 = .ok (.istore 4, 2) := by decide +kernel
theorem dX4_oddsFromAnswers_50 : decode cX4_oddsFromAnswers 50 = .ok (.aload_n 1, 1) := by decide +kernel
theorem dX4_oddsFromAnswers_51 : decode cX4_oddsFromAnswers 51 = .ok (.iload_n 2, 1) := by decide +kernel
theorem dX4_oddsFromAnswers_52 : decode cX4_oddsFromAnswers 52 = .ok (.iload 4, 2) := by decide +kernel
theorem dX4_oddsFromAnswers_54 : decode cX4_oddsFromAnswers 54 = .ok (.invokevirtual 30, 3) := by decide +kernel
theorem dX4_oddsFromAnswers_57 : decode cX4_oddsFromAnswers 57 = .ok (.istore_n 2, 1) := by decide +kernel
theorem dX4_oddsFromAnswers_58 : decode cX4_oddsFromAnswers 58 = .ok (.iinc 3 1, 3) := by decide +kernel
theorem dX4_oddsFromAnswers_61 : decode cX4_oddsFromAnswers 61 = .ok (.goto (-54), 3) := by decide +kernel
theorem dX4_oddsFromAnswers_64 : decode cX4_oddsFromAnswers 64 = .ok (.iload_n 2, 1) := by decide +kernel
theorem dX4_oddsFromAnswers_65 : decode cX4_oddsFromAnswers 65 = .ok (.ireturn, 1) := by decide +kernel
theorem dX4_daysToWait_0 : decode cX4_daysToWait 0 = .ok (.aload_n 0, 1) := by decide +kernel
theorem dX4_daysToWait_1 : decode cX4_daysToWait 1 = .ok (.getfield 36, 3) := by decide +kernel
theorem dX4_daysToWait_4 : decode cX4_daysToWait 4 = .ok (.ifCond .ne 7, 3) := by decide +kernel
theorem dX4_daysToWait_7 : decode cX4_daysToWait 7 = .ok (.iconst 1, 1) := by decide +kernel
theorem dX4_daysToWait_8 : decode cX4_daysToWait 8 = .ok (.goto 15, 3) := by decide +kernel
theorem dX4_daysToWait_11 : decode cX4_daysToWait 11 = .ok (.iconst 1, 1) := by decide +kernel
theorem dX4_daysToWait_12 : decode cX4_daysToWait 12 = .ok (.aload_n 0, 1) := by decide +kernel
theorem dX4_daysToWait_13 : decode cX4_daysToWait 13 = .ok (.getfield 36, 3) := by decide +kernel
theorem dX4_daysToWait_16 : decode cX4_daysToWait 16 = .ok (.iconst 1, 1) := by decide +kernel
theorem dX4_daysToWait_17 : decode cX4_daysToWait 17 = .ok (.isub, 1) := by decide +kernel
theorem dX4_daysToWait_18 : decode cX4_daysToWait 18 = .ok (.iconst 4, 1) := by decide +kernel
theorem dX4_daysToWait_19 : decode cX4_daysToWait 19 = .ok (.invokestatic 39, 3) := by decide +kernel
theorem dX4_daysToWait_22 : decode cX4_daysToWait 22 = .ok (.ishl, 1) := by decide +kernel
theorem dX4_daysToWait_23 : decode cX4_daysToWait 23 = .ok (.ireturn, 1) := by decide +kernel
theorem dX4_wasAnswered_0 : decode cX4_wasAnswered 0 = .ok (.aload_n 0, 1) := by decide +kernel
theorem dX4_wasAnswered_1 : decode cX4_wasAnswered 1 = .ok (.getfield 15, 3) := by decide +kernel
theorem dX4_wasAnswered_4 : decode cX4_wasAnswered 4 = .ok (.iconst (-1), 1) := by decide +kernel
theorem dX4_wasAnswered_5 : decode cX4_wasAnswered 5 = .ok (.if_icmp .eq 7, 3) := by decide +kernel
theorem dX4_wasAnswered_8 : decode cX4_wasAnswered 8 = .ok (.iconst 1, 1) := by decide +kernel
theorem dX4_wasAnswered_9 : decode cX4_wasAnswered 9 = .ok (.goto 4, 3) := by decide +kernel
theorem dX4_wasAnswered_12 : decode cX4_wasAnswered 12 = .ok (.iconst 0, 1) := by decide +kernel
theorem dX4_wasAnswered_13 : decode cX4_wasAnswered 13 = .ok (.ireturn, 1) := by decide +kernel
theorem dX4_isDueBy_0 : decode cX4_isDueBy 0 = .ok (.aload_n 0, 1) := by decide +kernel
theorem dX4_isDueBy_1 : decode cX4_isDueBy 1 = .ok (.invokevirtual 45, 3) := by decide +kernel
theorem dX4_isDueBy_4 : decode cX4_isDueBy 4 = .ok (.ifCond .eq 15, 3) := by decide +kernel
theorem dX4_isDueBy_7 : decode cX4_isDueBy 7 = .ok (.aload_n 0, 1) := by decide +kernel
theorem dX4_isDueBy_8 : decode cX4_isDueBy 8 = .ok (.getfield 15, 3) := by decide +kernel
theorem dX4_isDueBy_11 : decode cX4_isDueBy 11 = .ok (.iload_n 1, 1) := by decide +kernel
theorem dX4_isDueBy_12 : decode cX4_isDueBy 12 = .ok (.if_icmp .gt 7, 3) := by decide +kernel
theorem dX4_isDueBy_15 : decode cX4_isDueBy 15 = .ok (.iconst 1, 1) := by decide +kernel
theorem dX4_isDueBy_16 : decode cX4_isDueBy 16 = .ok (.goto 4, 3) := by decide +kernel
theorem dX4_isDueBy_19 : decode cX4_isDueBy 19 = .ok (.iconst 0, 1) := by decide +kernel
theorem dX4_isDueBy_20 : decode cX4_isDueBy 20 = .ok (.ireturn, 1) := by decide +kernel
theorem dX5_init_0 : decode cX5_init 0 = .ok (.aload_n 0, 1) := by decide +kernel
theorem dX5_init_1 : decode cX5_init 1 = .ok (.invokespecial 3, 3) := by decide +kernel
theorem dX5_init_4 : decode cX5_init 4 = .ok (.aload_n 0, 1) := by decide +kernel
theorem dX5_init_5 : decode cX5_init 5 = .ok (.iload_n 1, 1) := by decide +kernel
theorem dX5_init_6 : decode cX5_init 6 = .ok (.putfield 9, 3) := by decide +kernel
theorem dX5_init_9 : decode cX5_init 9 = .ok (.aload_n 0, 1) := by decide +kernel
theorem dX5_init_10 : decode cX5_init 10 = .ok (.iload_n 2, 1) := by decide +kernel
theorem dX5_init_11 : decode cX5_init 11 = .ok (.putfield 15, 3) := by decide +kernel
theorem dX5_init_14 : decode cX5_init 14 = .ok (.aload_n 0, 1) := by decide +kernel
theorem dX5_init_15 : decode cX5_init 15 = .ok (.iload_n 3, 1) := by decide +kernel
theorem dX5_init_16 : decode cX5_init 16 = .ok (.putfield 18, 3) := by decide +kernel
theorem dX5_init_19 : decode cX5_init 19 = .ok (.return_, 1) := by decide +kernel
theorem dX5_needs_0 : decode cX5_needs 0 = .ok (.aload_n 0, 1) := by decide +kernel
theorem dX5_needs_1 : decode cX5_needs 1 = .ok (.getfield 21, 3) := by decide +kernel
theorem dX5_needs_4 : decode cX5_needs 4 = .ok (.iload_n 1, 1) := by decide +kernel
theorem dX5_needs_5 : decode cX5_needs 5 = .ok (.ishr, 1) := by decide +kernel
theorem dX5_needs_6 : decode cX5_needs 6 = .ok (.iconst 1, 1) := by decide +kernel
theorem dX5_needs_7 : decode cX5_needs 7 = .ok (.iand, 1) := by decide +kernel
theorem dX5_needs_8 : decode cX5_needs 8 = .ok (.ifCond .eq 7, 3) := by decide +kernel
theorem dX5_needs_11 : decode cX5_needs 11 = .ok (.iconst 1, 1) := by decide +kernel
theorem dX5_needs_12 : decode cX5_needs 12 = .ok (.goto 4, 3) := by decide +kernel
theorem dX5_needs_15 : decode cX5_needs 15 = .ok (.iconst 0, 1) := by decide +kernel
theorem dX5_needs_16 : decode cX5_needs 16 = .ok (.ireturn, 1) := by decide +kernel
theorem dX5_oddsAfter_0 : decode cX5_oddsAfter 0 = .ok (.iload_n 1, 1) := by decide +kernel
theorem dX5_oddsAfter_1 : decode cX5_oddsAfter 1 = .ok (.iload_n 2, 1) := by decide +kernel
theorem dX5_oddsAfter_2 : decode cX5_oddsAfter 2 = .ok (.ifCond .eq 14, 3) := by decide +kernel
theorem dX5_oddsAfter_5 : decode cX5_oddsAfter 5 = .ok (.sipush 1000, 3) := by decide +kernel
theorem dX5_oddsAfter_8 : decode cX5_oddsAfter 8 = .ok (.aload_n 0, 1) := by decide +kernel
theorem dX5_oddsAfter_9 : decode cX5_oddsAfter 9 = .ok (.getfield 15, 3) := by decide +kernel
theorem dX5_oddsAfter_12 : decode cX5_oddsAfter 12 = .ok (.isub, 1) := by decide +kernel
theorem dX5_oddsAfter_13 : decode cX5_oddsAfter 13 = .ok (.goto 7, 3) := by decide +kernel
theorem dX5_oddsAfter_16 : decode cX5_oddsAfter 16 = .ok (.aload_n 0, 1) := by decide +kernel
theorem dX5_oddsAfter_17 : decode cX5_oddsAfter 17 = .ok (.getfield 15, 3) := by decide +kernel
theorem dX5_oddsAfter_20 : decode cX5_oddsAfter 20 = .ok (.imul, 1) := by decide +kernel
theorem dX5_oddsAfter_21 : decode cX5_oddsAfter 21 = .ok (.istore_n 3, 1) := by decide +kernel
theorem dX5_oddsAfter_22 : decode cX5_oddsAfter 22 = .ok (.sipush 1000, 3) := by decide +kernel
theorem dX5_oddsAfter_25 : decode cX5_oddsAfter 25 = .ok (.iload_n 1, 1) := by decide +kernel
theorem dX5_oddsAfter_26 : decode cX5_oddsAfter 26 = .ok (.isub, 1) := by decide +kernel
theorem dX5_oddsAfter_27 : decode cX5_oddsAfter 27 = .ok (.iload_n 2, 1) := by decide +kernel
theorem dX5_oddsAfter_28 : decode cX5_oddsAfter 28 = .ok (.ifCond .eq 10, 3) := by decide +kernel
theorem dX5_oddsAfter_31 : decode cX5_oddsAfter 31 = .ok (.aload_n 0, 1) := by decide +kernel
theorem dX5_oddsAfter_32 : decode cX5_oddsAfter 32 = .ok (.getfield 9, 3) := by decide +kernel
theorem dX5_oddsAfter_35 : decode cX5_oddsAfter 35 = .ok (.goto 11, 3) := by decide +kernel
theorem dX5_oddsAfter_38 : decode cX5_oddsAfter 38 = .ok (.sipush 1000, 3) := by decide +kernel
theorem dX5_oddsAfter_41 : decode cX5_oddsAfter 41 = .ok (.aload_n 0, 1) := by decide +kernel
theorem dX5_oddsAfter_42 : decode cX5_oddsAfter 42 = .ok (.getfield 9, 3) := by decide +kernel
theorem dX5_oddsAfter_45 : decode cX5_oddsAfter 45 = .ok (.isub, 1) := by decide +kernel
theorem dX5_oddsAfter_46 : decode cX5_oddsAfter 46 = .ok (.imul, 1) := by decide +kernel
theorem dX5_oddsAfter_47 : decode cX5_oddsAfter 47 = .ok (.istore 4, 2) := by decide +kernel
theorem dX5_oddsAfter_49 : decode cX5_oddsAfter 49 = .ok (.iload_n 3, 1) := by decide +kernel
theorem dX5_oddsAfter_50 : decode cX5_oddsAfter 50 = .ok (.iload 4, 2) := by decide +kernel
theorem dX5_oddsAfter_52 : decode cX5_oddsAfter 52 = .ok (.iadd, 1) := by decide +kernel
theorem dX5_oddsAfter_53 : decode cX5_oddsAfter 53 = .ok (.istore 5, 2) := by decide +kernel
theorem dX5_oddsAfter_55 : decode cX5_oddsAfter 55 = .ok (.iload_n 1, 1) := by decide +kernel
theorem dX5_oddsAfter_56 : decode cX5_oddsAfter 56 = .ok (.istore 6, 2) := by decide +kernel
theorem dX5_oddsAfter_58 : decode cX5_oddsAfter 58 = .ok (.iload 5, 2) := by decide +kernel
theorem dX5_oddsAfter_60 : decode cX5_oddsAfter 60 = .ok (.ifCond .eq 13, 3) := by decide +kernel
theorem dX5_oddsAfter_63 : decode cX5_oddsAfter 63 = .ok (.iload_n 3, 1) := by decide +kernel
theorem dX5_oddsAfter_64 : decode cX5_oddsAfter 64 = .ok (.sipush 1000, 3) := by decide +kernel
theorem dX5_oddsAfter_67 : decode cX5_oddsAfter 67 = .ok (.imul, 1) := by decide +kernel
theorem dX5_oddsAfter_68 : decode cX5_oddsAfter 68 = .ok (.iload 5, 2) := by decide +kernel
theorem dX5_oddsAfter_70 : decode cX5_oddsAfter 70 = .ok (.idiv, 1) := by decide +kernel
theorem dX5_oddsAfter_71 : decode cX5_oddsAfter 71 = .ok (.istore 6, 2) := by decide +kernel
theorem dX5_oddsAfter_73 : decode cX5_oddsAfter 73 = .ok (.iload 6, 2) := by decide +kernel
theorem dX5_oddsAfter_75 : decode cX5_oddsAfter 75 = .ok (.sipush 1000, 3) := by decide +kernel
theorem dX5_oddsAfter_78 : decode cX5_oddsAfter 78 = .ok (.iload 6, 2) := by decide +kernel
theorem dX5_oddsAfter_80 : decode cX5_oddsAfter 80 = .ok (.isub, 1) := by decide +kernel
theorem dX5_oddsAfter_81 : decode cX5_oddsAfter 81 = .ok (.aload_n 0, 1) := by decide +kernel
theorem dX5_oddsAfter_82 : decode cX5_oddsAfter 82 = .ok (.getfield 18, 3) := by decide +kernel
theorem dX5_oddsAfter_85 : decode cX5_oddsAfter 85 = .ok (.imul, 1) := by decide +kernel
theorem dX5_oddsAfter_86 : decode cX5_oddsAfter 86 = .ok (.sipush 1000, 3) := by decide +kernel
theorem dX5_oddsAfter_89 : decode cX5_oddsAfter 89 = .ok (.idiv, 1) := by decide +kernel
theorem dX5_oddsAfter_90 : decode cX5_oddsAfter 90 = .ok (.iadd, 1) := by decide +kernel
theorem dX5_oddsAfter_91 : decode cX5_oddsAfter 91 = .ok (.ireturn, 1) := by decide +kernel
theorem dX6_init_0 : decode cX6_init 0 = .ok (.aload_n 0, 1) := by decide +kernel
theorem dX6_init_1 : decode cX6_init 1 = .ok (.invokespecial 1, 3) := by decide +kernel
theorem dX6_init_4 : decode cX6_init 4 = .ok (.aload_n 0, 1) := by decide +kernel
theorem dX6_init_5 : decode cX6_init 5 = .ok (.aload_n 1, 1) := by decide +kernel
theorem dX6_init_6 : decode cX6_init 6 = .ok (.putfield 7, 3) := by decide +kernel
theorem dX6_init_9 : decode cX6_init 9 = .ok (.aload_n 0, 1) := by decide +kernel
theorem dX6_init_10 : decode cX6_init 10 = .ok (.aload_n 2, 1) := by decide +kernel
theorem dX6_init_11 : decode cX6_init 11 = .ok (.putfield 13, 3) := by decide +kernel
theorem dX6_init_14 : decode cX6_init 14 = .ok (.return_, 1) := by decide +kernel
theorem dX7_init_0 : decode cX7_init 0 = .ok (.aload_n 0, 1) := by decide +kernel
theorem dX7_init_1 : decode cX7_init 1 = .ok (.invokespecial 1, 3) := by decide +kernel
theorem dX7_init_4 : decode cX7_init 4 = .ok (.aload_n 0, 1) := by decide +kernel
theorem dX7_init_5 : decode cX7_init 5 = .ok (.bipush 10, 2) := by decide +kernel
theorem dX7_init_7 : decode cX7_init 7 = .ok (.anewarray 9, 3) := by decide +kernel
theorem dX7_init_10 : decode cX7_init 10 = .ok (.putfield 11, 3) := by decide +kernel
theorem dX7_init_13 : decode cX7_init 13 = .ok (.aload_n 0, 1) := by decide +kernel
theorem dX7_init_14 : decode cX7_init 14 = .ok (.iconst 4, 1) := by decide +kernel
theorem dX7_init_15 : decode cX7_init 15 = .ok (.anewarray 15, 3) := by decide +kernel
theorem dX7_init_18 : decode cX7_init 18 = .ok (.putfield 17, 3) := by decide +kernel
theorem dX7_init_21 : decode cX7_init 21 = .ok (.aload_n 0, 1) := by decide +kernel
theorem dX7_init_22 : decode cX7_init 22 = .ok (.new 21, 3) := by decide +kernel
theorem dX7_init_25 : decode cX7_init 25 = .ok (.dup, 1) := by decide +kernel
theorem dX7_init_26 : decode cX7_init 26 = .ok (.invokespecial 23, 3) := by decide +kernel
theorem dX7_init_29 : decode cX7_init 29 = .ok (.putfield 24, 3) := by decide +kernel
theorem dX7_init_32 : decode cX7_init 32 = .ok (.return_, 1) := by decide +kernel
theorem dX7_addSkill_0 : decode cX7_addSkill 0 = .ok (.iload_n 1, 1) := by decide +kernel
theorem dX7_addSkill_1 : decode cX7_addSkill 1 = .ok (.invokestatic 28, 3) := by decide +kernel
theorem dX7_addSkill_4 : decode cX7_addSkill 4 = .ok (.iload_n 2, 1) := by decide +kernel
theorem dX7_addSkill_5 : decode cX7_addSkill 5 = .ok (.invokestatic 28, 3) := by decide +kernel
theorem dX7_addSkill_8 : decode cX7_addSkill 8 = .ok (.iload_n 3, 1) := by decide +kernel
theorem dX7_addSkill_9 : decode cX7_addSkill 9 = .ok (.invokestatic 28, 3) := by decide +kernel
theorem dX7_addSkill_12 : decode cX7_addSkill 12 = .ok (.aload_n 0, 1) := by decide +kernel
theorem dX7_addSkill_13 : decode cX7_addSkill 13 = .ok (.getfield 32, 3) := by decide +kernel
theorem dX7_addSkill_16 : decode cX7_addSkill 16 = .ok (.aload_n 0, 1) := by decide +kernel
theorem dX7_addSkill_17 : decode cX7_addSkill 17 = .ok (.getfield 11, 3) := by decide +kernel
theorem dX7_addSkill_20 : decode cX7_addSkill 20 = .ok (.arraylength, 1) := by decide +kernel
theorem dX7_addSkill_21 : decode cX7_addSkill 21 = .ok (.if_icmp .lt 13, 3) := by decide +kernel
theorem dX7_addSkill_24 : decode cX7_addSkill 24 = .ok (.new 36, 3) := by decide +kernel
theorem dX7_addSkill_27 : decode cX7_addSkill 27 = .ok (.dup, 1) := by decide +kernel
theorem dX7_addSkill_28 : decode cX7_addSkill 28 = .ok (.ldc 38, 2) := by decide +kernel
theorem dX7_addSkill_30 : decode cX7_addSkill 30 = .ok (.invokespecial 40, 3) := by decide +kernel
theorem dX7_addSkill_33 : decode cX7_addSkill 33 = .ok (.athrow, 1) := by decide +kernel
theorem dX7_addSkill_34 : decode cX7_addSkill 34 = .ok (.aload_n 0, 1) := by decide +kernel
theorem dX7_addSkill_35 : decode cX7_addSkill 35 = .ok (.getfield 11, 3) := by decide +kernel
theorem dX7_addSkill_38 : decode cX7_addSkill 38 = .ok (.aload_n 0, 1) := by decide +kernel
theorem dX7_addSkill_39 : decode cX7_addSkill 39 = .ok (.getfield 32, 3) := by decide +kernel
theorem dX7_addSkill_42 : decode cX7_addSkill 42 = .ok (.new 9, 3) := by decide +kernel
theorem dX7_addSkill_45 : decode cX7_addSkill 45 = .ok (.dup, 1) := by decide +kernel
theorem dX7_addSkill_46 : decode cX7_addSkill 46 = .ok (.iload_n 1, 1) := by decide +kernel
theorem dX7_addSkill_47 : decode cX7_addSkill 47 = .ok (.iload_n 2, 1) := by decide +kernel
theorem dX7_addSkill_48 : decode cX7_addSkill 48 = .ok (.iload_n 3, 1) := by decide +kernel
theorem dX7_addSkill_49 : decode cX7_addSkill 49 = .ok (.invokespecial 43, 3) := by decide +kernel
theorem dX7_addSkill_52 : decode cX7_addSkill 52 = .ok (.aastore, 1) := by decide +kernel
theorem dX7_addSkill_53 : decode cX7_addSkill 53 = .ok (.aload_n 0, 1) := by decide +kernel
theorem dX7_addSkill_54 : decode cX7_addSkill 54 = .ok (.dup, 1) := by decide +kernel
theorem dX7_addSkill_55 : decode cX7_addSkill 55 = .ok (.getfield 32, 3) := by decide +kernel
theorem dX7_addSkill_58 : decode cX7_addSkill 58 = .ok (.iconst 1, 1) := by decide +kernel
theorem dX7_addSkill_59 : decode cX7_addSkill 59 = .ok (.iadd, 1) := by decide +kernel
theorem dX7_addSkill_60 : decode cX7_addSkill 60 = .ok (.putfield 32, 3) := by decide +kernel
theorem dX7_addSkill_63 : decode cX7_addSkill 63 = .ok (.aload_n 0, 1) := by decide +kernel
theorem dX7_addSkill_64 : decode cX7_addSkill 64 = .ok (.getfield 32, 3) := by decide +kernel
theorem dX7_addSkill_67 : decode cX7_addSkill 67 = .ok (.iconst 1, 1) := by decide +kernel
theorem dX7_addSkill_68 : decode cX7_addSkill 68 = .ok (.isub, 1) := by decide +kernel
theorem dX7_addSkill_69 : decode cX7_addSkill 69 = .ok (.ireturn, 1) := by decide +kernel
theorem dX7_addNeed_0 : decode cX7_addNeed 0 = .ok (.aload_n 0, 1) := by decide +kernel
theorem dX7_addNeed_1 : decode cX7_addNeed 1 = .ok (.iload_n 1, 1) := by decide +kernel
theorem dX7_addNeed_2 : decode cX7_addNeed 2 = .ok (.invokevirtual 46, 3) := by decide +kernel
theorem dX7_addNeed_5 : decode cX7_addNeed 5 = .ok (.astore_n 3, 1) := by decide +kernel
theorem dX7_addNeed_6 : decode cX7_addNeed 6 = .ok (.aload_n 0, 1) := by decide +kernel
theorem dX7_addNeed_7 : decode cX7_addNeed 7 = .ok (.iload_n 2, 1) := by decide +kernel
theorem dX7_addNeed_8 : decode cX7_addNeed 8 = .ok (.invokevirtual 46, 3) := by decide +kernel
theorem dX7_addNeed_11 : decode cX7_addNeed 11 = .ok (.pop, 1) := by decide +kernel
theorem dX7_addNeed_12 : decode cX7_addNeed 12 = .ok (.aload_n 0, 1) := by decide +kernel
theorem dX7_addNeed_13 : decode cX7_addNeed 13 = .ok (.iload_n 2, 1) := by decide +kernel
theorem dX7_addNeed_14 : decode cX7_addNeed 14 = .ok (.iload_n 1, 1) := by decide +kernel
theorem dX7_addNeed_15 : decode cX7_addNeed 15 = .ok (.invokevirtual 50, 3) := by decide +kernel
theorem dX7_addNeed_18 : decode cX7_addNeed 18 = .ok (.ifCond .eq 13, 3) := by decide +kernel
theorem dX7_addNeed_21 : decode cX7_addNeed 21 = .ok (.new 54, 3) := by decide +kernel
theorem dX7_addNeed_24 : decode cX7_addNeed 24 = .ok (.dup, 1) := by decide +kernel
theorem dX7_addNeed_25 : decode cX7_addNeed 25 = .ok (.ldc 56, 2) := by decide +kernel
theorem dX7_addNeed_27 : decode cX7_addNeed 27 = .ok (.invokespecial 58, 3) := by decide +kernel
theorem dX7_addNeed_30 : decode cX7_addNeed 30 = .ok (.athrow, 1) := by decide +kernel
theorem dX7_addNeed_31 : decode cX7_addNeed 31 = .ok (.aload_n 3, 1) := by decide +kernel
theorem dX7_addNeed_32 : decode cX7_addNeed 32 = .ok (.iload_n 2, 1) := by decide +kernel
theorem dX7_addNeed_33 : decode cX7_addNeed 33 = .ok (.invokevirtual 59, 3) := by decide +kernel
theorem dX7_addNeed_36 : decode cX7_addNeed 36 = .ok (.ifCond .eq 5, 3) := by decide +kernel
theorem dX7_addNeed_39 : decode cX7_addNeed 39 = .ok (.iconst 0, 1) := by decide +kernel
theorem dX7_addNeed_40 : decode cX7_addNeed 40 = .ok (.ireturn, 1) := by decide +kernel
theorem dX7_addNeed_41 : decode cX7_addNeed 41 = .ok (.aload_n 3, 1) := by decide +kernel
theorem dX7_addNeed_42 : decode cX7_addNeed 42 = .ok (.dup, 1) := by decide +kernel
theorem dX7_addNeed_43 : decode cX7_addNeed 43 = .ok (.getfield 63, 3) := by decide +kernel
theorem dX7_addNeed_46 : decode cX7_addNeed 46 = .ok (.iconst 1, 1) := by decide +kernel
theorem dX7_addNeed_47 : decode cX7_addNeed 47 = .ok (.iload_n 2, 1) := by decide +kernel
theorem dX7_addNeed_48 : decode cX7_addNeed 48 = .ok (.ishl, 1) := by decide +kernel
theorem dX7_addNeed_49 : decode cX7_addNeed 49 = .ok (.ior, 1) := by decide +kernel
theorem dX7_addNeed_50 : decode cX7_addNeed 50 = .ok (.putfield 63, 3) := by decide +kernel
theorem dX7_addNeed_53 : decode cX7_addNeed 53 = .ok (.iconst 1, 1) := by decide +kernel
theorem dX7_addNeed_54 : decode cX7_addNeed 54 = .ok (.ireturn, 1) := by decide +kernel
theorem dX7_addLearner_0 : decode cX7_addLearner 0 = .ok (.aload_n 0, 1) := by decide +kernel
theorem dX7_addLearner_1 : decode cX7_addLearner 1 = .ok (.getfield 66, 3) := by decide +kernel
theorem dX7_addLearner_4 : decode cX7_addLearner 4 = .ok (.aload_n 0, 1) := by decide +kernel
theorem dX7_addLearner_5 : decode cX7_addLearner 5 = .ok (.getfield 17, 3) := by decide +kernel
theorem dX7_addLearner_8 : decode cX7_addLearner 8 = .ok (.arraylength, 1) := by decide +kernel
theorem dX7_addLearner_9 : decode cX7_addLearner 9 = .ok (.if_icmp .lt 13, 3) := by decide +kernel
theorem dX7_addLearner_12 : decode cX7_addLearner 12 = .ok (.new 36, 3) := by decide +kernel
theorem dX7_addLearner_15 : decode cX7_addLearner 15 = .ok (.dup, 1) := by decide +kernel
theorem dX7_addLearner_16 : decode cX7_addLearner 16 = .ok (.ldc 69, 2) := by decide +kernel
theorem dX7_addLearner_18 : decode cX7_addLearner 18 = .ok (.invokespecial 40, 3) := by decide +kernel
theorem dX7_addLearner_21 : decode cX7_addLearner 21 = .ok (.athrow, 1) := by decide +kernel
theorem dX7_addLearner_22 : decode cX7_addLearner 22 = .ok (.aload_n 0, 1) := by decide +kernel
theorem dX7_addLearner_23 : decode cX7_addLearner 23 = .ok (.getfield 17, 3) := by decide +kernel
theorem dX7_addLearner_26 : decode cX7_addLearner 26 = .ok (.aload_n 0, 1) := by decide +kernel
theorem dX7_addLearner_27 : decode cX7_addLearner 27 = .ok (.getfield 66, 3) := by decide +kernel
theorem dX7_addLearner_30 : decode cX7_addLearner 30 = .ok (.new 15, 3) := by decide +kernel
theorem dX7_addLearner_33 : decode cX7_addLearner 33 = .ok (.dup, 1) := by decide +kernel
theorem dX7_addLearner_34 : decode cX7_addLearner 34 = .ok (.invokespecial 71, 3) := by decide +kernel
theorem dX7_addLearner_37 : decode cX7_addLearner 37 = .ok (.aastore, 1) := by decide +kernel
theorem dX7_addLearner_38 : decode cX7_addLearner 38 = .ok (.aload_n 0, 1) := by decide +kernel
theorem dX7_addLearner_39 : decode cX7_addLearner 39 = .ok (.dup, 1) := by decide +kernel
theorem dX7_addLearner_40 : decode cX7_addLearner 40 = .ok (.getfield 66, 3) := by decide +kernel
theorem dX7_addLearner_43 : decode cX7_addLearner 43 = .ok (.iconst 1, 1) := by decide +kernel
theorem dX7_addLearner_44 : decode cX7_addLearner 44 = .ok (.iadd, 1) := by decide +kernel
theorem dX7_addLearner_45 : decode cX7_addLearner 45 = .ok (.putfield 66, 3) := by decide +kernel
theorem dX7_addLearner_48 : decode cX7_addLearner 48 = .ok (.aload_n 0, 1) := by decide +kernel
theorem dX7_addLearner_49 : decode cX7_addLearner 49 = .ok (.getfield 66, 3) := by decide +kernel
theorem dX7_addLearner_52 : decode cX7_addLearner 52 = .ok (.iconst 1, 1) := by decide +kernel
theorem dX7_addLearner_53 : decode cX7_addLearner 53 = .ok (.isub, 1) := by decide +kernel
theorem dX7_addLearner_54 : decode cX7_addLearner 54 = .ok (.ireturn, 1) := by decide +kernel
theorem dX7_open_0 : decode cX7_open 0 = .ok (.aload_n 0, 1) := by decide +kernel
theorem dX7_open_1 : decode cX7_open 1 = .ok (.iload_n 1, 1) := by decide +kernel
theorem dX7_open_2 : decode cX7_open 2 = .ok (.invokevirtual 72, 3) := by decide +kernel
theorem dX7_open_5 : decode cX7_open 5 = .ok (.astore_n 3, 1) := by decide +kernel
theorem dX7_open_6 : decode cX7_open 6 = .ok (.aload_n 0, 1) := by decide +kernel
theorem dX7_open_7 : decode cX7_open 7 = .ok (.iload_n 2, 1) := by decide +kernel
theorem dX7_open_8 : decode cX7_open 8 = .ok (.invokevirtual 46, 3) := by decide +kernel
theorem dX7_open_11 : decode cX7_open 11 = .ok (.pop, 1) := by decide +kernel
theorem dX7_open_12 : decode cX7_open 12 = .ok (.aload_n 0, 1) := by decide +kernel
theorem dX7_open_13 : decode cX7_open 13 = .ok (.aload_n 3, 1) := by decide +kernel
theorem dX7_open_14 : decode cX7_open 14 = .ok (.iload_n 2, 1) := by decide +kernel
theorem dX7_open_15 : decode cX7_open 15 = .ok (.invokevirtual 76, 3) := by decide +kernel
theorem dX7_open_18 : decode cX7_open 18 = .ok (.istore 4, 2) := by decide +kernel
theorem dX7_open_20 : decode cX7_open 20 = .ok (.aload_n 3, 1) := by decide +kernel
theorem dX7_open_21 : decode cX7_open 21 = .ok (.getfield 80, 3) := by decide +kernel
theorem dX7_open_24 : decode cX7_open 24 = .ok (.iload_n 2, 1) := by decide +kernel
theorem dX7_open_25 : decode cX7_open 25 = .ok (.aaload, 1) := by decide +kernel
theorem dX7_open_26 : decode cX7_open 26 = .ok (.iconst 1, 1) := by decide +kernel
theorem dX7_open_27 : decode cX7_open 27 = .ok (.putfield 84, 3) := by decide +kernel
theorem dX7_open_30 : decode cX7_open 30 = .ok (.iload 4, 2) := by decide +kernel
theorem dX7_open_32 : decode cX7_open 32 = .ok (.ifCond .ne 7, 3) := by decide +kernel
theorem dX7_open_35 : decode cX7_open 35 = .ok (.iconst 1, 1) := by decide +kernel
theorem dX7_open_36 : decode cX7_open 36 = .ok (.goto 4, 3) := by decide +kernel
theorem dX7_open_39 : decode cX7_open 39 = .ok (.iconst 0, 1) := by decide +kernel
theorem dX7_open_40 : decode cX7_open 40 = .ok (.ireturn, 1) := by decide +kernel
theorem dX7_isOpen_0 : decode cX7_isOpen 0 = .ok (.aload_n 0, 1) := by decide +kernel
theorem dX7_isOpen_1 : decode cX7_isOpen 1 = .ok (.iload_n 1, 1) := by decide +kernel
theorem dX7_isOpen_2 : decode cX7_isOpen 2 = .ok (.invokevirtual 72, 3) := by decide +kernel
theorem dX7_isOpen_5 : decode cX7_isOpen 5 = .ok (.astore_n 3, 1) := by decide +kernel
theorem dX7_isOpen_6 : decode cX7_isOpen 6 = .ok (.aload_n 0, 1) := by decide +kernel
theorem dX7_isOpen_7 : decode cX7_isOpen 7 = .ok (.iload_n 2, 1) := by decide +kernel
theorem dX7_isOpen_8 : decode cX7_isOpen 8 = .ok (.invokevirtual 46, 3) := by decide +kernel
theorem dX7_isOpen_11 : decode cX7_isOpen 11 = .ok (.pop, 1) := by decide +kernel
theorem dX7_isOpen_12 : decode cX7_isOpen 12 = .ok (.aload_n 0, 1) := by decide +kernel
theorem dX7_isOpen_13 : decode cX7_isOpen 13 = .ok (.aload_n 3, 1) := by decide +kernel
theorem dX7_isOpen_14 : decode cX7_isOpen 14 = .ok (.iload_n 2, 1) := by decide +kernel
theorem dX7_isOpen_15 : decode cX7_isOpen 15 = .ok (.invokevirtual 76, 3) := by decide +kernel
theorem dX7_isOpen_18 : decode cX7_isOpen 18 = .ok (.ireturn, 1) := by decide +kernel
theorem dX7_setOdds_0 : decode cX7_setOdds 0 = .ok (.aload_n 0, 1) := by decide +kernel
theorem dX7_setOdds_1 : decode cX7_setOdds 1 = .ok (.iload_n 1, 1) := by decide +kernel
theorem dX7_setOdds_2 : decode cX7_setOdds 2 = .ok (.iload_n 2, 1) := by decide +kernel
theorem dX7_setOdds_3 : decode cX7_setOdds 3 = .ok (.invokevirtual 90, 3) := by decide +kernel
theorem dX7_setOdds_6 : decode cX7_setOdds 6 = .ok (.astore 4, 2) := by decide +kernel
theorem dX7_setOdds_8 : decode cX7_setOdds 8 = .ok (.iload_n 3, 1) := by decide +kernel
theorem dX7_setOdds_9 : decode cX7_setOdds 9 = .ok (.ifCond .lt 10, 3) := by decide +kernel
theorem dX7_setOdds_12 : decode cX7_setOdds 12 = .ok (.iload_n 3, 1) := by decide +kernel
theorem dX7_setOdds_13 : decode cX7_setOdds 13 = .ok (.sipush 1000, 3) := by decide +kernel
theorem dX7_setOdds_16 : decode cX7_setOdds 16 = .ok (.if_icmp .le 13, 3) := by decide +kernel
theorem dX7_setOdds_19 : decode cX7_setOdds 19 = .ok (.new 54, 3) := by decide +kernel
theorem dX7_setOdds_22 : decode cX7_setOdds 22 = .ok (.dup, 1) := by decide +kernel
theorem dX7_setOdds_23 : decode cX7_setOdds 23 = .ok (.ldc 94, 2) := by decide +kernel
theorem dX7_setOdds_25 : decode cX7_setOdds 25 = .ok (.invokespecial 58, 3) := by decide +kernel
theorem dX7_setOdds_28 : decode cX7_setOdds 28 = .ok (.athrow, 1) := by decide +kernel
theorem dX7_setOdds_29 : decode cX7_setOdds 29 = .ok (.aload 4, 2) := by decide +kernel
theorem dX7_setOdds_31 : decode cX7_setOdds 31 = .ok (.getfield 96, 3) := by decide +kernel
theorem dX7_setOdds_34 : decode cX7_setOdds 34 = .ok (.istore 5, 2) := by decide +kernel
theorem dX7_setOdds_36 : decode cX7_setOdds 36 = .ok (.aload 4, 2) := by decide +kernel
theorem dX7_setOdds_38 : decode cX7_setOdds 38 = .ok (.iload_n 3, 1) := by decide +kernel
theorem dX7_setOdds_39 : decode cX7_setOdds 39 = .ok (.invokevirtual 99, 3) := by decide +kernel
theorem dX7_setOdds_42 : decode cX7_setOdds 42 = .ok (.iload 5, 2) := by decide +kernel
theorem dX7_setOdds_44 : decode cX7_setOdds 44 = .ok (.ireturn, 1) := by decide +kernel
theorem dX7_answer_0 : decode cX7_answer 0 = .ok (.aload_n 0, 1) := by decide +kernel
theorem dX7_answer_1 : decode cX7_answer 1 = .ok (.iload_n 1, 1) := by decide +kernel
theorem dX7_answer_2 : decode cX7_answer 2 = .ok (.invokevirtual 72, 3) := by decide +kernel
theorem dX7_answer_5 : decode cX7_answer 5 = .ok (.astore 4, 2) := by decide +kernel
theorem dX7_answer_7 : decode cX7_answer 7 = .ok (.aload_n 0, 1) := by decide +kernel
theorem dX7_answer_8 : decode cX7_answer 8 = .ok (.iload_n 2, 1) := by decide +kernel
theorem dX7_answer_9 : decode cX7_answer 9 = .ok (.invokevirtual 46, 3) := by decide +kernel
theorem dX7_answer_12 : decode cX7_answer 12 = .ok (.pop, 1) := by decide +kernel
theorem dX7_answer_13 : decode cX7_answer 13 = .ok (.aload_n 0, 1) := by decide +kernel
theorem dX7_answer_14 : decode cX7_answer 14 = .ok (.aload 4, 2) := by decide +kernel
theorem dX7_answer_16 : decode cX7_answer 16 = .ok (.iload_n 2, 1) := by decide +kernel
theorem dX7_answer_17 : decode cX7_answer 17 = .ok (.invokevirtual 102, 3) := by decide +kernel
theorem dX7_answer_20 : decode cX7_answer 20 = .ok (.aload_n 0, 1) := by decide +kernel
theorem dX7_answer_21 : decode cX7_answer 21 = .ok (.aload 4, 2) := by decide +kernel
theorem dX7_answer_23 : decode cX7_answer 23 = .ok (.iload_n 2, 1) := by decide +kernel
theorem dX7_answer_24 : decode cX7_answer 24 = .ok (.iload_n 3, 1) := by decide +kernel
theorem dX7_answer_25 : decode cX7_answer 25 = .ok (.invokevirtual 106, 3) := by decide +kernel
theorem dX7_answer_28 : decode cX7_answer 28 = .ok (.aload 4, 2) := by decide +kernel
theorem dX7_answer_30 : decode cX7_answer 30 = .ok (.getfield 80, 3) := by decide +kernel
theorem dX7_answer_33 : decode cX7_answer 33 = .ok (.iload_n 2, 1) := by decide +kernel
theorem dX7_answer_34 : decode cX7_answer 34 = .ok (.aaload, 1) := by decide +kernel
theorem dX7_answer_35 : decode cX7_answer 35 = .ok (.getfield 96, 3) := by decide +kernel
theorem dX7_answer_38 : decode cX7_answer 38 = .ok (.ireturn, 1) := by decide +kernel
theorem dX7_odds_0 : decode cX7_odds 0 = .ok (.aload_n 0, 1) := by decide +kernel
theorem dX7_odds_1 : decode cX7_odds 1 = .ok (.iload_n 1, 1) := by decide +kernel
theorem dX7_odds_2 : decode cX7_odds 2 = .ok (.iload_n 2, 1) := by decide +kernel
theorem dX7_odds_3 : decode cX7_odds 3 = .ok (.invokevirtual 90, 3) := by decide +kernel
theorem dX7_odds_6 : decode cX7_odds 6 = .ok (.getfield 96, 3) := by decide +kernel
theorem dX7_odds_9 : decode cX7_odds 9 = .ok (.ireturn, 1) := by decide +kernel
theorem dX7_oddsAnew_0 : decode cX7_oddsAnew 0 = .ok (.aload_n 0, 1) := by decide +kernel
theorem dX7_oddsAnew_1 : decode cX7_oddsAnew 1 = .ok (.iload_n 1, 1) := by decide +kernel
theorem dX7_oddsAnew_2 : decode cX7_oddsAnew 2 = .ok (.iload_n 2, 1) := by decide +kernel
theorem dX7_oddsAnew_3 : decode cX7_oddsAnew 3 = .ok (.invokevirtual 90, 3) := by decide +kernel
theorem dX7_oddsAnew_6 : decode cX7_oddsAnew 6 = .ok (.astore_n 3, 1) := by decide +kernel
theorem dX7_oddsAnew_7 : decode cX7_oddsAnew 7 = .ok (.aload_n 3, 1) := by decide +kernel
theorem dX7_oddsAnew_8 : decode cX7_oddsAnew 8 = .ok (.aload_n 0, 1) := by decide +kernel
theorem dX7_oddsAnew_9 : decode cX7_oddsAnew 9 = .ok (.iload_n 2, 1) := by decide +kernel
theorem dX7_oddsAnew_10 : decode cX7_oddsAnew 10 = .ok (.invokevirtual 46, 3) := by decide +kernel
theorem dX7_oddsAnew_13 : decode cX7_oddsAnew 13 = .ok (.invokevirtual 110, 3) := by decide +kernel
theorem dX7_oddsAnew_16 : decode cX7_oddsAnew 16 = .ok (.ireturn, 1) := by decide +kernel
theorem dX7_answers_0 : decode cX7_answers 0 = .ok (.aload_n 0, 1) := by decide +kernel
theorem dX7_answers_1 : decode cX7_answers 1 = .ok (.iload_n 1, 1) := by decide +kernel
theorem dX7_answers_2 : decode cX7_answers 2 = .ok (.iload_n 2, 1) := by decide +kernel
theorem dX7_answers_3 : decode cX7_answers 3 = .ok (.invokevirtual 90, 3) := by decide +kernel
theorem dX7_answers_6 : decode cX7_answers 6 = .ok (.getfield 114, 3) := by decide +kernel
theorem dX7_answers_9 : decode cX7_answers 9 = .ok (.ireturn, 1) := by decide +kernel
theorem dX7_nextDay_0 : decode cX7_nextDay 0 = .ok (.aload_n 0, 1) := by decide +kernel
theorem dX7_nextDay_1 : decode cX7_nextDay 1 = .ok (.getfield 117, 3) := by decide +kernel
theorem dX7_nextDay_4 : decode cX7_nextDay 4 = .ok (.sipush 200, 3) := by decide +kernel
theorem dX7_nextDay_7 : decode cX7_nextDay 7 = .ok (.if_icmp .lt 13, 3) := by decide +kernel
theorem dX7_nextDay_10 : decode cX7_nextDay 10 = .ok (.new 120, 3) := by decide +kernel
theorem dX7_nextDay_13 : decode cX7_nextDay 13 = .ok (.dup, 1) := by decide +kernel
theorem dX7_nextDay_14 : decode cX7_nextDay 14 = .ok (.ldc 122, 2) := by decide +kernel
theorem dX7_nextDay_16 : decode cX7_nextDay 16 = .ok (.invokespecial 124, 3) := by decide +kernel
theorem dX7_nextDay_19 : decode cX7_nextDay 19 = .ok (.athrow, 1) := by decide +kernel
theorem dX7_nextDay_20 : decode cX7_nextDay 20 = .ok (.aload_n 0, 1) := by decide +kernel
theorem dX7_nextDay_21 : decode cX7_nextDay 21 = .ok (.dup, 1) := by decide +kernel
theorem dX7_nextDay_22 : decode cX7_nextDay 22 = .ok (.getfield 117, 3) := by decide +kernel
theorem dX7_nextDay_25 : decode cX7_nextDay 25 = .ok (.iconst 1, 1) := by decide +kernel
theorem dX7_nextDay_26 : decode cX7_nextDay 26 = .ok (.iadd, 1) := by decide +kernel
theorem dX7_nextDay_27 : decode cX7_nextDay 27 = .ok (.putfield 117, 3) := by decide +kernel
theorem dX7_nextDay_30 : decode cX7_nextDay 30 = .ok (.aload_n 0, 1) := by decide +kernel
theorem dX7_nextDay_31 : decode cX7_nextDay 31 = .ok (.getfield 117, 3) := by decide +kernel
theorem dX7_nextDay_34 : decode cX7_nextDay 34 = .ok (.ireturn, 1) := by decide +kernel
theorem dX7_due_0 : decode cX7_due 0 = .ok (.aload_n 0, 1) := by decide +kernel
theorem dX7_due_1 : decode cX7_due 1 = .ok (.iload_n 1, 1) := by decide +kernel
theorem dX7_due_2 : decode cX7_due 2 = .ok (.iload_n 2, 1) := by decide +kernel
theorem dX7_due_3 : decode cX7_due 3 = .ok (.invokevirtual 90, 3) := by decide +kernel
theorem dX7_due_6 : decode cX7_due 6 = .ok (.astore_n 3, 1) := by decide +kernel
theorem dX7_due_7 : decode cX7_due 7 = .ok (.aload_n 3, 1) := by decide +kernel
theorem dX7_due_8 : decode cX7_due 8 = .ok (.invokevirtual 125, 3) := by decide +kernel
theorem dX7_due_11 : decode cX7_due 11 = .ok (.ifCond .ne 13, 3) := by decide +kernel
theorem dX7_due_14 : decode cX7_due 14 = .ok (.new 129, 3) := by decide +kernel
theorem dX7_due_17 : decode cX7_due 17 = .ok (.dup, 1) := by decide +kernel
theorem dX7_due_18 : decode cX7_due 18 = .ok (.ldc 131, 2) := by decide +kernel
theorem dX7_due_20 : decode cX7_due 20 = .ok (.invokespecial 133, 3) := by decide +kernel
theorem dX7_due_23 : decode cX7_due 23 = .ok (.athrow, 1) := by decide +kernel
theorem dX7_due_24 : decode cX7_due 24 = .ok (.aload_n 3, 1) := by decide +kernel
theorem dX7_due_25 : decode cX7_due 25 = .ok (.getfield 134, 3) := by decide +kernel
theorem dX7_due_28 : decode cX7_due 28 = .ok (.ireturn, 1) := by decide +kernel
theorem dX7_reviews_0 : decode cX7_reviews 0 = .ok (.aload_n 0, 1) := by decide +kernel
theorem dX7_reviews_1 : decode cX7_reviews 1 = .ok (.iload_n 1, 1) := by decide +kernel
theorem dX7_reviews_2 : decode cX7_reviews 2 = .ok (.invokevirtual 72, 3) := by decide +kernel
theorem dX7_reviews_5 : decode cX7_reviews 5 = .ok (.astore_n 2, 1) := by decide +kernel
theorem dX7_reviews_6 : decode cX7_reviews 6 = .ok (.iconst 0, 1) := by decide +kernel
theorem dX7_reviews_7 : decode cX7_reviews 7 = .ok (.istore_n 3, 1) := by decide +kernel
theorem dX7_reviews_8 : decode cX7_reviews 8 = .ok (.iconst 0, 1) := by decide +kernel
theorem dX7_reviews_9 : decode cX7_reviews 9 = .ok (.istore 4, 2) := by decide +kernel
theorem dX7_reviews_11 : decode cX7_reviews 11 = .ok (.iload 4, 2) := by decide +kernel
theorem dX7_reviews_13 : decode cX7_reviews 13 = .ok (.aload_n 0, 1) := by decide +kernel
theorem dX7_reviews_14 : decode cX7_reviews 14 = .ok (.getfield 32, 3) := by decide +kernel
theorem dX7_reviews_17 : decode cX7_reviews 17 = .ok (.if_icmp .ge 29, 3) := by decide +kernel
theorem dX7_reviews_20 : decode cX7_reviews 20 = .ok (.aload_n 2, 1) := by decide +kernel
theorem dX7_reviews_21 : decode cX7_reviews 21 = .ok (.getfield 80, 3) := by decide +kernel
theorem dX7_reviews_24 : decode cX7_reviews 24 = .ok (.iload 4, 2) := by decide +kernel
theorem dX7_reviews_26 : decode cX7_reviews 26 = .ok (.aaload, 1) := by decide +kernel
theorem dX7_reviews_27 : decode cX7_reviews 27 = .ok (.aload_n 0, 1) := by decide +kernel
theorem dX7_reviews_28 : decode cX7_reviews 28 = .ok (.getfield 117, 3) := by decide +kernel
theorem dX7_reviews_31 : decode cX7_reviews 31 = .ok (.invokevirtual 137, 3) := by decide +kernel
theorem dX7_reviews_34 : decode cX7_reviews 34 = .ok (.ifCond .eq 6, 3) := by decide +kernel
theorem dX7_reviews_37 : decode cX7_reviews 37 = .ok (.iinc 3 1, 3) := by decide +kernel
theorem dX7_reviews_40 : decode cX7_reviews 40 = .ok (.iinc 4 1, 3) := by decide +kernel
theorem dX7_reviews_43 : decode cX7_reviews 43 = .ok (.goto (-32), 3) := by decide +kernel
theorem dX7_reviews_46 : decode cX7_reviews 46 = .ok (.iload_n 3, 1) := by decide +kernel
theorem dX7_reviews_47 : decode cX7_reviews 47 = .ok (.ireturn, 1) := by decide +kernel
theorem dX7_reviewAt_0 : decode cX7_reviewAt 0 = .ok (.aload_n 0, 1) := by decide +kernel
theorem dX7_reviewAt_1 : decode cX7_reviewAt 1 = .ok (.iload_n 1, 1) := by decide +kernel
theorem dX7_reviewAt_2 : decode cX7_reviewAt 2 = .ok (.invokevirtual 72, 3) := by decide +kernel
theorem dX7_reviewAt_5 : decode cX7_reviewAt 5 = .ok (.astore_n 3, 1) := by decide +kernel
theorem dX7_reviewAt_6 : decode cX7_reviewAt 6 = .ok (.iconst 0, 1) := by decide +kernel
theorem dX7_reviewAt_7 : decode cX7_reviewAt 7 = .ok (.istore 4, 2) := by decide +kernel
theorem dX7_reviewAt_9 : decode cX7_reviewAt 9 = .ok (.iload 4, 2) := by decide +kernel
theorem dX7_reviewAt_11 : decode cX7_reviewAt 11 = .ok (.aload_n 0, 1) := by decide +kernel
theorem dX7_reviewAt_12 : decode cX7_reviewAt 12 = .ok (.getfield 32, 3) := by decide +kernel
theorem dX7_reviewAt_15 : decode cX7_reviewAt 15 = .ok (.if_icmp .ge 40, 3) := by decide +kernel
theorem dX7_reviewAt_18 : decode cX7_reviewAt 18 = .ok (.aload_n 3, 1) := by decide +kernel
theorem dX7_reviewAt_19 : decode cX7_reviewAt 19 = .ok (.getfield 80, 3) := by decide +kernel
theorem dX7_reviewAt_22 : decode cX7_reviewAt 22 = .ok (.iload 4, 2) := by decide +kernel
theorem dX7_reviewAt_24 : decode cX7_reviewAt 24 = .ok (.aaload, 1) := by decide +kernel
theorem dX7_reviewAt_25 : decode cX7_reviewAt 25 = .ok (.aload_n 0, 1) := by decide +kernel
theorem dX7_reviewAt_26 : decode cX7_reviewAt 26 = .ok (.getfield 117, 3) := by decide +kernel
theorem dX7_reviewAt_29 : decode cX7_reviewAt 29 = .ok (.invokevirtual 137, 3) := by decide +kernel
theorem dX7_reviewAt_32 : decode cX7_reviewAt 32 = .ok (.ifCond .eq 17, 3) := by decide +kernel
theorem dX7_reviewAt_35 : decode cX7_reviewAt 35 = .ok (.aload_n 0, 1) := by decide +kernel
theorem dX7_reviewAt_36 : decode cX7_reviewAt 36 = .ok (.aload_n 3, 1) := by decide +kernel
theorem dX7_reviewAt_37 : decode cX7_reviewAt 37 = .ok (.iload 4, 2) := by decide +kernel
theorem dX7_reviewAt_39 : decode cX7_reviewAt 39 = .ok (.invokevirtual 140, 3) := by decide +kernel
theorem dX7_reviewAt_42 : decode cX7_reviewAt 42 = .ok (.iload_n 2, 1) := by decide +kernel
theorem dX7_reviewAt_43 : decode cX7_reviewAt 43 = .ok (.if_icmp .ne 6, 3) := by decide +kernel
theorem dX7_reviewAt_46 : decode cX7_reviewAt 46 = .ok (.iload 4, 2) := by decide +kernel
theorem dX7_reviewAt_48 : decode cX7_reviewAt 48 = .ok (.ireturn, 1) := by decide +kernel
theorem dX7_reviewAt_49 : decode cX7_reviewAt 49 = .ok (.iinc 4 1, 3) := by decide +kernel
theorem dX7_reviewAt_52 : decode cX7_reviewAt 52 = .ok (.goto (-43), 3) := by decide +kernel
theorem dX7_reviewAt_55 : decode cX7_reviewAt 55 = .ok (.new 129, 3) := by decide +kernel
theorem dX7_reviewAt_58 : decode cX7_reviewAt 58 = .ok (.dup, 1) := by decide +kernel
theorem dX7_reviewAt_59 : decode cX7_reviewAt 59 = .ok (.ldc 144, 2) := by decide +kernel
theorem dX7_reviewAt_61 : decode cX7_reviewAt 61 = .ok (.invokespecial 133, 3) := by decide +kernel
theorem dX7_reviewAt_64 : decode cX7_reviewAt 64 = .ok (.athrow, 1) := by decide +kernel
theorem dX7_choose_0 : decode cX7_choose 0 = .ok (.aload_n 0, 1) := by decide +kernel
theorem dX7_choose_1 : decode cX7_choose 1 = .ok (.iload_n 1, 1) := by decide +kernel
theorem dX7_choose_2 : decode cX7_choose 2 = .ok (.invokevirtual 72, 3) := by decide +kernel
theorem dX7_choose_5 : decode cX7_choose 5 = .ok (.astore_n 2, 1) := by decide +kernel
theorem dX7_choose_6 : decode cX7_choose 6 = .ok (.aload_n 0, 1) := by decide +kernel
theorem dX7_choose_7 : decode cX7_choose 7 = .ok (.aload_n 2, 1) := by decide +kernel
theorem dX7_choose_8 : decode cX7_choose 8 = .ok (.invokevirtual 146, 3) := by decide +kernel
theorem dX7_choose_11 : decode cX7_choose 11 = .ok (.istore_n 3, 1) := by decide +kernel
theorem dX7_choose_12 : decode cX7_choose 12 = .ok (.iload_n 3, 1) := by decide +kernel
theorem dX7_choose_13 : decode cX7_choose 13 = .ok (.iconst (-1), 1) := by decide +kernel
theorem dX7_choose_14 : decode cX7_choose 14 = .ok (.if_icmp .ne 9, 3) := by decide +kernel
theorem dX7_choose_17 : decode cX7_choose 17 = .ok (.aload_n 0, 1) := by decide +kernel
theorem dX7_choose_18 : decode cX7_choose 18 = .ok (.aload_n 2, 1) := by decide +kernel
theorem dX7_choose_19 : decode cX7_choose 19 = .ok (.invokevirtual 150, 3) := by decide +kernel
theorem dX7_choose_22 : decode cX7_choose 22 = .ok (.istore_n 3, 1) := by decide +kernel
theorem dX7_choose_23 : decode cX7_choose 23 = .ok (.iload_n 3, 1) := by decide +kernel
theorem dX7_choose_24 : decode cX7_choose 24 = .ok (.iconst (-1), 1) := by decide +kernel
theorem dX7_choose_25 : decode cX7_choose 25 = .ok (.if_icmp .ne 13, 3) := by decide +kernel
theorem dX7_choose_28 : decode cX7_choose 28 = .ok (.new 129, 3) := by decide +kernel
theorem dX7_choose_31 : decode cX7_choose 31 = .ok (.dup, 1) := by decide +kernel
theorem dX7_choose_32 : decode cX7_choose 32 = .ok (.ldc 153, 2) := by decide +kernel
theorem dX7_choose_34 : decode cX7_choose 34 = .ok (.invokespecial 133, 3) := by decide +kernel
theorem dX7_choose_37 : decode cX7_choose 37 = .ok (.athrow, 1) := by decide +kernel
theorem dX7_choose_38 : decode cX7_choose 38 = .ok (.iload_n 3, 1) := by decide +kernel
theorem dX7_choose_39 : decode cX7_choose 39 = .ok (.ireturn, 1) := by decide +kernel
theorem dX7_make_0 : decode cX7_make 0 = .ok (.aload_n 0, 1) := by decide +kernel
theorem dX7_make_1 : decode cX7_make 1 = .ok (.iload_n 1, 1) := by decide +kernel
theorem dX7_make_2 : decode cX7_make 2 = .ok (.invokevirtual 72, 3) := by decide +kernel
theorem dX7_make_5 : decode cX7_make 5 = .ok (.astore 4, 2) := by decide +kernel
theorem dX7_make_7 : decode cX7_make 7 = .ok (.aload_n 0, 1) := by decide +kernel
theorem dX7_make_8 : decode cX7_make 8 = .ok (.iload_n 2, 1) := by decide +kernel
theorem dX7_make_9 : decode cX7_make 9 = .ok (.invokevirtual 46, 3) := by decide +kernel
theorem dX7_make_12 : decode cX7_make 12 = .ok (.pop, 1) := by decide +kernel
theorem dX7_make_13 : decode cX7_make 13 = .ok (.iload_n 3, 1) := by decide +kernel
theorem dX7_make_14 : decode cX7_make 14 = .ok (.ifCond .lt 10, 3) := by decide +kernel
theorem dX7_make_17 : decode cX7_make 17 = .ok (.iload_n 3, 1) := by decide +kernel
theorem dX7_make_18 : decode cX7_make 18 = .ok (.sipush 1260, 3) := by decide +kernel
theorem dX7_make_21 : decode cX7_make 21 = .ok (.if_icmp .lt 13, 3) := by decide +kernel
theorem dX7_make_24 : decode cX7_make 24 = .ok (.new 54, 3) := by decide +kernel
theorem dX7_make_27 : decode cX7_make 27 = .ok (.dup, 1) := by decide +kernel
theorem dX7_make_28 : decode cX7_make 28 = .ok (.ldc 155, 2) := by decide +kernel
theorem dX7_make_30 : decode cX7_make 30 = .ok (.invokespecial 58, 3) := by decide +kernel
theorem dX7_make_33 : decode cX7_make 33 = .ok (.athrow, 1) := by decide +kernel
theorem dX7_make_34 : decode cX7_make 34 = .ok (.aload_n 0, 1) := by decide +kernel
theorem dX7_make_35 : decode cX7_make 35 = .ok (.aload 4, 2) := by decide +kernel
theorem dX7_make_37 : decode cX7_make 37 = .ok (.iload_n 2, 1) := by decide +kernel
theorem dX7_make_38 : decode cX7_make 38 = .ok (.invokevirtual 102, 3) := by decide +kernel
theorem dX7_make_41 : decode cX7_make 41 = .ok (.iload_n 3, 1) := by decide +kernel
theorem dX7_make_42 : decode cX7_make 42 = .ok (.istore 5, 2) := by decide +kernel
theorem dX7_make_44 : decode cX7_make 44 = .ok (.iconst 0, 1) := by decide +kernel
theorem dX7_make_45 : decode cX7_make 45 = .ok (.istore 6, 2) := by decide +kernel
theorem dX7_make_47 : decode cX7_make 47 = .ok (.iload 6, 2) := by decide +kernel
theorem dX7_make_49 : decode cX7_make 49 = .ok (.iconst 3, 1) := by decide +kernel
theorem dX7_make_50 : decode cX7_make 50 = .ok (.if_icmp .ge 29, 3) := by decide +kernel
theorem dX7_make_53 : decode cX7_make 53 = .ok (.aload 4, 2) := by decide +kernel
theorem dX7_make_55 : decode cX7_make 55 = .ok (.iload 5, 2) := by decide +kernel
theorem dX7_make_57 : decode cX7_make 57 = .ok (.invokevirtual 157, 3) := by decide +kernel
theorem dX7_make_60 : decode cX7_make 60 = .ok (.ifCond .eq 19, 3) := by decide +kernel
theorem dX7_make_63 : decode cX7_make 63 = .ok (.iload 5, 2) := by decide +kernel
theorem dX7_make_65 : decode cX7_make 65 = .ok (.iconst 1, 1) := by decide +kernel
theorem dX7_make_66 : decode cX7_make 66 = .ok (.iadd, 1) := by decide +kernel
theorem dX7_make_67 : decode cX7_make 67 = .ok (.sipush 1260, 3) := by decide +kernel
theorem dX7_make_70 : decode cX7_make 70 = .ok (.irem, 1) := by decide +kernel
theorem dX7_make_71 : decode cX7_make 71 = .ok (.istore 5, 2) := by decide +kernel
theorem dX7_make_73 : decode cX7_make 73 = .ok (.iinc 6 1, 3) := by decide +kernel
theorem dX7_make_76 : decode cX7_make 76 = .ok (.goto (-29), 3) := by decide +kernel
theorem dX7_make_79 : decode cX7_make 79 = .ok (.aload 4, 2) := by decide +kernel
theorem dX7_make_81 : decode cX7_make 81 = .ok (.iload 5, 2) := by decide +kernel
theorem dX7_make_83 : decode cX7_make 83 = .ok (.invokevirtual 160, 3) := by decide +kernel
theorem dX7_make_86 : decode cX7_make 86 = .ok (.aload 4, 2) := by decide +kernel
theorem dX7_make_88 : decode cX7_make 88 = .ok (.new 163, 3) := by decide +kernel
theorem dX7_make_91 : decode cX7_make 91 = .ok (.dup, 1) := by decide +kernel
theorem dX7_make_92 : decode cX7_make 92 = .ok (.iload_n 2, 1) := by decide +kernel
theorem dX7_make_93 : decode cX7_make 93 = .ok (.iload 5, 2) := by decide +kernel
theorem dX7_make_95 : decode cX7_make 95 = .ok (.invokespecial 165, 3) := by decide +kernel
theorem dX7_make_98 : decode cX7_make 98 = .ok (.putfield 168, 3) := by decide +kernel
theorem dX7_make_101 : decode cX7_make 101 = .ok (.iload 5, 2) := by decide +kernel
theorem dX7_make_103 : decode cX7_make 103 = .ok (.ireturn, 1) := by decide +kernel
theorem dX7_part_0 : decode cX7_part 0 = .ok (.aload_n 0, 1) := by decide +kernel
theorem dX7_part_1 : decode cX7_part 1 = .ok (.iload_n 1, 1) := by decide +kernel
theorem dX7_part_2 : decode cX7_part 2 = .ok (.invokevirtual 72, 3) := by decide +kernel
theorem dX7_part_5 : decode cX7_part 5 = .ok (.astore_n 3, 1) := by decide +kernel
theorem dX7_part_6 : decode cX7_part 6 = .ok (.iload_n 2, 1) := by decide +kernel
theorem dX7_part_7 : decode cX7_part 7 = .ok (.bipush 97, 2) := by decide +kernel
theorem dX7_part_9 : decode cX7_part 9 = .ok (.if_icmp .lt 9, 3) := by decide +kernel
theorem dX7_part_12 : decode cX7_part 12 = .ok (.iload_n 2, 1) := by decide +kernel
theorem dX7_part_13 : decode cX7_part 13 = .ok (.bipush 100, 2) := by decide +kernel
theorem dX7_part_15 : decode cX7_part 15 = .ok (.if_icmp .le 13, 3) := by decide +kernel
theorem dX7_part_18 : decode cX7_part 18 = .ok (.new 54, 3) := by decide +kernel
theorem dX7_part_21 : decode cX7_part 21 = .ok (.dup, 1) := by decide +kernel
theorem dX7_part_22 : decode cX7_part 22 = .ok (.ldc 172, 2) := by decide +kernel
theorem dX7_part_24 : decode cX7_part 24 = .ok (.invokespecial 58, 3) := by decide +kernel
theorem dX7_part_27 : decode cX7_part 27 = .ok (.athrow, 1) := by decide +kernel
theorem dX7_part_28 : decode cX7_part 28 = .ok (.aload_n 3, 1) := by decide +kernel
theorem dX7_part_29 : decode cX7_part 29 = .ok (.invokestatic 174, 3) := by decide +kernel
theorem dX7_part_32 : decode cX7_part 32 = .ok (.getfield 178, 3) := by decide +kernel
theorem dX7_part_35 : decode cX7_part 35 = .ok (.iload_n 2, 1) := by decide +kernel
theorem dX7_part_36 : decode cX7_part 36 = .ok (.invokevirtual 182, 3) := by decide +kernel
theorem dX7_part_39 : decode cX7_part 39 = .ok (.ireturn, 1) := by decide +kernel
theorem dX7_step_0 : decode cX7_step 0 = .ok (.aload_n 0, 1) := by decide +kernel
theorem dX7_step_1 : decode cX7_step 1 = .ok (.iload_n 1, 1) := by decide +kernel
theorem dX7_step_2 : decode cX7_step 2 = .ok (.invokevirtual 72, 3) := by decide +kernel
theorem dX7_step_5 : decode cX7_step 5 = .ok (.astore 6, 2) := by decide +kernel
theorem dX7_step_7 : decode cX7_step 7 = .ok (.iload_n 2, 1) := by decide +kernel
theorem dX7_step_8 : decode cX7_step 8 = .ok (.invokestatic 188, 3) := by decide +kernel
theorem dX7_step_11 : decode cX7_step 11 = .ok (.iload_n 3, 1) := by decide +kernel
theorem dX7_step_12 : decode cX7_step 12 = .ok (.invokestatic 188, 3) := by decide +kernel
theorem dX7_step_15 : decode cX7_step 15 = .ok (.iload 4, 2) := by decide +kernel
theorem dX7_step_17 : decode cX7_step 17 = .ok (.invokestatic 188, 3) := by decide +kernel
theorem dX7_step_20 : decode cX7_step 20 = .ok (.iload 5, 2) := by decide +kernel
theorem dX7_step_22 : decode cX7_step 22 = .ok (.invokestatic 188, 3) := by decide +kernel
theorem dX7_step_25 : decode cX7_step 25 = .ok (.aload 6, 2) := by decide +kernel
theorem dX7_step_27 : decode cX7_step 27 = .ok (.invokestatic 174, 3) := by decide +kernel
theorem dX7_step_30 : decode cX7_step 30 = .ok (.astore 7, 2) := by decide +kernel
theorem dX7_step_32 : decode cX7_step 32 = .ok (.new 183, 3) := by decide +kernel
theorem dX7_step_35 : decode cX7_step 35 = .ok (.dup, 1) := by decide +kernel
theorem dX7_step_36 : decode cX7_step 36 = .ok (.iload_n 2, 1) := by decide +kernel
theorem dX7_step_37 : decode cX7_step 37 = .ok (.iload_n 3, 1) := by decide +kernel
theorem dX7_step_38 : decode cX7_step 38 = .ok (.iload 4, 2) := by decide +kernel
theorem dX7_step_40 : decode cX7_step 40 = .ok (.iload 5, 2) := by decide +kernel
theorem dX7_step_42 : decode cX7_step 42 = .ok (.invokespecial 191, 3) := by decide +kernel
theorem dX7_step_45 : decode cX7_step 45 = .ok (.astore 8, 2) := by decide +kernel
theorem dX7_step_47 : decode cX7_step 47 = .ok (.aload 8, 2) := by decide +kernel
theorem dX7_step_49 : decode cX7_step 49 = .ok (.aload 7, 2) := by decide +kernel
theorem dX7_step_51 : decode cX7_step 51 = .ok (.getfield 178, 3) := by decide +kernel
theorem dX7_step_54 : decode cX7_step 54 = .ok (.invokevirtual 194, 3) := by decide +kernel
theorem dX7_step_57 : decode cX7_step 57 = .ok (.ifCond .ne 36, 3) := by decide +kernel
theorem dX7_step_60 : decode cX7_step 60 = .ok (.aload 7, 2) := by decide +kernel
theorem dX7_step_62 : decode cX7_step 62 = .ok (.dup, 1) := by decide +kernel
theorem dX7_step_63 : decode cX7_step 63 = .ok (.getfield 198, 3) := by decide +kernel
theorem dX7_step_66 : decode cX7_step 66 = .ok (.iconst 1, 1) := by decide +kernel
theorem dX7_step_67 : decode cX7_step 67 = .ok (.iadd, 1) := by decide +kernel
theorem dX7_step_68 : decode cX7_step 68 = .ok (.putfield 198, 3) := by decide +kernel
theorem dX7_step_71 : decode cX7_step 71 = .ok (.aload 6, 2) := by decide +kernel
theorem dX7_step_73 : decode cX7_step 73 = .ok (.new 201, 3) := by decide +kernel
theorem dX7_step_76 : decode cX7_step 76 = .ok (.dup, 1) := by decide +kernel
theorem dX7_step_77 : decode cX7_step 77 = .ok (.aload 7, 2) := by decide +kernel
theorem dX7_step_79 : decode cX7_step 79 = .ok (.getfield 178, 3) := by decide +kernel
theorem dX7_step_82 : decode cX7_step 82 = .ok (.aload 8, 2) := by decide +kernel
theorem dX7_step_84 : decode cX7_step 84 = .ok (.invokespecial 203, 3) := by decide +kernel
theorem dX7_step_87 : decode cX7_step 87 = .ok (.putfield 206, 3) := by decide +kernel
theorem dX7_step_90 : decode cX7_step 90 = .ok (.bipush 119, 2) := by decide +kernel
theorem dX7_step_92 : decode cX7_step 92 = .ok (.ireturn, 1) := by decide +kernel
theorem dX7_step_93 : decode cX7_step 93 = .ok (.aload 7, 2) := by decide +kernel
theorem dX7_step_95 : decode cX7_step 95 = .ok (.aload 8, 2) := by decide +kernel
theorem dX7_step_97 : decode cX7_step 97 = .ok (.putfield 178, 3) := by decide +kernel
theorem dX7_step_100 : decode cX7_step 100 = .ok (.aload 8, 2) := by decide +kernel
theorem dX7_step_102 : decode cX7_step 102 = .ok (.invokevirtual 210, 3) := by decide +kernel
theorem dX7_step_105 : decode cX7_step 105 = .ok (.ifCond .ne 6, 3) := by decide +kernel
theorem dX7_step_108 : decode cX7_step 108 = .ok (.bipush 102, 2) := by decide +kernel
theorem dX7_step_110 : decode cX7_step 110 = .ok (.ireturn, 1) := by decide +kernel
theorem dX7_step_111 : decode cX7_step 111 = .ok (.aload 6, 2) := by decide +kernel
theorem dX7_step_113 : decode cX7_step 113 = .ok (.aconst_null, 1) := by decide +kernel
theorem dX7_step_114 : decode cX7_step 114 = .ok (.putfield 168, 3) := by decide +kernel
theorem dX7_step_117 : decode cX7_step 117 = .ok (.aload_n 0, 1) := by decide +kernel
theorem dX7_step_118 : decode cX7_step 118 = .ok (.aload 6, 2) := by decide +kernel
theorem dX7_step_120 : decode cX7_step 120 = .ok (.aload 7, 2) := by decide +kernel
theorem dX7_step_122 : decode cX7_step 122 = .ok (.getfield 213, 3) := by decide +kernel
theorem dX7_step_125 : decode cX7_step 125 = .ok (.aload 7, 2) := by decide +kernel
theorem dX7_step_127 : decode cX7_step 127 = .ok (.invokevirtual 216, 3) := by decide +kernel
theorem dX7_step_130 : decode cX7_step 130 = .ok (.invokevirtual 106, 3) := by decide +kernel
theorem dX7_step_133 : decode cX7_step 133 = .ok (.bipush 115, 2) := by decide +kernel
theorem dX7_step_135 : decode cX7_step 135 = .ok (.ireturn, 1) := by decide +kernel
theorem dX7_explain_0 : decode cX7_explain 0 = .ok (.aload_n 0, 1) := by decide +kernel
theorem dX7_explain_1 : decode cX7_explain 1 = .ok (.iload_n 1, 1) := by decide +kernel
theorem dX7_explain_2 : decode cX7_explain 2 = .ok (.invokevirtual 72, 3) := by decide +kernel
theorem dX7_explain_5 : decode cX7_explain 5 = .ok (.getfield 206, 3) := by decide +kernel
theorem dX7_explain_8 : decode cX7_explain 8 = .ok (.astore_n 2, 1) := by decide +kernel
theorem dX7_explain_9 : decode cX7_explain 9 = .ok (.aload_n 2, 1) := by decide +kernel
theorem dX7_explain_10 : decode cX7_explain 10 = .ok (.ifnonnull 13, 3) := by decide +kernel
theorem dX7_explain_13 : decode cX7_explain 13 = .ok (.new 36, 3) := by decide +kernel
theorem dX7_explain_16 : decode cX7_explain 16 = .ok (.dup, 1) := by decide +kernel
theorem dX7_explain_17 : decode cX7_explain 17 = .ok (.ldc 219, 2) := by decide +kernel
theorem dX7_explain_19 : decode cX7_explain 19 = .ok (.invokespecial 40, 3) := by decide +kernel
theorem dX7_explain_22 : decode cX7_explain 22 = .ok (.athrow, 1) := by decide +kernel
theorem dX7_explain_23 : decode cX7_explain 23 = .ok (.aload_n 0, 1) := by decide +kernel
theorem dX7_explain_24 : decode cX7_explain 24 = .ok (.getfield 24, 3) := by decide +kernel
theorem dX7_explain_27 : decode cX7_explain 27 = .ok (.aload_n 2, 1) := by decide +kernel
theorem dX7_explain_28 : decode cX7_explain 28 = .ok (.invokevirtual 221, 3) := by decide +kernel
theorem dX7_explain_31 : decode cX7_explain 31 = .ok (.istore_n 3, 1) := by decide +kernel
theorem dX7_explain_32 : decode cX7_explain 32 = .ok (.iload_n 3, 1) := by decide +kernel
theorem dX7_explain_33 : decode cX7_explain 33 = .ok (.iconst (-1), 1) := by decide +kernel
theorem dX7_explain_34 : decode cX7_explain 34 = .ok (.if_icmp .ne 13, 3) := by decide +kernel
theorem dX7_explain_37 : decode cX7_explain 37 = .ok (.new 129, 3) := by decide +kernel
theorem dX7_explain_40 : decode cX7_explain 40 = .ok (.dup, 1) := by decide +kernel
theorem dX7_explain_41 : decode cX7_explain 41 = .ok (.ldc 225, 2) := by decide +kernel
theorem dX7_explain_43 : decode cX7_explain 43 = .ok (.invokespecial 133, 3) := by decide +kernel
theorem dX7_explain_46 : decode cX7_explain 46 = .ok (.athrow, 1) := by decide +kernel
theorem dX7_explain_47 : decode cX7_explain 47 = .ok (.iload_n 3, 1) := by decide +kernel
theorem dX7_explain_48 : decode cX7_explain 48 = .ok (.ireturn, 1) := by decide +kernel
theorem dX7_hint_0 : decode cX7_hint 0 = .ok (.aload_n 0, 1) := by decide +kernel
theorem dX7_hint_1 : decode cX7_hint 1 = .ok (.iload_n 1, 1) := by decide +kernel
theorem dX7_hint_2 : decode cX7_hint 2 = .ok (.invokevirtual 72, 3) := by decide +kernel
theorem dX7_hint_5 : decode cX7_hint 5 = .ok (.invokestatic 174, 3) := by decide +kernel
theorem dX7_hint_8 : decode cX7_hint 8 = .ok (.astore_n 2, 1) := by decide +kernel
theorem dX7_hint_9 : decode cX7_hint 9 = .ok (.aload_n 2, 1) := by decide +kernel
theorem dX7_hint_10 : decode cX7_hint 10 = .ok (.dup, 1) := by decide +kernel
theorem dX7_hint_11 : decode cX7_hint 11 = .ok (.getfield 227, 3) := by decide +kernel
theorem dX7_hint_14 : decode cX7_hint 14 = .ok (.iconst 1, 1) := by decide +kernel
theorem dX7_hint_15 : decode cX7_hint 15 = .ok (.iadd, 1) := by decide +kernel
theorem dX7_hint_16 : decode cX7_hint 16 = .ok (.putfield 227, 3) := by decide +kernel
theorem dX7_hint_19 : decode cX7_hint 19 = .ok (.aload_n 2, 1) := by decide +kernel
theorem dX7_hint_20 : decode cX7_hint 20 = .ok (.getfield 178, 3) := by decide +kernel
theorem dX7_hint_23 : decode cX7_hint 23 = .ok (.invokevirtual 230, 3) := by decide +kernel
theorem dX7_hint_26 : decode cX7_hint 26 = .ok (.ireturn, 1) := by decide +kernel
theorem dX7_faults_0 : decode cX7_faults 0 = .ok (.aload_n 0, 1) := by decide +kernel
theorem dX7_faults_1 : decode cX7_faults 1 = .ok (.iload_n 1, 1) := by decide +kernel
theorem dX7_faults_2 : decode cX7_faults 2 = .ok (.invokevirtual 72, 3) := by decide +kernel
theorem dX7_faults_5 : decode cX7_faults 5 = .ok (.invokestatic 174, 3) := by decide +kernel
theorem dX7_faults_8 : decode cX7_faults 8 = .ok (.astore_n 2, 1) := by decide +kernel
theorem dX7_faults_9 : decode cX7_faults 9 = .ok (.bipush 10, 2) := by decide +kernel
theorem dX7_faults_11 : decode cX7_faults 11 = .ok (.aload_n 2, 1) := by decide +kernel
theorem dX7_faults_12 : decode cX7_faults 12 = .ok (.getfield 198, 3) := by decide +kernel
theorem dX7_faults_15 : decode cX7_faults 15 = .ok (.imul, 1) := by decide +kernel
theorem dX7_faults_16 : decode cX7_faults 16 = .ok (.aload_n 2, 1) := by decide +kernel
theorem dX7_faults_17 : decode cX7_faults 17 = .ok (.getfield 227, 3) := by decide +kernel
theorem dX7_faults_20 : decode cX7_faults 20 = .ok (.iadd, 1) := by decide +kernel
theorem dX7_faults_21 : decode cX7_faults 21 = .ok (.ireturn, 1) := by decide +kernel
theorem dX7_checksum_0 : decode cX7_checksum 0 = .ok (.lconst 0, 1) := by decide +kernel
theorem dX7_checksum_1 : decode cX7_checksum 1 = .ok (.lstore_n 1, 1) := by decide +kernel
theorem dX7_checksum_2 : decode cX7_checksum 2 = .ok (.iconst 0, 1) := by decide +kernel
theorem dX7_checksum_3 : decode cX7_checksum 3 = .ok (.istore_n 3, 1) := by decide +kernel
theorem dX7_checksum_4 : decode cX7_checksum 4 = .ok (.iload_n 3, 1) := by decide +kernel
theorem dX7_checksum_5 : decode cX7_checksum 5 = .ok (.aload_n 0, 1) := by decide +kernel
theorem dX7_checksum_6 : decode cX7_checksum 6 = .ok (.getfield 66, 3) := by decide +kernel
theorem dX7_checksum_9 : decode cX7_checksum 9 = .ok (.if_icmp .ge 50, 3) := by decide +kernel
theorem dX7_checksum_12 : decode cX7_checksum 12 = .ok (.iconst 0, 1) := by decide +kernel
theorem dX7_checksum_13 : decode cX7_checksum 13 = .ok (.istore 4, 2) := by decide +kernel
theorem dX7_checksum_15 : decode cX7_checksum 15 = .ok (.iload 4, 2) := by decide +kernel
theorem dX7_checksum_17 : decode cX7_checksum 17 = .ok (.aload_n 0, 1) := by decide +kernel
theorem dX7_checksum_18 : decode cX7_checksum 18 = .ok (.getfield 32, 3) := by decide +kernel
theorem dX7_checksum_21 : decode cX7_checksum 21 = .ok (.if_icmp .ge 32, 3) := by decide +kernel
theorem dX7_checksum_24 : decode cX7_checksum 24 = .ok (.ldc2_w 234, 3) := by decide +kernel
theorem dX7_checksum_27 : decode cX7_checksum 27 = .ok (.lload_n 1, 1) := by decide +kernel
theorem dX7_checksum_28 : decode cX7_checksum 28 = .ok (.lmul, 1) := by decide +kernel
theorem dX7_checksum_29 : decode cX7_checksum 29 = .ok (.aload_n 0, 1) := by decide +kernel
theorem dX7_checksum_30 : decode cX7_checksum 30 = .ok (.getfield 17, 3) := by decide +kernel
theorem dX7_checksum_33 : decode cX7_checksum 33 = .ok (.iload_n 3, 1) := by decide +kernel
theorem dX7_checksum_34 : decode cX7_checksum 34 = .ok (.aaload, 1) := by decide +kernel
theorem dX7_checksum_35 : decode cX7_checksum 35 = .ok (.getfield 80, 3) := by decide +kernel
theorem dX7_checksum_38 : decode cX7_checksum 38 = .ok (.iload 4, 2) := by decide +kernel
theorem dX7_checksum_40 : decode cX7_checksum 40 = .ok (.aaload, 1) := by decide +kernel
theorem dX7_checksum_41 : decode cX7_checksum 41 = .ok (.getfield 96, 3) := by decide +kernel
theorem dX7_checksum_44 : decode cX7_checksum 44 = .ok (.i2l, 1) := by decide +kernel
theorem dX7_checksum_45 : decode cX7_checksum 45 = .ok (.ladd, 1) := by decide +kernel
theorem dX7_checksum_46 : decode cX7_checksum 46 = .ok (.lstore_n 1, 1) := by decide +kernel
theorem dX7_checksum_47 : decode cX7_checksum 47 = .ok (.iinc 4 1, 3) := by decide +kernel
theorem dX7_checksum_50 : decode cX7_checksum 50 = .ok (.goto (-35), 3) := by decide +kernel
theorem dX7_checksum_53 : decode cX7_checksum 53 = .ok (.iinc 3 1, 3) := by decide +kernel
theorem dX7_checksum_56 : decode cX7_checksum 56 = .ok (.goto (-52), 3) := by decide +kernel
theorem dX7_checksum_59 : decode cX7_checksum 59 = .ok (.lload_n 1, 1) := by decide +kernel
theorem dX7_checksum_60 : decode cX7_checksum 60 = .ok (.lreturn, 1) := by decide +kernel
theorem dX7_knownShare_0 : decode cX7_knownShare 0 = .ok (.aload_n 0, 1) := by decide +kernel
theorem dX7_knownShare_1 : decode cX7_knownShare 1 = .ok (.getfield 66, 3) := by decide +kernel
theorem dX7_knownShare_4 : decode cX7_knownShare 4 = .ok (.aload_n 0, 1) := by decide +kernel
theorem dX7_knownShare_5 : decode cX7_knownShare 5 = .ok (.getfield 32, 3) := by decide +kernel
theorem dX7_knownShare_8 : decode cX7_knownShare 8 = .ok (.imul, 1) := by decide +kernel
theorem dX7_knownShare_9 : decode cX7_knownShare 9 = .ok (.istore_n 1, 1) := by decide +kernel
theorem dX7_knownShare_10 : decode cX7_knownShare 10 = .ok (.iload_n 1, 1) := by decide +kernel
theorem dX7_knownShare_11 : decode cX7_knownShare 11 = .ok (.ifCond .ne 13, 3) := by decide +kernel
theorem dX7_knownShare_14 : decode cX7_knownShare 14 = .ok (.new 120, 3) := by decide +kernel
theorem dX7_knownShare_17 : decode cX7_knownShare 17 = .ok (.dup, 1) := by decide +kernel
theorem dX7_knownShare_18 : decode cX7_knownShare 18 = .ok (.ldc 236, 2) := by decide +kernel
theorem dX7_knownShare_20 : decode cX7_knownShare 20 = .ok (.invokespecial 124, 3) := by decide +kernel
theorem dX7_knownShare_23 : decode cX7_knownShare 23 = .ok (.athrow, 1) := by decide +kernel
theorem dX7_knownShare_24 : decode cX7_knownShare 24 = .ok (.iconst 0, 1) := by decide +kernel
theorem dX7_knownShare_25 : decode cX7_knownShare 25 = .ok (.istore_n 2, 1) := by decide +kernel
theorem dX7_knownShare_26 : decode cX7_knownShare 26 = .ok (.iconst 0, 1) := by decide +kernel
theorem dX7_knownShare_27 : decode cX7_knownShare 27 = .ok (.istore_n 3, 1) := by decide +kernel
theorem dX7_knownShare_28 : decode cX7_knownShare 28 = .ok (.iload_n 3, 1) := by decide +kernel
theorem dX7_knownShare_29 : decode cX7_knownShare 29 = .ok (.aload_n 0, 1) := by decide +kernel
theorem dX7_knownShare_30 : decode cX7_knownShare 30 = .ok (.getfield 66, 3) := by decide +kernel
theorem dX7_knownShare_33 : decode cX7_knownShare 33 = .ok (.if_icmp .ge 51, 3) := by decide +kernel
theorem dX7_knownShare_36 : decode cX7_knownShare 36 = .ok (.iconst 0, 1) := by decide +kernel
theorem dX7_knownShare_37 : decode cX7_knownShare 37 = .ok (.istore 4, 2) := by decide +kernel
theorem dX7_knownShare_39 : decode cX7_knownShare 39 = .ok (.iload 4, 2) := by decide +kernel
theorem dX7_knownShare_41 : decode cX7_knownShare 41 = .ok (.aload_n 0, 1) := by decide +kernel
theorem dX7_knownShare_42 : decode cX7_knownShare 42 = .ok (.getfield 32, 3) := by decide +kernel
theorem dX7_knownShare_45 : decode cX7_knownShare 45 = .ok (.if_icmp .ge 33, 3) := by decide +kernel
theorem dX7_knownShare_48 : decode cX7_knownShare 48 = .ok (.aload_n 0, 1) := by decide +kernel
theorem dX7_knownShare_49 : decode cX7_knownShare 49 = .ok (.getfield 17, 3) := by decide +kernel
theorem dX7_knownShare_52 : decode cX7_knownShare 52 = .ok (.iload_n 3, 1) := by decide +kernel
theorem dX7_knownShare_53 : decode cX7_knownShare 53 = .ok (.aaload, 1) := by decide +kernel
theorem dX7_knownShare_54 : decode cX7_knownShare 54 = .ok (.getfield 80, 3) := by decide +kernel
theorem dX7_knownShare_57 : decode cX7_knownShare 57 = .ok (.iload 4, 2) := by decide +kernel
theorem dX7_knownShare_59 : decode cX7_knownShare 59 = .ok (.aaload, 1) := by decide +kernel
theorem dX7_knownShare_60 : decode cX7_knownShare 60 = .ok (.getfield 96, 3) := by decide +kernel
theorem dX7_knownShare_63 : decode cX7_knownShare 63 = .ok (.sipush 700, 3) := by decide +kernel
theorem dX7_knownShare_66 : decode cX7_knownShare 66 = .ok (.if_icmp .lt 6, 3) := by decide +kernel
theorem dX7_knownShare_69 : decode cX7_knownShare 69 = .ok (.iinc 2 1, 3) := by decide +kernel
theorem dX7_knownShare_72 : decode cX7_knownShare 72 = .ok (.iinc 4 1, 3) := by decide +kernel
theorem dX7_knownShare_75 : decode cX7_knownShare 75 = .ok (.goto (-36), 3) := by decide +kernel
theorem dX7_knownShare_78 : decode cX7_knownShare 78 = .ok (.iinc 3 1, 3) := by decide +kernel
theorem dX7_knownShare_81 : decode cX7_knownShare 81 = .ok (.goto (-53), 3) := by decide +kernel
theorem dX7_knownShare_84 : decode cX7_knownShare 84 = .ok (.iload_n 2, 1) := by decide +kernel
theorem dX7_knownShare_85 : decode cX7_knownShare 85 = .ok (.i2f, 1) := by decide +kernel
theorem dX7_knownShare_86 : decode cX7_knownShare 86 = .ok (.iload_n 1, 1) := by decide +kernel
theorem dX7_knownShare_87 : decode cX7_knownShare 87 = .ok (.i2f, 1) := by decide +kernel
theorem dX7_knownShare_88 : decode cX7_knownShare 88 = .ok (.fdiv, 1) := by decide +kernel
theorem dX7_knownShare_89 : decode cX7_knownShare 89 = .ok (.freturn, 1) := by decide +kernel
theorem dX7_meanOdds_0 : decode cX7_meanOdds 0 = .ok (.aload_n 0, 1) := by decide +kernel
theorem dX7_meanOdds_1 : decode cX7_meanOdds 1 = .ok (.iload_n 1, 1) := by decide +kernel
theorem dX7_meanOdds_2 : decode cX7_meanOdds 2 = .ok (.invokevirtual 46, 3) := by decide +kernel
theorem dX7_meanOdds_5 : decode cX7_meanOdds 5 = .ok (.pop, 1) := by decide +kernel
theorem dX7_meanOdds_6 : decode cX7_meanOdds 6 = .ok (.aload_n 0, 1) := by decide +kernel
theorem dX7_meanOdds_7 : decode cX7_meanOdds 7 = .ok (.getfield 66, 3) := by decide +kernel
theorem dX7_meanOdds_10 : decode cX7_meanOdds 10 = .ok (.ifCond .ne 13, 3) := by decide +kernel
theorem dX7_meanOdds_13 : decode cX7_meanOdds 13 = .ok (.new 120, 3) := by decide +kernel
theorem dX7_meanOdds_16 : decode cX7_meanOdds 16 = .ok (.dup, 1) := by decide +kernel
theorem dX7_meanOdds_17 : decode cX7_meanOdds 17 = .ok (.ldc 238, 2) := by decide +kernel
theorem dX7_meanOdds_19 : decode cX7_meanOdds 19 = .ok (.invokespecial 124, 3) := by decide +kernel
theorem dX7_meanOdds_22 : decode cX7_meanOdds 22 = .ok (.athrow, 1) := by decide +kernel
theorem dX7_meanOdds_23 : decode cX7_meanOdds 23 = .ok (.iconst 0, 1) := by decide +kernel
theorem dX7_meanOdds_24 : decode cX7_meanOdds 24 = .ok (.istore_n 2, 1) := by decide +kernel
theorem dX7_meanOdds_25 : decode cX7_meanOdds 25 = .ok (.iconst 0, 1) := by decide +kernel
theorem dX7_meanOdds_26 : decode cX7_meanOdds 26 = .ok (.istore_n 3, 1) := by decide +kernel
theorem dX7_meanOdds_27 : decode cX7_meanOdds 27 = .ok (.iload_n 3, 1) := by decide +kernel
theorem dX7_meanOdds_28 : decode cX7_meanOdds 28 = .ok (.aload_n 0, 1) := by decide +kernel
theorem dX7_meanOdds_29 : decode cX7_meanOdds 29 = .ok (.getfield 66, 3) := by decide +kernel
theorem dX7_meanOdds_32 : decode cX7_meanOdds 32 = .ok (.if_icmp .ge 26, 3) := by decide +kernel
theorem dX7_meanOdds_35 : decode cX7_meanOdds 35 = .ok (.iload_n 2, 1) := by decide +kernel
theorem dX7_meanOdds_36 : decode cX7_meanOdds 36 = .ok (.aload_n 0, 1) := by decide +kernel
theorem dX7_meanOdds_37 : decode cX7_meanOdds 37 = .ok (.getfield 17, 3) := by decide +kernel
theorem dX7_meanOdds_40 : decode cX7_meanOdds 40 = .ok (.iload_n 3, 1) := by decide +kernel
theorem dX7_meanOdds_41 : decode cX7_meanOdds 41 = .ok (.aaload, 1) := by decide +kernel
theorem dX7_meanOdds_42 : decode cX7_meanOdds 42 = .ok (.getfield 80, 3) := by decide +kernel
theorem dX7_meanOdds_45 : decode cX7_meanOdds 45 = .ok (.iload_n 1, 1) := by decide +kernel
theorem dX7_meanOdds_46 : decode cX7_meanOdds 46 = .ok (.aaload, 1) := by decide +kernel
theorem dX7_meanOdds_47 : decode cX7_meanOdds 47 = .ok (.getfield 96, 3) := by decide +kernel
theorem dX7_meanOdds_50 : decode cX7_meanOdds 50 = .ok (.iadd, 1) := by decide +kernel
theorem dX7_meanOdds_51 : decode cX7_meanOdds 51 = .ok (.istore_n 2, 1) := by decide +kernel
theorem dX7_meanOdds_52 : decode cX7_meanOdds 52 = .ok (.iinc 3 1, 3) := by decide +kernel
theorem dX7_meanOdds_55 : decode cX7_meanOdds 55 = .ok (.goto (-28), 3) := by decide +kernel
theorem dX7_meanOdds_58 : decode cX7_meanOdds 58 = .ok (.iload_n 2, 1) := by decide +kernel
theorem dX7_meanOdds_59 : decode cX7_meanOdds 59 = .ok (.i2d, 1) := by decide +kernel
theorem dX7_meanOdds_60 : decode cX7_meanOdds 60 = .ok (.aload_n 0, 1) := by decide +kernel
theorem dX7_meanOdds_61 : decode cX7_meanOdds 61 = .ok (.getfield 66, 3) := by decide +kernel
theorem dX7_meanOdds_64 : decode cX7_meanOdds 64 = .ok (.i2d, 1) := by decide +kernel
theorem dX7_meanOdds_65 : decode cX7_meanOdds 65 = .ok (.ddiv, 1) := by decide +kernel
theorem dX7_meanOdds_66 : decode cX7_meanOdds 66 = .ok (.dreturn, 1) := by decide +kernel
theorem dX7_isSound_0 : decode cX7_isSound 0 = .ok (.iconst 0, 1) := by decide +kernel
theorem dX7_isSound_1 : decode cX7_isSound 1 = .ok (.istore_n 1, 1) := by decide +kernel
theorem dX7_isSound_2 : decode cX7_isSound 2 = .ok (.iload_n 1, 1) := by decide +kernel
theorem dX7_isSound_3 : decode cX7_isSound 3 = .ok (.aload_n 0, 1) := by decide +kernel
theorem dX7_isSound_4 : decode cX7_isSound 4 = .ok (.getfield 66, 3) := by decide +kernel
theorem dX7_isSound_7 : decode cX7_isSound 7 = .ok (.if_icmp .ge 41, 3) := by decide +kernel
theorem dX7_isSound_10 : decode cX7_isSound 10 = .ok (.aload_n 0, 1) := by decide +kernel
theorem dX7_isSound_11 : decode cX7_isSound 11 = .ok (.getfield 17, 3) := by decide +kernel
theorem dX7_isSound_14 : decode cX7_isSound 14 = .ok (.iload_n 1, 1) := by decide +kernel
theorem dX7_isSound_15 : decode cX7_isSound 15 = .ok (.aaload, 1) := by decide +kernel
theorem dX7_isSound_16 : decode cX7_isSound 16 = .ok (.astore_n 2, 1) := by decide +kernel
theorem dX7_isSound_17 : decode cX7_isSound 17 = .ok (.aload_n 0, 1) := by decide +kernel
theorem dX7_isSound_18 : decode cX7_isSound 18 = .ok (.aload_n 2, 1) := by decide +kernel
theorem dX7_isSound_19 : decode cX7_isSound 19 = .ok (.invokevirtual 240, 3) := by decide +kernel
theorem dX7_isSound_22 : decode cX7_isSound 22 = .ok (.ifCond .eq 18, 3) := by decide +kernel
theorem dX7_isSound_25 : decode cX7_isSound 25 = .ok (.aload_n 0, 1) := by decide +kernel
theorem dX7_isSound_26 : decode cX7_isSound 26 = .ok (.aload_n 2, 1) := by decide +kernel
theorem dX7_isSound_27 : decode cX7_isSound 27 = .ok (.invokevirtual 244, 3) := by decide +kernel
theorem dX7_isSound_30 : decode cX7_isSound 30 = .ok (.ifCond .eq 10, 3) := by decide +kernel
theorem dX7_isSound_33 : decode cX7_isSound 33 = .ok (.aload_n 2, 1) := by decide +kernel
theorem dX7_isSound_34 : decode cX7_isSound 34 = .ok (.invokestatic 247, 3) := by decide +kernel
theorem dX7_isSound_37 : decode cX7_isSound 37 = .ok (.ifCond .ne 5, 3) := by decide +kernel
theorem dX7_isSound_40 : decode cX7_isSound 40 = .ok (.iconst 0, 1) := by decide +kernel
theorem dX7_isSound_41 : decode cX7_isSound 41 = .ok (.ireturn, 1) := by decide +kernel
theorem dX7_isSound_42 : decode cX7_isSound 42 = .ok (.iinc 1 1, 3) := by decide +kernel
theorem dX7_isSound_45 : decode cX7_isSound 45 = .ok (.goto (-43), 3) := by decide +kernel
theorem dX7_isSound_48 : decode cX7_isSound 48 = .ok (.iconst 1, 1) := by decide +kernel
theorem dX7_isSound_49 : decode cX7_isSound 49 = .ok (.ireturn, 1) := by decide +kernel
theorem dX7_checkThousandths_0 : decode cX7_checkThousandths 0 = .ok (.iload_n 0, 1) := by decide +kernel
theorem dX7_checkThousandths_1 : decode cX7_checkThousandths 1 = .ok (.ifCond .lt 10, 3) := by decide +kernel
theorem dX7_checkThousandths_4 : decode cX7_checkThousandths 4 = .ok (.iload_n 0, 1) := by decide +kernel
theorem dX7_checkThousandths_5 : decode cX7_checkThousandths 5 = .ok (.sipush 500, 3) := by decide +kernel
theorem dX7_checkThousandths_8 : decode cX7_checkThousandths 8 = .ok (.if_icmp .le 13, 3) := by decide +kernel
theorem dX7_checkThousandths_11 : decode cX7_checkThousandths 11 = .ok (.new 54, 3) := by decide +kernel
theorem dX7_checkThousandths_14 : decode cX7_checkThousandths 14 = .ok (.dup, 1) := by decide +kernel
theorem dX7_checkThousandths_15 : decode cX7_checkThousandths 15 = .ok (.ldc 250, 2) := by decide +kernel
theorem dX7_checkThousandths_17 : decode cX7_checkThousandths 17 = .ok (.invokespecial 58, 3) := by decide +kernel
theorem dX7_checkThousandths_20 : decode cX7_checkThousandths 20 = .ok (.athrow, 1) := by decide +kernel
theorem dX7_checkThousandths_21 : decode cX7_checkThousandths 21 = .ok (.return_, 1) := by decide +kernel
theorem dX7_checkTold_0 : decode cX7_checkTold 0 = .ok (.iload_n 0, 1) := by decide +kernel
theorem dX7_checkTold_1 : decode cX7_checkTold 1 = .ok (.sipush (-9999), 3) := by decide +kernel
theorem dX7_checkTold_4 : decode cX7_checkTold 4 = .ok (.if_icmp .lt 10, 3) := by decide +kernel
theorem dX7_checkTold_7 : decode cX7_checkTold 7 = .ok (.iload_n 0, 1) := by decide +kernel
theorem dX7_checkTold_8 : decode cX7_checkTold 8 = .ok (.sipush 9999, 3) := by decide +kernel
theorem dX7_checkTold_11 : decode cX7_checkTold 11 = .ok (.if_icmp .le 13, 3) := by decide +kernel
theorem dX7_checkTold_14 : decode cX7_checkTold 14 = .ok (.new 54, 3) := by decide +kernel
theorem dX7_checkTold_17 : decode cX7_checkTold 17 = .ok (.dup, 1) := by decide +kernel
theorem dX7_checkTold_18 : decode cX7_checkTold 18 = .ok (.ldc 155, 2) := by decide +kernel
theorem dX7_checkTold_20 : decode cX7_checkTold 20 = .ok (.invokespecial 58, 3) := by decide +kernel
theorem dX7_checkTold_23 : decode cX7_checkTold 23 = .ok (.athrow, 1) := by decide +kernel
theorem dX7_checkTold_24 : decode cX7_checkTold 24 = .ok (.return_, 1) := by decide +kernel
theorem dX7_checkOpen_0 : decode cX7_checkOpen 0 = .ok (.aload_n 0, 1) := by decide +kernel
theorem dX7_checkOpen_1 : decode cX7_checkOpen 1 = .ok (.aload_n 1, 1) := by decide +kernel
theorem dX7_checkOpen_2 : decode cX7_checkOpen 2 = .ok (.iload_n 2, 1) := by decide +kernel
theorem dX7_checkOpen_3 : decode cX7_checkOpen 3 = .ok (.invokevirtual 76, 3) := by decide +kernel
theorem dX7_checkOpen_6 : decode cX7_checkOpen 6 = .ok (.ifCond .ne 13, 3) := by decide +kernel
theorem dX7_checkOpen_9 : decode cX7_checkOpen 9 = .ok (.new 36, 3) := by decide +kernel
theorem dX7_checkOpen_12 : decode cX7_checkOpen 12 = .ok (.dup, 1) := by decide +kernel
theorem dX7_checkOpen_13 : decode cX7_checkOpen 13 = .ok (.ldc 252, 2) := by decide +kernel
theorem dX7_checkOpen_15 : decode cX7_checkOpen 15 = .ok (.invokespecial 40, 3) := by decide +kernel
theorem dX7_checkOpen_18 : decode cX7_checkOpen 18 = .ok (.athrow, 1) := by decide +kernel
theorem dX7_checkOpen_19 : decode cX7_checkOpen 19 = .ok (.return_, 1) := by decide +kernel
theorem dX7_skillAt_0 : decode cX7_skillAt 0 = .ok (.iload_n 1, 1) := by decide +kernel
theorem dX7_skillAt_1 : decode cX7_skillAt 1 = .ok (.ifCond .lt 11, 3) := by decide +kernel
theorem dX7_skillAt_4 : decode cX7_skillAt 4 = .ok (.iload_n 1, 1) := by decide +kernel
theorem dX7_skillAt_5 : decode cX7_skillAt 5 = .ok (.aload_n 0, 1) := by decide +kernel
theorem dX7_skillAt_6 : decode cX7_skillAt 6 = .ok (.getfield 32, 3) := by decide +kernel
theorem dX7_skillAt_9 : decode cX7_skillAt 9 = .ok (.if_icmp .lt 14, 3) := by decide +kernel
theorem dX7_skillAt_12 : decode cX7_skillAt 12 = .ok (.new 254, 3) := by decide +kernel
theorem dX7_skillAt_15 : decode cX7_skillAt 15 = .ok (.dup, 1) := by decide +kernel
theorem dX7_skillAt_16 : decode cX7_skillAt 16 = .ok (.ldc_w 256, 3) := by decide +kernel
theorem dX7_skillAt_19 : decode cX7_skillAt 19 = .ok (.invokespecial 258, 3) := by decide +kernel
theorem dX7_skillAt_22 : decode cX7_skillAt 22 = .ok (.athrow, 1) := by decide +kernel
theorem dX7_skillAt_23 : decode cX7_skillAt 23 = .ok (.aload_n 0, 1) := by decide +kernel
theorem dX7_skillAt_24 : decode cX7_skillAt 24 = .ok (.getfield 11, 3) := by decide +kernel
theorem dX7_skillAt_27 : decode cX7_skillAt 27 = .ok (.iload_n 1, 1) := by decide +kernel
theorem dX7_skillAt_28 : decode cX7_skillAt 28 = .ok (.aaload, 1) := by decide +kernel
theorem dX7_skillAt_29 : decode cX7_skillAt 29 = .ok (.areturn, 1) := by decide +kernel
theorem dX7_learnerAt_0 : decode cX7_learnerAt 0 = .ok (.iload_n 1, 1) := by decide +kernel
theorem dX7_learnerAt_1 : decode cX7_learnerAt 1 = .ok (.ifCond .lt 11, 3) := by decide +kernel
theorem dX7_learnerAt_4 : decode cX7_learnerAt 4 = .ok (.iload_n 1, 1) := by decide +kernel
theorem dX7_learnerAt_5 : decode cX7_learnerAt 5 = .ok (.aload_n 0, 1) := by decide +kernel
theorem dX7_learnerAt_6 : decode cX7_learnerAt 6 = .ok (.getfield 66, 3) := by decide +kernel
theorem dX7_learnerAt_9 : decode cX7_learnerAt 9 = .ok (.if_icmp .lt 14, 3) := by decide +kernel
theorem dX7_learnerAt_12 : decode cX7_learnerAt 12 = .ok (.new 254, 3) := by decide +kernel
theorem dX7_learnerAt_15 : decode cX7_learnerAt 15 = .ok (.dup, 1) := by decide +kernel
theorem dX7_learnerAt_16 : decode cX7_learnerAt 16 = .ok (.ldc_w 259, 3) := by decide +kernel
theorem dX7_learnerAt_19 : decode cX7_learnerAt 19 = .ok (.invokespecial 258, 3) := by decide +kernel
theorem dX7_learnerAt_22 : decode cX7_learnerAt 22 = .ok (.athrow, 1) := by decide +kernel
theorem dX7_learnerAt_23 : decode cX7_learnerAt 23 = .ok (.aload_n 0, 1) := by decide +kernel
theorem dX7_learnerAt_24 : decode cX7_learnerAt 24 = .ok (.getfield 17, 3) := by decide +kernel
theorem dX7_learnerAt_27 : decode cX7_learnerAt 27 = .ok (.iload_n 1, 1) := by decide +kernel
theorem dX7_learnerAt_28 : decode cX7_learnerAt 28 = .ok (.aaload, 1) := by decide +kernel
theorem dX7_learnerAt_29 : decode cX7_learnerAt 29 = .ok (.areturn, 1) := by decide +kernel
theorem dX7_masteryAt_0 : decode cX7_masteryAt 0 = .ok (.aload_n 0, 1) := by decide +kernel
theorem dX7_masteryAt_1 : decode cX7_masteryAt 1 = .ok (.iload_n 1, 1) := by decide +kernel
theorem dX7_masteryAt_2 : decode cX7_masteryAt 2 = .ok (.invokevirtual 72, 3) := by decide +kernel
theorem dX7_masteryAt_5 : decode cX7_masteryAt 5 = .ok (.astore_n 3, 1) := by decide +kernel
theorem dX7_masteryAt_6 : decode cX7_masteryAt 6 = .ok (.aload_n 0, 1) := by decide +kernel
theorem dX7_masteryAt_7 : decode cX7_masteryAt 7 = .ok (.iload_n 2, 1) := by decide +kernel
theorem dX7_masteryAt_8 : decode cX7_masteryAt 8 = .ok (.invokevirtual 46, 3) := by decide +kernel
theorem dX7_masteryAt_11 : decode cX7_masteryAt 11 = .ok (.pop, 1) := by decide +kernel
theorem dX7_masteryAt_12 : decode cX7_masteryAt 12 = .ok (.aload_n 3, 1) := by decide +kernel
theorem dX7_masteryAt_13 : decode cX7_masteryAt 13 = .ok (.getfield 80, 3) := by decide +kernel
theorem dX7_masteryAt_16 : decode cX7_masteryAt 16 = .ok (.iload_n 2, 1) := by decide +kernel
theorem dX7_masteryAt_17 : decode cX7_masteryAt 17 = .ok (.aaload, 1) := by decide +kernel
theorem dX7_masteryAt_18 : decode cX7_masteryAt 18 = .ok (.areturn, 1) := by decide +kernel
theorem dX7_exerciseOf_0 : decode cX7_exerciseOf 0 = .ok (.aload_n 0, 1) := by decide +kernel
theorem dX7_exerciseOf_1 : decode cX7_exerciseOf 1 = .ok (.getfield 168, 3) := by decide +kernel
theorem dX7_exerciseOf_4 : decode cX7_exerciseOf 4 = .ok (.ifnonnull 14, 3) := by decide +kernel
theorem dX7_exerciseOf_7 : decode cX7_exerciseOf 7 = .ok (.new 36, 3) := by decide +kernel
theorem dX7_exerciseOf_10 : decode cX7_exerciseOf 10 = .ok (.dup, 1) := by decide +kernel
theorem dX7_exerciseOf_11 : decode cX7_exerciseOf 11 = .ok (.ldc_w 261, 3) := by decide +kernel
theorem dX7_exerciseOf_14 : decode cX7_exerciseOf 14 = .ok (.invokespecial 40, 3) := by decide +kernel
theorem dX7_exerciseOf_17 : decode cX7_exerciseOf 17 = .ok (.athrow, 1) := by decide +kernel
theorem dX7_exerciseOf_18 : decode cX7_exerciseOf 18 = .ok (.aload_n 0, 1) := by decide +kernel
theorem dX7_exerciseOf_19 : decode cX7_exerciseOf 19 = .ok (.getfield 168, 3) := by decide +kernel
theorem dX7_exerciseOf_22 : decode cX7_exerciseOf 22 = .ok (.areturn, 1) := by decide +kernel
theorem dX7_comesToNeed_0 : decode cX7_comesToNeed 0 = .ok (.iconst 1, 1) := by decide +kernel
theorem dX7_comesToNeed_1 : decode cX7_comesToNeed 1 = .ok (.iload_n 1, 1) := by decide +kernel
theorem dX7_comesToNeed_2 : decode cX7_comesToNeed 2 = .ok (.ishl, 1) := by decide +kernel
theorem dX7_comesToNeed_3 : decode cX7_comesToNeed 3 = .ok (.istore_n 3, 1) := by decide +kernel
theorem dX7_comesToNeed_4 : decode cX7_comesToNeed 4 = .ok (.iconst 0, 1) := by decide +kernel
theorem dX7_comesToNeed_5 : decode cX7_comesToNeed 5 = .ok (.istore 4, 2) := by decide +kernel
theorem dX7_comesToNeed_7 : decode cX7_comesToNeed 7 = .ok (.iload 4, 2) := by decide +kernel
theorem dX7_comesToNeed_9 : decode cX7_comesToNeed 9 = .ok (.aload_n 0, 1) := by decide +kernel
theorem dX7_comesToNeed_10 : decode cX7_comesToNeed 10 = .ok (.getfield 32, 3) := by decide +kernel
theorem dX7_comesToNeed_13 : decode cX7_comesToNeed 13 = .ok (.if_icmp .ge 17, 3) := by decide +kernel
theorem dX7_comesToNeed_16 : decode cX7_comesToNeed 16 = .ok (.iload_n 3, 1) := by decide +kernel
theorem dX7_comesToNeed_17 : decode cX7_comesToNeed 17 = .ok (.aload_n 0, 1) := by decide +kernel
theorem dX7_comesToNeed_18 : decode cX7_comesToNeed 18 = .ok (.iload_n 3, 1) := by decide +kernel
theorem dX7_comesToNeed_19 : decode cX7_comesToNeed 19 = .ok (.invokevirtual 263, 3) := by decide +kernel
theorem dX7_comesToNeed_22 : decode cX7_comesToNeed 22 = .ok (.ior, 1) := by decide +kernel
theorem dX7_comesToNeed_23 : decode cX7_comesToNeed 23 = .ok (.istore_n 3, 1) := by decide +kernel
theorem dX7_comesToNeed_24 : decode cX7_comesToNeed 24 = .ok (.iinc 4 1, 3) := by decide +kernel
theorem dX7_comesToNeed_27 : decode cX7_comesToNeed 27 = .ok (.goto (-20), 3) := by decide +kernel
theorem dX7_comesToNeed_30 : decode cX7_comesToNeed 30 = .ok (.iload_n 3, 1) := by decide +kernel
theorem dX7_comesToNeed_31 : decode cX7_comesToNeed 31 = .ok (.iload_n 2, 1) := by decide +kernel
theorem dX7_comesToNeed_32 : decode cX7_comesToNeed 32 = .ok (.ishr, 1) := by decide +kernel
theorem dX7_comesToNeed_33 : decode cX7_comesToNeed 33 = .ok (.iconst 1, 1) := by decide +kernel
theorem dX7_comesToNeed_34 : decode cX7_comesToNeed 34 = .ok (.iand, 1) := by decide +kernel
theorem dX7_comesToNeed_35 : decode cX7_comesToNeed 35 = .ok (.ifCond .eq 7, 3) := by decide +kernel
theorem dX7_comesToNeed_38 : decode cX7_comesToNeed 38 = .ok (.iconst 1, 1) := by decide +kernel
theorem dX7_comesToNeed_39 : decode cX7_comesToNeed 39 = .ok (.goto 4, 3) := by decide +kernel
theorem dX7_comesToNeed_42 : decode cX7_comesToNeed 42 = .ok (.iconst 0, 1) := by decide +kernel
theorem dX7_comesToNeed_43 : decode cX7_comesToNeed 43 = .ok (.ireturn, 1) := by decide +kernel
theorem dX7_neededByAny_0 : decode cX7_neededByAny 0 = .ok (.iconst 0, 1) := by decide +kernel
theorem dX7_neededByAny_1 : decode cX7_neededByAny 1 = .ok (.istore_n 2, 1) := by decide +kernel
theorem dX7_neededByAny_2 : decode cX7_neededByAny 2 = .ok (.iconst 0, 1) := by decide +kernel
theorem dX7_neededByAny_3 : decode cX7_neededByAny 3 = .ok (.istore_n 3, 1) := by decide +kernel
theorem dX7_neededByAny_4 : decode cX7_neededByAny 4 = .ok (.iload_n 3, 1) := by decide +kernel
theorem dX7_neededByAny_5 : decode cX7_neededByAny 5 = .ok (.aload_n 0, 1) := by decide +kernel
theorem dX7_neededByAny_6 : decode cX7_neededByAny 6 = .ok (.getfield 32, 3) := by decide +kernel
theorem dX7_neededByAny_9 : decode cX7_neededByAny 9 = .ok (.if_icmp .ge 29, 3) := by decide +kernel
theorem dX7_neededByAny_12 : decode cX7_neededByAny 12 = .ok (.iload_n 1, 1) := by decide +kernel
theorem dX7_neededByAny_13 : decode cX7_neededByAny 13 = .ok (.iload_n 3, 1) := by decide +kernel
theorem dX7_neededByAny_14 : decode cX7_neededByAny 14 = .ok (.ishr, 1) := by decide +kernel
theorem dX7_neededByAny_15 : decode cX7_neededByAny 15 = .ok (.iconst 1, 1) := by decide +kernel
theorem dX7_neededByAny_16 : decode cX7_neededByAny 16 = .ok (.iand, 1) := by decide +kernel
theorem dX7_neededByAny_17 : decode cX7_neededByAny 17 = .ok (.ifCond .eq 15, 3) := by decide +kernel
theorem dX7_neededByAny_20 : decode cX7_neededByAny 20 = .ok (.iload_n 2, 1) := by decide +kernel
theorem dX7_neededByAny_21 : decode cX7_neededByAny 21 = .ok (.aload_n 0, 1) := by decide +kernel
theorem dX7_neededByAny_22 : decode cX7_neededByAny 22 = .ok (.getfield 11, 3) := by decide +kernel
theorem dX7_neededByAny_25 : decode cX7_neededByAny 25 = .ok (.iload_n 3, 1) := by decide +kernel
theorem dX7_neededByAny_26 : decode cX7_neededByAny 26 = .ok (.aaload, 1) := by decide +kernel
theorem dX7_neededByAny_27 : decode cX7_neededByAny 27 = .ok (.getfield 63, 3) := by decide +kernel
theorem dX7_neededByAny_30 : decode cX7_neededByAny 30 = .ok (.ior, 1) := by decide +kernel
theorem dX7_neededByAny_31 : decode cX7_neededByAny 31 = .ok (.istore_n 2, 1) := by decide +kernel
theorem dX7_neededByAny_32 : decode cX7_neededByAny 32 = .ok (.iinc 3 1, 3) := by decide +kernel
theorem dX7_neededByAny_35 : decode cX7_neededByAny 35 = .ok (.goto (-31), 3) := by decide +kernel
theorem dX7_neededByAny_38 : decode cX7_neededByAny 38 = .ok (.iload_n 2, 1) := by decide +kernel
theorem dX7_neededByAny_39 : decode cX7_neededByAny 39 = .ok (.ireturn, 1) := by decide +kernel
theorem dX7_isOpenFor_0 : decode cX7_isOpenFor 0 = .ok (.aload_n 1, 1) := by decide +kernel
theorem dX7_isOpenFor_1 : decode cX7_isOpenFor 1 = .ok (.getfield 80, 3) := by decide +kernel
theorem dX7_isOpenFor_4 : decode cX7_isOpenFor 4 = .ok (.iload_n 2, 1) := by decide +kernel
theorem dX7_isOpenFor_5 : decode cX7_isOpenFor 5 = .ok (.aaload, 1) := by decide +kernel
theorem dX7_isOpenFor_6 : decode cX7_isOpenFor 6 = .ok (.getfield 84, 3) := by decide +kernel
theorem dX7_isOpenFor_9 : decode cX7_isOpenFor 9 = .ok (.ifCond .eq 5, 3) := by decide +kernel
theorem dX7_isOpenFor_12 : decode cX7_isOpenFor 12 = .ok (.iconst 1, 1) := by decide +kernel
theorem dX7_isOpenFor_13 : decode cX7_isOpenFor 13 = .ok (.ireturn, 1) := by decide +kernel
theorem dX7_isOpenFor_14 : decode cX7_isOpenFor 14 = .ok (.iconst 0, 1) := by decide +kernel
theorem dX7_isOpenFor_15 : decode cX7_isOpenFor 15 = .ok (.istore_n 3, 1) := by decide +kernel
theorem dX7_isOpenFor_16 : decode cX7_isOpenFor 16 = .ok (.iload_n 3, 1) := by decide +kernel
theorem dX7_isOpenFor_17 : decode cX7_isOpenFor 17 = .ok (.aload_n 0, 1) := by decide +kernel
theorem dX7_isOpenFor_18 : decode cX7_isOpenFor 18 = .ok (.getfield 32, 3) := by decide +kernel
theorem dX7_isOpenFor_21 : decode cX7_isOpenFor 21 = .ok (.if_icmp .ge 39, 3) := by decide +kernel
theorem dX7_isOpenFor_24 : decode cX7_isOpenFor 24 = .ok (.aload_n 0, 1) := by decide +kernel
theorem dX7_isOpenFor_25 : decode cX7_isOpenFor 25 = .ok (.getfield 11, 3) := by decide +kernel
theorem dX7_isOpenFor_28 : decode cX7_isOpenFor 28 = .ok (.iload_n 2, 1) := by decide +kernel
theorem dX7_isOpenFor_29 : decode cX7_isOpenFor 29 = .ok (.aaload, 1) := by decide +kernel
theorem dX7_isOpenFor_30 : decode cX7_isOpenFor 30 = .ok (.iload_n 3, 1) := by decide +kernel
theorem dX7_isOpenFor_31 : decode cX7_isOpenFor 31 = .ok (.invokevirtual 59, 3) := by decide +kernel
theorem dX7_isOpenFor_34 : decode cX7_isOpenFor 34 = .ok (.ifCond .eq 20, 3) := by decide +kernel
theorem dX7_isOpenFor_37 : decode cX7_isOpenFor 37 = .ok (.aload_n 1, 1) := by decide +kernel
theorem dX7_isOpenFor_38 : decode cX7_isOpenFor 38 = .ok (.getfield 80, 3) := by decide +kernel
theorem dX7_isOpenFor_41 : decode cX7_isOpenFor 41 = .ok (.iload_n 3, 1) := by decide +kernel
theorem dX7_isOpenFor_42 : decode cX7_isOpenFor 42 = .ok (.aaload, 1) := by decide +kernel
theorem dX7_isOpenFor_43 : decode cX7_isOpenFor 43 = .ok (.getfield 96, 3) := by decide +kernel
theorem dX7_isOpenFor_46 : decode cX7_isOpenFor 46 = .ok (.sipush 700, 3) := by decide +kernel
theorem dX7_isOpenFor_49 : decode cX7_isOpenFor 49 = .ok (.if_icmp .ge 5, 3) := by decide +kernel
theorem dX7_isOpenFor_52 : decode cX7_isOpenFor 52 = .ok (.iconst 0, 1) := by decide +kernel
theorem dX7_isOpenFor_53 : decode cX7_isOpenFor 53 = .ok (.ireturn, 1) := by decide +kernel
theorem dX7_isOpenFor_54 : decode cX7_isOpenFor 54 = .ok (.iinc 3 1, 3) := by decide +kernel
theorem dX7_isOpenFor_57 : decode cX7_isOpenFor 57 = .ok (.goto (-41), 3) := by decide +kernel
theorem dX7_isOpenFor_60 : decode cX7_isOpenFor 60 = .ok (.iconst 1, 1) := by decide +kernel
theorem dX7_isOpenFor_61 : decode cX7_isOpenFor 61 = .ok (.ireturn, 1) := by decide +kernel
theorem dX7_noteAnswer_0 : decode cX7_noteAnswer 0 = .ok (.aload_n 1, 1) := by decide +kernel
theorem dX7_noteAnswer_1 : decode cX7_noteAnswer 1 = .ok (.getfield 80, 3) := by decide +kernel
theorem dX7_noteAnswer_4 : decode cX7_noteAnswer 4 = .ok (.iload_n 2, 1) := by decide +kernel
theorem dX7_noteAnswer_5 : decode cX7_noteAnswer 5 = .ok (.aaload, 1) := by decide +kernel
theorem dX7_noteAnswer_6 : decode cX7_noteAnswer 6 = .ok (.astore 4, 2) := by decide +kernel
theorem dX7_noteAnswer_8 : decode cX7_noteAnswer 8 = .ok (.aload 4, 2) := by decide +kernel
theorem dX7_noteAnswer_10 : decode cX7_noteAnswer 10 = .ok (.aload_n 0, 1) := by decide +kernel
theorem dX7_noteAnswer_11 : decode cX7_noteAnswer 11 = .ok (.getfield 11, 3) := by decide +kernel
theorem dX7_noteAnswer_14 : decode cX7_noteAnswer 14 = .ok (.iload_n 2, 1) := by decide +kernel
theorem dX7_noteAnswer_15 : decode cX7_noteAnswer 15 = .ok (.aaload, 1) := by decide +kernel
theorem dX7_noteAnswer_16 : decode cX7_noteAnswer 16 = .ok (.iload_n 3, 1) := by decide +kernel
theorem dX7_noteAnswer_17 : decode cX7_noteAnswer 17 = .ok (.invokevirtual 267, 3) := by decide +kernel
theorem dX7_noteAnswer_20 : decode cX7_noteAnswer 20 = .ok (.aload 4, 2) := by decide +kernel
theorem dX7_noteAnswer_22 : decode cX7_noteAnswer 22 = .ok (.aload_n 0, 1) := by decide +kernel
theorem dX7_noteAnswer_23 : decode cX7_noteAnswer 23 = .ok (.aload_n 1, 1) := by decide +kernel
theorem dX7_noteAnswer_24 : decode cX7_noteAnswer 24 = .ok (.iload_n 2, 1) := by decide +kernel
theorem dX7_noteAnswer_25 : decode cX7_noteAnswer 25 = .ok (.aload_n 0, 1) := by decide +kernel
theorem dX7_noteAnswer_26 : decode cX7_noteAnswer 26 = .ok (.getfield 117, 3) := by decide +kernel
theorem dX7_noteAnswer_29 : decode cX7_noteAnswer 29 = .ok (.aload 4, 2) := by decide +kernel
theorem dX7_noteAnswer_31 : decode cX7_noteAnswer 31 = .ok (.invokevirtual 270, 3) := by decide +kernel
theorem dX7_noteAnswer_34 : decode cX7_noteAnswer 34 = .ok (.iadd, 1) := by decide +kernel
theorem dX7_noteAnswer_35 : decode cX7_noteAnswer 35 = .ok (.invokevirtual 273, 3) := by decide +kernel
theorem dX7_noteAnswer_38 : decode cX7_noteAnswer 38 = .ok (.putfield 134, 3) := by decide +kernel
theorem dX7_noteAnswer_41 : decode cX7_noteAnswer 41 = .ok (.return_, 1) := by decide +kernel
theorem dX7_firstFreeDay_0 : decode cX7_firstFreeDay 0 = .ok (.iload_n 3, 1) := by decide +kernel
theorem dX7_firstFreeDay_1 : decode cX7_firstFreeDay 1 = .ok (.istore 4, 2) := by decide +kernel
theorem dX7_firstFreeDay_3 : decode cX7_firstFreeDay 3 = .ok (.iconst 0, 1) := by decide +kernel
theorem dX7_firstFreeDay_4 : decode cX7_firstFreeDay 4 = .ok (.istore 5, 2) := by decide +kernel
theorem dX7_firstFreeDay_6 : decode cX7_firstFreeDay 6 = .ok (.iload 5, 2) := by decide +kernel
theorem dX7_firstFreeDay_8 : decode cX7_firstFreeDay 8 = .ok (.aload_n 0, 1) := by decide +kernel
theorem dX7_firstFreeDay_9 : decode cX7_firstFreeDay 9 = .ok (.getfield 32, 3) := by decide +kernel
theorem dX7_firstFreeDay_12 : decode cX7_firstFreeDay 12 = .ok (.if_icmp .ge 24, 3) := by decide +kernel
theorem dX7_firstFreeDay_15 : decode cX7_firstFreeDay 15 = .ok (.aload_n 0, 1) := by decide +kernel
theorem dX7_firstFreeDay_16 : decode cX7_firstFreeDay 16 = .ok (.aload_n 1, 1) := by decide +kernel
theorem dX7_firstFreeDay_17 : decode cX7_firstFreeDay 17 = .ok (.iload_n 2, 1) := by decide +kernel
theorem dX7_firstFreeDay_18 : decode cX7_firstFreeDay 18 = .ok (.iload 4, 2) := by decide +kernel
theorem dX7_firstFreeDay_20 : decode cX7_firstFreeDay 20 = .ok (.invokevirtual 277, 3) := by decide +kernel
theorem dX7_firstFreeDay_23 : decode cX7_firstFreeDay 23 = .ok (.iconst 2, 1) := by decide +kernel
theorem dX7_firstFreeDay_24 : decode cX7_firstFreeDay 24 = .ok (.if_icmp .lt 12, 3) := by decide +kernel
theorem dX7_firstFreeDay_27 : decode cX7_firstFreeDay 27 = .ok (.iinc 4 1, 3) := by decide +kernel
theorem dX7_firstFreeDay_30 : decode cX7_firstFreeDay 30 = .ok (.iinc 5 1, 3) := by decide +kernel
theorem dX7_firstFreeDay_33 : decode cX7_firstFreeDay 33 = .ok (.goto (-27), 3) := by decide +kernel
theorem dX7_firstFreeDay_36 : decode cX7_firstFreeDay 36 = .ok (.iload 4, 2) := by decide +kernel
theorem dX7_firstFreeDay_38 : decode cX7_firstFreeDay 38 = .ok (.ireturn, 1) := by decide +kernel
theorem dX7_othersDueOn_0 : decode cX7_othersDueOn 0 = .ok (.iconst 0, 1) := by decide +kernel
theorem dX7_othersDueOn_1 : decode cX7_othersDueOn 1 = .ok (.istore 4, 2) := by decide +kernel
theorem dX7_othersDueOn_3 : decode cX7_othersDueOn 3 = .ok (.iconst 0, 1) := by decide +kernel
theorem dX7_othersDueOn_4 : decode cX7_othersDueOn 4 = .ok (.istore 5, 2) := by decide +kernel
theorem dX7_othersDueOn_6 : decode cX7_othersDueOn 6 = .ok (.iload 5, 2) := by decide +kernel
theorem dX7_othersDueOn_8 : decode cX7_othersDueOn 8 = .ok (.aload_n 0, 1) := by decide +kernel
theorem dX7_othersDueOn_9 : decode cX7_othersDueOn 9 = .ok (.getfield 32, 3) := by decide +kernel
theorem dX7_othersDueOn_12 : decode cX7_othersDueOn 12 = .ok (.if_icmp .ge 32, 3) := by decide +kernel
theorem dX7_othersDueOn_15 : decode cX7_othersDueOn 15 = .ok (.iload 5, 2) := by decide +kernel
theorem dX7_othersDueOn_17 : decode cX7_othersDueOn 17 = .ok (.iload_n 2, 1) := by decide +kernel
theorem dX7_othersDueOn_18 : decode cX7_othersDueOn 18 = .ok (.if_icmp .eq 20, 3) := by decide +kernel
theorem dX7_othersDueOn_21 : decode cX7_othersDueOn 21 = .ok (.aload_n 1, 1) := by decide +kernel
theorem dX7_othersDueOn_22 : decode cX7_othersDueOn 22 = .ok (.getfield 80, 3) := by decide +kernel
theorem dX7_othersDueOn_25 : decode cX7_othersDueOn 25 = .ok (.iload 5, 2) := by decide +kernel
theorem dX7_othersDueOn_27 : decode cX7_othersDueOn 27 = .ok (.aaload, 1) := by decide +kernel
theorem dX7_othersDueOn_28 : decode cX7_othersDueOn 28 = .ok (.getfield 134, 3) := by decide +kernel
theorem dX7_othersDueOn_31 : decode cX7_othersDueOn 31 = .ok (.iload_n 3, 1) := by decide +kernel
theorem dX7_othersDueOn_32 : decode cX7_othersDueOn 32 = .ok (.if_icmp .ne 6, 3) := by decide +kernel
theorem dX7_othersDueOn_35 : decode cX7_othersDueOn 35 = .ok (.iinc 4 1, 3) := by decide +kernel
theorem dX7_othersDueOn_38 : decode cX7_othersDueOn 38 = .ok (.iinc 5 1, 3) := by decide +kernel
theorem dX7_othersDueOn_41 : decode cX7_othersDueOn 41 = .ok (.goto (-35), 3) := by decide +kernel
theorem dX7_othersDueOn_44 : decode cX7_othersDueOn 44 = .ok (.iload 4, 2) := by decide +kernel
theorem dX7_othersDueOn_46 : decode cX7_othersDueOn 46 = .ok (.ireturn, 1) := by decide +kernel
theorem dX7_reviewsAheadOf_0 : decode cX7_reviewsAheadOf 0 = .ok (.aload_n 1, 1) := by decide +kernel
theorem dX7_reviewsAheadOf_1 : decode cX7_reviewsAheadOf 1 = .ok (.getfield 80, 3) := by decide +kernel
theorem dX7_reviewsAheadOf_4 : decode cX7_reviewsAheadOf 4 = .ok (.iload_n 2, 1) := by decide +kernel
theorem dX7_reviewsAheadOf_5 : decode cX7_reviewsAheadOf 5 = .ok (.aaload, 1) := by decide +kernel
theorem dX7_reviewsAheadOf_6 : decode cX7_reviewsAheadOf 6 = .ok (.getfield 134, 3) := by decide +kernel
theorem dX7_reviewsAheadOf_9 : decode cX7_reviewsAheadOf 9 = .ok (.istore_n 3, 1) := by decide +kernel
theorem dX7_reviewsAheadOf_10 : decode cX7_reviewsAheadOf 10 = .ok (.iconst 0, 1) := by decide +kernel
theorem dX7_reviewsAheadOf_11 : decode cX7_reviewsAheadOf 11 = .ok (.istore 4, 2) := by decide +kernel
theorem dX7_reviewsAheadOf_13 : decode cX7_reviewsAheadOf 13 = .ok (.iconst 0, 1) := by decide +kernel
theorem dX7_reviewsAheadOf_14 : decode cX7_reviewsAheadOf 14 = .ok (.istore 5, 2) := by decide +kernel
theorem dX7_reviewsAheadOf_16 : decode cX7_reviewsAheadOf 16 = .ok (.iload 5, 2) := by decide +kernel
theorem dX7_reviewsAheadOf_18 : decode cX7_reviewsAheadOf 18 = .ok (.aload_n 0, 1) := by decide +kernel
theorem dX7_reviewsAheadOf_19 : decode cX7_reviewsAheadOf 19 = .ok (.getfield 32, 3) := by decide +kernel
theorem dX7_reviewsAheadOf_22 : decode cX7_reviewsAheadOf 22 = .ok (.if_icmp .ge 69, 3) := by decide +kernel
theorem dX7_reviewsAheadOf_25 : decode cX7_reviewsAheadOf 25 = .ok (.aload_n 1, 1) := by decide +kernel
theorem dX7_reviewsAheadOf_26 : decode cX7_reviewsAheadOf 26 = .ok (.getfield 80, 3) := by decide +kernel
theorem dX7_reviewsAheadOf_29 : decode cX7_reviewsAheadOf 29 = .ok (.iload 5, 2) := by decide +kernel
theorem dX7_reviewsAheadOf_31 : decode cX7_reviewsAheadOf 31 = .ok (.aaload, 1) := by decide +kernel
theorem dX7_reviewsAheadOf_32 : decode cX7_reviewsAheadOf 32 = .ok (.astore 6, 2) := by decide +kernel
theorem dX7_reviewsAheadOf_34 : decode cX7_reviewsAheadOf 34 = .ok (.aload 6, 2) := by decide +kernel
theorem dX7_reviewsAheadOf_36 : decode cX7_reviewsAheadOf 36 = .ok (.getfield 134, 3) := by decide +kernel
theorem dX7_reviewsAheadOf_39 : decode cX7_reviewsAheadOf 39 = .ok (.iload_n 3, 1) := by decide +kernel
theorem dX7_reviewsAheadOf_40 : decode cX7_reviewsAheadOf 40 = .ok (.if_icmp .lt 18, 3) := by decide +kernel
theorem dX7_reviewsAheadOf_43 : decode cX7_reviewsAheadOf 43 = .ok (.aload 6, 2) := by decide +kernel
theorem dX7_reviewsAheadOf_45 : decode cX7_reviewsAheadOf 45 = .ok (.getfield 134, 3) := by decide +kernel
theorem dX7_reviewsAheadOf_48 : decode cX7_reviewsAheadOf 48 = .ok (.iload_n 3, 1) := by decide +kernel
theorem dX7_reviewsAheadOf_49 : decode cX7_reviewsAheadOf 49 = .ok (.if_icmp .ne 13, 3) := by decide +kernel
theorem dX7_reviewsAheadOf_52 : decode cX7_reviewsAheadOf 52 = .ok (.iload 5, 2) := by decide +kernel
theorem dX7_reviewsAheadOf_54 : decode cX7_reviewsAheadOf 54 = .ok (.iload_n 2, 1) := by decide +kernel
theorem dX7_reviewsAheadOf_55 : decode cX7_reviewsAheadOf 55 = .ok (.if_icmp .ge 7, 3) := by decide +kernel
theorem dX7_reviewsAheadOf_58 : decode cX7_reviewsAheadOf 58 = .ok (.iconst 1, 1) := by decide +kernel
theorem dX7_reviewsAheadOf_59 : decode cX7_reviewsAheadOf 59 = .ok (.goto 4, 3) := by decide +kernel
theorem dX7_reviewsAheadOf_62 : decode cX7_reviewsAheadOf 62 = .ok (.iconst 0, 1) := by decide +kernel
theorem dX7_reviewsAheadOf_63 : decode cX7_reviewsAheadOf 63 = .ok (.istore 7, 2) := by decide +kernel
theorem dX7_reviewsAheadOf_65 : decode cX7_reviewsAheadOf 65 = .ok (.aload 6, 2) := by decide +kernel
theorem dX7_reviewsAheadOf_67 : decode cX7_reviewsAheadOf 67 = .ok (.aload_n 0, 1) := by decide +kernel
theorem dX7_reviewsAheadOf_68 : decode cX7_reviewsAheadOf 68 = .ok (.getfield 117, 3) := by decide +kernel
theorem dX7_reviewsAheadOf_71 : decode cX7_reviewsAheadOf 71 = .ok (.invokevirtual 137, 3) := by decide +kernel
theorem dX7_reviewsAheadOf_74 : decode cX7_reviewsAheadOf 74 = .ok (.ifCond .eq 11, 3) := by decide +kernel
theorem dX7_reviewsAheadOf_77 : decode cX7_reviewsAheadOf 77 = .ok (.iload 7, 2) := by decide +kernel
theorem dX7_reviewsAheadOf_79 : decode cX7_reviewsAheadOf 79 = .ok (.ifCond .eq 6, 3) := by decide +kernel
theorem dX7_reviewsAheadOf_82 : decode cX7_reviewsAheadOf 82 = .ok (.iinc 4 1, 3) := by decide +kernel
theorem dX7_reviewsAheadOf_85 : decode cX7_reviewsAheadOf 85 = .ok (.iinc 5 1, 3) := by decide +kernel
theorem dX7_reviewsAheadOf_88 : decode cX7_reviewsAheadOf 88 = .ok (.goto (-72), 3) := by decide +kernel
theorem dX7_reviewsAheadOf_91 : decode cX7_reviewsAheadOf 91 = .ok (.iload 4, 2) := by decide +kernel
theorem dX7_reviewsAheadOf_93 : decode cX7_reviewsAheadOf 93 = .ok (.ireturn, 1) := by decide +kernel
theorem dX7_firstOpenReview_0 : decode cX7_firstOpenReview 0 = .ok (.iconst (-1), 1) := by decide +kernel
theorem dX7_firstOpenReview_1 : decode cX7_firstOpenReview 1 = .ok (.istore_n 2, 1) := by decide +kernel
theorem dX7_firstOpenReview_2 : decode cX7_firstOpenReview 2 = .ok (.iconst 0, 1) := by decide +kernel
theorem dX7_firstOpenReview_3 : decode cX7_firstOpenReview 3 = .ok (.istore_n 3, 1) := by decide +kernel
theorem dX7_firstOpenReview_4 : decode cX7_firstOpenReview 4 = .ok (.iconst 0, 1) := by decide +kernel
theorem dX7_firstOpenReview_5 : decode cX7_firstOpenReview 5 = .ok (.istore 4, 2) := by decide +kernel
theorem dX7_firstOpenReview_7 : decode cX7_firstOpenReview 7 = .ok (.iload 4, 2) := by decide +kernel
theorem dX7_firstOpenReview_9 : decode cX7_firstOpenReview 9 = .ok (.aload_n 0, 1) := by decide +kernel
theorem dX7_firstOpenReview_10 : decode cX7_firstOpenReview 10 = .ok (.getfield 32, 3) := by decide +kernel
theorem dX7_firstOpenReview_13 : decode cX7_firstOpenReview 13 = .ok (.if_icmp .ge 75, 3) := by decide +kernel
theorem dX7_firstOpenReview_16 : decode cX7_firstOpenReview 16 = .ok (.aload_n 1, 1) := by decide +kernel
theorem dX7_firstOpenReview_17 : decode cX7_firstOpenReview 17 = .ok (.getfield 80, 3) := by decide +kernel
theorem dX7_firstOpenReview_20 : decode cX7_firstOpenReview 20 = .ok (.iload 4, 2) := by decide +kernel
theorem dX7_firstOpenReview_22 : decode cX7_firstOpenReview 22 = .ok (.aaload, 1) := by decide +kernel
theorem dX7_firstOpenReview_23 : decode cX7_firstOpenReview 23 = .ok (.astore 5, 2) := by decide +kernel
theorem dX7_firstOpenReview_25 : decode cX7_firstOpenReview 25 = .ok (.iload_n 2, 1) := by decide +kernel
theorem dX7_firstOpenReview_26 : decode cX7_firstOpenReview 26 = .ok (.iconst (-1), 1) := by decide +kernel
theorem dX7_firstOpenReview_27 : decode cX7_firstOpenReview 27 = .ok (.if_icmp .eq 12, 3) := by decide +kernel
theorem dX7_firstOpenReview_30 : decode cX7_firstOpenReview 30 = .ok (.aload 5, 2) := by decide +kernel
theorem dX7_firstOpenReview_32 : decode cX7_firstOpenReview 32 = .ok (.getfield 134, 3) := by decide +kernel
theorem dX7_firstOpenReview_35 : decode cX7_firstOpenReview 35 = .ok (.iload_n 3, 1) := by decide +kernel
theorem dX7_firstOpenReview_36 : decode cX7_firstOpenReview 36 = .ok (.if_icmp .ge 7, 3) := by decide +kernel
theorem dX7_firstOpenReview_39 : decode cX7_firstOpenReview 39 = .ok (.iconst 1, 1) := by decide +kernel
theorem dX7_firstOpenReview_40 : decode cX7_firstOpenReview 40 = .ok (.goto 4, 3) := by decide +kernel
theorem dX7_firstOpenReview_43 : decode cX7_firstOpenReview 43 = .ok (.iconst 0, 1) := by decide +kernel
theorem dX7_firstOpenReview_44 : decode cX7_firstOpenReview 44 = .ok (.istore 6, 2) := by decide +kernel
theorem dX7_firstOpenReview_46 : decode cX7_firstOpenReview 46 = .ok (.aload 5, 2) := by decide +kernel
theorem dX7_firstOpenReview_48 : decode cX7_firstOpenReview 48 = .ok (.aload_n 0, 1) := by decide +kernel
theorem dX7_firstOpenReview_49 : decode cX7_firstOpenReview 49 = .ok (.getfield 117, 3) := by decide +kernel
theorem dX7_firstOpenReview_52 : decode cX7_firstOpenReview 52 = .ok (.invokevirtual 137, 3) := by decide +kernel
theorem dX7_firstOpenReview_55 : decode cX7_firstOpenReview 55 = .ok (.ifCond .eq 27, 3) := by decide +kernel
theorem dX7_firstOpenReview_58 : decode cX7_firstOpenReview 58 = .ok (.iload 6, 2) := by decide +kernel
theorem dX7_firstOpenReview_60 : decode cX7_firstOpenReview 60 = .ok (.ifCond .eq 22, 3) := by decide +kernel
theorem dX7_firstOpenReview_63 : decode cX7_firstOpenReview 63 = .ok (.aload_n 0, 1) := by decide +kernel
theorem dX7_firstOpenReview_64 : decode cX7_firstOpenReview 64 = .ok (.aload_n 1, 1) := by decide +kernel
theorem dX7_firstOpenReview_65 : decode cX7_firstOpenReview 65 = .ok (.iload 4, 2) := by decide +kernel
theorem dX7_firstOpenReview_67 : decode cX7_firstOpenReview 67 = .ok (.invokevirtual 76, 3) := by decide +kernel
theorem dX7_firstOpenReview_70 : decode cX7_firstOpenReview 70 = .ok (.ifCond .eq 12, 3) := by decide +kernel
theorem dX7_firstOpenReview_73 : decode cX7_firstOpenReview 73 = .ok (.iload 4, 2) := by decide +kernel
theorem dX7_firstOpenReview_75 : decode cX7_firstOpenReview 75 = .ok (.istore_n 2, 1) := by decide +kernel
theorem dX7_firstOpenReview_76 : decode cX7_firstOpenReview 76 = .ok (.aload 5, 2) := by decide +kernel
theorem dX7_firstOpenReview_78 : decode cX7_firstOpenReview 78 = .ok (.getfield 134, 3) := by decide +kernel
theorem dX7_firstOpenReview_81 : decode cX7_firstOpenReview 81 = .ok (.istore_n 3, 1) := by decide +kernel
theorem dX7_firstOpenReview_82 : decode cX7_firstOpenReview 82 = .ok (.iinc 4 1, 3) := by decide +kernel
theorem dX7_firstOpenReview_85 : decode cX7_firstOpenReview 85 = .ok (.goto (-78), 3) := by decide +kernel
theorem dX7_firstOpenReview_88 : decode cX7_firstOpenReview 88 = .ok (.iload_n 2, 1) := by decide +kernel
theorem dX7_firstOpenReview_89 : decode cX7_firstOpenReview 89 = .ok (.ireturn, 1) := by decide +kernel
theorem dX7_bestNewSkill_0 : decode cX7_bestNewSkill 0 = .ok (.iconst (-1), 1) := by decide +kernel
theorem dX7_bestNewSkill_1 : decode cX7_bestNewSkill 1 = .ok (.istore_n 2, 1) := by decide +kernel
theorem dX7_bestNewSkill_2 : decode cX7_bestNewSkill 2 = .ok (.iconst (-1), 1) := by decide +kernel
theorem dX7_bestNewSkill_3 : decode cX7_bestNewSkill 3 = .ok (.istore_n 3, 1) := by decide +kernel
theorem dX7_bestNewSkill_4 : decode cX7_bestNewSkill 4 = .ok (.iconst 0, 1) := by decide +kernel
theorem dX7_bestNewSkill_5 : decode cX7_bestNewSkill 5 = .ok (.istore 4, 2) := by decide +kernel
theorem dX7_bestNewSkill_7 : decode cX7_bestNewSkill 7 = .ok (.iload 4, 2) := by decide +kernel
theorem dX7_bestNewSkill_9 : decode cX7_bestNewSkill 9 = .ok (.aload_n 0, 1) := by decide +kernel
theorem dX7_bestNewSkill_10 : decode cX7_bestNewSkill 10 = .ok (.getfield 32, 3) := by decide +kernel
theorem dX7_bestNewSkill_13 : decode cX7_bestNewSkill 13 = .ok (.if_icmp .ge 70, 3) := by decide +kernel
theorem dX7_bestNewSkill_16 : decode cX7_bestNewSkill 16 = .ok (.aload_n 1, 1) := by decide +kernel
theorem dX7_bestNewSkill_17 : decode cX7_bestNewSkill 17 = .ok (.getfield 80, 3) := by decide +kernel
theorem dX7_bestNewSkill_20 : decode cX7_bestNewSkill 20 = .ok (.iload 4, 2) := by decide +kernel
theorem dX7_bestNewSkill_22 : decode cX7_bestNewSkill 22 = .ok (.aaload, 1) := by decide +kernel
theorem dX7_bestNewSkill_23 : decode cX7_bestNewSkill 23 = .ok (.astore 5, 2) := by decide +kernel
theorem dX7_bestNewSkill_25 : decode cX7_bestNewSkill 25 = .ok (.sipush 1000, 3) := by decide +kernel
theorem dX7_bestNewSkill_28 : decode cX7_bestNewSkill 28 = .ok (.aload 5, 2) := by decide +kernel
theorem dX7_bestNewSkill_30 : decode cX7_bestNewSkill 30 = .ok (.getfield 96, 3) := by decide +kernel
theorem dX7_bestNewSkill_33 : decode cX7_bestNewSkill 33 = .ok (.isub, 1) := by decide +kernel
theorem dX7_bestNewSkill_34 : decode cX7_bestNewSkill 34 = .ok (.aload_n 0, 1) := by decide +kernel
theorem dX7_bestNewSkill_35 : decode cX7_bestNewSkill 35 = .ok (.getfield 11, 3) := by decide +kernel
theorem dX7_bestNewSkill_38 : decode cX7_bestNewSkill 38 = .ok (.iload 4, 2) := by decide +kernel
theorem dX7_bestNewSkill_40 : decode cX7_bestNewSkill 40 = .ok (.aaload, 1) := by decide +kernel
theorem dX7_bestNewSkill_41 : decode cX7_bestNewSkill 41 = .ok (.getfield 280, 3) := by decide +kernel
theorem dX7_bestNewSkill_44 : decode cX7_bestNewSkill 44 = .ok (.imul, 1) := by decide +kernel
theorem dX7_bestNewSkill_45 : decode cX7_bestNewSkill 45 = .ok (.istore 6, 2) := by decide +kernel
theorem dX7_bestNewSkill_47 : decode cX7_bestNewSkill 47 = .ok (.aload 5, 2) := by decide +kernel
theorem dX7_bestNewSkill_49 : decode cX7_bestNewSkill 49 = .ok (.invokevirtual 125, 3) := by decide +kernel
theorem dX7_bestNewSkill_52 : decode cX7_bestNewSkill 52 = .ok (.ifCond .ne 25, 3) := by decide +kernel
theorem dX7_bestNewSkill_55 : decode cX7_bestNewSkill 55 = .ok (.iload 6, 2) := by decide +kernel
theorem dX7_bestNewSkill_57 : decode cX7_bestNewSkill 57 = .ok (.iload_n 3, 1) := by decide +kernel
theorem dX7_bestNewSkill_58 : decode cX7_bestNewSkill 58 = .ok (.if_icmp .le 19, 3) := by decide +kernel
theorem dX7_bestNewSkill_61 : decode cX7_bestNewSkill 61 = .ok (.aload_n 0, 1) := by decide +kernel
theorem dX7_bestNewSkill_62 : decode cX7_bestNewSkill 62 = .ok (.aload_n 1, 1) := by decide +kernel
theorem dX7_bestNewSkill_63 : decode cX7_bestNewSkill 63 = .ok (.iload 4, 2) := by decide +kernel
theorem dX7_bestNewSkill_65 : decode cX7_bestNewSkill 65 = .ok (.invokevirtual 76, 3) := by decide +kernel
theorem dX7_bestNewSkill_68 : decode cX7_bestNewSkill 68 = .ok (.ifCond .eq 9, 3) := by decide +kernel
theorem dX7_bestNewSkill_71 : decode cX7_bestNewSkill 71 = .ok (.iload 4, 2) := by decide +kernel
theorem dX7_bestNewSkill_73 : decode cX7_bestNewSkill 73 = .ok (.istore_n 2, 1) := by decide +kernel
theorem dX7_bestNewSkill_74 : decode cX7_bestNewSkill 74 = .ok (.iload 6, 2) := by decide +kernel
theorem dX7_bestNewSkill_76 : decode cX7_bestNewSkill 76 = .ok (.istore_n 3, 1) := by decide +kernel
theorem dX7_bestNewSkill_77 : decode cX7_bestNewSkill 77 = .ok (.iinc 4 1, 3) := by decide +kernel
theorem dX7_bestNewSkill_80 : decode cX7_bestNewSkill 80 = .ok (.goto (-73), 3) := by decide +kernel
theorem dX7_bestNewSkill_83 : decode cX7_bestNewSkill 83 = .ok (.iload_n 2, 1) := by decide +kernel
theorem dX7_bestNewSkill_84 : decode cX7_bestNewSkill 84 = .ok (.ireturn, 1) := by decide +kernel
theorem dX7_areOddsSound_0 : decode cX7_areOddsSound 0 = .ok (.iconst 0, 1) := by decide +kernel
theorem dX7_areOddsSound_1 : decode cX7_areOddsSound 1 = .ok (.istore_n 2, 1) := by decide +kernel
theorem dX7_areOddsSound_2 : decode cX7_areOddsSound 2 = .ok (.iload_n 2, 1) := by decide +kernel
theorem dX7_areOddsSound_3 : decode cX7_areOddsSound 3 = .ok (.aload_n 0, 1) := by decide +kernel
theorem dX7_areOddsSound_4 : decode cX7_areOddsSound 4 = .ok (.getfield 32, 3) := by decide +kernel
theorem dX7_areOddsSound_7 : decode cX7_areOddsSound 7 = .ok (.if_icmp .ge 35, 3) := by decide +kernel
theorem dX7_areOddsSound_10 : decode cX7_areOddsSound 10 = .ok (.aload_n 1, 1) := by decide +kernel
theorem dX7_areOddsSound_11 : decode cX7_areOddsSound 11 = .ok (.getfield 80, 3) := by decide +kernel
theorem dX7_areOddsSound_14 : decode cX7_areOddsSound 14 = .ok (.iload_n 2, 1) := by decide +kernel
theorem dX7_areOddsSound_15 : decode cX7_areOddsSound 15 = .ok (.aaload, 1) := by decide +kernel
theorem dX7_areOddsSound_16 : decode cX7_areOddsSound 16 = .ok (.astore_n 3, 1) := by decide +kernel
theorem dX7_areOddsSound_17 : decode cX7_areOddsSound 17 = .ok (.aload_n 3, 1) := by decide +kernel
theorem dX7_areOddsSound_18 : decode cX7_areOddsSound 18 = .ok (.getfield 96, 3) := by decide +kernel
theorem dX7_areOddsSound_21 : decode cX7_areOddsSound 21 = .ok (.aload_n 3, 1) := by decide +kernel
theorem dX7_areOddsSound_22 : decode cX7_areOddsSound 22 = .ok (.aload_n 0, 1) := by decide +kernel
theorem dX7_areOddsSound_23 : decode cX7_areOddsSound 23 = .ok (.getfield 11, 3) := by decide +kernel
theorem dX7_areOddsSound_26 : decode cX7_areOddsSound 26 = .ok (.iload_n 2, 1) := by decide +kernel
theorem dX7_areOddsSound_27 : decode cX7_areOddsSound 27 = .ok (.aaload, 1) := by decide +kernel
theorem dX7_areOddsSound_28 : decode cX7_areOddsSound 28 = .ok (.invokevirtual 110, 3) := by decide +kernel
theorem dX7_areOddsSound_31 : decode cX7_areOddsSound 31 = .ok (.if_icmp .eq 5, 3) := by decide +kernel
theorem dX7_areOddsSound_34 : decode cX7_areOddsSound 34 = .ok (.iconst 0, 1) := by decide +kernel
theorem dX7_areOddsSound_35 : decode cX7_areOddsSound 35 = .ok (.ireturn, 1) := by decide +kernel
theorem dX7_areOddsSound_36 : decode cX7_areOddsSound 36 = .ok (.iinc 2 1, 3) := by decide +kernel
theorem dX7_areOddsSound_39 : decode cX7_areOddsSound 39 = .ok (.goto (-37), 3) := by decide +kernel
theorem dX7_areOddsSound_42 : decode cX7_areOddsSound 42 = .ok (.iconst 1, 1) := by decide +kernel
theorem dX7_areOddsSound_43 : decode cX7_areOddsSound 43 = .ok (.ireturn, 1) := by decide +kernel
theorem dX7_areDaysSound_0 : decode cX7_areDaysSound 0 = .ok (.iconst 0, 1) := by decide +kernel
theorem dX7_areDaysSound_1 : decode cX7_areDaysSound 1 = .ok (.istore_n 2, 1) := by decide +kernel
theorem dX7_areDaysSound_2 : decode cX7_areDaysSound 2 = .ok (.iload_n 2, 1) := by decide +kernel
theorem dX7_areDaysSound_3 : decode cX7_areDaysSound 3 = .ok (.aload_n 0, 1) := by decide +kernel
theorem dX7_areDaysSound_4 : decode cX7_areDaysSound 4 = .ok (.getfield 32, 3) := by decide +kernel
theorem dX7_areDaysSound_7 : decode cX7_areDaysSound 7 = .ok (.if_icmp .ge 40, 3) := by decide +kernel
theorem dX7_areDaysSound_10 : decode cX7_areDaysSound 10 = .ok (.aload_n 1, 1) := by decide +kernel
theorem dX7_areDaysSound_11 : decode cX7_areDaysSound 11 = .ok (.getfield 80, 3) := by decide +kernel
theorem dX7_areDaysSound_14 : decode cX7_areDaysSound 14 = .ok (.iload_n 2, 1) := by decide +kernel
theorem dX7_areDaysSound_15 : decode cX7_areDaysSound 15 = .ok (.aaload, 1) := by decide +kernel
theorem dX7_areDaysSound_16 : decode cX7_areDaysSound 16 = .ok (.getfield 134, 3) := by decide +kernel
theorem dX7_areDaysSound_19 : decode cX7_areDaysSound 19 = .ok (.istore_n 3, 1) := by decide +kernel
theorem dX7_areDaysSound_20 : decode cX7_areDaysSound 20 = .ok (.iload_n 3, 1) := by decide +kernel
theorem dX7_areDaysSound_21 : decode cX7_areDaysSound 21 = .ok (.aload_n 0, 1) := by decide +kernel
theorem dX7_areDaysSound_22 : decode cX7_areDaysSound 22 = .ok (.getfield 117, 3) := by decide +kernel
theorem dX7_areDaysSound_25 : decode cX7_areDaysSound 25 = .ok (.if_icmp .le 16, 3) := by decide +kernel
theorem dX7_areDaysSound_28 : decode cX7_areDaysSound 28 = .ok (.aload_n 0, 1) := by decide +kernel
theorem dX7_areDaysSound_29 : decode cX7_areDaysSound 29 = .ok (.aload_n 1, 1) := by decide +kernel
theorem dX7_areDaysSound_30 : decode cX7_areDaysSound 30 = .ok (.iload_n 2, 1) := by decide +kernel
theorem dX7_areDaysSound_31 : decode cX7_areDaysSound 31 = .ok (.iload_n 3, 1) := by decide +kernel
theorem dX7_areDaysSound_32 : decode cX7_areDaysSound 32 = .ok (.invokevirtual 277, 3) := by decide +kernel
theorem dX7_areDaysSound_35 : decode cX7_areDaysSound 35 = .ok (.iconst 2, 1) := by decide +kernel
theorem dX7_areDaysSound_36 : decode cX7_areDaysSound 36 = .ok (.if_icmp .lt 5, 3) := by decide +kernel
theorem dX7_areDaysSound_39 : decode cX7_areDaysSound 39 = .ok (.iconst 0, 1) := by decide +kernel
theorem dX7_areDaysSound_40 : decode cX7_areDaysSound 40 = .ok (.ireturn, 1) := by decide +kernel
theorem dX7_areDaysSound_41 : decode cX7_areDaysSound 41 = .ok (.iinc 2 1, 3) := by decide +kernel
theorem dX7_areDaysSound_44 : decode cX7_areDaysSound 44 = .ok (.goto (-42), 3) := by decide +kernel
theorem dX7_areDaysSound_47 : decode cX7_areDaysSound 47 = .ok (.iconst 1, 1) := by decide +kernel
theorem dX7_areDaysSound_48 : decode cX7_areDaysSound 48 = .ok (.ireturn, 1) := by decide +kernel
theorem dX7_isExerciseSound_0 : decode cX7_isExerciseSound 0 = .ok (.aload_n 0, 1) := by decide +kernel
theorem dX7_isExerciseSound_1 : decode cX7_isExerciseSound 1 = .ok (.getfield 168, 3) := by decide +kernel
theorem dX7_isExerciseSound_4 : decode cX7_isExerciseSound 4 = .ok (.astore_n 1, 1) := by decide +kernel
theorem dX7_isExerciseSound_5 : decode cX7_isExerciseSound 5 = .ok (.aload_n 1, 1) := by decide +kernel
theorem dX7_isExerciseSound_6 : decode cX7_isExerciseSound 6 = .ok (.ifnull 17, 3) := by decide +kernel
theorem dX7_isExerciseSound_9 : decode cX7_isExerciseSound 9 = .ok (.aload_n 1, 1) := by decide +kernel
theorem dX7_isExerciseSound_10 : decode cX7_isExerciseSound 10 = .ok (.getfield 178, 3) := by decide +kernel
theorem dX7_isExerciseSound_13 : decode cX7_isExerciseSound 13 = .ok (.aload_n 1, 1) := by decide +kernel
theorem dX7_isExerciseSound_14 : decode cX7_isExerciseSound 14 = .ok (.getfield 283, 3) := by decide +kernel
theorem dX7_isExerciseSound_17 : decode cX7_isExerciseSound 17 = .ok (.invokevirtual 286, 3) := by decide +kernel
theorem dX7_isExerciseSound_20 : decode cX7_isExerciseSound 20 = .ok (.ifCond .eq 7, 3) := by decide +kernel
theorem dX7_isExerciseSound_23 : decode cX7_isExerciseSound 23 = .ok (.iconst 1, 1) := by decide +kernel
theorem dX7_isExerciseSound_24 : decode cX7_isExerciseSound 24 = .ok (.goto 4, 3) := by decide +kernel
theorem dX7_isExerciseSound_27 : decode cX7_isExerciseSound 27 = .ok (.iconst 0, 1) := by decide +kernel
theorem dX7_isExerciseSound_28 : decode cX7_isExerciseSound 28 = .ok (.ireturn, 1) := by decide +kernel
