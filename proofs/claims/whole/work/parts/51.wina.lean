theorem lw_inR {big : List Cond} (ws : List Cond) (ps : List Nat) (hp : ws = ps.filterMap (fun i => big[i]?)) : ∀ w ∈ ws, w ∈ big := by
  intro w hw
  rw [hp] at hw
  obtain ⟨i, -, hi⟩ := List.mem_filterMap.mp hw
  first | exact List.mem_of_getElem? hi | exact List.getElem?_mem hi
set_option maxRecDepth 20000
theorem wsL_law0_r1_in : ∀ w ∈ wsL_law0_r1, w ∈ lw_tbl := lw_inR _ [74, 75, 38, 808, 809, 41, 406, 1311, 76, 77, 78, 79, 80, 81, 82, 125, 84, 126, 86, 87, 39, 127, 88, 89] (by decide +kernel)
theorem wsL_law0_r2_in : ∀ w ∈ wsL_law0_r2, w ∈ lw_tbl := lw_inR _ [90, 91, 92, 112, 113, 94, 40, 95, 96, 97, 98, 99, 100, 101, 102, 810, 811, 812, 813, 814, 815, 44, 845, 846] (by decide +kernel)
theorem wsL_law0_r3_in : ∀ w ∈ wsL_law0_r3, w ∈ lw_tbl := lw_inR _ [816, 817, 818, 826, 828, 819, 820, 43, 821, 832, 822, 823, 42, 824, 825, 180, 181, 37, 182, 183, 184, 185, 186, 187] (by decide +kernel)
theorem wsL_law0_r4_in : ∀ w ∈ wsL_law0_r4, w ∈ lw_tbl := lw_inR _ [188, 263, 49, 128, 279, 50, 189, 190, 191, 192, 48, 280, 281, 282, 283, 284, 285, 286, 860, 861, 862, 863, 843, 875] (by decide +kernel)
theorem wsL_law0_r5_in : ∀ w ∈ wsL_law0_r5, w ∈ lw_tbl := lw_inR _ [876, 51, 881, 882, 883, 864, 865, 866, 867, 869, 23, 870, 871, 872, 873, 874, 831, 878, 879, 880, 895, 884, 896, 897] (by decide +kernel)
theorem wsL_law0_r6_in : ∀ w ∈ wsL_law0_r6, w ∈ lw_tbl := lw_inR _ [898, 899, 835, 834, 900, 902, 24, 903, 904, 906, 25, 907, 908, 910, 26, 911, 961, 916, 53, 917, 962, 912, 913, 52] (by decide +kernel)
theorem wsL_law0_r7_in : ∀ w ∈ wsL_law0_r7, w ∈ lw_tbl := lw_inR _ [914, 915, 918, 919, 920, 921, 922, 923, 54, 924, 925, 1339, 926, 950, 951, 952, 953, 954, 956, 957, 489, 490, 958, 960] (by decide +kernel)
theorem wsL_law0_r8_in : ∀ w ∈ wsL_law0_r8, w ∈ lw_tbl := lw_inR _ [959, 55, 856, 857, 858, 859, 299, 300, 301, 302, 326, 327, 328, 329, 289, 330, 332, 4, 333, 334, 56, 347, 349, 5] (by decide +kernel)
theorem wsL_law0_r9_in : ∀ w ∈ wsL_law0_r9, w ∈ lw_tbl := lw_inR _ [350, 351, 353, 6, 354, 356, 357, 358, 359, 288, 963, 964, 965, 966, 875, 885, 967, 969, 27, 970, 971, 973, 28, 974] (by decide +kernel)
theorem wsL_law0_r10_in : ∀ w ∈ wsL_law0_r10, w ∈ lw_tbl := lw_inR _ [975, 976, 977, 978, 979, 980, 59, 981, 982, 983, 60, 984, 985, 986, 987, 988, 360, 361, 362, 363, 364, 365, 366, 129] (by decide +kernel)
theorem wsL_law0_r11_in : ∀ w ∈ wsL_law0_r11, w ∈ lw_tbl := lw_inR _ [368, 61, 369, 370, 371, 372, 373, 407, 405, 411, 375, 62, 377, 378, 379, 380, 384, 387, 389, 989, 990, 991, 992, 993] (by decide +kernel)
theorem wsL_law0_r12_in : ∀ w ∈ wsL_law0_r12, w ∈ lw_tbl := lw_inR _ [994, 63, 995, 996, 997, 998, 999, 1033, 1001, 1035, 1003, 64, 1002, 1005, 1006, 1007, 1010, 1012, 1008, 1014, 1018, 1009, 424, 425] (by decide +kernel)
theorem wsL_law0_r13_in : ∀ w ∈ wsL_law0_r13, w ∈ lw_tbl := lw_inR _ [426, 427, 428, 429, 430, 408, 386, 431, 433, 7, 434, 436, 438, 8, 439, 381, 1060, 1061, 1062, 1063, 1016, 1064, 1066, 29] (by decide +kernel)
theorem wsL_law0_r14_in : ∀ w ∈ wsL_law0_r14, w ∈ lw_tbl := lw_inR _ [1067, 1068, 1070, 30, 1071, 1072, 1074, 31, 1075, 1011, 1076, 1078, 32, 1079, 993, 1034, 440, 441, 442, 443, 444, 445, 446, 1080] (by decide +kernel)
theorem wsL_law0_r15_in : ∀ w ∈ wsL_law0_r15, w ∈ lw_tbl := lw_inR _ [1081, 1082, 1083, 447, 448, 449, 450, 451, 452, 453, 454, 456, 9, 457, 459, 460, 461, 462, 382, 1084, 1085, 1086, 1087, 1013] (by decide +kernel)
theorem wsL_law0_r16_in : ∀ w ∈ wsL_law0_r16, w ∈ lw_tbl := lw_inR _ [1015, 1088, 1089, 1090, 1091, 463, 464, 465, 466, 467, 468, 469, 470, 472, 10, 473, 475, 477, 11, 478, 130, 385, 479, 480] (by decide +kernel)
theorem wsL_law0_r17_in : ∀ w ∈ wsL_law0_r17, w ∈ lw_tbl := lw_inR _ [481, 482, 483, 388, 161, 162, 163, 164, 484, 485, 486, 487, 488, 491, 493, 12, 494, 169, 171, 2, 172, 1092, 1093, 1094] (by decide +kernel)
theorem wsL_law0_r18_in : ∀ w ∈ wsL_law0_r18, w ∈ lw_tbl := lw_inR _ [1095, 1096, 1098, 33, 1099, 1017, 844, 1019, 1100, 1101, 65, 1102, 1103, 1105, 1107, 1108, 1109, 1110, 1111, 1113, 34, 1114, 495, 496] (by decide +kernel)
theorem wsL_law0_r19_in : ∀ w ∈ wsL_law0_r19, w ∈ lw_tbl := lw_inR _ [497, 498, 499, 500, 501, 1115, 1116, 1117, 1118, 502, 503, 504, 505, 506, 507, 508, 157, 158, 159, 160, 1119, 1120, 1121, 1122] (by decide +kernel)
