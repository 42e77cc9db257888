theorem mem_r {big : List Cond} (ws : List Cond) (ps : List Nat) (hp : ws = ps.filterMap (fun i => big[i]?)) : ∀ w ∈ ws, w ∈ big := by
  intro w hw
  rw [hp] at hw
  obtain ⟨i, -, hi⟩ := List.mem_filterMap.mp hw
  first | exact List.mem_of_getElem? hi | exact List.getElem?_mem hi
set_option maxRecDepth 20000 in
theorem wsL_law_m1 : ∀ w ∈ wsL_law0_r1, w ∈ lw_tbl := mem_r _ [69, 70, 50, 960, 961, 59, 1263, 71, 72, 73, 74, 75, 76, 77, 78, 51, 314, 315, 294, 295, 58, 316, 80, 81] (by decide +kernel)
set_option maxRecDepth 20000 in
theorem wsL_law_m2 : ∀ w ∈ wsL_law0_r2, w ∈ lw_tbl := mem_r _ [82, 83, 84, 52, 263, 107, 108, 53, 265, 141, 142, 54, 267, 182, 183, 55, 269, 206, 207, 56, 271, 234, 235, 57] (by decide +kernel)
set_option maxRecDepth 20000 in
theorem wsL_law_m3 : ∀ w ∈ wsL_law0_r3, w ∈ lw_tbl := mem_r _ [273, 106, 275, 86, 87, 88, 89, 92, 96, 110, 111, 112, 120, 123, 144, 145, 146, 150, 152, 154, 156, 158, 160, 163] (by decide +kernel)
set_option maxRecDepth 20000 in
theorem wsL_law_m4 : ∀ w ∈ wsL_law0_r4, w ∈ lw_tbl := mem_r _ [185, 186, 187, 188, 190, 192, 194, 209, 210, 211, 215, 217, 219, 221, 237, 238, 239, 243, 244, 246, 248, 296, 297, 298] (by decide +kernel)
set_option maxRecDepth 20000 in
theorem wsL_law_m5 : ∀ w ∈ wsL_law0_r5, w ∈ lw_tbl := mem_r _ [299, 300, 303, 962, 963, 964, 965, 970, 971, 972, 975, 966, 968, 13, 969, 419, 420, 49, 421, 422, 423, 424, 425, 426] (by decide +kernel)
set_option maxRecDepth 20000 in
theorem wsL_law_m6 : ∀ w ∈ wsL_law0_r6, w ∈ lw_tbl := mem_r _ [430, 63, 264, 90, 427, 428, 429, 498, 499, 500, 501, 305, 304, 502, 504, 3, 505, 506, 507, 508, 509, 261, 510, 511] (by decide +kernel)
set_option maxRecDepth 20000 in
theorem wsL_law_m7 : ∀ w ∈ wsL_law0_r7, w ∈ lw_tbl := mem_r _ [512, 513, 95, 515, 516, 517, 518, 64, 519, 520, 522, 521, 65, 523, 524, 525, 526, 113, 116, 118, 126, 527, 528, 529] (by decide +kernel)
set_option maxRecDepth 20000 in
theorem wsL_law_m8 : ∀ w ∈ wsL_law0_r8, w ∈ lw_tbl := mem_r _ [530, 147, 532, 533, 534, 535, 537, 538, 539, 540, 212, 542, 543, 544, 545, 240, 548, 549, 550, 551, 552, 553, 554, 555] (by decide +kernel)
set_option maxRecDepth 20000 in
theorem wsL_law_m9 : ∀ w ∈ wsL_law0_r9, w ∈ lw_tbl := mem_r _ [556, 557, 558, 559, 560, 561, 562, 563, 564, 565, 566, 567, 568, 569, 570, 571, 572, 573, 574, 575, 1004, 1005, 1006, 1007] (by decide +kernel)
set_option maxRecDepth 20000 in
theorem wsL_law_m10 : ∀ w ∈ wsL_law0_r10, w ∈ lw_tbl := mem_r _ [1008, 1009, 1010, 1000, 1002, 14, 1003, 974, 1011, 1013, 15, 1014, 973, 992, 993, 994, 995, 576, 577, 578, 579, 580, 581, 582] (by decide +kernel)
set_option maxRecDepth 20000 in
theorem wsL_law_m11 : ∀ w ∈ wsL_law0_r11, w ∈ lw_tbl := mem_r _ [583, 588, 66, 584, 585, 586, 587, 399, 400, 401, 402, 403, 404, 405, 605, 606, 607, 608, 1015, 1016, 1017, 1018, 1019, 1021] (by decide +kernel)
set_option maxRecDepth 20000 in
theorem wsL_law_m12 : ∀ w ∈ wsL_law0_r12, w ∈ lw_tbl := mem_r _ [16, 1022, 1023, 1025, 17, 1026, 1027, 1029, 18, 1030, 609, 610, 611, 612, 613, 614, 615, 1031, 1032, 1033, 1034, 616, 617, 618] (by decide +kernel)
set_option maxRecDepth 20000 in
theorem wsL_law_m13 : ∀ w ∈ wsL_law0_r13, w ∈ lw_tbl := mem_r _ [619, 620, 621, 622, 266, 115, 624, 625, 626, 627, 628, 1035, 1036, 1037, 1038, 1039, 1040, 1041, 629, 630, 631, 632, 633, 634] (by decide +kernel)
set_option maxRecDepth 20000 in
theorem wsL_law_m14 : ∀ w ∈ wsL_law0_r14, w ∈ lw_tbl := mem_r _ [635, 125, 1042, 1043, 1044, 1045, 1046, 1048, 19, 1049, 637, 638, 639, 640, 641, 642, 643, 645, 647, 361, 362, 363, 364, 119] (by decide +kernel)
set_option maxRecDepth 20000 in
theorem wsL_law_m15 : ∀ w ∈ wsL_law0_r15, w ∈ lw_tbl := mem_r _ [189, 191, 127, 121, 117, 91, 114, 124, 148, 213, 241, 352, 353, 354, 355, 340, 341, 342, 343, 650, 651, 652, 653, 1050] (by decide +kernel)
set_option maxRecDepth 20000 in
theorem wsL_law_m16 : ∀ w ∈ wsL_law0_r16, w ∈ lw_tbl := mem_r _ [1051, 1052, 1053, 1054, 1055, 1056, 654, 655, 656, 657, 658, 659, 660, 662, 94, 661, 345, 346, 347, 1057, 1058, 1059, 1060, 1065] (by decide +kernel)
set_option maxRecDepth 20000 in
theorem wsL_law_m17 : ∀ w ∈ wsL_law0_r17, w ∈ lw_tbl := mem_r _ [1061, 1063, 20, 1064, 664, 665, 666, 667, 668, 669, 670, 1066, 1067, 1068, 1069, 1070, 1072, 21, 1073, 1074, 1076, 22, 1077, 1078] (by decide +kernel)
set_option maxRecDepth 20000 in
theorem wsL_law_m18 : ∀ w ∈ wsL_law0_r18, w ∈ lw_tbl := mem_r _ [1080, 23, 1081, 672, 673, 674, 675, 676, 677, 678, 373, 374, 375, 376, 93, 193, 195, 348, 349, 350, 351, 377, 378, 379] (by decide +kernel)
set_option maxRecDepth 20000 in
theorem wsL_law_m19 : ∀ w ∈ wsL_law0_r19, w ∈ lw_tbl := mem_r _ [380, 381, 382, 383, 384, 385, 386, 387, 388, 389, 390, 67, 391, 392, 393, 394, 395, 396, 397, 398, 1082, 1083, 1084, 1085] (by decide +kernel)
set_option maxRecDepth 20000 in
theorem wsL_law_m20 : ∀ w ∈ wsL_law0_r20, w ∈ lw_tbl := mem_r _ [1086, 1088, 24, 1089, 1090, 1092, 25, 1093, 1094, 1096, 26, 1097, 1098, 1100, 27, 1101, 1102, 1104, 28, 1105, 1106, 1108, 29, 1109] (by decide +kernel)
set_option maxRecDepth 20000 in
theorem wsL_law_m21 : ∀ w ∈ wsL_law0_r21, w ∈ lw_tbl := mem_r _ [1110, 1112, 30, 1113, 680, 681, 682, 683, 684, 685, 686, 687, 689, 68, 268, 149, 705, 706, 707, 708, 1114, 1115, 1116, 1117] (by decide +kernel)
set_option maxRecDepth 20000 in
theorem wsL_law_m22 : ∀ w ∈ wsL_law0_r22, w ∈ lw_tbl := mem_r _ [709, 710, 711, 712, 713, 714, 715, 162, 716, 717, 718, 719, 1118, 1119, 1120, 1121, 1122, 1124, 31, 1125, 722, 723, 724, 725] (by decide +kernel)
set_option maxRecDepth 20000 in
theorem wsL_law_m23 : ∀ w ∈ wsL_law0_r23, w ∈ lw_tbl := mem_r _ [726, 727, 728, 406, 407, 408, 409, 151, 153, 155, 157, 159, 161, 164, 410, 411, 412, 413, 336, 337, 338, 339, 414, 1126] (by decide +kernel)
set_option maxRecDepth 20000 in
theorem wsL_law_m24 : ∀ w ∈ wsL_law0_r24, w ∈ lw_tbl := mem_r _ [1127, 1128, 1129, 1130, 1132, 32, 1133, 1134, 1136, 33, 1137, 730, 731, 732, 733, 734, 735, 736, 272, 214, 739, 740, 741, 742] (by decide +kernel)
set_option maxRecDepth 20000 in
theorem wsL_law_m25 : ∀ w ∈ wsL_law0_r25, w ∈ lw_tbl := mem_r _ [1138, 1139, 1140, 1141, 743, 744, 745, 746, 747, 748, 749, 750, 751, 752, 753, 755, 756, 757, 758, 1142, 1143, 1144, 1145, 324] (by decide +kernel)
set_option maxRecDepth 20000 in
theorem wsL_law_m26 : ∀ w ∈ wsL_law0_r26, w ∈ lw_tbl := mem_r _ [325, 326, 327, 328, 329, 330, 331, 332, 334, 0, 335, 218, 220, 216, 344, 1146, 1147, 1148, 1149, 1150, 1152, 34, 1153, 1154] (by decide +kernel)
set_option maxRecDepth 20000 in
theorem wsL_law_m27 : ∀ w ∈ wsL_law0_r27, w ∈ lw_tbl := mem_r _ [1156, 35, 1157, 759, 760, 761, 762, 763, 764, 765, 262, 274, 242, 767, 768, 769, 770, 771, 773, 776, 777, 778, 779, 780] (by decide +kernel)
set_option maxRecDepth 20000 in
theorem wsL_law_m28 : ∀ w ∈ wsL_law0_r28, w ∈ lw_tbl := mem_r _ [782, 4, 783, 1158, 1159, 1160, 1161, 1162, 1164, 36, 1165, 784, 785, 786, 787, 788, 789, 790, 792, 793, 794, 795, 415, 416] (by decide +kernel)
set_option maxRecDepth 20000 in
theorem wsL_law_m29 : ∀ w ∈ wsL_law0_r29, w ∈ lw_tbl := mem_r _ [417, 418, 1166, 1167, 1168, 1169, 796, 797, 798, 799, 800, 801, 802, 270, 196, 1170, 1171, 1172, 1173, 804, 805, 806, 807, 808] (by decide +kernel)
set_option maxRecDepth 20000 in
theorem wsL_law_m30 : ∀ w ∈ wsL_law0_r30, w ∈ lw_tbl := mem_r _ [809, 810, 812, 813, 814, 815, 816, 818, 5, 819, 820, 821, 822, 823, 824, 826, 6, 827, 247, 249, 245, 828, 829, 830] (by decide +kernel)
set_option maxRecDepth 20000 in
theorem wsL_law_m31 : ∀ w ∈ wsL_law0_r31, w ∈ lw_tbl := mem_r _ [831, 832, 833, 834, 835, 836, 837, 838, 839, 840, 841, 842, 843, 844, 846, 7, 847, 848, 849, 850, 851, 852, 858, 859] (by decide +kernel)
set_option maxRecDepth 20000 in
theorem wsL_law_m32 : ∀ w ∈ wsL_law0_r32, w ∈ lw_tbl := mem_r _ [853, 855, 8, 856, 857, 860, 861, 862, 863, 864, 865, 867, 9, 868, 869, 870, 871, 872, 873, 874, 876, 10, 877, 222] (by decide +kernel)
set_option maxRecDepth 20000 in
theorem wsL_law_m33 : ∀ w ∈ wsL_law0_r33, w ∈ lw_tbl := mem_r _ [878, 879, 880, 881, 882, 883, 1174, 1175, 1176, 1177, 1178, 1180, 37, 1181, 1182, 1184, 38, 1185, 1186, 1188, 39, 1189, 1190, 1192] (by decide +kernel)
set_option maxRecDepth 20000 in
theorem wsL_law_m34 : ∀ w ∈ wsL_law0_r34, w ∈ lw_tbl := mem_r _ [40, 1193, 1194, 1196, 41, 1197, 1198, 1200, 42, 1201, 1202, 1204, 43, 1205, 884, 885, 886, 887, 888, 889, 890, 276, 1206, 1207] (by decide +kernel)
set_option maxRecDepth 20000 in
theorem wsL_law_m35 : ∀ w ∈ wsL_law0_r35, w ∈ lw_tbl := mem_r _ [1208, 1209, 891, 892, 893, 894, 895, 896, 897, 899, 900, 901, 903, 11, 904, 1210, 1211, 1212, 1213, 1214, 1215, 1216, 1217, 1219] (by decide +kernel)
set_option maxRecDepth 20000 in
theorem wsL_law_m36 : ∀ w ∈ wsL_law0_r36, w ∈ lw_tbl := mem_r _ [44, 1220, 1221, 1223, 45, 1224, 905, 906, 907, 908, 909, 910, 911, 1225, 1226, 1227, 1228, 913, 914, 915, 916, 917, 918, 919] (by decide +kernel)
set_option maxRecDepth 20000 in
theorem wsL_law_m37 : ∀ w ∈ wsL_law0_r37, w ∈ lw_tbl := mem_r _ [921, 923, 12, 924, 122, 926, 925, 1229, 1230, 1231, 1232, 1233, 1235, 46, 1236, 927, 928, 929, 930, 931, 932, 933, 1237, 1238] (by decide +kernel)
set_option maxRecDepth 20000 in
theorem wsL_law_m38 : ∀ w ∈ wsL_law0_r38, w ∈ lw_tbl := mem_r _ [1239, 1240, 934, 935, 936, 937, 938, 939, 940, 1241, 1242, 1243, 1244, 1245, 1247, 47, 1248, 941, 942, 943, 944, 945, 946, 947] (by decide +kernel)
set_option maxRecDepth 20000 in
theorem wsL_law_m39 : ∀ w ∈ wsL_law0_r39, w ∈ lw_tbl := mem_r _ [1249, 1250, 1251, 1252, 948, 949, 950, 951, 952, 953, 954, 306, 956, 957, 958, 959, 996, 997, 998, 999, 356, 357, 358, 359] (by decide +kernel)
set_option maxRecDepth 20000 in
theorem wsL_law_m40 : ∀ w ∈ wsL_law0_r40, w ∈ lw_tbl := mem_r _ [360, 365, 366, 367, 368, 369, 371, 1, 372, 1253, 1254, 1255, 1256, 1257, 976, 1258, 1260, 48, 1261, 1262] (by decide +kernel)
set_option maxRecDepth 20000 in
theorem wsL_law_u8 : ∀ w ∈ wsX80, w ∈ lw_tbl := by decide +kernel
set_option maxRecDepth 20000 in
theorem wsL_law_u9 : ∀ w ∈ wsX90, w ∈ lw_tbl := by decide +kernel
set_option maxRecDepth 20000 in
theorem wsL_law_u7 : ∀ w ∈ wsX70, w ∈ lw_tbl := by decide +kernel
set_option maxRecDepth 20000 in
theorem wsL_law_u4 : ∀ w ∈ wsX40, w ∈ lw_tbl := by decide +kernel
set_option maxRecDepth 20000 in
theorem wsL_law_u3 : ∀ w ∈ wsX30, w ∈ lw_tbl := by decide +kernel
set_option maxRecDepth 20000 in
theorem wsL_law_u2 : ∀ w ∈ wsX20, w ∈ lw_tbl := by decide +kernel
set_option maxRecDepth 20000 in
theorem wsL_law_u6 : ∀ w ∈ wsX60, w ∈ lw_tbl := by decide +kernel
set_option maxRecDepth 20000 in
theorem wsL_law_u0 : ∀ w ∈ wsX00, w ∈ lw_tbl := by decide +kernel
set_option maxRecDepth 20000 in
theorem wsL_law_u5 : ∀ w ∈ wsX50, w ∈ lw_tbl := by decide +kernel
set_option maxRecDepth 20000 in
theorem wsL_law_u1 : ∀ w ∈ wsX10, w ∈ lw_tbl := by decide +kernel
set_option maxRecDepth 20000 in
theorem wsL_law_in0 : ∀ w ∈ wsL_law0, w ∈ lw_tbl := (fun w h => (List.mem_append.mp h).elim ((fun w h => (List.mem_append.mp h).elim ((fun w h => (List.mem_append.mp h).elim ((fun w h => (List.mem_append.mp h).elim ((fun w h => (List.mem_append.mp h).elim ((fun w h => (List.mem_append.mp h).elim ((fun w h => (List.mem_append.mp h).elim ((fun w h => (List.mem_append.mp h).elim ((fun w h => (List.mem_append.mp h).elim ((fun w h => (List.mem_append.mp h).elim ((fun w h => (List.mem_append.mp h).elim ((fun w h => (List.mem_append.mp h).elim (wsL_law_m1 w) ((fun w h => (List.mem_append.mp h).elim (wsL_law_m2 w) ((fun w h => (List.mem_append.mp h).elim (wsL_law_m3 w) ((fun w h => (List.mem_append.mp h).elim (wsL_law_m4 w) ((fun w h => (List.mem_append.mp h).elim (wsL_law_m5 w) ((fun w h => (List.mem_append.mp h).elim (wsL_law_m6 w) ((fun w h => (List.mem_append.mp h).elim (wsL_law_m7 w) ((fun w h => (List.mem_append.mp h).elim (wsL_law_m8 w) ((fun w h => (List.mem_append.mp h).elim (wsL_law_m9 w) ((fun w h => (List.mem_append.mp h).elim (wsL_law_m10 w) ((fun w h => (List.mem_append.mp h).elim (wsL_law_m11 w) ((fun w h => (List.mem_append.mp h).elim (wsL_law_m12 w) ((fun w h => (List.mem_append.mp h).elim (wsL_law_m13 w) ((fun w h => (List.mem_append.mp h).elim (wsL_law_m14 w) ((fun w h => (List.mem_append.mp h).elim (wsL_law_m15 w) ((fun w h => (List.mem_append.mp h).elim (wsL_law_m16 w) ((fun w h => (List.mem_append.mp h).elim (wsL_law_m17 w) ((fun w h => (List.mem_append.mp h).elim (wsL_law_m18 w) ((fun w h => (List.mem_append.mp h).elim (wsL_law_m19 w) ((fun w h => (List.mem_append.mp h).elim (wsL_law_m20 w) ((fun w h => (List.mem_append.mp h).elim (wsL_law_m21 w) ((fun w h => (List.mem_append.mp h).elim (wsL_law_m22 w) ((fun w h => (List.mem_append.mp h).elim (wsL_law_m23 w) ((fun w h => (List.mem_append.mp h).elim (wsL_law_m24 w) ((fun w h => (List.mem_append.mp h).elim (wsL_law_m25 w) ((fun w h => (List.mem_append.mp h).elim (wsL_law_m26 w) ((fun w h => (List.mem_append.mp h).elim (wsL_law_m27 w) ((fun w h => (List.mem_append.mp h).elim (wsL_law_m28 w) ((fun w h => (List.mem_append.mp h).elim (wsL_law_m29 w) ((fun w h => (List.mem_append.mp h).elim (wsL_law_m30 w) ((fun w h => (List.mem_append.mp h).elim (wsL_law_m31 w) ((fun w h => (List.mem_append.mp h).elim (wsL_law_m32 w) ((fun w h => (List.mem_append.mp h).elim (wsL_law_m33 w) ((fun w h => (List.mem_append.mp h).elim (wsL_law_m34 w) ((fun w h => (List.mem_append.mp h).elim (wsL_law_m35 w) ((fun w h => (List.mem_append.mp h).elim (wsL_law_m36 w) ((fun w h => (List.mem_append.mp h).elim (wsL_law_m37 w) ((fun w h => (List.mem_append.mp h).elim (wsL_law_m38 w) ((fun w h => (List.mem_append.mp h).elim (wsL_law_m39 w) (wsL_law_m40 w)) w)) w)) w)) w)) w)) w)) w)) w)) w)) w)) w)) w)) w)) w)) w)) w)) w)) w)) w)) w)) w)) w)) w)) w)) w)) w)) w)) w)) w)) w)) w)) w)) w)) w)) w)) w)) w)) w)) w) (wsL_law_u8 w)) w) (wsL_law_u9 w)) w) (wsL_law_u7 w)) w) (wsL_law_u4 w)) w) (wsL_law_u3 w)) w) (wsL_law_u2 w)) w) (wsL_law_u6 w)) w) (wsL_law_u0 w)) w) (wsL_law_u5 w)) w) (wsL_law_u1 w)) w) (fun h => absurd h List.not_mem_nil))
theorem wsL_law_x0 : ∀ w ∈ (vx_atS RX8 34 "java/lang/IllegalArgumentException" ["java/lang/RuntimeException", "java/lang/Exception"]).filter goodWord, w ∈ lw_tbl := by decide +kernel
theorem wsL_law_x1 : ∀ w ∈ (vx_atS RX8 63 "java/lang/IndexOutOfBoundsException" ["java/lang/RuntimeException", "java/lang/Exception"]).filter goodWord, w ∈ lw_tbl := by decide +kernel
theorem wsL_law_x2 : ∀ w ∈ (vx_atS RX8 144 "java/lang/IllegalStateException" ["java/lang/RuntimeException", "java/lang/Exception"]).filter goodWord, w ∈ lw_tbl := by decide +kernel
theorem wsL_law_in : ∀ w ∈ wsL_law, w ∈ lw_tbl := fun w h => (List.mem_append.mp h).elim (fun h => (List.mem_append.mp h).elim (fun h => (List.mem_append.mp h).elim (fun h => wsL_law_in0 w h) (fun h => wsL_law_x0 w h)) (fun h => wsL_law_x1 w h)) (fun h => wsL_law_x2 w h)
theorem inlX0 : ∀ w ∈ wsX00, w ∈ wsL_law := fun _ h => List.mem_append_left _ (List.mem_append_left _ (List.mem_append_left _ (List.mem_append_left _ (List.mem_append_left _ (List.mem_append_left _ (List.mem_append_right _ h))))))
theorem inX0 : ∀ w ∈ wsX00, w ∈ lw_tbl := fun w h => wsL_law_in w (inlX0 w h)
theorem inlX1 : ∀ w ∈ wsX10, w ∈ wsL_law := fun _ h => List.mem_append_left _ (List.mem_append_left _ (List.mem_append_left _ (List.mem_append_left _ (List.mem_append_right _ h))))
theorem inX1 : ∀ w ∈ wsX10, w ∈ lw_tbl := fun w h => wsL_law_in w (inlX1 w h)
theorem inlX2 : ∀ w ∈ wsX20, w ∈ wsL_law := fun _ h => List.mem_append_left _ (List.mem_append_left _ (List.mem_append_left _ (List.mem_append_left _ (List.mem_append_left _ (List.mem_append_left _ (List.mem_append_left _ (List.mem_append_left _ (List.mem_append_right _ h))))))))
theorem inX2 : ∀ w ∈ wsX20, w ∈ lw_tbl := fun w h => wsL_law_in w (inlX2 w h)
theorem inlX3 : ∀ w ∈ wsX30, w ∈ wsL_law := fun _ h => List.mem_append_left _ (List.mem_append_left _ (List.mem_append_left _ (List.mem_append_left _ (List.mem_append_left _ (List.mem_append_left _ (List.mem_append_left _ (List.mem_append_left _ (List.mem_append_left _ (List.mem_append_right _ h)))))))))
theorem inX3 : ∀ w ∈ wsX30, w ∈ lw_tbl := fun w h => wsL_law_in w (inlX3 w h)
theorem inlX4 : ∀ w ∈ wsX40, w ∈ wsL_law := fun _ h => List.mem_append_left _ (List.mem_append_left _ (List.mem_append_left _ (List.mem_append_left _ (List.mem_append_left _ (List.mem_append_left _ (List.mem_append_left _ (List.mem_append_left _ (List.mem_append_left _ (List.mem_append_left _ (List.mem_append_right _ h))))))))))
theorem inX4 : ∀ w ∈ wsX40, w ∈ lw_tbl := fun w h => wsL_law_in w (inlX4 w h)
theorem inlX5 : ∀ w ∈ wsX50, w ∈ wsL_law := fun _ h => List.mem_append_left _ (List.mem_append_left _ (List.mem_append_left _ (List.mem_append_left _ (List.mem_append_left _ (List.mem_append_right _ h)))))
theorem inX5 : ∀ w ∈ wsX50, w ∈ lw_tbl := fun w h => wsL_law_in w (inlX5 w h)
theorem inlX6 : ∀ w ∈ wsX60, w ∈ wsL_law := fun _ h => List.mem_append_left _ (List.mem_append_left _ (List.mem_append_left _ (List.mem_append_left _ (List.mem_append_left _ (List.mem_append_left _ (List.mem_append_left _ (List.mem_append_right _ h)))))))
theorem inX6 : ∀ w ∈ wsX60, w ∈ lw_tbl := fun w h => wsL_law_in w (inlX6 w h)
theorem inlX7 : ∀ w ∈ wsX70, w ∈ wsL_law := fun _ h => List.mem_append_left _ (List.mem_append_left _ (List.mem_append_left _ (List.mem_append_left _ (List.mem_append_left _ (List.mem_append_left _ (List.mem_append_left _ (List.mem_append_left _ (List.mem_append_left _ (List.mem_append_left _ (List.mem_append_left _ (List.mem_append_right _ h)))))))))))
theorem inX7 : ∀ w ∈ wsX70, w ∈ lw_tbl := fun w h => wsL_law_in w (inlX7 w h)
theorem inlX8 : ∀ w ∈ wsX80, w ∈ wsL_law := fun _ h => List.mem_append_left _ (List.mem_append_left _ (List.mem_append_left _ (List.mem_append_left _ (List.mem_append_left _ (List.mem_append_left _ (List.mem_append_left _ (List.mem_append_left _ (List.mem_append_left _ (List.mem_append_left _ (List.mem_append_left _ (List.mem_append_left _ (List.mem_append_left _ (List.mem_append_right _ h)))))))))))))
theorem inX8 : ∀ w ∈ wsX80, w ∈ lw_tbl := fun w h => wsL_law_in w (inlX8 w h)
theorem inlX9 : ∀ w ∈ wsX90, w ∈ wsL_law := fun _ h => List.mem_append_left _ (List.mem_append_left _ (List.mem_append_left _ (List.mem_append_left _ (List.mem_append_left _ (List.mem_append_left _ (List.mem_append_left _ (List.mem_append_left _ (List.mem_append_left _ (List.mem_append_left _ (List.mem_append_left _ (List.mem_append_left _ (List.mem_append_right _ h))))))))))))
theorem inX9 : ∀ w ∈ wsX90, w ∈ lw_tbl := fun w h => wsL_law_in w (inlX9 w h)
theorem inJ6 : ∀ w ∈ wsJ60, w ∈ lw_tbl := by decide +kernel
theorem inJ9 : ∀ w ∈ wsJ90, w ∈ lw_tbl := by decide +kernel
theorem inJ0 : ∀ w ∈ wsJ00, w ∈ lw_tbl := by decide +kernel
theorem inJ10 : ∀ w ∈ wsJ100, w ∈ lw_tbl := by decide +kernel

