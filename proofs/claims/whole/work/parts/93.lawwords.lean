/-! EVERY WORD OF THE LAW'S LIST IS ONE OF THE TABLES' -/
set_option maxRecDepth 100000 in
theorem wl_r1 : ∀ w ∈ wsL_law0_r1, w ∈ lw_tbl := fun w h => (goodIn_r (big := lw_tbl) wsL_law0_r1 [90, 91, 70, 891, 892, 76, 1254, 92, 93, 94, 95, 96, 97, 136, 269, 98, 99, 71, 270, 137, 271, 139, 140, 72] rfl rfl w h).1
set_option maxRecDepth 100000 in
theorem wl_r2 : ∀ w ∈ wsL_law0_r2, w ∈ lw_tbl := fun w h => (goodIn_r (big := lw_tbl) wsL_law0_r2 [272, 200, 273, 274, 275, 276, 277, 278, 160, 161, 73, 243, 75, 101, 102, 103, 104, 106, 107, 108, 109, 110, 111, 112] rfl rfl w h).1
set_option maxRecDepth 100000 in
theorem wl_r3 : ∀ w ∈ wsL_law0_r3, w ∈ lw_tbl := fun w h => (goodIn_r (big := lw_tbl) wsL_law0_r3 [113, 114, 142, 143, 144, 145, 147, 149, 150, 162, 163, 164, 165, 166, 167, 74, 212, 215, 217, 218, 220, 222, 205, 208] rfl rfl w h).1
set_option maxRecDepth 100000 in
theorem wl_r4 : ∀ w ∈ wsL_law0_r4, w ∈ lw_tbl := fun w h => (goodIn_r (big := lw_tbl) wsL_law0_r4 [210, 169, 170, 171, 172, 176, 179, 181, 183, 185, 201, 202, 203, 204, 244, 245, 246, 247, 248, 250, 253, 256, 259, 893] rfl rfl w h).1
set_option maxRecDepth 100000 in
theorem wl_r5 : ∀ w ∈ wsL_law0_r5, w ∈ lw_tbl := fun w h => (goodIn_r (big := lw_tbl) wsL_law0_r5 [894, 895, 896, 910, 911, 914, 915, 921, 923, 924, 925, 926, 931, 897, 899, 27, 900, 901, 903, 28, 904, 912, 905, 907] rfl rfl w h).1
set_option maxRecDepth 100000 in
theorem wl_r6 : ∀ w ∈ wsL_law0_r6, w ∈ lw_tbl := fun w h => (goodIn_r (big := lw_tbl) wsL_law0_r6 [29, 908, 300, 301, 302, 303, 304, 306, 0, 307, 992, 993, 994, 995, 909, 927, 996, 998, 30, 999, 414, 415, 69, 416] rfl rfl w h).1
set_option maxRecDepth 100000 in
theorem wl_r7 : ∀ w ∈ wsL_law0_r7, w ∈ lw_tbl := fun w h => (goodIn_r (big := lw_tbl) wsL_law0_r7 [417, 418, 419, 420, 421, 422, 80, 105, 255, 490, 491, 492, 493, 494, 495, 496, 497, 498, 499, 500, 501, 502, 81, 503] rfl rfl w h).1
set_option maxRecDepth 100000 in
theorem wl_r8 : ∀ w ∈ wsL_law0_r8, w ∈ lw_tbl := fun w h => (goodIn_r (big := lw_tbl) wsL_law0_r8 [504, 506, 9, 507, 508, 509, 510, 511, 513, 10, 514, 515, 516, 517, 518, 520, 11, 521, 523, 525, 12, 526, 527, 528] rfl rfl w h).1
set_option maxRecDepth 100000 in
theorem wl_r9 : ∀ w ∈ wsL_law0_r9, w ∈ lw_tbl := fun w h => (goodIn_r (big := lw_tbl) wsL_law0_r9 [529, 82, 530, 1270, 531, 532, 533, 534, 535, 1271, 537, 538, 539, 540, 541, 542, 543, 544, 545, 546, 83, 547, 548, 549] rfl rfl w h).1
set_option maxRecDepth 100000 in
theorem wl_r10 : ∀ w ∈ wsL_law0_r10, w ∈ lw_tbl := fun w h => (goodIn_r (big := lw_tbl) wsL_law0_r10 [550, 551, 553, 554, 84, 555, 556, 557, 85, 558, 559, 560, 561, 562, 563, 564, 565, 566, 567, 568, 569, 571, 573, 578] rfl rfl w h).1
set_option maxRecDepth 100000 in
theorem wl_r11 : ∀ w ∈ wsL_law0_r11, w ∈ lw_tbl := fun w h => (goodIn_r (big := lw_tbl) wsL_law0_r11 [580, 13, 581, 582, 584, 14, 585, 586, 588, 15, 589, 254, 590, 592, 16, 593, 594, 595, 596, 597, 598, 599, 600, 601] rfl rfl w h).1
set_option maxRecDepth 100000 in
theorem wl_r12 : ∀ w ∈ wsL_law0_r12, w ∈ lw_tbl := fun w h => (goodIn_r (big := lw_tbl) wsL_law0_r12 [602, 603, 604, 86, 605, 606, 607, 608, 609, 612, 620, 621, 622, 623, 173, 624, 625, 626, 627, 628, 629, 630, 631, 632] rfl rfl w h).1
set_option maxRecDepth 100000 in
theorem wl_r13 : ∀ w ∈ wsL_law0_r13, w ∈ lw_tbl := fun w h => (goodIn_r (big := lw_tbl) wsL_law0_r13 [610, 613, 633, 634, 636, 17, 637, 638, 639, 640, 641, 642, 644, 18, 645, 646, 648, 19, 649, 251, 650, 390, 391, 392] rfl rfl w h).1
set_option maxRecDepth 100000 in
theorem wl_r14 : ∀ w ∈ wsL_law0_r14, w ∈ lw_tbl := fun w h => (goodIn_r (big := lw_tbl) wsL_law0_r14 [651, 652, 653, 654, 655, 656, 657, 658, 659, 660, 661, 662, 663, 664, 665, 666, 667, 669, 20, 670, 257, 671, 673, 21] rfl rfl w h).1
set_option maxRecDepth 100000 in
theorem wl_r15 : ∀ w ∈ wsL_law0_r15, w ∈ lw_tbl := fun w h => (goodIn_r (big := lw_tbl) wsL_law0_r15 [674, 1004, 1005, 1006, 1007, 928, 929, 930, 913, 1008, 1009, 1010, 1011, 1013, 31, 1014, 1015, 1017, 32, 1018, 1019,  1021, 33, 1022] rfl rfl w h).1
set_option maxRecDepth 100000 in
theorem wl_r16 : ∀ w ∈ wsL_law0_r16, w ∈ lw_tbl := fun w h => (goodIn_r (big := lw_tbl) wsL_law0_r16 [934, 1024, 1026, 34, 1027, 1028, 1030, 35, 1031, 1032, 1033, 1034, 1035, 1036, 1037, 1039, 36, 1040, 1041, 1043, 37,  1044, 1046, 1048] rfl rfl w h).1
set_option maxRecDepth 100000 in
theorem wl_r17 : ∀ w ∈ wsL_law0_r17, w ∈ lw_tbl := fun w h => (goodIn_r (big := lw_tbl) wsL_law0_r17 [38, 1049, 932, 933, 1050, 1052, 39, 1053, 1054, 1056, 40, 1057, 1061, 1058, 1059, 1060, 1062, 1064, 41, 1065, 920,  1066, 1068, 42] rfl rfl w h).1
set_option maxRecDepth 100000 in
theorem wl_r18 : ∀ w ∈ wsL_law0_r18, w ∈ lw_tbl := fun w h => (goodIn_r (big := lw_tbl) wsL_law0_r18 [1069, 1070, 1072, 43, 1073, 922, 1074, 1076, 44, 1077, 1078, 1080, 45, 1081, 916, 917, 918, 919, 1082, 1084, 46, 1085,  1086, 1088] rfl rfl w h).1
set_option maxRecDepth 100000 in
theorem wl_r19 : ∀ w ∈ wsL_law0_r19, w ∈ lw_tbl := fun w h => (goodIn_r (big := lw_tbl) wsL_law0_r19 [47, 1089, 1090, 1092, 48, 1093, 1094, 1096, 49, 1097, 1098, 1100, 50, 1101, 1102, 1104, 51, 1105, 1106, 1108, 52, 1109,  1111, 1113] rfl rfl w h).1
set_option maxRecDepth 100000 in
theorem wl_r20 : ∀ w ∈ wsL_law0_r20, w ∈ lw_tbl := fun w h => (goodIn_r (big := lw_tbl) wsL_law0_r20 [53, 1114, 1115, 1117, 54, 1118, 1119, 1121, 55, 1122, 1124, 1126, 56, 1127, 988, 989, 990, 991, 308, 309, 310, 311,  1000, 1001] rfl rfl w h).1
set_option maxRecDepth 100000 in
theorem wl_r21 : ∀ w ∈ wsL_law0_r21, w ∈ lw_tbl := fun w h => (goodIn_r (big := lw_tbl) wsL_law0_r21 [1002, 1003, 675, 676, 677, 678, 679, 680, 681, 357, 358, 359, 360, 361, 363, 2, 364, 365, 366, 367, 368, 206, 369, 371] rfl rfl w h).1
set_option maxRecDepth 100000 in
theorem wl_r22 : ∀ w ∈ wsL_law0_r22, w ∈ lw_tbl := fun w h => (goodIn_r (big := lw_tbl) wsL_law0_r22 [3, 372, 213, 174, 373, 375, 4, 376, 211, 377, 378, 379, 380, 346, 347, 348, 223, 381, 383, 5, 384, 385, 387, 6] rfl rfl w h).1
set_option maxRecDepth 100000 in
theorem wl_r23 : ∀ w ∈ wsL_law0_r23, w ∈ lw_tbl := fun w h => (goodIn_r (big := lw_tbl) wsL_law0_r23 [388, 389, 1128, 1129, 1130, 1131, 1132, 1134, 57, 1135, 1136, 1138, 58, 1139, 1144, 1140, 1142, 59, 1143, 683, 684,  685, 686, 687] rfl rfl w h).1
set_option maxRecDepth 100000 in
theorem wl_r24 : ∀ w ∈ wsL_law0_r24, w ∈ lw_tbl := fun w h => (goodIn_r (big := lw_tbl) wsL_law0_r24 [688, 689, 690, 691, 693, 22, 694, 695, 87, 252, 397, 398, 399, 400, 209, 219, 221, 178, 216, 401, 402, 403, 404, 405] rfl rfl w h).1
set_option maxRecDepth 100000 in
theorem wl_r25 : ∀ w ∈ wsL_law0_r25, w ∈ lw_tbl := fun w h => (goodIn_r (big := lw_tbl) wsL_law0_r25 [327, 328, 1145, 1146, 1147, 1148, 1149, 1151, 60, 1152, 1153, 1155, 61, 1156, 711, 712, 713, 714, 715, 716, 717, 410,  411, 412] rfl rfl w h).1
set_option maxRecDepth 100000 in
theorem wl_r26 : ∀ w ∈ wsL_law0_r26, w ∈ lw_tbl := fun w h => (goodIn_r (big := lw_tbl) wsL_law0_r26 [413, 180, 182, 184, 186, 719, 720, 721, 316, 317, 318, 319, 177, 320, 321, 322, 323, 324, 325, 326, 1157, 1158, 1159,  1160] rfl rfl w h).1
set_option maxRecDepth 100000 in
theorem wl_r27 : ∀ w ∈ wsL_law0_r27, w ∈ lw_tbl := fun w h => (goodIn_r (big := lw_tbl) wsL_law0_r27 [1161, 1163, 62, 1164, 1165, 1167, 63, 1168, 722, 723, 724, 725, 726, 727, 728, 729, 730, 88, 1169, 1170, 1171, 1172,  746, 747] rfl rfl w h).1
set_option maxRecDepth 100000 in
theorem wl_r28 : ∀ w ∈ wsL_law0_r28, w ∈ lw_tbl := fun w h => (goodIn_r (big := lw_tbl) wsL_law0_r28 [748, 749, 750, 751, 752, 1173, 1174, 1175, 1176, 753, 754, 755, 756, 757, 758, 759, 337, 339, 1, 340, 1177, 1178, 1179,  1180] rfl rfl w h).1
set_option maxRecDepth 100000 in
theorem wl_r29 : ∀ w ∈ wsL_law0_r29, w ∈ lw_tbl := fun w h => (goodIn_r (big := lw_tbl) wsL_law0_r29 [760, 761, 762, 763, 764, 765, 766, 207, 767, 768, 769, 770, 771, 1181, 1182, 1183, 1184, 772, 773, 774, 775, 776, 777,  778] rfl rfl w h).1
set_option maxRecDepth 100000 in
theorem wl_r30 : ∀ w ∈ wsL_law0_r30, w ∈ lw_tbl := fun w h => (goodIn_r (big := lw_tbl) wsL_law0_r30 [146, 148, 779, 780, 781, 782, 783, 784, 785, 786, 787, 788, 334, 335, 336, 789, 790, 791, 792, 801, 793, 795, 23, 796] rfl rfl w h).1
set_option maxRecDepth 100000 in
theorem wl_r31 : ∀ w ∈ wsL_law0_r31, w ∈ lw_tbl := fun w h => (goodIn_r (big := lw_tbl) wsL_law0_r31 [797, 799, 24, 800, 1185, 1186, 1187, 1188, 1189, 1191, 64, 1192, 802, 803, 804, 805, 806, 807, 808, 214, 175, 258, 809,  810] rfl rfl w h).1
set_option maxRecDepth 100000 in
theorem wl_r32 : ∀ w ∈ wsL_law0_r32, w ∈ lw_tbl := fun w h => (goodIn_r (big := lw_tbl) wsL_law0_r32 [811, 1193, 1194, 1195, 1196, 312, 313, 314, 315, 329, 330, 331, 332, 333, 1197, 1198, 1199, 1200, 1201, 1203, 65, 1204,  1205, 1207] rfl rfl w h).1
set_option maxRecDepth 100000 in
theorem wl_r33 : ∀ w ∈ wsL_law0_r33, w ∈ lw_tbl := fun w h => (goodIn_r (big := lw_tbl) wsL_law0_r33 [66, 1208, 812, 813, 814, 815, 816, 817, 818, 819, 820, 821, 822, 1209, 1210, 1211, 1212, 341, 342, 343, 344, 345, 1213,  1214] rfl rfl w h).1
set_option maxRecDepth 100000 in
theorem wl_r34 : ∀ w ∈ wsL_law0_r34, w ∈ lw_tbl := fun w h => (goodIn_r (big := lw_tbl) wsL_law0_r34 [1215, 1216, 824, 825, 826, 827, 828, 829, 830, 831, 833, 835, 25, 836, 837, 89, 853, 855, 26, 856, 857, 858, 859, 860] rfl rfl w h).1
set_option maxRecDepth 100000 in
theorem wl_r35 : ∀ w ∈ wsL_law0_r35, w ∈ lw_tbl := fun w h => (goodIn_r (big := lw_tbl) wsL_law0_r35 [861, 1217, 1218, 1219, 1220, 1221, 1223, 67, 1224, 862, 863, 864, 865, 866, 867, 868, 869, 1225, 1226, 1227, 1228, 870,  871, 872] rfl rfl w h).1
set_option maxRecDepth 100000 in
theorem wl_r36 : ∀ w ∈ wsL_law0_r36, w ∈ lw_tbl := fun w h => (goodIn_r (big := lw_tbl) wsL_law0_r36 [873, 874, 875, 876, 877, 879, 880, 881, 882, 1229, 1230, 1231, 1232, 883, 884, 885, 886, 887, 888, 889, 1233, 1234,  1235, 1236] rfl rfl w h).1
set_option maxRecDepth 100000 in
theorem wl_r37 : ∀ w ∈ wsL_law0_r37, w ∈ lw_tbl := fun w h => (goodIn_r (big := lw_tbl) wsL_law0_r37 [349, 350, 351, 352, 1237, 1238, 1239, 1240, 353, 354, 355, 356, 393, 394, 395, 396, 406, 408, 7, 409, 611, 614, 1241,  1242] rfl rfl w h).1
set_option maxRecDepth 100000 in
theorem wl_r38 : ∀ w ∈ wsL_law0_r38, w ∈ lw_tbl := fun w h => (goodIn_r (big := lw_tbl) wsL_law0_r38 [1243, 1244, 1245, 1246, 1247, 1248, 1249, 1251, 68, 1252, 1253] rfl rfl w h).1
set_option maxRecDepth 100000 in
theorem inX0 : ∀ w ∈ wsX00, w ∈ lw_tbl := fun w h => (goodIn_r (big := lw_tbl) wsX00 [260, 262, 264, 266] rfl rfl w h).1
set_option maxRecDepth 100000 in
theorem inX1 : ∀ w ∈ wsX10, w ∈ lw_tbl := fun w h => (goodIn_r (big := lw_tbl) wsX10 [615, 617] rfl rfl w h).1
set_option maxRecDepth 100000 in
theorem inX2 : ∀ w ∈ wsX20, w ∈ lw_tbl := fun w h => (goodIn_r (big := lw_tbl) wsX20 [151, 153, 155, 157] rfl rfl w h).1
set_option maxRecDepth 100000 in
theorem inX3 : ∀ w ∈ wsX30, w ∈ lw_tbl := fun w h => (goodIn_r (big := lw_tbl) wsX30 [115, 117, 119, 121, 123, 125, 127, 129, 131, 133] rfl rfl w h).1
set_option maxRecDepth 100000 in
theorem inX4 : ∀ w ∈ wsX40, w ∈ lw_tbl := fun w h => (goodIn_r (big := lw_tbl) wsX40 [187, 189, 191, 193, 195, 197] rfl rfl w h).1
set_option maxRecDepth 100000 in
theorem inX5 : ∀ w ∈ wsX50, w ∈ lw_tbl := fun w h => (goodIn_r (big := lw_tbl) wsX50 [224, 226, 228, 230, 232, 234, 236, 238, 240] rfl rfl w h).1
set_option maxRecDepth 100000 in
theorem inX6 : ∀ w ∈ wsX60, w ∈ lw_tbl := fun w h => (goodIn_r (big := lw_tbl) wsX60 [279, 281, 283, 285, 287, 289, 291, 293, 295, 297] rfl rfl w h).1
set_option maxRecDepth 100000 in
theorem inX7 : ∀ w ∈ wsX70, w ∈ lw_tbl := fun w h => (goodIn_r (big := lw_tbl) wsX70 [935, 937, 939, 941, 943, 945, 947, 949, 951, 953, 955, 957, 959, 961, 963, 965, 967, 969, 971, 973, 975, 977, 979, 981,  983, 985] rfl rfl w h).1
set_option maxRecDepth 100000 in
theorem wsL_law_x0 : ∀ w ∈ (vx_atS RX6 69 "java/lang/IllegalArgumentException" ["java/lang/RuntimeException", "java/lang/Exception"]).filter goodWord, w ∈ lw_tbl := by decide +kernel
set_option maxRecDepth 100000 in
theorem wsL_law_x1 : ∀ w ∈ (vx_atS RX6 245 "java/lang/IndexOutOfBoundsException" ["java/lang/RuntimeException", "java/lang/Exception"]).filter goodWord, w ∈ lw_tbl := by decide +kernel
set_option maxRecDepth 100000 in
theorem wsL_law_x2 : ∀ w ∈ (vx_atN RX6 123 "java/util/NoSuchElementException" ["java/lang/RuntimeException", "java/lang/Exception"]).filter goodWord, w ∈ lw_tbl := by decide +kernel
set_option maxRecDepth 100000 in
theorem wsL_law_x3 : ∀ w ∈ (vx_atS RX6 210 "java/lang/IllegalStateException" ["java/lang/RuntimeException", "java/lang/Exception"]).filter goodWord, w ∈ lw_tbl := by decide +kernel
theorem wsL_law_in0 : ∀ w ∈ wsL_law0, w ∈ lw_tbl := by
  unfold wsL_law0
  exact List.forall_mem_append.mpr ⟨List.forall_mem_append.mpr ⟨List.forall_mem_append.mpr ⟨List.forall_mem_append.mpr ⟨List.forall_mem_append.mpr ⟨List.forall_mem_append.mpr ⟨List.forall_mem_append.mpr ⟨List.forall_mem_append.mpr ⟨List.forall_mem_append.mpr ⟨(List.forall_mem_append.mpr ⟨wl_r1, List.forall_mem_append.mpr ⟨wl_r2, List.forall_mem_append.mpr ⟨wl_r3, List.forall_mem_append.mpr ⟨wl_r4, List.forall_mem_append.mpr ⟨wl_r5, List.forall_mem_append.mpr ⟨wl_r6, List.forall_mem_append.mpr ⟨wl_r7, List.forall_mem_append.mpr ⟨wl_r8, List.forall_mem_append.mpr ⟨wl_r9, List.forall_mem_append.mpr ⟨wl_r10, List.forall_mem_append.mpr ⟨wl_r11, List.forall_mem_append.mpr ⟨wl_r12, List.forall_mem_append.mpr ⟨wl_r13, List.forall_mem_append.mpr ⟨wl_r14, List.forall_mem_append.mpr ⟨wl_r15, List.forall_mem_append.mpr ⟨wl_r16, List.forall_mem_append.mpr ⟨wl_r17, List.forall_mem_append.mpr ⟨wl_r18, List.forall_mem_append.mpr ⟨wl_r19, List.forall_mem_append.mpr ⟨wl_r20, List.forall_mem_append.mpr ⟨wl_r21, List.forall_mem_append.mpr ⟨wl_r22, List.forall_mem_append.mpr ⟨wl_r23, List.forall_mem_append.mpr ⟨wl_r24, List.forall_mem_append.mpr ⟨wl_r25, List.forall_mem_append.mpr ⟨wl_r26, List.forall_mem_append.mpr ⟨wl_r27, List.forall_mem_append.mpr ⟨wl_r28, List.forall_mem_append.mpr ⟨wl_r29, List.forall_mem_append.mpr ⟨wl_r30, List.forall_mem_append.mpr ⟨wl_r31, List.forall_mem_append.mpr ⟨wl_r32, List.forall_mem_append.mpr ⟨wl_r33, List.forall_mem_append.mpr ⟨wl_r34, List.forall_mem_append.mpr ⟨wl_r35, List.forall_mem_append.mpr ⟨wl_r36, List.forall_mem_append.mpr ⟨wl_r37, wl_r38⟩⟩⟩⟩⟩⟩⟩⟩⟩⟩⟩⟩⟩⟩⟩⟩⟩⟩⟩⟩⟩⟩⟩⟩⟩⟩⟩⟩⟩⟩⟩⟩⟩⟩⟩⟩⟩), inX6⟩, inX7⟩, inX3⟩, inX2⟩, inX5⟩, inX0⟩, inX4⟩, inX1⟩, fun _ h => nomatch h⟩
theorem wsL_law_in : ∀ w ∈ wsL_law, w ∈ lw_tbl := by
  unfold wsL_law
  exact List.forall_mem_append.mpr ⟨List.forall_mem_append.mpr ⟨List.forall_mem_append.mpr ⟨List.forall_mem_append.mpr ⟨wsL_law_in0, wsL_law_x0⟩, wsL_law_x1⟩, wsL_law_x2⟩, wsL_law_x3⟩
