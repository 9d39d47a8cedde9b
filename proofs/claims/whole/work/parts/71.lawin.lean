/-! The law's table lies in the claim's -/
set_option maxRecDepth 100000 in
theorem lawIn_1 : ∀ w ∈ wsL_law0_r1, w ∈ lw_tbl := law_sub [91, 92, 70, 900, 901, 76, 1292, 93, 94, 95, 96, 97, 98, 99, 100, 71, 225, 189, 190, 74, 226, 227, 228, 209] (by decide +kernel)
set_option maxRecDepth 100000 in
theorem lawIn_2 : ∀ w ∈ wsL_law0_r2, w ∈ lw_tbl := law_sub [210, 75, 229, 223, 106, 72, 230, 102, 103, 104, 105, 145, 127, 128, 73, 147, 126, 149, 150, 152, 154, 156, 158, 160] (by decide +kernel)
set_option maxRecDepth 100000 in
theorem lawIn_3 : ∀ w ∈ wsL_law0_r3, w ∈ lw_tbl := law_sub [162, 164, 107, 108, 109, 110, 115, 116, 117, 111, 112, 113, 114, 130, 131, 132, 133, 134, 135, 191, 192, 193, 194, 195] (by decide +kernel)
set_option maxRecDepth 100000 in
theorem lawIn_4 : ∀ w ∈ wsL_law0_r4, w ∈ lw_tbl := law_sub [198, 199, 200, 212, 213, 214, 215, 216, 224, 902, 903, 904, 905, 915, 916, 917, 919, 921, 925, 914, 906, 908, 16, 909] (by decide +kernel)
set_option maxRecDepth 100000 in
theorem lawIn_5 : ∀ w ∈ wsL_law0_r5, w ∈ lw_tbl := law_sub [910, 912, 17, 913, 535, 536, 69, 537, 538, 539, 540, 541, 542, 543, 545, 80, 613, 81, 544, 331, 332, 482, 483, 484] (by decide +kernel)
set_option maxRecDepth 100000 in
theorem lawIn_6 : ∀ w ∈ wsL_law0_r6, w ∈ lw_tbl := law_sub [485, 486, 374, 375, 376, 487, 439, 440, 441, 417, 418, 419, 420, 443, 444, 489, 459, 460, 461, 629, 630, 631, 632, 633] (by decide +kernel)
set_option maxRecDepth 100000 in
theorem lawIn_7 : ∀ w ∈ wsL_law0_r7, w ∈ lw_tbl := law_sub [349, 350, 351, 352, 353, 354, 355, 356, 357, 358, 359, 634, 635, 636, 637, 638, 382, 383, 384, 639, 640, 641, 642, 643] (by decide +kernel)
set_option maxRecDepth 100000 in
theorem lawIn_8 : ∀ w ∈ wsL_law0_r8, w ∈ lw_tbl := law_sub [645, 11, 646, 647, 370, 371, 372, 373, 377, 378, 379, 380, 381, 967, 968, 969, 970, 971, 972, 973, 974, 975, 976, 977] (by decide +kernel)
set_option maxRecDepth 100000 in
theorem lawIn_9 : ∀ w ∈ wsL_law0_r9, w ∈ lw_tbl := law_sub [979, 18, 980, 981, 983, 19, 984, 985, 987, 20, 988, 989, 991, 21, 992, 993, 995, 22, 996, 997, 998, 999, 1000, 1002] (by decide +kernel)
set_option maxRecDepth 100000 in
theorem lawIn_10 : ∀ w ∈ wsL_law0_r10, w ∈ lw_tbl := law_sub [23, 1003, 918, 1004, 1006, 24, 1007, 1008, 1010, 25, 1011, 1012, 1014, 26, 1015, 1016, 1018, 27, 1019, 1020, 1022, 28, 1023, 963] (by decide +kernel)
set_option maxRecDepth 100000 in
theorem lawIn_11 : ∀ w ∈ wsL_law0_r11, w ∈ lw_tbl := law_sub [964, 965, 966, 648, 649, 650, 651, 652, 653, 654, 655, 656, 82, 672, 673, 674, 675, 1024, 1025, 1026, 1027, 1028, 1030, 29] (by decide +kernel)
set_option maxRecDepth 100000 in
theorem lawIn_12 : ∀ w ∈ wsL_law0_r12, w ∈ lw_tbl := law_sub [1031, 676, 677, 678, 679, 680, 681, 682, 683, 684, 685, 686, 505, 506, 507, 508, 509, 414, 415, 416, 421, 422, 423, 424] (by decide +kernel)
set_option maxRecDepth 100000 in
theorem lawIn_13 : ∀ w ∈ wsL_law0_r13, w ∈ lw_tbl := law_sub [510, 511, 512, 513, 514, 397, 398, 399, 400, 515, 517, 9, 518, 519, 520, 689, 690, 691, 692, 693, 694, 695, 696, 697] (by decide +kernel)
set_option maxRecDepth 100000 in
theorem lawIn_14 : ∀ w ∈ wsL_law0_r14, w ∈ lw_tbl := law_sub [698, 699, 700, 701, 409, 410, 411, 412, 413, 1032, 1033, 1034, 1035, 1036, 1038, 30, 1039, 1040, 1042, 31, 1043, 1044, 1046, 32] (by decide +kernel)
set_option maxRecDepth 100000 in
theorem lawIn_15 : ∀ w ∈ wsL_law0_r15, w ∈ lw_tbl := law_sub [1047, 1048, 1050, 33, 1051, 1052, 1054, 34, 1055, 1056, 1058, 35, 1059, 1060, 1062, 36, 1063, 702, 703, 704, 705, 706, 707, 708] (by decide +kernel)
set_option maxRecDepth 100000 in
theorem lawIn_16 : ∀ w ∈ wsL_law0_r16, w ∈ lw_tbl := law_sub [709, 710, 711, 712, 713, 715, 716, 717, 718, 719, 720, 721, 722, 389, 390, 391, 392, 393, 394, 395, 396, 401, 402, 403] (by decide +kernel)
set_option maxRecDepth 100000 in
theorem lawIn_17 : ∀ w ∈ wsL_law0_r17, w ∈ lw_tbl := law_sub [404, 1064, 1065, 1066, 1067, 1068, 1070, 37, 1071, 1072, 1074, 38, 1075, 1076, 1078, 39, 1079, 1080, 1082, 40, 1083, 723, 724, 725] (by decide +kernel)
set_option maxRecDepth 100000 in
theorem lawIn_18 : ∀ w ∈ wsL_law0_r18, w ∈ lw_tbl := law_sub [726, 727, 728, 729, 731, 732, 733, 734, 735, 736, 737, 738, 1084, 1085, 1086, 1087, 1088, 1090, 41, 1091, 739, 740, 741, 742] (by decide +kernel)
set_option maxRecDepth 100000 in
theorem lawIn_19 : ∀ w ∈ wsL_law0_r19, w ∈ lw_tbl := law_sub [743, 744, 745, 746, 748, 752, 753, 754, 755, 1092, 1093, 1094, 1095, 756, 757, 758, 759, 760, 761, 762, 765, 766, 767, 768] (by decide +kernel)
set_option maxRecDepth 100000 in
theorem lawIn_20 : ∀ w ∈ wsL_law0_r20, w ∈ lw_tbl := law_sub [1096, 1097, 1098, 1099, 922, 244, 245, 246, 247, 248, 249, 250, 251, 1100, 1101, 1102, 1103, 252, 253, 254, 255, 256, 257, 258] (by decide +kernel)
set_option maxRecDepth 100000 in
theorem lawIn_21 : ∀ w ∈ wsL_law0_r21, w ∈ lw_tbl := law_sub [259, 260, 261, 262, 263, 264, 265, 266, 267, 270, 272, 0, 273, 274, 275, 276, 83, 277, 1296, 278, 279, 280, 281, 282] (by decide +kernel)
set_option maxRecDepth 100000 in
theorem lawIn_22 : ∀ w ∈ wsL_law0_r22, w ∈ lw_tbl := law_sub [1297, 284, 285, 286, 287, 288, 289, 290, 291, 292, 293, 84, 294, 295, 296, 297, 298, 300, 301, 85, 302, 303, 304, 86] (by decide +kernel)
set_option maxRecDepth 100000 in
theorem lawIn_23 : ∀ w ∈ wsL_law0_r23, w ∈ lw_tbl := law_sub [305, 306, 307, 308, 309, 310, 311, 312, 313, 314, 315, 316, 318, 320, 322, 324, 1, 325, 326, 327, 328, 329, 333, 335] (by decide +kernel)
set_option maxRecDepth 100000 in
theorem lawIn_24 : ∀ w ∈ wsL_law0_r24, w ∈ lw_tbl := law_sub [2, 336, 337, 339, 3, 340, 341, 342, 87, 343, 1104, 1105, 1106, 1107, 923, 1108, 1110, 42, 1111, 926, 924, 1112, 1114, 43] (by decide +kernel)
set_option maxRecDepth 100000 in
theorem lawIn_25 : ∀ w ∈ wsL_law0_r25, w ∈ lw_tbl := law_sub [1115, 1116, 1118, 44, 1119, 1120, 1122, 45, 1123, 1124, 1126, 46, 1127, 1128, 1130, 47, 1131, 1132, 1134, 48, 1135, 1136, 1138, 49] (by decide +kernel)
set_option maxRecDepth 100000 in
theorem lawIn_26 : ∀ w ∈ wsL_law0_r26, w ∈ lw_tbl := law_sub [1139, 1140, 1142, 50, 1143, 769, 770, 771, 772, 773, 774, 775, 776, 777, 778, 779, 780, 781, 782, 783, 785, 786, 788, 12] (by decide +kernel)
set_option maxRecDepth 100000 in
theorem lawIn_27 : ∀ w ∈ wsL_law0_r27, w ∈ lw_tbl := law_sub [789, 792, 799, 809, 815, 790, 791, 794, 796, 13, 797, 798, 801, 802, 803, 804, 805, 807, 14, 808, 811, 813, 15, 814] (by decide +kernel)
set_option maxRecDepth 100000 in
theorem lawIn_28 : ∀ w ∈ wsL_law0_r28, w ∈ lw_tbl := law_sub [1144, 1145, 1146, 1147, 1148, 1150, 51, 1151, 1152, 1154, 52, 1155, 1156, 1158, 53, 1159, 1160, 1162, 54, 1163, 817, 818, 819, 820] (by decide +kernel)
set_option maxRecDepth 100000 in
theorem lawIn_29 : ∀ w ∈ wsL_law0_r29, w ∈ lw_tbl := law_sub [821, 822, 823, 1164, 1165, 1166, 1167, 825, 826, 827, 828, 829, 830, 831, 521, 522, 523, 524, 1168, 1169, 1170, 1171, 1172, 1174] (by decide +kernel)
set_option maxRecDepth 100000 in
theorem lawIn_30 : ∀ w ∈ wsL_law0_r30, w ∈ lw_tbl := law_sub [55, 1175, 833, 834, 835, 836, 837, 838, 839, 841, 842, 843, 844, 1176, 1177, 1178, 1179, 344, 345, 346, 347, 348, 1180, 1181] (by decide +kernel)
set_option maxRecDepth 100000 in
theorem lawIn_31 : ∀ w ∈ wsL_law0_r31, w ∈ lw_tbl := law_sub [1182, 1183, 920, 845, 846, 847, 848, 849, 850, 851, 1184, 1185, 1186, 1187, 853, 854, 855, 856, 857, 858, 859, 470, 472, 6] (by decide +kernel)
set_option maxRecDepth 100000 in
theorem lawIn_32 : ∀ w ∈ wsL_law0_r32, w ∈ lw_tbl := law_sub [473, 474, 475, 476, 477, 478, 479, 480, 481, 1188, 1189, 1190, 1191, 1192, 1194, 56, 1195, 1196, 1198, 57, 1199, 861, 862, 863] (by decide +kernel)
set_option maxRecDepth 100000 in
theorem lawIn_33 : ∀ w ∈ wsL_law0_r33, w ∈ lw_tbl := law_sub [864, 865, 866, 867, 1200, 1201, 1202, 1203, 869, 870, 871, 872, 873, 874, 875, 498, 500, 8, 501, 502, 503, 504, 1204, 1205] (by decide +kernel)
set_option maxRecDepth 100000 in
theorem lawIn_34 : ∀ w ∈ wsL_law0_r34, w ∈ lw_tbl := law_sub [1206, 1207, 1208, 1210, 58, 1211, 877, 878, 879, 880, 881, 882, 883, 430, 432, 4, 433, 434, 435, 436, 437, 438, 445, 446] (by decide +kernel)
set_option maxRecDepth 100000 in
theorem lawIn_35 : ∀ w ∈ wsL_law0_r35, w ∈ lw_tbl := law_sub [447, 448, 449, 450, 451, 452, 453, 454, 455, 456, 457, 458, 1212, 1213, 1214, 1215, 1216, 1218, 59, 1219, 1220, 1222, 60, 1223] (by decide +kernel)
set_option maxRecDepth 100000 in
theorem lawIn_36 : ∀ w ∈ wsL_law0_r36, w ∈ lw_tbl := law_sub [885, 886, 887, 888, 889, 890, 891, 1224, 1225, 1226, 1227, 892, 893, 894, 895, 896, 897, 898, 490, 491, 492, 493, 1228, 1229] (by decide +kernel)
set_option maxRecDepth 100000 in
theorem lawIn_37 : ∀ w ∈ wsL_law0_r37, w ∈ lw_tbl := law_sub [1230, 1231, 1232, 1234, 61, 1235, 1236, 1238, 62, 1239, 1240, 1242, 63, 1243, 360, 361, 362, 363, 364, 365, 366, 367, 368, 369] (by decide +kernel)
set_option maxRecDepth 100000 in
theorem lawIn_38 : ∀ w ∈ wsL_law0_r38, w ∈ lw_tbl := law_sub [1244, 1245, 1246, 1247, 927, 1248, 1250, 64, 1251, 928, 385, 386, 387, 388, 1252, 1253, 1254, 1255, 405, 406, 407, 408, 1256, 1257] (by decide +kernel)
set_option maxRecDepth 100000 in
theorem lawIn_39 : ∀ w ∈ wsL_law0_r39, w ∈ lw_tbl := law_sub [1258, 1259, 1260, 1262, 65, 1263, 425, 426, 427, 428, 429, 462, 463, 464, 465, 466, 468, 5, 469, 494, 496, 7, 497, 525] (by decide +kernel)
set_option maxRecDepth 100000 in
theorem lawIn_40 : ∀ w ∈ wsL_law0_r40, w ∈ lw_tbl := law_sub [526, 527, 528, 529, 530, 531, 532, 533, 534, 1264, 1265, 1266, 1267, 1268, 929, 1269, 1271, 66, 1272, 1273, 1274, 1276, 67, 1277] (by decide +kernel)
set_option maxRecDepth 100000 in
theorem lawIn_41 : ∀ w ∈ wsL_law0_r41, w ∈ lw_tbl := law_sub [1278, 1280, 68, 1281, 1282, 1283, 90, 1284, 1288, 1290, 1289, 90, 1291, 1285, 1286, 1287] (by decide +kernel)
set_option maxRecDepth 100000 in
theorem lawIn_X6 : ∀ w ∈ wsX60, w ∈ lw_tbl := by decide +kernel
set_option maxRecDepth 100000 in
theorem lawIn_X7 : ∀ w ∈ wsX70, w ∈ lw_tbl := by decide +kernel
set_option maxRecDepth 100000 in
theorem lawIn_X4 : ∀ w ∈ wsX40, w ∈ lw_tbl := by decide +kernel
set_option maxRecDepth 100000 in
theorem lawIn_X1 : ∀ w ∈ wsX10, w ∈ lw_tbl := by decide +kernel
set_option maxRecDepth 100000 in
theorem lawIn_X5 : ∀ w ∈ wsX50, w ∈ lw_tbl := by decide +kernel
set_option maxRecDepth 100000 in
theorem lawIn_X0 : ∀ w ∈ wsX00, w ∈ lw_tbl := by decide +kernel
set_option maxRecDepth 100000 in
theorem lawIn_X2 : ∀ w ∈ wsX20, w ∈ lw_tbl := by decide +kernel
set_option maxRecDepth 100000 in
theorem lawIn_E0 : ∀ w ∈ (vx_atS RX6 52 "java/lang/IndexOutOfBoundsException" ["java/lang/RuntimeException", "java/lang/Exception"]).filter goodWord, w ∈ lw_tbl := by decide +kernel
set_option maxRecDepth 100000 in
theorem lawIn_E1 : ∀ w ∈ (vx_atS RX6 63 "java/lang/IllegalStateException" ["java/lang/RuntimeException", "java/lang/Exception"]).filter goodWord, w ∈ lw_tbl := by decide +kernel
set_option maxRecDepth 100000 in
theorem lawIn_E2 : ∀ w ∈ (vx_atS RX6 75 "java/lang/IllegalArgumentException" ["java/lang/RuntimeException", "java/lang/Exception"]).filter goodWord, w ∈ lw_tbl := by decide +kernel
theorem law_app {big a b : List Cond} (ha : ∀ w ∈ a, w ∈ big) (hb : ∀ w ∈ b, w ∈ big) : ∀ w ∈ a ++ b, w ∈ big := fun w h => (List.mem_append.mp h).elim (ha w) (hb w)
theorem lawIn_rows : ∀ w ∈ wsL_law0, w ∈ lw_tbl := law_app (law_app (law_app (law_app (law_app (law_app (law_app (law_app (law_app lawIn_1 (law_app lawIn_2 (law_app lawIn_3 (law_app lawIn_4 (law_app lawIn_5 (law_app lawIn_6 (law_app lawIn_7 (law_app lawIn_8 (law_app lawIn_9 (law_app lawIn_10 (law_app lawIn_11 (law_app lawIn_12 (law_app lawIn_13 (law_app lawIn_14 (law_app lawIn_15 (law_app lawIn_16 (law_app lawIn_17 (law_app lawIn_18 (law_app lawIn_19 (law_app lawIn_20 (law_app lawIn_21 (law_app lawIn_22 (law_app lawIn_23 (law_app lawIn_24 (law_app lawIn_25 (law_app lawIn_26 (law_app lawIn_27 (law_app lawIn_28 (law_app lawIn_29 (law_app lawIn_30 (law_app lawIn_31 (law_app lawIn_32 (law_app lawIn_33 (law_app lawIn_34 (law_app lawIn_35 (law_app lawIn_36 (law_app lawIn_37 (law_app lawIn_38 (law_app lawIn_39 (law_app lawIn_40 (lawIn_41))))))))))))))))))))))))))))))))))))))))) lawIn_X6) lawIn_X7) lawIn_X4) lawIn_X1) lawIn_X5) lawIn_X0) lawIn_X2) (fun _ h => absurd h List.not_mem_nil)
theorem lawIn : ∀ w ∈ wsL_law, w ∈ lw_tbl := law_app (law_app (law_app lawIn_rows lawIn_E0) lawIn_E1) lawIn_E2
