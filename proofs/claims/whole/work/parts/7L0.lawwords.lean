def wsL_law : List Cond := wsL_law0 ++ (vx_atS RX5 56 "java/lang/IllegalArgumentException" ["java/lang/RuntimeException", "java/lang/Exception"]).filter goodWord ++ (vx_atS RX5 66 "java/lang/IllegalStateException" ["java/lang/RuntimeException", "java/lang/Exception"]).filter goodWord ++ (vx_atS RX5 260 "java/lang/IndexOutOfBoundsException" ["java/lang/RuntimeException", "java/lang/Exception"]).filter goodWord
theorem mem_r {big : List Cond} (ws : List Cond) (ps : List Nat) (hp : ws = ps.filterMap (fun i => big[i]?)) : ∀ w ∈ ws, w ∈ big := by
  intro w hw
  rw [hp] at hw
  obtain ⟨i, -, hi⟩ := List.mem_filterMap.mp hw
  exact List.mem_of_getElem? hi
set_option maxRecDepth 20000 in
theorem wl_r1 : ∀ w ∈ wsL_law0_r1, w ∈ lw_tbl := mem_r _ [75, 76, 46, 853, 854, 52, 1437, 77, 78, 79, 80, 81, 82, 83, 84, 47, 253, 114, 115, 48, 254, 151, 152, 49] (by decide +kernel)
set_option maxRecDepth 20000 in
theorem wl_r2 : ∀ w ∈ wsL_law0_r2, w ∈ lw_tbl := mem_r _ [255, 172, 173, 50, 256, 202, 203, 51, 257, 113, 258, 259, 86, 87, 88, 89, 91, 93, 95, 96, 98, 117, 118, 119] (by decide +kernel)
set_option maxRecDepth 20000 in
theorem wl_r3 : ∀ w ∈ wsL_law0_r3, w ∈ lw_tbl := mem_r _ [120, 122, 123, 124, 126, 127, 128, 129, 150, 130, 154, 155, 156, 157, 158, 160, 162, 175, 176, 177, 178, 180, 181, 182] (by decide +kernel)
set_option maxRecDepth 20000 in
theorem wl_r4 : ∀ w ∈ wsL_law0_r4, w ∈ lw_tbl := mem_r _ [184, 185, 186, 205, 206, 207, 208, 210, 212, 214, 216, 218, 220, 222, 224, 226, 228, 855, 856, 857, 858, 859, 860, 55] (by decide +kernel)
set_option maxRecDepth 20000 in
theorem wl_r5 : ∀ w ∈ wsL_law0_r5, w ∈ lw_tbl := mem_r _ [886, 887, 888, 889, 861, 862, 863, 871, 873, 864, 865, 54, 866, 875, 867, 868, 53, 869, 870, 561, 562, 45, 563, 564] (by decide +kernel)
set_option maxRecDepth 20000 in
theorem wl_r6 : ∀ w ∈ wsL_law0_r6, w ∈ lw_tbl := mem_r _ [565, 566, 567, 568, 569, 323, 59, 571, 60, 587, 588, 589, 590, 592, 593, 908, 909, 910, 911, 927, 928, 61, 912, 913] (by decide +kernel)
set_option maxRecDepth 20000 in
theorem wl_r7 : ∀ w ∈ wsL_law0_r7, w ∈ lw_tbl := mem_r _ [914, 915, 917, 17, 918, 885, 919, 921, 18, 922, 923, 924, 925, 926, 874, 929, 930, 931, 932, 937, 939, 933, 941, 943] (by decide +kernel)
set_option maxRecDepth 20000 in
theorem wl_r8 : ∀ w ∈ wsL_law0_r8, w ∈ lw_tbl := mem_r _ [935, 934, 956, 957, 958, 959, 876, 877, 960, 962, 19, 963, 964, 966, 20, 967, 968, 970, 21, 971, 1014, 663, 63, 664] (by decide +kernel)
set_option maxRecDepth 20000 in
theorem wl_r9 : ∀ w ∈ wsL_law0_r9, w ∈ lw_tbl := mem_r _ [1015, 972, 973, 62, 974, 975, 976, 977, 978, 979, 980, 981, 64, 982, 983, 1459, 984, 1003, 1004, 1005, 1006, 1007, 1009, 1010] (by decide +kernel)
set_option maxRecDepth 20000 in
theorem wl_r10 : ∀ w ∈ wsL_law0_r10, w ∈ lw_tbl := mem_r _ [750, 751, 1011, 1013, 1012, 65, 904, 905, 906, 907, 594, 595, 596, 597, 598, 599, 600, 601, 453, 455, 6, 456, 407, 66] (by decide +kernel)
set_option maxRecDepth 20000 in
theorem wl_r11 : ∀ w ∈ wsL_law0_r11, w ∈ lw_tbl := mem_r _ [399, 401, 3, 402, 403, 404, 405, 406, 604, 1016, 1017, 1018, 1019, 927, 938, 940, 1020, 1022, 22, 1023, 936, 1024, 1026, 23] (by decide +kernel)
set_option maxRecDepth 20000 in
theorem wl_r12 : ∀ w ∈ wsL_law0_r12, w ∈ lw_tbl := mem_r _ [1027, 1028, 1029, 1030, 1031, 1032, 1033, 67, 1034, 1035, 1036, 68, 1037, 1038, 1039, 1040, 1041, 605, 606, 607, 608, 609, 610, 611] (by decide +kernel)
set_option maxRecDepth 20000 in
theorem wl_r13 : ∀ w ∈ wsL_law0_r13, w ∈ lw_tbl := mem_r _ [614, 615, 616, 617, 619, 620, 621, 622, 623, 624, 625, 626, 1042, 1043, 1044, 1045, 1050, 1051, 69, 1064, 1050, 1057, 1059, 1046] (by decide +kernel)
set_option maxRecDepth 20000 in
theorem wl_r14 : ∀ w ∈ wsL_law0_r14, w ∈ lw_tbl := mem_r _ [1048, 24, 1049, 1061, 1063, 1052, 1053, 1054, 1055, 1056, 1058, 1060, 1062, 627, 628, 629, 630, 631, 632, 633, 636, 637, 638, 639] (by decide +kernel)
set_option maxRecDepth 20000 in
theorem wl_r15 : ∀ w ∈ wsL_law0_r15, w ∈ lw_tbl := mem_r _ [432, 433, 640, 641, 642, 643, 644, 428, 429, 430, 303, 304, 646, 648, 12, 649, 650, 651, 652, 653, 654, 656, 13, 657] (by decide +kernel)
set_option maxRecDepth 20000 in
theorem wl_r16 : ∀ w ∈ wsL_law0_r16, w ∈ lw_tbl := mem_r _ [658, 659, 660, 661, 662, 1076, 1077, 1078, 1079, 942, 1080, 1081, 70, 1098, 859, 1115, 1116, 71, 1082, 1083, 1084, 1085, 1091, 1093] (by decide +kernel)
set_option maxRecDepth 20000 in
theorem wl_r17 : ∀ w ∈ wsL_law0_r17, w ∈ lw_tbl := mem_r _ [1095, 1086, 1097, 1089, 1087, 1088, 1110, 1111, 1112, 1113, 1114, 1117, 1118, 1119, 1120, 1121, 1123, 1125, 1127, 665, 666, 667, 668, 669] (by decide +kernel)
set_option maxRecDepth 20000 in
theorem wl_r18 : ∀ w ∈ wsL_law0_r18, w ∈ lw_tbl := mem_r _ [670, 671, 438, 439, 675, 676, 677, 678, 679, 1138, 1139, 1140, 1141, 1080, 1096, 1094, 1146, 1142, 1143, 1144, 1145, 1147, 1149, 25] (by decide +kernel)
set_option maxRecDepth 20000 in
theorem wl_r19 : ∀ w ∈ wsL_law0_r19, w ∈ lw_tbl := mem_r _ [1150, 1092, 1115, 1122, 1124, 1126, 1128, 680, 681, 682, 683, 684, 685, 686, 449, 451, 5, 452, 687, 688, 689, 691, 693, 14] (by decide +kernel)
set_option maxRecDepth 20000 in
theorem wl_r20 : ∀ w ∈ wsL_law0_r20, w ∈ lw_tbl := mem_r _ [694, 695, 696, 697, 698, 294, 295, 296, 297, 283, 285, 0, 286, 298, 299, 300, 301, 292, 293, 1154, 1155, 1156, 1157, 1158] (by decide +kernel)
set_option maxRecDepth 20000 in
theorem wl_r21 : ∀ w ∈ wsL_law0_r21, w ∈ lw_tbl := mem_r _ [1160, 26, 1161, 1162, 1164, 27, 1165, 1166, 1168, 28, 1169, 1170, 1172, 29, 1173, 1174, 1176, 30, 1177, 1178, 1179, 1180, 1181, 74] (by decide +kernel)
set_option maxRecDepth 20000 in
theorem wl_r22 : ∀ w ∈ wsL_law0_r22, w ∈ lw_tbl := mem_r _ [1182, 1325, 1311, 1313, 699, 700, 701, 702, 446, 447, 448, 1183, 1184, 1185, 1186, 703, 704, 705, 706, 396, 397, 398, 423, 424] (by decide +kernel)
set_option maxRecDepth 20000 in
theorem wl_r23 : ∀ w ∈ wsL_law0_r23, w ∈ lw_tbl := mem_r _ [425, 426, 427, 434, 436, 4, 437, 440, 441, 442, 443, 279, 280, 281, 282, 287, 288, 289, 290, 1187, 1188, 1189, 1190, 1191] (by decide +kernel)
set_option maxRecDepth 20000 in
theorem wl_r24 : ∀ w ∈ wsL_law0_r24, w ∈ lw_tbl := mem_r _ [1193, 31, 1194, 1312, 1195, 1196, 1197, 1198, 1202, 1090, 1199, 1200, 1201, 1203, 1204, 1205, 1206, 707, 708, 709, 710, 711, 712, 713] (by decide +kernel)
set_option maxRecDepth 20000 in
theorem wl_r25 : ∀ w ∈ wsL_law0_r25, w ∈ lw_tbl := mem_r _ [714, 715, 716, 717, 1207, 1208, 1209, 1210, 1211, 1213, 32, 1214, 718, 719, 720, 721, 722, 723, 724, 467, 468, 469, 725, 727] (by decide +kernel)
set_option maxRecDepth 20000 in
theorem wl_r26 : ∀ w ∈ wsL_law0_r26, w ∈ lw_tbl := mem_r _ [15, 728, 529, 530, 531, 532, 733, 734, 735, 736, 1215, 1216, 1217, 1218, 890, 1230, 1231, 72, 1219, 1220, 1221, 1222, 1224, 33] (by decide +kernel)
set_option maxRecDepth 20000 in
theorem wl_r27 : ∀ w ∈ wsL_law0_r27, w ∈ lw_tbl := mem_r _ [1225, 1226, 1227, 1228, 1229, 1232, 1233, 1234, 1235, 1236, 1238, 1239, 1240, 1241, 1243, 737, 738, 739, 740, 741, 742, 743, 551, 553] (by decide +kernel)
set_option maxRecDepth 20000 in
theorem wl_r28 : ∀ w ∈ wsL_law0_r28, w ∈ lw_tbl := mem_r _ [10, 554, 744, 745, 746, 747, 748, 749, 1258, 1259, 1260, 1261, 1230, 1244, 1242, 1266, 1262, 1264, 34, 1265, 752, 753, 754, 755] (by decide +kernel)
set_option maxRecDepth 20000 in
theorem wl_r29 : ∀ w ∈ wsL_law0_r29, w ∈ lw_tbl := mem_r _ [502, 503, 504, 505, 506, 507, 510, 511, 512, 513, 514, 515, 516, 517, 497, 498, 499, 500, 1267, 1268, 1269, 1270, 1271, 1273] (by decide +kernel)
set_option maxRecDepth 20000 in
theorem wl_r30 : ∀ w ∈ wsL_law0_r30, w ∈ lw_tbl := mem_r _ [35, 1274, 1275, 1276, 1277, 1278, 1279, 1280, 1281, 1282, 756, 757, 758, 759, 760, 761, 762, 767, 769, 16, 770, 771, 772, 773] (by decide +kernel)
set_option maxRecDepth 20000 in
theorem wl_r31 : ∀ w ∈ wsL_law0_r31, w ∈ lw_tbl := mem_r _ [774, 775, 776, 777, 778, 779, 472, 473, 474, 475, 476, 477, 478, 479, 480, 73, 481, 482, 483, 484, 780, 781, 782, 783] (by decide +kernel)
set_option maxRecDepth 20000 in
theorem wl_r32 : ∀ w ∈ wsL_law0_r32, w ∈ lw_tbl := mem_r _ [784, 785, 786, 787, 544, 1283, 1284, 1285, 1286, 1287, 1289, 36, 1290, 1178, 1291, 1326, 1324, 1292, 1294, 37, 1295, 1296, 1298, 38] (by decide +kernel)
set_option maxRecDepth 20000 in
theorem wl_r33 : ∀ w ∈ wsL_law0_r33, w ∈ lw_tbl := mem_r _ [1299, 1310, 1320, 1300, 1301, 1302, 1303, 1317, 1315, 1304, 1305, 1306, 1307, 1308, 1309, 1319, 1321, 1323, 788, 789, 790, 791, 792, 793] (by decide +kernel)
set_option maxRecDepth 20000 in
theorem wl_r34 : ∀ w ∈ wsL_law0_r34, w ∈ lw_tbl := mem_r _ [794, 533, 522, 523, 524, 525, 527, 8, 528, 534, 536, 9, 537, 1349, 1350, 1351, 1352, 944, 1353, 1354, 1356, 39, 1357, 798] (by decide +kernel)
set_option maxRecDepth 20000 in
theorem wl_r35 : ∀ w ∈ wsL_law0_r35, w ∈ lw_tbl := mem_r _ [799, 800, 801, 539, 540, 541, 543, 545, 1358, 1359, 1360, 1361, 1362, 1363, 1364, 1314, 1316, 1318, 1327, 1322, 802, 803, 804, 805] (by decide +kernel)
set_option maxRecDepth 20000 in
theorem wl_r36 : ∀ w ∈ wsL_law0_r36, w ∈ lw_tbl := mem_r _ [464, 465, 466, 471, 319, 320, 321, 322, 485, 486, 487, 488, 489, 490, 491, 492, 493, 494, 495, 496, 1365, 1366, 1367, 1368] (by decide +kernel)
set_option maxRecDepth 20000 in
theorem wl_r37 : ∀ w ∈ wsL_law0_r37, w ∈ lw_tbl := mem_r _ [1369, 1371, 40, 1372, 1373, 1375, 41, 1376, 1237, 1377, 1378, 1379, 1380, 1381, 1382, 1383, 806, 807, 808, 809, 810, 811, 812, 813] (by decide +kernel)
set_option maxRecDepth 20000 in
theorem wl_r38 : ∀ w ∈ wsL_law0_r38, w ∈ lw_tbl := mem_r _ [814, 815, 816, 1384, 1385, 1386, 1387, 817, 818, 819, 820, 821, 822, 823, 1388, 1389, 1390, 1391, 826, 827, 828, 829, 312, 313] (by decide +kernel)
set_option maxRecDepth 20000 in
theorem wl_r39 : ∀ w ∈ wsL_law0_r39, w ∈ lw_tbl := mem_r _ [314, 315, 316, 317, 318, 1392, 1393, 1394, 1395, 1396, 1398, 42, 1399, 275, 276, 277, 278, 1400, 1401, 1402, 1403, 830, 831, 832] (by decide +kernel)
set_option maxRecDepth 20000 in
theorem wl_r40 : ∀ w ∈ wsL_law0_r40, w ∈ lw_tbl := mem_r _ [833, 834, 835, 836, 837, 1404, 1405, 1406, 1407, 838, 839, 840, 841, 842, 843, 844, 1408, 1409, 1410, 1411, 845, 846, 847, 848] (by decide +kernel)
set_option maxRecDepth 20000 in
theorem wl_r41 : ∀ w ∈ wsL_law0_r41, w ∈ lw_tbl := mem_r _ [519, 520, 521, 1412, 1413, 1414, 1415, 1416, 1418, 43, 1419, 849, 850, 851, 852, 548, 549, 550, 556, 558, 11, 559, 560, 1420] (by decide +kernel)
set_option maxRecDepth 20000 in
theorem wl_r42 : ∀ w ∈ wsL_law0_r42, w ∈ lw_tbl := mem_r _ [1421, 1422, 1423, 1424, 1426, 44, 1427, 305, 306, 307, 308, 309, 310, 311, 391, 393, 2, 394, 395, 445, 459, 461, 7, 462] (by decide +kernel)
set_option maxRecDepth 20000 in
theorem wl_r43 : ∀ w ∈ wsL_law0_r43, w ∈ lw_tbl := mem_r _ [463, 501, 518, 538, 547, 1428, 1429, 1430, 1431, 1432, 1433, 1434, 1435, 1436] (by decide +kernel)
set_option maxRecDepth 20000 in
theorem wl_wsX50 : ∀ w ∈ wsX50, w ∈ lw_tbl := by decide +kernel
set_option maxRecDepth 20000 in
theorem wl_wsX120 : ∀ w ∈ wsX120, w ∈ lw_tbl := by decide +kernel
set_option maxRecDepth 20000 in
theorem wl_wsX40 : ∀ w ∈ wsX40, w ∈ lw_tbl := by decide +kernel
set_option maxRecDepth 20000 in
theorem wl_wsX20 : ∀ w ∈ wsX20, w ∈ lw_tbl := by decide +kernel
set_option maxRecDepth 20000 in
theorem wl_wsX10 : ∀ w ∈ wsX10, w ∈ lw_tbl := by decide +kernel
set_option maxRecDepth 20000 in
theorem wl_wsX00 : ∀ w ∈ wsX00, w ∈ lw_tbl := by decide +kernel
set_option maxRecDepth 20000 in
theorem wl_wsX30 : ∀ w ∈ wsX30, w ∈ lw_tbl := by decide +kernel
set_option maxRecDepth 20000 in
theorem wl_wsJx4a65c0 : ∀ w ∈ wsJx4a65c0, w ∈ lw_tbl := by decide +kernel
set_option maxRecDepth 20000 in
theorem wl_wsX70 : ∀ w ∈ wsX70, w ∈ lw_tbl := by decide +kernel
set_option maxRecDepth 20000 in
theorem wl_wsX100 : ∀ w ∈ wsX100, w ∈ lw_tbl := by decide +kernel
set_option maxRecDepth 20000 in
theorem wl_wsX110 : ∀ w ∈ wsX110, w ∈ lw_tbl := by decide +kernel
set_option maxRecDepth 20000 in
theorem wl_wsX80 : ∀ w ∈ wsX80, w ∈ lw_tbl := by decide +kernel
set_option maxRecDepth 20000 in
theorem wl_wsX90 : ∀ w ∈ wsX90, w ∈ lw_tbl := by decide +kernel
set_option maxRecDepth 20000 in
theorem wl_wsX60 : ∀ w ∈ wsX60, w ∈ lw_tbl := by decide +kernel
theorem wsL_law_in0 : ∀ w ∈ wsL_law0, w ∈ lw_tbl := List.forall_mem_append.mpr ⟨List.forall_mem_append.mpr ⟨List.forall_mem_append.mpr ⟨List.forall_mem_append.mpr ⟨List.forall_mem_append.mpr ⟨List.forall_mem_append.mpr ⟨List.forall_mem_append.mpr ⟨List.forall_mem_append.mpr ⟨List.forall_mem_append.mpr ⟨List.forall_mem_append.mpr ⟨List.forall_mem_append.mpr ⟨List.forall_mem_append.mpr ⟨List.forall_mem_append.mpr ⟨List.forall_mem_append.mpr ⟨List.forall_mem_append.mpr ⟨List.forall_mem_append.mpr ⟨wl_r1, List.forall_mem_append.mpr ⟨wl_r2, List.forall_mem_append.mpr ⟨wl_r3, List.forall_mem_append.mpr ⟨wl_r4, List.forall_mem_append.mpr ⟨wl_r5, List.forall_mem_append.mpr ⟨wl_r6, List.forall_mem_append.mpr ⟨wl_r7, List.forall_mem_append.mpr ⟨wl_r8, List.forall_mem_append.mpr ⟨wl_r9, List.forall_mem_append.mpr ⟨wl_r10, List.forall_mem_append.mpr ⟨wl_r11, List.forall_mem_append.mpr ⟨wl_r12, List.forall_mem_append.mpr ⟨wl_r13, List.forall_mem_append.mpr ⟨wl_r14, List.forall_mem_append.mpr ⟨wl_r15, List.forall_mem_append.mpr ⟨wl_r16, List.forall_mem_append.mpr ⟨wl_r17, List.forall_mem_append.mpr ⟨wl_r18, List.forall_mem_append.mpr ⟨wl_r19, List.forall_mem_append.mpr ⟨wl_r20, List.forall_mem_append.mpr ⟨wl_r21, List.forall_mem_append.mpr ⟨wl_r22, List.forall_mem_append.mpr ⟨wl_r23, List.forall_mem_append.mpr ⟨wl_r24, List.forall_mem_append.mpr ⟨wl_r25, List.forall_mem_append.mpr ⟨wl_r26, List.forall_mem_append.mpr ⟨wl_r27, List.forall_mem_append.mpr ⟨wl_r28, List.forall_mem_append.mpr ⟨wl_r29, List.forall_mem_append.mpr ⟨wl_r30, List.forall_mem_append.mpr ⟨wl_r31, List.forall_mem_append.mpr ⟨wl_r32, List.forall_mem_append.mpr ⟨wl_r33, List.forall_mem_append.mpr ⟨wl_r34, List.forall_mem_append.mpr ⟨wl_r35, List.forall_mem_append.mpr ⟨wl_r36, List.forall_mem_append.mpr ⟨wl_r37, List.forall_mem_append.mpr ⟨wl_r38, List.forall_mem_append.mpr ⟨wl_r39, List.forall_mem_append.mpr ⟨wl_r40, List.forall_mem_append.mpr ⟨wl_r41, List.forall_mem_append.mpr ⟨wl_r42, wl_r43⟩⟩⟩⟩⟩⟩⟩⟩⟩⟩⟩⟩⟩⟩⟩⟩⟩⟩⟩⟩⟩⟩⟩⟩⟩⟩⟩⟩⟩⟩⟩⟩⟩⟩⟩⟩⟩⟩⟩⟩⟩⟩, wl_wsX50⟩, wl_wsX120⟩, wl_wsX40⟩, wl_wsX20⟩, wl_wsX10⟩, wl_wsX00⟩, wl_wsX30⟩, wl_wsJx4a65c0⟩, wl_wsX70⟩, wl_wsX100⟩, wl_wsX110⟩, wl_wsX80⟩, wl_wsX90⟩, wl_wsX60⟩, fun _ h => nomatch h⟩
theorem wsL_law_x0 : ∀ w ∈ (vx_atS RX5 56 "java/lang/IllegalArgumentException" ["java/lang/RuntimeException", "java/lang/Exception"]).filter goodWord, w ∈ lw_tbl := by decide +kernel
theorem wsL_law_x1 : ∀ w ∈ (vx_atS RX5 66 "java/lang/IllegalStateException" ["java/lang/RuntimeException", "java/lang/Exception"]).filter goodWord, w ∈ lw_tbl := by decide +kernel
theorem wsL_law_x2 : ∀ w ∈ (vx_atS RX5 260 "java/lang/IndexOutOfBoundsException" ["java/lang/RuntimeException", "java/lang/Exception"]).filter goodWord, w ∈ lw_tbl := by decide +kernel
theorem wsL_law_in : ∀ w ∈ wsL_law, w ∈ lw_tbl := fun w h => (List.mem_append.mp h).elim (fun h => (List.mem_append.mp h).elim (fun h => (List.mem_append.mp h).elim (fun h => wsL_law_in0 w h) (fun h => wsL_law_x0 w h)) (fun h => wsL_law_x1 w h)) (fun h => wsL_law_x2 w h)
theorem inlX0 : ∀ w ∈ wsX00, w ∈ wsL_law := fun _ h => List.mem_append_left _ (List.mem_append_left _ (List.mem_append_left _ (List.mem_append_left _ (List.mem_append_left _ (List.mem_append_left _ (List.mem_append_left _ (List.mem_append_left _ (List.mem_append_left _ (List.mem_append_left _ (List.mem_append_left _ (List.mem_append_left _ (List.mem_append_right _ h))))))))))))
theorem inlX1 : ∀ w ∈ wsX10, w ∈ wsL_law := fun _ h => List.mem_append_left _ (List.mem_append_left _ (List.mem_append_left _ (List.mem_append_left _ (List.mem_append_left _ (List.mem_append_left _ (List.mem_append_left _ (List.mem_append_left _ (List.mem_append_left _ (List.mem_append_left _ (List.mem_append_left _ (List.mem_append_left _ (List.mem_append_left _ (List.mem_append_right _ h)))))))))))))
theorem inlX2 : ∀ w ∈ wsX20, w ∈ wsL_law := fun _ h => List.mem_append_left _ (List.mem_append_left _ (List.mem_append_left _ (List.mem_append_left _ (List.mem_append_left _ (List.mem_append_left _ (List.mem_append_left _ (List.mem_append_left _ (List.mem_append_left _ (List.mem_append_left _ (List.mem_append_left _ (List.mem_append_left _ (List.mem_append_left _ (List.mem_append_left _ (List.mem_append_right _ h))))))))))))))
theorem inlX3 : ∀ w ∈ wsX30, w ∈ wsL_law := fun _ h => List.mem_append_left _ (List.mem_append_left _ (List.mem_append_left _ (List.mem_append_left _ (List.mem_append_left _ (List.mem_append_left _ (List.mem_append_left _ (List.mem_append_left _ (List.mem_append_left _ (List.mem_append_left _ (List.mem_append_left _ (List.mem_append_right _ h)))))))))))
theorem inlX4 : ∀ w ∈ wsX40, w ∈ wsL_law := fun _ h => List.mem_append_left _ (List.mem_append_left _ (List.mem_append_left _ (List.mem_append_left _ (List.mem_append_left _ (List.mem_append_left _ (List.mem_append_left _ (List.mem_append_left _ (List.mem_append_left _ (List.mem_append_left _ (List.mem_append_left _ (List.mem_append_left _ (List.mem_append_left _ (List.mem_append_left _ (List.mem_append_left _ (List.mem_append_right _ h)))))))))))))))
theorem inlX5 : ∀ w ∈ wsX50, w ∈ wsL_law := fun _ h => List.mem_append_left _ (List.mem_append_left _ (List.mem_append_left _ (List.mem_append_left _ (List.mem_append_left _ (List.mem_append_left _ (List.mem_append_left _ (List.mem_append_left _ (List.mem_append_left _ (List.mem_append_left _ (List.mem_append_left _ (List.mem_append_left _ (List.mem_append_left _ (List.mem_append_left _ (List.mem_append_left _ (List.mem_append_left _ (List.mem_append_left _ (List.mem_append_right _ h)))))))))))))))))
theorem inlX6 : ∀ w ∈ wsX60, w ∈ wsL_law := fun _ h => List.mem_append_left _ (List.mem_append_left _ (List.mem_append_left _ (List.mem_append_left _ (List.mem_append_right _ h))))
theorem inlX7 : ∀ w ∈ wsX70, w ∈ wsL_law := fun _ h => List.mem_append_left _ (List.mem_append_left _ (List.mem_append_left _ (List.mem_append_left _ (List.mem_append_left _ (List.mem_append_left _ (List.mem_append_left _ (List.mem_append_left _ (List.mem_append_left _ (List.mem_append_right _ h)))))))))
theorem inlX8 : ∀ w ∈ wsX80, w ∈ wsL_law := fun _ h => List.mem_append_left _ (List.mem_append_left _ (List.mem_append_left _ (List.mem_append_left _ (List.mem_append_left _ (List.mem_append_left _ (List.mem_append_right _ h))))))
theorem inlX9 : ∀ w ∈ wsX90, w ∈ wsL_law := fun _ h => List.mem_append_left _ (List.mem_append_left _ (List.mem_append_left _ (List.mem_append_left _ (List.mem_append_left _ (List.mem_append_right _ h)))))
theorem inlX10 : ∀ w ∈ wsX100, w ∈ wsL_law := fun _ h => List.mem_append_left _ (List.mem_append_left _ (List.mem_append_left _ (List.mem_append_left _ (List.mem_append_left _ (List.mem_append_left _ (List.mem_append_left _ (List.mem_append_left _ (List.mem_append_right _ h))))))))
theorem inlX11 : ∀ w ∈ wsX110, w ∈ wsL_law := fun _ h => List.mem_append_left _ (List.mem_append_left _ (List.mem_append_left _ (List.mem_append_left _ (List.mem_append_left _ (List.mem_append_left _ (List.mem_append_left _ (List.mem_append_right _ h)))))))
theorem inlX12 : ∀ w ∈ wsX120, w ∈ wsL_law := fun _ h => List.mem_append_left _ (List.mem_append_left _ (List.mem_append_left _ (List.mem_append_left _ (List.mem_append_left _ (List.mem_append_left _ (List.mem_append_left _ (List.mem_append_left _ (List.mem_append_left _ (List.mem_append_left _ (List.mem_append_left _ (List.mem_append_left _ (List.mem_append_left _ (List.mem_append_left _ (List.mem_append_left _ (List.mem_append_left _ (List.mem_append_right _ h))))))))))))))))
theorem inlJx4a65c : ∀ w ∈ wsJx4a65c0, w ∈ wsL_law := fun _ h => List.mem_append_left _ (List.mem_append_left _ (List.mem_append_left _ (List.mem_append_left _ (List.mem_append_left _ (List.mem_append_left _ (List.mem_append_left _ (List.mem_append_left _ (List.mem_append_left _ (List.mem_append_left _ (List.mem_append_right _ h))))))))))
