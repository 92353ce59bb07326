theorem in_p {big : List Cond} (ws : List Cond) (ps : List Nat) (hp : ws = ps.filterMap (fun i => big[i]?)) : ∀ w ∈ ws, w ∈ big := by
  intro w hw
  rw [hp] at hw
  obtain ⟨i, _, hi⟩ := List.mem_filterMap.mp hw
  exact List.mem_of_getElem? hi
set_option maxRecDepth 20000 in
theorem wsL_law_p1 : ∀ w ∈ wsL_law0_r1, w ∈ lw_tbl := in_p _ [91, 92, 69, 1003, 1004, 81, 1503, 567, 568, 68, 569, 93, 94, 95, 96, 97, 98, 99, 100, 70, 101, 102, 103, 104] rfl
set_option maxRecDepth 20000 in
theorem wsL_law_p2 : ∀ w ∈ wsL_law0_r2, w ∈ lw_tbl := in_p _ [105, 106, 72, 314, 315, 80, 333, 296, 334, 302, 335, 331, 180, 78, 336, 337, 340, 107, 108, 109, 292, 294, 110, 111] rfl
set_option maxRecDepth 20000 in
theorem wsL_law_p3 : ∀ w ∈ wsL_law0_r3, w ∈ lw_tbl := in_p _ [71, 112, 113, 114, 115, 73, 301, 226, 227, 79, 295, 117, 118, 119, 120, 121, 74, 193, 134, 135, 75, 196, 147, 148] rfl
set_option maxRecDepth 20000 in
theorem wsL_law_p4 : ∀ w ∈ wsL_law0_r4, w ∈ lw_tbl := in_p _ [76, 199, 157, 158, 77, 202, 179, 205, 209, 123, 124, 125, 133, 126, 127, 137, 138, 139, 140, 141, 150, 151, 152, 153] rfl
set_option maxRecDepth 20000 in
theorem wsL_law_p5 : ∀ w ∈ wsL_law0_r5, w ∈ lw_tbl := in_p _ [160, 161, 162, 163, 164, 165, 166, 181, 182, 183, 184, 185, 186, 228, 229, 230, 231, 232, 237, 241, 245, 249, 252, 255] rfl
set_option maxRecDepth 20000 in
theorem wsL_law_p6 : ∀ w ∈ wsL_law0_r6, w ∈ lw_tbl := in_p _ [260, 235, 259, 233, 293, 316, 317, 318, 320, 322, 323, 319, 321, 332, 1005, 1006, 1007, 1008, 1142, 1144, 1146, 1148, 1150, 1155] rfl
set_option maxRecDepth 20000 in
theorem wsL_law_p7 : ∀ w ∈ wsL_law0_r7, w ∈ lw_tbl := in_p _ [1156, 1157, 1161, 1165, 1167, 1168, 1169, 1170, 1171, 1172, 1009, 1010, 1011, 1012, 1013, 1014, 1015, 1016, 1017, 1018, 1019, 1020, 1021, 1022] rfl
set_option maxRecDepth 20000 in
theorem wsL_law_p8 : ∀ w ∈ wsL_law0_r8, w ∈ lw_tbl := in_p _ [1023, 1024, 1025, 1026, 1027, 1028, 1029, 1030, 1031, 1032, 1033, 1034, 1035, 1036, 1037, 1038, 1039, 1040, 1041, 1042, 1043, 1044, 1045, 1046] rfl
set_option maxRecDepth 20000 in
theorem wsL_law_p9 : ∀ w ∈ wsL_law0_r9, w ∈ lw_tbl := in_p _ [1047, 1048, 1049, 1050, 1051, 1052, 1053, 1054, 1055, 1056, 1057, 1058, 1059, 1060, 1061, 1062, 1063, 1064, 1065, 1066, 1067, 1068, 1069, 1070] rfl
set_option maxRecDepth 20000 in
theorem wsL_law_p10 : ∀ w ∈ wsL_law0_r10, w ∈ lw_tbl := in_p _ [1071, 1072, 1173, 1073, 1074, 1075, 1076, 1077, 1078, 1079, 1080, 1081, 1082, 1083, 1084, 1085, 1086, 1087, 1088, 1089, 1090, 1091, 1092, 1093] rfl
set_option maxRecDepth 20000 in
theorem wsL_law_p11 : ∀ w ∈ wsL_law0_r11, w ∈ lw_tbl := in_p _ [1094, 1095, 1096, 1097, 1098, 1099, 1100, 1101, 1102, 1103, 1104, 1105, 1106, 1107, 1108, 1109, 1110, 1111, 1112, 1113, 1114, 1115, 1116, 1117] rfl
set_option maxRecDepth 20000 in
theorem wsL_law_p12 : ∀ w ∈ wsL_law0_r12, w ∈ lw_tbl := in_p _ [1118, 1119, 1120, 1121, 1122, 1123, 1124, 1125, 1126, 1127, 1128, 1129, 1130, 1131, 1132, 1133, 1134, 1135, 1136, 1174, 1175, 1176, 1177, 1179] rfl
set_option maxRecDepth 20000 in
theorem wsL_law_p13 : ∀ w ∈ wsL_law0_r13, w ∈ lw_tbl := in_p _ [1180, 1181, 1182, 1183, 1184, 1141, 1159, 1137, 1138, 1139, 570, 571, 572, 573, 574, 575, 576, 577, 582, 85, 578, 579, 580, 581] rfl
set_option maxRecDepth 20000 in
theorem wsL_law_p14 : ∀ w ∈ wsL_law0_r14, w ∈ lw_tbl := in_p _ [187, 652, 398, 399, 400, 366, 367, 368, 369, 1280, 1281, 1282, 1283, 1145, 1143, 1140, 1276, 1277, 1278, 1279, 653, 654, 655, 656] rfl
set_option maxRecDepth 20000 in
theorem wsL_law_p15 : ∀ w ∈ wsL_law0_r15, w ∈ lw_tbl := in_p _ [657, 658, 659, 1284, 1285, 1286, 1287, 1149, 661, 662, 663, 664, 665, 666, 667, 1288, 1289, 1290, 1291, 1151, 358, 359, 360, 361] rfl
set_option maxRecDepth 20000 in
theorem wsL_law_p16 : ∀ w ∈ wsL_law0_r16, w ∈ lw_tbl := in_p _ [1292, 1293, 1294, 1295, 1153, 669, 670, 671, 672, 673, 674, 675, 676, 686, 86, 526, 527, 528, 529, 254, 530, 677, 679, 680] rfl
set_option maxRecDepth 20000 in
theorem wsL_law_p17 : ∀ w ∈ wsL_law0_r17, w ∈ lw_tbl := in_p _ [681, 682, 683, 684, 685, 702, 704, 705, 706, 707, 297, 298, 708, 709, 710, 711, 439, 712, 714, 16, 715, 305, 306, 716] rfl
set_option maxRecDepth 20000 in
theorem wsL_law_p18 : ∀ w ∈ wsL_law0_r18, w ∈ lw_tbl := in_p _ [717, 718, 440, 719, 385, 386, 387, 720, 390, 391, 392, 393, 394, 395, 396, 397, 721, 722, 723, 724, 727, 729, 17, 730] rfl
set_option maxRecDepth 20000 in
theorem wsL_law_p19 : ∀ w ∈ wsL_law0_r19, w ∈ lw_tbl := in_p _ [731, 564, 565, 566, 406, 407, 408, 409, 410, 411, 412, 413, 414, 415, 417, 1, 418, 419, 420, 421, 422, 423, 425, 2] rfl
set_option maxRecDepth 20000 in
theorem wsL_law_p20 : ∀ w ∈ wsL_law0_r20, w ∈ lw_tbl := in_p _ [426, 427, 435, 429, 430, 431, 432, 433, 434, 437, 438, 402, 403, 404, 441, 442, 443, 444, 445, 380, 381, 382, 383, 384] rfl
set_option maxRecDepth 20000 in
theorem wsL_law_p21 : ∀ w ∈ wsL_law0_r21, w ∈ lw_tbl := in_p _ [388, 389, 732, 734, 18, 735, 736, 738, 19, 739, 740, 452, 453, 454, 455, 457, 3, 458, 459, 460, 462, 4, 463, 464] rfl
set_option maxRecDepth 20000 in
theorem wsL_law_p22 : ∀ w ∈ wsL_law0_r22, w ∈ lw_tbl := in_p _ [465, 466, 467, 468, 741, 743, 20, 744, 745, 540, 541, 542, 401, 746, 544, 545, 546, 747, 749, 21, 750, 751, 752, 753] rfl
set_option maxRecDepth 20000 in
theorem wsL_law_p23 : ∀ w ∈ wsL_law0_r23, w ∈ lw_tbl := in_p _ [299, 300, 303, 304, 754, 755, 533, 534, 535, 537, 536, 538, 756, 757, 759, 22, 760, 449, 761, 762, 763, 764, 765, 766] rfl
set_option maxRecDepth 20000 in
theorem wsL_law_p24 : ∀ w ∈ wsL_law0_r24, w ∈ lw_tbl := in_p _ [767, 769, 770, 772, 23, 773, 774, 775, 777, 24, 778, 779, 780, 781, 782, 784, 25, 785, 786, 788, 789, 790, 792, 26] rfl
set_option maxRecDepth 20000 in
theorem wsL_law_p25 : ∀ w ∈ wsL_law0_r25, w ∈ lw_tbl := in_p _ [793, 794, 796, 27, 797, 798, 799, 548, 549, 550, 477, 479, 6, 480, 167, 481, 482, 483, 485, 7, 486, 487, 489, 8] rfl
set_option maxRecDepth 20000 in
theorem wsL_law_p26 : ∀ w ∈ wsL_law0_r26, w ∈ lw_tbl := in_p _ [490, 491, 493, 494, 495, 551, 553, 13, 554, 500, 502, 10, 503, 555, 557, 14, 558, 510, 800, 802, 28, 803, 804, 805] rfl
set_option maxRecDepth 20000 in
theorem wsL_law_p27 : ∀ w ∈ wsL_law0_r27, w ∈ lw_tbl := in_p _ [806, 808, 29, 809, 531, 810, 811, 812, 813, 1296, 1297, 1298, 1299, 1152, 1154, 1300, 1302, 33, 1303, 1158, 1160, 1304, 1306, 34] rfl
set_option maxRecDepth 20000 in
theorem wsL_law_p28 : ∀ w ∈ wsL_law0_r28, w ∈ lw_tbl := in_p _ [1307, 1308, 1310, 35, 1311, 1312, 1314, 36, 1315, 1166, 1316, 1318, 37, 1319, 1320, 1322, 38, 1323, 1324, 1326, 39, 1327, 1332, 1333] rfl
set_option maxRecDepth 20000 in
theorem wsL_law_p29 : ∀ w ∈ wsL_law0_r29, w ∈ lw_tbl := in_p _ [1334, 1335, 1328, 1330, 40, 1331, 1336, 1338, 41, 1339, 1340, 1341, 1342, 1343, 1344, 1345, 1346, 1348, 42, 1349, 1350, 1352, 43, 1353] rfl
set_option maxRecDepth 20000 in
theorem wsL_law_p30 : ∀ w ∈ wsL_law0_r30, w ∈ lw_tbl := in_p _ [1354, 1356, 44, 1357, 1358, 1360, 45, 1361, 1362, 1364, 46, 1365, 1366, 1368, 47, 1369, 1370, 1372, 48, 1373, 1374, 1376, 49, 1377] rfl
set_option maxRecDepth 20000 in
theorem wsL_law_p31 : ∀ w ∈ wsL_law0_r31, w ∈ lw_tbl := in_p _ [1378, 1380, 50, 1381, 1382, 1384, 51, 1385, 1386, 1388, 52, 1389, 1390, 1392, 53, 1393, 1394, 1395, 1396, 1397, 1398, 1399, 1400, 1401] rfl
set_option maxRecDepth 20000 in
theorem wsL_law_p32 : ∀ w ∈ wsL_law0_r32, w ∈ lw_tbl := in_p _ [1402, 1404, 54, 1405, 1178, 1406, 1408, 55, 1409, 1410, 1412, 56, 1413, 1414, 1416, 57, 1417, 1418, 1420, 58, 1421, 1422, 1424, 59] rfl
set_option maxRecDepth 20000 in
theorem wsL_law_p33 : ∀ w ∈ wsL_law0_r33, w ∈ lw_tbl := in_p _ [1425, 814, 815, 816, 817, 841, 842, 843, 844, 846, 87, 845, 511, 1426, 1427, 1428, 1429, 1430, 1432, 60, 1433, 859, 860, 861] rfl
set_option maxRecDepth 20000 in
theorem wsL_law_p34 : ∀ w ∈ wsL_law0_r34, w ∈ lw_tbl := in_p _ [862, 863, 864, 865, 866, 1434, 1435, 1436, 1437, 867, 868, 869, 870, 871, 872, 873, 874, 875, 90, 892, 893, 894, 895, 896] rfl
set_option maxRecDepth 20000 in
theorem wsL_law_p35 : ∀ w ∈ wsL_law0_r35, w ∈ lw_tbl := in_p _ [898, 900, 901, 902, 903, 904, 906, 30, 907, 908, 909, 910, 911, 912, 914, 31, 915, 916, 917, 918, 919, 921, 32, 922] rfl
set_option maxRecDepth 20000 in
theorem wsL_law_p36 : ∀ w ∈ wsL_law0_r36, w ∈ lw_tbl := in_p _ [923, 924, 474, 475, 476, 496, 498, 9, 499, 508, 504, 506, 11, 507, 1438, 1439, 1440, 1441, 1147, 1442, 1444, 61, 1445, 1446] rfl
set_option maxRecDepth 20000 in
theorem wsL_law_p37 : ∀ w ∈ wsL_law0_r37, w ∈ lw_tbl := in_p _ [1448, 62, 1449, 1450, 1452, 63, 1453, 925, 926, 927, 928, 929, 930, 931, 932, 933, 934, 935, 374, 376, 377, 378, 379, 405] rfl
set_option maxRecDepth 20000 in
theorem wsL_law_p38 : ∀ w ∈ wsL_law0_r38, w ∈ lw_tbl := in_p _ [446, 447, 448, 1454, 1455, 1456, 1457, 1458, 1460, 64, 1461, 1462, 1463, 1465, 65, 1466, 1164, 937, 938, 939, 940, 941, 942, 943] rfl
set_option maxRecDepth 20000 in
theorem wsL_law_p39 : ∀ w ∈ wsL_law0_r39, w ∈ lw_tbl := in_p _ [944, 946, 947, 948, 949, 950, 951, 952, 1467, 1468, 1469, 1470, 954, 955, 956, 957, 958, 959, 960, 338, 339, 1471, 1472, 1473] rfl
set_option maxRecDepth 20000 in
theorem wsL_law_p40 : ∀ w ∈ wsL_law0_r40, w ∈ lw_tbl := in_p _ [1474, 1162, 1163, 362, 363, 364, 365, 370, 372, 0, 373, 450, 451, 469, 471, 5, 472, 473, 512, 513, 514, 515, 516, 517] rfl
set_option maxRecDepth 20000 in
theorem wsL_law_p41 : ∀ w ∈ wsL_law0_r41, w ∈ lw_tbl := in_p _ [518, 519, 520, 521, 522, 524, 12, 525, 532, 539, 543, 547, 1475, 1476, 1477, 1478, 1479, 1481, 66, 1482, 1483, 1485, 67, 1486] rfl
set_option maxRecDepth 20000 in
theorem wsL_law_p42 : ∀ w ∈ wsL_law0_r42, w ∈ lw_tbl := in_p _ [963, 964, 965, 966, 967, 968, 969, 970, 971, 818, 88, 1487, 1488, 1489, 1490, 974, 975, 976, 977, 978, 979, 980, 982, 983] rfl
set_option maxRecDepth 20000 in
theorem wsL_law_p43 : ∀ w ∈ wsL_law0_r43, w ∈ lw_tbl := in_p _ [1491, 1492, 1493, 1494, 559, 560, 561, 562, 563, 1495, 1496, 1497, 1498, 984, 985, 986, 987, 988, 989, 990, 991, 993, 994, 995] rfl
set_option maxRecDepth 20000 in
theorem wsL_law_p44 : ∀ w ∈ wsL_law0_r44, w ∈ lw_tbl := in_p _ [996, 997, 998, 999, 1000, 1001, 1499, 1500, 1501, 1502] rfl
set_option maxRecDepth 20000 in
theorem wsL_law_e_wsX100 : ∀ w ∈ wsX100, w ∈ lw_tbl := in_p _ [341, 343, 345, 347, 349, 351, 353, 355] rfl
set_option maxRecDepth 20000 in
theorem wsL_law_e_wsX110 : ∀ w ∈ wsX110, w ∈ lw_tbl := in_p _ [1185, 1187, 1189, 1191, 1193, 1195, 1197, 1199, 1201, 1203, 1205, 1207, 1209, 1211, 1213, 1215, 1217, 1219, 1221, 1223, 1225, 1227, 1229, 1231, 1233, 1235, 1237, 1239, 1241, 1243, 1245, 1247, 1249, 1251, 1253, 1255, 1257, 1259, 1261, 1263, 1265, 1267, 1269, 1271, 1273] rfl
set_option maxRecDepth 20000 in
theorem wsL_law_e_wsX30 : ∀ w ∈ wsX30, w ∈ lw_tbl := in_p _ [309, 311, 307] rfl
set_option maxRecDepth 20000 in
theorem wsL_law_e_wsX10 : ∀ w ∈ wsX10, w ∈ lw_tbl := in_p _ [328, 329, 324, 326] rfl
set_option maxRecDepth 20000 in
theorem wsL_law_e_wsX50 : ∀ w ∈ wsX50, w ∈ lw_tbl := in_p _ [188, 190] rfl
set_option maxRecDepth 20000 in
theorem wsL_law_e_wsX80 : ∀ w ∈ wsX80, w ∈ lw_tbl := in_p _ [213, 215, 217, 219, 221, 223] rfl
set_option maxRecDepth 20000 in
theorem wsL_law_e_wsX90 : ∀ w ∈ wsX90, w ∈ lw_tbl := in_p _ [267, 269, 271, 273, 275, 277, 279, 281, 283, 285, 287, 289] rfl
set_option maxRecDepth 20000 in
theorem wsL_law_e_wsX60 : ∀ w ∈ wsX60, w ∈ lw_tbl := in_p _ [128, 130] rfl
set_option maxRecDepth 20000 in
theorem wsL_law_e_wsX20 : ∀ w ∈ wsX20, w ∈ lw_tbl := in_p _ [142, 144] rfl
set_option maxRecDepth 20000 in
theorem wsL_law_e_wsX70 : ∀ w ∈ wsX70, w ∈ lw_tbl := in_p _ [154] rfl
set_option maxRecDepth 20000 in
theorem wsL_law_e_wsX00 : ∀ w ∈ wsX00, w ∈ lw_tbl := in_p _ [168, 170, 172, 174, 176] rfl
set_option maxRecDepth 20000 in
theorem wsL_law_e_wsJx000600 : ∀ w ∈ wsJx000600, w ∈ lw_tbl := in_p _ [825, 826, 827, 828, 829, 830] rfl
theorem wsL_law_in0 : ∀ w ∈ wsL_law0, w ∈ lw_tbl := fun w h => (List.mem_append.mp h).elim (fun h => (List.mem_append.mp h).elim (fun h => (List.mem_append.mp h).elim (fun h => (List.mem_append.mp h).elim (fun h => (List.mem_append.mp h).elim (fun h => (List.mem_append.mp h).elim (fun h => (List.mem_append.mp h).elim (fun h => (List.mem_append.mp h).elim (fun h => (List.mem_append.mp h).elim (fun h => (List.mem_append.mp h).elim (fun h => (List.mem_append.mp h).elim (fun h => (List.mem_append.mp h).elim (fun h => (List.mem_append.mp h).elim (fun h => (List.mem_append.mp h).elim (fun h => wsL_law_p1 w h) (fun h => (List.mem_append.mp h).elim (fun h => wsL_law_p2 w h) (fun h => (List.mem_append.mp h).elim (fun h => wsL_law_p3 w h) (fun h => (List.mem_append.mp h).elim (fun h => wsL_law_p4 w h) (fun h => (List.mem_append.mp h).elim (fun h => wsL_law_p5 w h) (fun h => (List.mem_append.mp h).elim (fun h => wsL_law_p6 w h) (fun h => (List.mem_append.mp h).elim (fun h => wsL_law_p7 w h) (fun h => (List.mem_append.mp h).elim (fun h => wsL_law_p8 w h) (fun h => (List.mem_append.mp h).elim (fun h => wsL_law_p9 w h) (fun h => (List.mem_append.mp h).elim (fun h => wsL_law_p10 w h) (fun h => (List.mem_append.mp h).elim (fun h => wsL_law_p11 w h) (fun h => (List.mem_append.mp h).elim (fun h => wsL_law_p12 w h) (fun h => (List.mem_append.mp h).elim (fun h => wsL_law_p13 w h) (fun h => (List.mem_append.mp h).elim (fun h => wsL_law_p14 w h) (fun h => (List.mem_append.mp h).elim (fun h => wsL_law_p15 w h) (fun h => (List.mem_append.mp h).elim (fun h => wsL_law_p16 w h) (fun h => (List.mem_append.mp h).elim (fun h => wsL_law_p17 w h) (fun h => (List.mem_append.mp h).elim (fun h => wsL_law_p18 w h) (fun h => (List.mem_append.mp h).elim (fun h => wsL_law_p19 w h) (fun h => (List.mem_append.mp h).elim (fun h => wsL_law_p20 w h) (fun h => (List.mem_append.mp h).elim (fun h => wsL_law_p21 w h) (fun h => (List.mem_append.mp h).elim (fun h => wsL_law_p22 w h) (fun h => (List.mem_append.mp h).elim (fun h => wsL_law_p23 w h) (fun h => (List.mem_append.mp h).elim (fun h => wsL_law_p24 w h) (fun h => (List.mem_append.mp h).elim (fun h => wsL_law_p25 w h) (fun h => (List.mem_append.mp h).elim (fun h => wsL_law_p26 w h) (fun h => (List.mem_append.mp h).elim (fun h => wsL_law_p27 w h) (fun h => (List.mem_append.mp h).elim (fun h => wsL_law_p28 w h) (fun h => (List.mem_append.mp h).elim (fun h => wsL_law_p29 w h) (fun h => (List.mem_append.mp h).elim (fun h => wsL_law_p30 w h) (fun h => (List.mem_append.mp h).elim (fun h => wsL_law_p31 w h) (fun h => (List.mem_append.mp h).elim (fun h => wsL_law_p32 w h) (fun h => (List.mem_append.mp h).elim (fun h => wsL_law_p33 w h) (fun h => (List.mem_append.mp h).elim (fun h => wsL_law_p34 w h) (fun h => (List.mem_append.mp h).elim (fun h => wsL_law_p35 w h) (fun h => (List.mem_append.mp h).elim (fun h => wsL_law_p36 w h) (fun h => (List.mem_append.mp h).elim (fun h => wsL_law_p37 w h) (fun h => (List.mem_append.mp h).elim (fun h => wsL_law_p38 w h) (fun h => (List.mem_append.mp h).elim (fun h => wsL_law_p39 w h) (fun h => (List.mem_append.mp h).elim (fun h => wsL_law_p40 w h) (fun h => (List.mem_append.mp h).elim (fun h => wsL_law_p41 w h) (fun h => (List.mem_append.mp h).elim (fun h => wsL_law_p42 w h) (fun h => (List.mem_append.mp h).elim (fun h => wsL_law_p43 w h) (fun h => wsL_law_p44 w h)))))))))))))))))))))))))))))))))))))))))))) (fun h => wsL_law_e_wsX100 w h)) (fun h => wsL_law_e_wsX110 w h)) (fun h => wsL_law_e_wsX30 w h)) (fun h => wsL_law_e_wsX10 w h)) (fun h => wsL_law_e_wsX50 w h)) (fun h => wsL_law_e_wsX80 w h)) (fun h => wsL_law_e_wsX90 w h)) (fun h => wsL_law_e_wsX60 w h)) (fun h => wsL_law_e_wsX20 w h)) (fun h => wsL_law_e_wsX70 w h)) (fun h => wsL_law_e_wsX00 w h)) (fun h => wsL_law_e_wsJx000600 w h)) (fun h => absurd h List.not_mem_nil)
set_option maxRecDepth 20000 in
theorem wsL_law_x0 : ∀ w ∈ (vx_atM "java/lang/ArrayIndexOutOfBoundsException" ["java/lang/IndexOutOfBoundsException", "java/lang/RuntimeException", "java/lang/Exception"]).filter goodWord, w ∈ lw_tbl := in_p _ [82, 604, 613, 619, 622, 624, 605, 606, 97, 98, 607, 612, 620, 640, 594, 641, 596, 642, 598, 608, 610, 600, 636, 637, 639, 600, 819, 820, 821, 822, 822, 823, 824, 630, 630, 631, 632, 633, 633, 634, 635, 636, 89, 836, 651, 837, 839, 838, 840, 88, 818, 835, 615, 827, 828, 830, 826, 603, 602, 825] rfl
set_option maxRecDepth 20000 in
theorem wsL_law_x1 : ∀ w ∈ (vx_atS RX10 72 "java/lang/UnsupportedOperationException" ["java/lang/RuntimeException", "java/lang/Exception"]).filter goodWord, w ∈ lw_tbl := in_p _ [82, 604, 613, 619, 622, 624, 605, 606, 97, 98, 607, 612, 620, 640, 594, 641, 596, 642, 598, 608, 610, 600, 636, 637, 639, 600, 627, 628, 629, 630, 630, 631, 632, 633, 633, 634, 635, 636, 626, 583, 591, 592, 593, 595, 597, 599, 603, 602, 601] rfl
set_option maxRecDepth 20000 in
theorem wsL_law_x2 : ∀ w ∈ (vx_atS RX10 106 "java/lang/IllegalStateException" ["java/lang/RuntimeException", "java/lang/Exception"]).filter goodWord, w ∈ lw_tbl := in_p _ [82, 604, 613, 619, 622, 624, 605, 606, 97, 98, 607, 612, 620, 640, 594, 641, 596, 642, 598, 608, 610, 600, 636, 637, 639, 600, 697, 698, 699, 630, 630, 631, 632, 633, 633, 634, 635, 636, 696, 687, 689, 617, 690, 691, 692, 693, 603, 602, 694] rfl
set_option maxRecDepth 20000 in
theorem wsL_law_x3 : ∀ w ∈ (vx_atS RX10 127 "java/lang/IndexOutOfBoundsException" ["java/lang/RuntimeException", "java/lang/Exception"]).filter goodWord, w ∈ lw_tbl := in_p _ [82, 604, 613, 619, 622, 624, 605, 606, 97, 98, 607, 612, 620, 640, 594, 641, 596, 642, 598, 608, 610, 600, 636, 637, 639, 600, 822, 823, 824, 630, 630, 631, 632, 633, 633, 634, 635, 636, 856, 847, 849, 618, 850, 851, 852, 853, 603, 602, 854] rfl
set_option maxRecDepth 20000 in
theorem wsL_law_x4 : ∀ w ∈ (vx_atS RX10 140 "java/lang/IllegalArgumentException" ["java/lang/RuntimeException", "java/lang/Exception"]).filter goodWord, w ∈ lw_tbl := in_p _ [82, 604, 613, 619, 622, 624, 605, 606, 97, 98, 607, 612, 620, 640, 594, 641, 596, 642, 598, 608, 610, 600, 636, 637, 639, 600, 886, 887, 888, 630, 630, 631, 632, 633, 633, 634, 635, 636, 885, 876, 878, 616, 879, 880, 881, 882, 603, 602, 883] rfl
theorem wsL_law_in : ∀ w ∈ wsL_law, w ∈ lw_tbl := fun w h => (List.mem_append.mp h).elim (fun h => (List.mem_append.mp h).elim (fun h => (List.mem_append.mp h).elim (fun h => (List.mem_append.mp h).elim (fun h => (List.mem_append.mp h).elim (fun h => wsL_law_in0 w h) (fun h => wsL_law_x0 w h)) (fun h => wsL_law_x1 w h)) (fun h => wsL_law_x2 w h)) (fun h => wsL_law_x3 w h)) (fun h => wsL_law_x4 w h)
theorem inlX0 : ∀ w ∈ wsX00, w ∈ wsL_law := fun _ h => List.mem_append_left _ (List.mem_append_left _ (List.mem_append_left _ (List.mem_append_left _ (List.mem_append_left _ (List.mem_append_left _ (List.mem_append_left _ (List.mem_append_right _ h)))))))
theorem inX0 : ∀ w ∈ wsX00, w ∈ lw_tbl := fun w h => wsL_law_in w (inlX0 w h)
theorem inlX1 : ∀ w ∈ wsX10, w ∈ wsL_law := fun _ h => List.mem_append_left _ (List.mem_append_left _ (List.mem_append_left _ (List.mem_append_left _ (List.mem_append_left _ (List.mem_append_left _ (List.mem_append_left _ (List.mem_append_left _ (List.mem_append_left _ (List.mem_append_left _ (List.mem_append_left _ (List.mem_append_left _ (List.mem_append_left _ (List.mem_append_left _ (List.mem_append_right _ h))))))))))))))
theorem inX1 : ∀ w ∈ wsX10, w ∈ lw_tbl := fun w h => wsL_law_in w (inlX1 w h)
theorem inlX2 : ∀ w ∈ wsX20, w ∈ wsL_law := fun _ h => List.mem_append_left _ (List.mem_append_left _ (List.mem_append_left _ (List.mem_append_left _ (List.mem_append_left _ (List.mem_append_left _ (List.mem_append_left _ (List.mem_append_left _ (List.mem_append_left _ (List.mem_append_right _ h)))))))))
theorem inX2 : ∀ w ∈ wsX20, w ∈ lw_tbl := fun w h => wsL_law_in w (inlX2 w h)
theorem inlX3 : ∀ w ∈ wsX30, w ∈ wsL_law := fun _ h => List.mem_append_left _ (List.mem_append_left _ (List.mem_append_left _ (List.mem_append_left _ (List.mem_append_left _ (List.mem_append_left _ (List.mem_append_left _ (List.mem_append_left _ (List.mem_append_left _ (List.mem_append_left _ (List.mem_append_left _ (List.mem_append_left _ (List.mem_append_left _ (List.mem_append_left _ (List.mem_append_left _ (List.mem_append_right _ h)))))))))))))))
theorem inX3 : ∀ w ∈ wsX30, w ∈ lw_tbl := fun w h => wsL_law_in w (inlX3 w h)
set_option maxRecDepth 20000 in
theorem inX4 : ∀ w ∈ wsX40, w ∈ lw_tbl := in_p _ [] rfl
theorem inlX5 : ∀ w ∈ wsX50, w ∈ wsL_law := fun _ h => List.mem_append_left _ (List.mem_append_left _ (List.mem_append_left _ (List.mem_append_left _ (List.mem_append_left _ (List.mem_append_left _ (List.mem_append_left _ (List.mem_append_left _ (List.mem_append_left _ (List.mem_append_left _ (List.mem_append_left _ (List.mem_append_left _ (List.mem_append_left _ (List.mem_append_right _ h)))))))))))))
theorem inX5 : ∀ w ∈ wsX50, w ∈ lw_tbl := fun w h => wsL_law_in w (inlX5 w h)
theorem inlX6 : ∀ w ∈ wsX60, w ∈ wsL_law := fun _ h => List.mem_append_left _ (List.mem_append_left _ (List.mem_append_left _ (List.mem_append_left _ (List.mem_append_left _ (List.mem_append_left _ (List.mem_append_left _ (List.mem_append_left _ (List.mem_append_left _ (List.mem_append_left _ (List.mem_append_right _ h))))))))))
theorem inX6 : ∀ w ∈ wsX60, w ∈ lw_tbl := fun w h => wsL_law_in w (inlX6 w h)
theorem inlX7 : ∀ w ∈ wsX70, w ∈ wsL_law := fun _ h => List.mem_append_left _ (List.mem_append_left _ (List.mem_append_left _ (List.mem_append_left _ (List.mem_append_left _ (List.mem_append_left _ (List.mem_append_left _ (List.mem_append_left _ (List.mem_append_right _ h))))))))
theorem inX7 : ∀ w ∈ wsX70, w ∈ lw_tbl := fun w h => wsL_law_in w (inlX7 w h)
theorem inlX8 : ∀ w ∈ wsX80, w ∈ wsL_law := fun _ h => List.mem_append_left _ (List.mem_append_left _ (List.mem_append_left _ (List.mem_append_left _ (List.mem_append_left _ (List.mem_append_left _ (List.mem_append_left _ (List.mem_append_left _ (List.mem_append_left _ (List.mem_append_left _ (List.mem_append_left _ (List.mem_append_left _ (List.mem_append_right _ h))))))))))))
theorem inX8 : ∀ w ∈ wsX80, w ∈ lw_tbl := fun w h => wsL_law_in w (inlX8 w h)
theorem inlX9 : ∀ w ∈ wsX90, w ∈ wsL_law := fun _ h => List.mem_append_left _ (List.mem_append_left _ (List.mem_append_left _ (List.mem_append_left _ (List.mem_append_left _ (List.mem_append_left _ (List.mem_append_left _ (List.mem_append_left _ (List.mem_append_left _ (List.mem_append_left _ (List.mem_append_left _ (List.mem_append_right _ h)))))))))))
theorem inX9 : ∀ w ∈ wsX90, w ∈ lw_tbl := fun w h => wsL_law_in w (inlX9 w h)
theorem inlX10 : ∀ w ∈ wsX100, w ∈ wsL_law := fun _ h => List.mem_append_left _ (List.mem_append_left _ (List.mem_append_left _ (List.mem_append_left _ (List.mem_append_left _ (List.mem_append_left _ (List.mem_append_left _ (List.mem_append_left _ (List.mem_append_left _ (List.mem_append_left _ (List.mem_append_left _ (List.mem_append_left _ (List.mem_append_left _ (List.mem_append_left _ (List.mem_append_left _ (List.mem_append_left _ (List.mem_append_left _ (List.mem_append_right _ h)))))))))))))))))
theorem inX10 : ∀ w ∈ wsX100, w ∈ lw_tbl := fun w h => wsL_law_in w (inlX10 w h)
theorem inlX11 : ∀ w ∈ wsX110, w ∈ wsL_law := fun _ h => List.mem_append_left _ (List.mem_append_left _ (List.mem_append_left _ (List.mem_append_left _ (List.mem_append_left _ (List.mem_append_left _ (List.mem_append_left _ (List.mem_append_left _ (List.mem_append_left _ (List.mem_append_left _ (List.mem_append_left _ (List.mem_append_left _ (List.mem_append_left _ (List.mem_append_left _ (List.mem_append_left _ (List.mem_append_left _ (List.mem_append_right _ h))))))))))))))))
theorem inX11 : ∀ w ∈ wsX110, w ∈ lw_tbl := fun w h => wsL_law_in w (inlX11 w h)
theorem inlJx00060 : ∀ w ∈ wsJx000600, w ∈ wsL_law := fun _ h => List.mem_append_left _ (List.mem_append_left _ (List.mem_append_left _ (List.mem_append_left _ (List.mem_append_left _ (List.mem_append_left _ (List.mem_append_right _ h))))))
theorem inJx00060 : ∀ w ∈ wsJx000600, w ∈ lw_tbl := fun w h => wsL_law_in w (inlJx00060 w h)
set_option maxRecDepth 20000 in
theorem inJ9 : ∀ w ∈ wsJ90, w ∈ lw_tbl := in_p _ [] rfl
set_option maxRecDepth 20000 in
theorem inJ0 : ∀ w ∈ wsJ00, w ∈ lw_tbl := in_p _ [837, 839] rfl
