theorem mem_places {α : Type} {big ws : List α} (ps : List Nat) (hp : ws = ps.filterMap (fun i => big[i]?)) : ∀ w ∈ ws, w ∈ big := by
  intro w hw
  rw [hp] at hw
  obtain ⟨i, -, hi⟩ := List.mem_filterMap.mp hw
  exact List.mem_of_getElem? hi
set_option maxRecDepth 20000 in
theorem wL_r1 : ∀ w ∈ wsL_law0_r1, w ∈ lw_tbl := mem_places [87, 88, 57, 958, 959, 64, 1495, 1496, 89, 90, 91, 92, 93, 94, 95, 96, 60, 181, 124, 125, 61, 182, 183, 150] (by decide +kernel)
set_option maxRecDepth 20000 in
theorem wL_r2 : ∀ w ∈ wsL_law0_r2, w ∈ lw_tbl := mem_places [151, 63, 184, 185, 186, 187, 188, 97, 98, 99, 107, 109, 100, 101, 59, 102, 113, 103, 104, 58, 105, 106, 126, 127] (by decide +kernel)
set_option maxRecDepth 20000 in
theorem wL_r3 : ∀ w ∈ wsL_law0_r3, w ∈ lw_tbl := mem_places [128, 129, 130, 135, 149, 137, 138, 139, 131, 132, 133, 62, 134, 153, 154, 155, 156, 158, 160, 162, 164, 166, 960, 961] (by decide +kernel)
set_option maxRecDepth 20000 in
theorem wL_r4 : ∀ w ∈ wsL_law0_r4, w ∈ lw_tbl := mem_places [962, 963, 964, 967, 968, 969, 965, 533, 534, 56, 535, 536, 537, 538, 539, 540, 541, 271, 68, 546, 69, 364, 562, 70] (by decide +kernel)
set_option maxRecDepth 20000 in
theorem wL_r5 : ∀ w ∈ wsL_law0_r5, w ∈ lw_tbl := mem_places [542, 543, 544, 224, 225, 226, 227, 112, 563, 564, 565, 566, 567, 570, 574, 578, 581, 585, 588, 606, 607, 608, 609, 116] (by decide +kernel)
set_option maxRecDepth 20000 in
theorem wL_r6 : ∀ w ∈ wsL_law0_r6, w ∈ lw_tbl := mem_places [115, 610, 612, 14, 613, 614, 616, 15, 617, 618, 620, 16, 621, 664, 383, 72, 384, 665, 622, 623, 71, 624, 625, 626] (by decide +kernel)
set_option maxRecDepth 20000 in
theorem wL_r7 : ∀ w ∈ wsL_law0_r7, w ∈ lw_tbl := mem_places [627, 628, 629, 630, 631, 632, 633, 1516, 634, 651, 652, 653, 654, 655, 657, 658, 659, 660, 661, 663, 662, 73, 1016, 1017] (by decide +kernel)
set_option maxRecDepth 20000 in
theorem wL_r8 : ∀ w ∈ wsL_law0_r8, w ∈ lw_tbl := mem_places [1018, 1019, 1032, 1033, 74, 1020, 1021, 1022, 1023, 1025, 25, 1026, 966, 1027, 1029, 26, 1030, 1031, 1034, 1035, 1036, 1037, 1038, 1041] (by decide +kernel)
set_option maxRecDepth 20000 in
theorem wL_r9 : ∀ w ∈ wsL_law0_r9, w ∈ lw_tbl := mem_places [1044, 1047, 1050, 1052, 1068, 1012, 1013, 1014, 1015, 666, 667, 668, 669, 670, 671, 672, 673, 572, 576, 136, 374, 677, 78, 684] (by decide +kernel)
set_option maxRecDepth 20000 in
theorem wL_r10 : ∀ w ∈ wsL_law0_r10, w ∈ lw_tbl := mem_places [344, 346, 2, 347, 348, 75, 364, 256, 234, 235, 236, 237, 238, 76, 239, 240, 241, 77, 242, 243, 244, 245, 246, 674] (by decide +kernel)
set_option maxRecDepth 20000 in
theorem wL_r11 : ∀ w ∈ wsL_law0_r11, w ∈ lw_tbl := mem_places [429, 430, 678, 679, 680, 681, 691, 695, 699, 702, 706, 709, 711, 714, 682, 687, 737, 738, 739, 740, 692, 696, 688, 571] (by decide +kernel)
set_option maxRecDepth 20000 in
theorem wL_r12 : ∀ w ∈ wsL_law0_r12, w ∈ lw_tbl := mem_places [575, 700, 579, 703, 710, 707, 445, 268, 269, 270, 741, 743, 17, 744, 247, 232, 233, 248, 249, 250, 251, 745, 747, 18] (by decide +kernel)
set_option maxRecDepth 20000 in
theorem wL_r13 : ∀ w ∈ wsL_law0_r13, w ∈ lw_tbl := mem_places [748, 686, 749, 751, 19, 752, 753, 755, 20, 756, 1069, 1070, 1071, 1072, 1032, 1040, 1043, 1078, 1079, 79, 1085, 1073, 1075, 27] (by decide +kernel)
set_option maxRecDepth 20000 in
theorem wL_r14 : ∀ w ∈ wsL_law0_r14, w ∈ lw_tbl := mem_places [1076, 1077, 1080, 1081, 1082, 1083, 1098, 1084, 1086, 1089, 1092, 1094, 1125, 1127, 28, 1128, 1078, 1191, 1097, 1099, 970, 1101, 1129, 1130] (by decide +kernel)
set_option maxRecDepth 20000 in
theorem wL_r15 : ∀ w ∈ wsL_law0_r15, w ∈ lw_tbl := mem_places [1131, 1132, 1133, 1134, 80, 1135, 1136, 1137, 1142, 1138, 1140, 114, 1141, 1153, 1157, 1159, 1161, 1139, 1163, 1166, 1168, 1170, 110, 1171] (by decide +kernel)
set_option maxRecDepth 20000 in
theorem wL_r16 : ∀ w ∈ wsL_law0_r16, w ∈ lw_tbl := mem_places [1172, 1173, 1174, 1175, 1176, 1177, 1178, 1179, 1180, 1181, 1182, 1039, 1042, 1183, 1184, 1185, 1186, 1187, 1188, 1189, 1190, 1096, 1045, 757] (by decide +kernel)
set_option maxRecDepth 20000 in
theorem wL_r17 : ∀ w ∈ wsL_law0_r17, w ∈ lw_tbl := mem_places [758, 759, 760, 761, 762, 763, 713, 467, 469, 8, 470, 374, 398, 766, 413, 414, 415, 767, 768, 82, 769, 770, 771, 772] (by decide +kernel)
set_option maxRecDepth 20000 in
theorem wL_r18 : ∀ w ∈ wsL_law0_r18, w ∈ lw_tbl := mem_places [1192, 1193, 1194, 1195, 1102, 1196, 1198, 29, 1199, 1200, 773, 774, 775, 776, 777, 778, 779, 780, 781, 782, 783, 712, 412, 1201] (by decide +kernel)
set_option maxRecDepth 20000 in
theorem wL_r19 : ∀ w ∈ wsL_law0_r19, w ∈ lw_tbl := mem_places [1202, 1203, 1204, 1205, 1207, 30, 1208, 206, 207, 208, 209, 165, 1209, 1210, 1211, 1212, 975, 976, 784, 785, 786, 787, 788, 789] (by decide +kernel)
set_option maxRecDepth 20000 in
theorem wL_r20 : ∀ w ∈ wsL_law0_r20, w ∈ lw_tbl := mem_places [790, 791, 257, 523, 83, 792, 794, 21, 795, 798, 799, 800, 801, 802, 806, 809, 804, 808, 803, 1213, 1214, 1215, 1216, 1222] (by decide +kernel)
set_option maxRecDepth 20000 in
theorem wL_r21 : ∀ w ∈ wsL_law0_r21, w ∈ lw_tbl := mem_places [1223, 84, 1217, 1219, 31, 1220, 1221, 1224, 1225, 1226, 1227, 1231, 1228, 1233, 1230, 1229, 820, 821, 822, 823, 824, 825, 826, 163] (by decide +kernel)
set_option maxRecDepth 20000 in
theorem wL_r22 : ∀ w ∈ wsL_law0_r22, w ∈ lw_tbl := mem_places [827, 828, 829, 394, 396, 4, 397, 431, 399, 400, 401, 402, 403, 404, 405, 406, 407, 408, 409, 410, 411, 573, 577, 416] (by decide +kernel)
set_option maxRecDepth 20000 in
theorem wL_r23 : ∀ w ∈ wsL_law0_r23, w ∈ lw_tbl := mem_places [417, 418, 419, 420, 421, 422, 423, 424, 425, 426, 427, 432, 433, 434, 435, 587, 436, 446, 447, 448, 449, 437, 439, 5] (by decide +kernel)
set_option maxRecDepth 20000 in
theorem wL_r24 : ∀ w ∈ wsL_law0_r24, w ∈ lw_tbl := mem_places [440, 441, 443, 6, 444, 450, 451, 452, 453, 584, 454, 455, 456, 457, 458, 832, 833, 834, 835, 693, 697, 836, 376, 377] (by decide +kernel)
set_option maxRecDepth 20000 in
theorem wL_r25 : ∀ w ∈ wsL_law0_r25, w ∈ lw_tbl := mem_places [378, 379, 380, 381, 382, 385, 704, 386, 387, 388, 389, 391, 3, 392, 393, 837, 838, 839, 840, 843, 848, 841, 842, 845] (by decide +kernel)
set_option maxRecDepth 20000 in
theorem wL_r26 : ∀ w ∈ wsL_law0_r26, w ∈ lw_tbl := mem_places [846, 847, 849, 851, 22, 852, 715, 853, 854, 855, 856, 857, 859, 23, 860, 478, 861, 862, 864, 24, 865, 866, 1242, 1243] (by decide +kernel)
set_option maxRecDepth 20000 in
theorem wL_r27 : ∀ w ∈ wsL_law0_r27, w ∈ lw_tbl := mem_places [1244, 1245, 974, 977, 973, 1093, 971, 1095, 972, 980, 1324, 1325, 978, 979, 1103, 1246, 1247, 1248, 1249, 1251, 32, 1252, 1088, 1284] (by decide +kernel)
set_option maxRecDepth 20000 in
theorem wL_r28 : ∀ w ∈ wsL_law0_r28, w ∈ lw_tbl := mem_places [1253, 1255, 33, 1256, 1257, 1258, 1259, 1260, 1100, 1261, 1262, 1263, 1265, 34, 1266, 1267, 1269, 35, 1270, 1271, 1273, 36, 1274, 1275] (by decide +kernel)
set_option maxRecDepth 20000 in
theorem wL_r29 : ∀ w ∈ wsL_law0_r29, w ∈ lw_tbl := mem_places [1276, 1277, 1278, 1280, 1282, 37, 1283, 1285, 1287, 38, 1288, 1051, 1289, 1290, 1046, 1300, 1301, 1291, 1293, 39, 1294, 1295, 1297, 40] (by decide +kernel)
set_option maxRecDepth 20000 in
theorem wL_r30 : ∀ w ∈ wsL_law0_r30, w ∈ lw_tbl := mem_places [1298, 1299, 1302, 1304, 41, 1305, 1049, 1306, 1308, 42, 1309, 1310, 1311, 1312, 1321, 1322, 1323, 1313, 1314, 72, 1315, 1316, 1318, 1317] (by decide +kernel)
set_option maxRecDepth 20000 in
theorem wL_r31 : ∀ w ∈ wsL_law0_r31, w ∈ lw_tbl := mem_places [85, 1319, 1326, 1327, 1328, 1329, 1330, 86, 1331, 1332, 1333, 1334, 1335, 1336, 1337, 1338, 1340, 1339, 1341, 1342, 1343, 1344, 1345, 1346] (by decide +kernel)
set_option maxRecDepth 20000 in
theorem wL_r32 : ∀ w ∈ wsL_law0_r32, w ∈ lw_tbl := mem_places [1347, 1349, 43, 1350, 867, 868, 869, 870, 871, 872, 873, 810, 875, 690, 807, 805, 708, 487, 489, 10, 490, 257, 876, 877] (by decide +kernel)
set_option maxRecDepth 20000 in
theorem wL_r33 : ∀ w ∈ wsL_law0_r33, w ∈ lw_tbl := mem_places [878, 879, 516, 517, 518, 519, 582, 520, 522, 11, 524, 497, 689, 262, 496, 525, 527, 12, 528, 568, 529, 531, 13, 532] (by decide +kernel)
set_option maxRecDepth 20000 in
theorem wL_r34 : ∀ w ∈ wsL_law0_r34, w ∈ lw_tbl := mem_places [589, 510, 493, 494, 495, 1351, 1352, 1353, 1354, 1222, 1232, 1359, 1360, 1234, 1355, 1357, 44, 1358, 1361, 1362, 1363, 1364, 1090, 1087] (by decide +kernel)
set_option maxRecDepth 20000 in
theorem wL_r35 : ∀ w ∈ wsL_law0_r35, w ∈ lw_tbl := mem_places [1048, 1371, 1053, 1365, 1366, 1367, 1368, 1369, 1370, 1372, 1373, 1374, 1375, 1376, 1377, 1378, 1379, 880, 881, 882, 883, 884, 885, 886] (by decide +kernel)
set_option maxRecDepth 20000 in
theorem wL_r36 : ∀ w ∈ wsL_law0_r36, w ∈ lw_tbl := mem_places [694, 698, 701, 1380, 1381, 1382, 1383, 888, 889, 890, 891, 892, 893, 894, 258, 259, 260, 261, 1384, 1385, 1386, 1387, 1388, 1389] (by decide +kernel)
set_option maxRecDepth 20000 in
theorem wL_r37 : ∀ w ∈ wsL_law0_r37, w ∈ lw_tbl := mem_places [1390, 1391, 896, 897, 898, 899, 341, 342, 343, 580, 583, 586, 590, 365, 366, 367, 368, 1392, 1393, 1394, 1395, 1396, 1398, 45] (by decide +kernel)
set_option maxRecDepth 20000 in
theorem wL_r38 : ∀ w ∈ wsL_law0_r38, w ∈ lw_tbl := mem_places [1399, 1054, 900, 901, 902, 903, 464, 465, 466, 569, 705, 472, 1400, 1401, 1402, 1403, 1404, 1406, 46, 1407, 1091, 904, 905, 906] (by decide +kernel)
set_option maxRecDepth 20000 in
theorem wL_r39 : ∀ w ∈ wsL_law0_r39, w ∈ lw_tbl := mem_places [907, 908, 909, 910, 1408, 1409, 1410, 1411, 1412, 1414, 47, 1415, 911, 912, 913, 914, 915, 916, 917, 1416, 1417, 1418, 1419, 918] (by decide +kernel)
set_option maxRecDepth 20000 in
theorem wL_r40 : ∀ w ∈ wsL_law0_r40, w ∈ lw_tbl := mem_places [919, 920, 921, 922, 923, 924, 925, 375, 1420, 1421, 1422, 1423, 1424, 210, 211, 212, 213, 167, 1425, 1426, 1427, 1428, 926, 927] (by decide +kernel)
set_option maxRecDepth 20000 in
theorem wL_r41 : ∀ w ∈ wsL_law0_r41, w ∈ lw_tbl := mem_places [928, 929, 930, 931, 932, 934, 1429, 1430, 1431, 1432, 935, 936, 937, 938, 484, 485, 486, 492, 498, 499, 500, 501, 685, 502] (by decide +kernel)
set_option maxRecDepth 20000 in
theorem wL_r42 : ∀ w ∈ wsL_law0_r42, w ∈ lw_tbl := mem_places [503, 504, 505, 506, 507, 508, 509, 1433, 1434, 1435, 1436, 1437, 1439, 48, 1440, 1441, 939, 940, 941, 942, 221, 222, 223, 161] (by decide +kernel)
set_option maxRecDepth 20000 in
theorem wL_r43 : ∀ w ∈ wsL_law0_r43, w ∈ lw_tbl := mem_places [157, 159, 228, 229, 230, 231, 252, 254, 0, 255, 263, 264, 265, 266, 683, 267, 1442, 1443, 1444, 1445, 1446, 1448, 49, 1449] (by decide +kernel)
set_option maxRecDepth 20000 in
theorem wL_r44 : ∀ w ∈ wsL_law0_r44, w ∈ lw_tbl := mem_places [1450, 1452, 50, 1453, 1454, 1456, 51, 1457, 1458, 1460, 52, 1461, 943, 944, 945, 946, 947, 948, 949, 474, 475, 476, 477, 1462] (by decide +kernel)
set_option maxRecDepth 20000 in
theorem wL_r45 : ∀ w ∈ wsL_law0_r45, w ∈ lw_tbl := mem_places [1463, 1464, 1465, 1466, 1468, 53, 1469, 950, 951, 952, 953, 371, 372, 373, 1470, 1471, 1472, 1473, 1474, 1476, 54, 1477, 954, 955] (by decide +kernel)
set_option maxRecDepth 20000 in
theorem wL_r46 : ∀ w ∈ wsL_law0_r46, w ∈ lw_tbl := mem_places [956, 957, 513, 514, 515, 1478, 1479, 1480, 1481, 1482, 1484, 55, 1485, 214, 215, 216, 217, 218, 219, 339, 220, 340, 370, 459] (by decide +kernel)
set_option maxRecDepth 20000 in
theorem wL_r47 : ∀ w ∈ wsL_law0_r47, w ∈ lw_tbl := mem_places [461, 7, 462, 463, 479, 481, 9, 482, 483, 512, 1486, 1487, 1488, 1489, 1490, 1491, 1492, 1493, 1494] (by decide +kernel)
set_option maxRecDepth 20000 in
theorem wL_wsX50 : ∀ w ∈ wsX50, w ∈ lw_tbl := mem_places [189, 191, 193, 195, 197, 199, 201, 203] (by decide +kernel)
set_option maxRecDepth 20000 in
theorem wL_wsX90 : ∀ w ∈ wsX90, w ∈ lw_tbl := mem_places [981, 983, 985, 987, 989, 991, 993, 995, 997, 999, 1001, 1003, 1005, 1007, 1009] (by decide +kernel)
set_option maxRecDepth 20000 in
theorem wL_wsJx4a65c0 : ∀ w ∈ wsJx4a65c0, w ∈ lw_tbl := mem_places [121, 117, 119] (by decide +kernel)
set_option maxRecDepth 20000 in
theorem wL_wsX10 : ∀ w ∈ wsX10, w ∈ lw_tbl := mem_places [140, 142, 144, 146] (by decide +kernel)
set_option maxRecDepth 20000 in
theorem wL_wsX00 : ∀ w ∈ wsX00, w ∈ lw_tbl := mem_places [168, 170, 172, 174, 176, 178] (by decide +kernel)
set_option maxRecDepth 20000 in
theorem wL_wsX30 : ∀ w ∈ wsX30, w ∈ lw_tbl := mem_places [591, 593, 595, 597, 599, 601, 603] (by decide +kernel)
set_option maxRecDepth 20000 in
theorem wL_wsX70 : ∀ w ∈ wsX70, w ∈ lw_tbl := mem_places [1055, 1057, 1059, 1061, 1063, 1065] (by decide +kernel)
set_option maxRecDepth 20000 in
theorem wL_wsX40 : ∀ w ∈ wsX40, w ∈ lw_tbl := mem_places [716, 718, 720, 722, 724, 726, 728, 730, 732, 734] (by decide +kernel)
set_option maxRecDepth 20000 in
theorem wL_wsX80 : ∀ w ∈ wsX80, w ∈ lw_tbl := mem_places [1104, 1106, 1108, 1110, 1112, 1114, 1116, 1118, 1120, 1122] (by decide +kernel)
set_option maxRecDepth 20000 in
theorem wL_wsJx354110 : ∀ w ∈ wsJx354110, w ∈ lw_tbl := mem_places [1143, 1145, 1147, 1149] (by decide +kernel)
set_option maxRecDepth 20000 in
theorem wL_wsX20 : ∀ w ∈ wsX20, w ∈ lw_tbl := mem_places [811, 813, 815, 817] (by decide +kernel)
set_option maxRecDepth 20000 in
theorem wL_wsX60 : ∀ w ∈ wsX60, w ∈ lw_tbl := mem_places [1235, 1237, 1239] (by decide +kernel)
theorem wL_in0 : ∀ w ∈ wsL_law0, w ∈ lw_tbl := List.forall_mem_append.mpr ⟨List.forall_mem_append.mpr ⟨List.forall_mem_append.mpr ⟨List.forall_mem_append.mpr ⟨List.forall_mem_append.mpr ⟨List.forall_mem_append.mpr ⟨List.forall_mem_append.mpr ⟨List.forall_mem_append.mpr ⟨List.forall_mem_append.mpr ⟨List.forall_mem_append.mpr ⟨List.forall_mem_append.mpr ⟨List.forall_mem_append.mpr ⟨List.forall_mem_append.mpr ⟨List.forall_mem_append.mpr ⟨wL_r1, List.forall_mem_append.mpr ⟨wL_r2, List.forall_mem_append.mpr ⟨wL_r3, List.forall_mem_append.mpr ⟨wL_r4, List.forall_mem_append.mpr ⟨wL_r5, List.forall_mem_append.mpr ⟨wL_r6, List.forall_mem_append.mpr ⟨wL_r7, List.forall_mem_append.mpr ⟨wL_r8, List.forall_mem_append.mpr ⟨wL_r9, List.forall_mem_append.mpr ⟨wL_r10, List.forall_mem_append.mpr ⟨wL_r11, List.forall_mem_append.mpr ⟨wL_r12, List.forall_mem_append.mpr ⟨wL_r13, List.forall_mem_append.mpr ⟨wL_r14, List.forall_mem_append.mpr ⟨wL_r15, List.forall_mem_append.mpr ⟨wL_r16, List.forall_mem_append.mpr ⟨wL_r17, List.forall_mem_append.mpr ⟨wL_r18, List.forall_mem_append.mpr ⟨wL_r19, List.forall_mem_append.mpr ⟨wL_r20, List.forall_mem_append.mpr ⟨wL_r21, List.forall_mem_append.mpr ⟨wL_r22, List.forall_mem_append.mpr ⟨wL_r23, List.forall_mem_append.mpr ⟨wL_r24, List.forall_mem_append.mpr ⟨wL_r25, List.forall_mem_append.mpr ⟨wL_r26, List.forall_mem_append.mpr ⟨wL_r27, List.forall_mem_append.mpr ⟨wL_r28, List.forall_mem_append.mpr ⟨wL_r29, List.forall_mem_append.mpr ⟨wL_r30, List.forall_mem_append.mpr ⟨wL_r31, List.forall_mem_append.mpr ⟨wL_r32, List.forall_mem_append.mpr ⟨wL_r33, List.forall_mem_append.mpr ⟨wL_r34, List.forall_mem_append.mpr ⟨wL_r35, List.forall_mem_append.mpr ⟨wL_r36, List.forall_mem_append.mpr ⟨wL_r37, List.forall_mem_append.mpr ⟨wL_r38, List.forall_mem_append.mpr ⟨wL_r39, List.forall_mem_append.mpr ⟨wL_r40, List.forall_mem_append.mpr ⟨wL_r41, List.forall_mem_append.mpr ⟨wL_r42, List.forall_mem_append.mpr ⟨wL_r43, List.forall_mem_append.mpr ⟨wL_r44, List.forall_mem_append.mpr ⟨wL_r45, List.forall_mem_append.mpr ⟨wL_r46, wL_r47⟩⟩⟩⟩⟩⟩⟩⟩⟩⟩⟩⟩⟩⟩⟩⟩⟩⟩⟩⟩⟩⟩⟩⟩⟩⟩⟩⟩⟩⟩⟩⟩⟩⟩⟩⟩⟩⟩⟩⟩⟩⟩⟩⟩⟩⟩, wL_wsX50⟩, wL_wsX90⟩, wL_wsJx4a65c0⟩, wL_wsX10⟩, wL_wsX00⟩, wL_wsX30⟩, wL_wsX70⟩, wL_wsX40⟩, wL_wsX80⟩, wL_wsJx354110⟩, wL_wsX20⟩, wL_wsX60⟩, fun _ h => absurd h List.not_mem_nil⟩
set_option maxRecDepth 20000 in
theorem wsL_law_x0 : ∀ w ∈ (vx_atS RX5 55 "java/lang/IllegalArgumentException" ["java/lang/RuntimeException", "java/lang/Exception"]).filter goodWord, w ∈ lw_tbl := by decide +kernel
set_option maxRecDepth 20000 in
theorem wsL_law_x1 : ∀ w ∈ (vx_atS RX5 66 "java/lang/IllegalStateException" ["java/lang/RuntimeException", "java/lang/Exception"]).filter goodWord, w ∈ lw_tbl := by decide +kernel
set_option maxRecDepth 20000 in
theorem wsL_law_x2 : ∀ w ∈ (vx_atS RX5 274 "java/lang/IndexOutOfBoundsException" ["java/lang/RuntimeException", "java/lang/Exception"]).filter goodWord, w ∈ lw_tbl := by decide +kernel
theorem wsL_law_in : ∀ w ∈ wsL_law, w ∈ lw_tbl := fun w h => (List.mem_append.mp h).elim (fun h => (List.mem_append.mp h).elim (fun h => (List.mem_append.mp h).elim (fun h => wL_in0 w h) (fun h => wsL_law_x0 w h)) (fun h => wsL_law_x1 w h)) (fun h => wsL_law_x2 w h)
theorem inlX0 : ∀ w ∈ wsX00, w ∈ wsL_law := fun _ h => List.mem_append_left _ (List.mem_append_left _ (List.mem_append_left _ (List.mem_append_left _ (List.mem_append_left _ (List.mem_append_left _ (List.mem_append_left _ (List.mem_append_left _ (List.mem_append_left _ (List.mem_append_left _ (List.mem_append_left _ (List.mem_append_right _ h)))))))))))
theorem inlX1 : ∀ w ∈ wsX10, w ∈ wsL_law := fun _ h => List.mem_append_left _ (List.mem_append_left _ (List.mem_append_left _ (List.mem_append_left _ (List.mem_append_left _ (List.mem_append_left _ (List.mem_append_left _ (List.mem_append_left _ (List.mem_append_left _ (List.mem_append_left _ (List.mem_append_left _ (List.mem_append_left _ (List.mem_append_right _ h))))))))))))
theorem inlX2 : ∀ w ∈ wsX20, w ∈ wsL_law := fun _ h => List.mem_append_left _ (List.mem_append_left _ (List.mem_append_left _ (List.mem_append_left _ (List.mem_append_left _ (List.mem_append_right _ h)))))
theorem inlX3 : ∀ w ∈ wsX30, w ∈ wsL_law := fun _ h => List.mem_append_left _ (List.mem_append_left _ (List.mem_append_left _ (List.mem_append_left _ (List.mem_append_left _ (List.mem_append_left _ (List.mem_append_left _ (List.mem_append_left _ (List.mem_append_left _ (List.mem_append_left _ (List.mem_append_right _ h))))))))))
theorem inlX4 : ∀ w ∈ wsX40, w ∈ wsL_law := fun _ h => List.mem_append_left _ (List.mem_append_left _ (List.mem_append_left _ (List.mem_append_left _ (List.mem_append_left _ (List.mem_append_left _ (List.mem_append_left _ (List.mem_append_left _ (List.mem_append_right _ h))))))))
theorem inlX5 : ∀ w ∈ wsX50, w ∈ wsL_law := fun _ h => List.mem_append_left _ (List.mem_append_left _ (List.mem_append_left _ (List.mem_append_left _ (List.mem_append_left _ (List.mem_append_left _ (List.mem_append_left _ (List.mem_append_left _ (List.mem_append_left _ (List.mem_append_left _ (List.mem_append_left _ (List.mem_append_left _ (List.mem_append_left _ (List.mem_append_left _ (List.mem_append_left _ (List.mem_append_right _ h)))))))))))))))
theorem inlX6 : ∀ w ∈ wsX60, w ∈ wsL_law := fun _ h => List.mem_append_left _ (List.mem_append_left _ (List.mem_append_left _ (List.mem_append_left _ (List.mem_append_right _ h))))
theorem inlX7 : ∀ w ∈ wsX70, w ∈ wsL_law := fun _ h => List.mem_append_left _ (List.mem_append_left _ (List.mem_append_left _ (List.mem_append_left _ (List.mem_append_left _ (List.mem_append_left _ (List.mem_append_left _ (List.mem_append_left _ (List.mem_append_left _ (List.mem_append_right _ h)))))))))
theorem inlX8 : ∀ w ∈ wsX80, w ∈ wsL_law := fun _ h => List.mem_append_left _ (List.mem_append_left _ (List.mem_append_left _ (List.mem_append_left _ (List.mem_append_left _ (List.mem_append_left _ (List.mem_append_left _ (List.mem_append_right _ h)))))))
theorem inlX9 : ∀ w ∈ wsX90, w ∈ wsL_law := fun _ h => List.mem_append_left _ (List.mem_append_left _ (List.mem_append_left _ (List.mem_append_left _ (List.mem_append_left _ (List.mem_append_left _ (List.mem_append_left _ (List.mem_append_left _ (List.mem_append_left _ (List.mem_append_left _ (List.mem_append_left _ (List.mem_append_left _ (List.mem_append_left _ (List.mem_append_left _ (List.mem_append_right _ h))))))))))))))
theorem inlJx35411 : ∀ w ∈ wsJx354110, w ∈ wsL_law := fun _ h => List.mem_append_left _ (List.mem_append_left _ (List.mem_append_left _ (List.mem_append_left _ (List.mem_append_left _ (List.mem_append_left _ (List.mem_append_right _ h))))))
theorem inlJx4a65c : ∀ w ∈ wsJx4a65c0, w ∈ wsL_law := fun _ h => List.mem_append_left _ (List.mem_append_left _ (List.mem_append_left _ (List.mem_append_left _ (List.mem_append_left _ (List.mem_append_left _ (List.mem_append_left _ (List.mem_append_left _ (List.mem_append_left _ (List.mem_append_left _ (List.mem_append_left _ (List.mem_append_left _ (List.mem_append_left _ (List.mem_append_right _ h)))))))))))))
set_option maxRecDepth 20000 in
theorem evs_tbl : ∀ q ∈ evs, Cond.stringRef RX5 q.1 q.2 ∈ lw_tbl := by
  intro q hq
  simp only [evs, List.mem_cons, List.not_mem_nil, or_false] at hq
  rcases hq with rfl | rfl | rfl | rfl | rfl | rfl | rfl | rfl | rfl | rfl | rfl | rfl | rfl | rfl | rfl | rfl | rfl | rfl | rfl | rfl | rfl
  · exact (List.mem_of_getElem? (i := 764) (by decide +kernel))
  · exact (List.mem_of_getElem? (i := 765) (by decide +kernel))
  · exact (List.mem_of_getElem? (i := 796) (by decide +kernel))
  · exact (List.mem_of_getElem? (i := 797) (by decide +kernel))
  · exact (List.mem_of_getElem? (i := 831) (by decide +kernel))
  · exact (List.mem_of_getElem? (i := 874) (by decide +kernel))
  · exact (List.mem_of_getElem? (i := 887) (by decide +kernel))
  · exact (List.mem_of_getElem? (i := 895) (by decide +kernel))
  · exact (List.mem_of_getElem? (i := 369) (by decide +kernel))
  · exact (List.mem_of_getElem? (i := 473) (by decide +kernel))
  · exact (List.mem_of_getElem? (i := 933) (by decide +kernel))
  · exact (List.mem_of_getElem? (i := 511) (by decide +kernel))
  · exact (List.mem_of_getElem? (i := 312) (by decide +kernel))
  · exact (List.mem_of_getElem? (i := 357) (by decide +kernel))
  · exact (List.mem_of_getElem? (i := 471) (by decide +kernel))
  · exact (List.mem_of_getElem? (i := 491) (by decide +kernel))
  · exact (List.mem_of_getElem? (i := 830) (by decide +kernel))
  · exact (List.mem_of_getElem? (i := 545) (by decide +kernel))
  · exact (List.mem_of_getElem? (i := 555) (by decide +kernel))
  · exact (List.mem_of_getElem? (i := 675) (by decide +kernel))
  · exact (List.mem_of_getElem? (i := 676) (by decide +kernel))
set_option maxRecDepth 20000 in
theorem evs_nar : ∀ q ∈ evs, Cond.exactly (.string RX5 q.1) "java/lang/String" ∈ flatC (Jvm.Cond.and given_1 narrow_1) := by decide +kernel
set_option maxHeartbeats 4000000 in
set_option maxRecDepth 100000 in
/-- the environment at the law's entry -/
theorem EV_at {b : Nat} {s : State} (hts : ∀ w ∈ lw_tbl, w.before #[Value.ref b] s = true) (hgv : (Jvm.Cond.and given_1 narrow_1).before #[Value.ref b] s = true) : ∃ e0 : Nat, EV e0 (fun q : Nat => s.heap.size ≤ q) s s.heap := by
  have hs := flat_of_before _ hgv
  have hA : ∀ a : Nat, a < s.heap.size → ¬ (fun q : Nat => s.heap.size ≤ q) a := fun a h => Nat.not_le.mpr h
  have g1 : (Cond.arrayOf (Jvm.Term.static "java/util/ArrayList" "DEFAULTCAPACITY_EMPTY_ELEMENTDATA" "[Ljava/lang/Object;") (.object "java/lang/Object")).before #[Value.ref b] s = true := hs _ (by decide +kernel)
  have g2 : (Cond.eq (.length (Jvm.Term.static "java/util/ArrayList" "DEFAULTCAPACITY_EMPTY_ELEMENTDATA" "[Ljava/lang/Object;")) (.int 0)).before #[Value.ref b] s = true := hs _ (by decide +kernel)
  obtain ⟨w, h1, h2⟩ := Cond.eq_one (show (Cond.eq (.length (Jvm.Term.static "java/util/ArrayList" "DEFAULTCAPACITY_EMPTY_ELEMENTDATA" "[Ljava/lang/Object;")) (.int 0)).holds #[Value.ref b] s none s [] = true from g2)
  have h3 : w = .int 0 := (Option.some.inj h2).symm
  obtain ⟨e0, he, hT⟩ := va_Tof (N := 0) (f := fun _ => .null) (A := fun q : Nat => s.heap.size ≤ q) (by decide) g1 (by rw [h1, h3]; rfl) (fun j h => absurd h (Nat.not_lt_zero j)) hA
  refine ⟨e0, va_Zref (hts _ (List.mem_of_getElem? (i := 108) (by decide +kernel))) (hts _ (List.mem_of_getElem? (i := 60) (by decide +kernel))) he hA, hT, ?_, ?_, va_AO.of (hts (.arrayOver (.object "java/lang/Object")) (List.mem_of_getElem? (i := 656) (by decide +kernel))), ?_, ?_, ⟨?_, ?_, ?_⟩, ?_⟩
  · exact vx_Zqof (hts _ (List.mem_of_getElem? (i := 298) (by decide +kernel))) (hts _ (List.mem_of_getElem? (i := 65) (by decide +kernel))) (hs _ (by decide +kernel)) hA
  · exact vx_Zqof (hts _ (List.mem_of_getElem? (i := 300) (by decide +kernel))) (hts _ (List.mem_of_getElem? (i := 65) (by decide +kernel))) (hs _ (by decide +kernel)) hA
  · intro w hw
    simp only [evw, List.mem_cons, List.not_mem_nil, or_false] at hw
    rcases hw with rfl | rfl | rfl | rfl | rfl | rfl | rfl | rfl
    · exact va_Nw.of rfl (hts _ (List.mem_of_getElem? (i := 275) (by decide +kernel)))
    · exact va_Nw.of rfl (hts _ (List.mem_of_getElem? (i := 277) (by decide +kernel)))
    · exact va_Nw.of rfl (hts _ (List.mem_of_getElem? (i := 279) (by decide +kernel)))
    · exact va_Nw.of rfl (hts _ (List.mem_of_getElem? (i := 273) (by decide +kernel)))
    · exact va_Nw.of rfl (hts _ (List.mem_of_getElem? (i := 548) (by decide +kernel)))
    · exact va_Nw.of rfl (hts _ (List.mem_of_getElem? (i := 350) (by decide +kernel)))
    · exact va_Nw.of rfl (hts _ (List.mem_of_getElem? (i := 1505) (by decide +kernel)))
    · exact va_Nw.of rfl (hts _ (List.mem_of_getElem? (i := 1506) (by decide +kernel)))
  · intro q hq
    obtain ⟨a2, c, cA, kA, q1, -⟩ := Cond.exactly_spec (show (Cond.exactly (.string RX5 q.1) "java/lang/String").holds #[Value.ref b] s none s [] = true from hs _ (evs_nar q hq))
    exact ⟨a2, vk_R.of (hts _ (evs_tbl q hq)) q1⟩
  · exact va_Nw.of rfl (hts (.methodLinkNest RX5 28 yX0_init RX5) (List.mem_of_getElem? (i := 152) (by decide +kernel)))
  · exact va_Nw.of rfl (hts (.methodLinkNest RX1 104 yX5_areInBin RX5) (List.mem_of_getElem? (i := 428) (by decide +kernel)))
  · exact va_Nw.of rfl (hts (.fieldLinkNest RJx35411 28 "java/util/ArrayList" "size" "I" RJx4a65c) (List.mem_of_getElem? (i := 111) (by decide +kernel)))
  · exact va_Fw.of (hts _ (List.mem_of_getElem? (i := 1155) (by decide +kernel))) (hts _ (List.mem_of_getElem? (i := 1154) (by decide +kernel))) (hts _ (List.mem_of_getElem? (i := 1160) (by decide +kernel))) (hts _ (List.mem_of_getElem? (i := 1158) (by decide +kernel))) (hts _ (List.mem_of_getElem? (i := 1156) (by decide +kernel)))
