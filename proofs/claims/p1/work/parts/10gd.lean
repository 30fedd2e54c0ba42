set_option maxRecDepth 20000 in
theorem wD_X5_digest_r1 : ∀ w ∈ wsX5_digest_r1, w ∈ lw_tbl := mem_places [218, 219, 184, 167, 339, 181, 182, 136, 374, 183, 220, 221, 222, 57, 223, 271, 68, 161, 157, 159, 186, 187, 188, 224] (by decide +kernel)
set_option maxRecDepth 20000 in
theorem wD_X5_digest_r2 : ∀ w ∈ wsX5_digest_r2, w ∈ lw_tbl := mem_places [225, 226, 60, 227, 112, 228, 229, 230, 61, 231, 135, 247, 232, 233, 234, 235, 236, 237, 238, 76, 239, 240, 241, 77] (by decide +kernel)
set_option maxRecDepth 20000 in
theorem wD_X5_digest_r3 : ∀ w ∈ wsX5_digest_r3, w ∈ lw_tbl := mem_places [242, 243, 244, 245, 246, 109, 248, 249, 250, 78, 251, 706, 252, 254, 0, 255, 257, 256, 258, 259, 260, 83, 261, 808] (by decide +kernel)
set_option maxRecDepth 20000 in
theorem wD_X5_digest_r4 : ∀ w ∈ wsX5_digest_r4, w ∈ lw_tbl := mem_places [806, 262, 263, 264, 265, 63, 266, 162, 683, 267, 268, 269, 270, 137, 340, 341, 342, 343, 572, 576, 580, 583, 586, 590] (by decide +kernel)
set_option maxRecDepth 20000 in
theorem wD_X5_digest_r5 : ∀ w ∈ wsX5_digest_r5, w ∈ lw_tbl := mem_places [344, 346, 2, 347, 348, 75, 364, 365, 366, 367, 368, 688, 370, 371, 372, 373, 690, 684, 375, 376, 377, 378, 693, 156] (by decide +kernel)
set_option maxRecDepth 20000 in
theorem wD_X5_digest_r6 : ∀ w ∈ wsX5_digest_r6, w ∈ lw_tbl := mem_places [379, 380, 72, 381, 697, 158, 382, 383, 384, 385, 704, 386, 387, 160, 388, 389, 391, 3, 392, 164, 393, 394, 396, 4] (by decide +kernel)
set_option maxRecDepth 20000 in
theorem wD_X5_digest_r7 : ∀ w ∈ wsX5_digest_r7, w ∈ lw_tbl := mem_places [397, 431, 185, 398, 399, 400, 401, 402, 403, 404, 405, 406, 699, 702, 709, 407, 408, 409, 410, 411, 691, 687, 573, 695] (by decide +kernel)
set_option maxRecDepth 20000 in
theorem wD_X5_digest_r8 : ∀ w ∈ wsX5_digest_r8, w ∈ lw_tbl := mem_places [577, 412, 413, 414, 415, 682, 416, 417, 418, 419, 571, 575, 420, 421, 422, 423, 696, 692, 686, 424, 425, 426, 427, 138] (by decide +kernel)
set_option maxRecDepth 20000 in
theorem wD_X5_digest_r9 : ∀ w ∈ wsX5_digest_r9, w ∈ lw_tbl := mem_places [429, 430, 432, 433, 434, 435, 587, 436, 446, 447, 579, 448, 449, 437, 439, 5, 440, 700, 441, 443, 6, 444, 445, 450] (by decide +kernel)
set_option maxRecDepth 20000 in
theorem wD_X5_digest_r10 : ∀ w ∈ wsX5_digest_r10, w ∈ lw_tbl := mem_places [451, 452, 453, 584, 712, 454, 455, 456, 457, 458, 459, 461, 7, 462, 463, 464, 465, 466, 569, 694, 698, 701, 705, 708] (by decide +kernel)
set_option maxRecDepth 20000 in
theorem wD_X5_digest_r11 : ∀ w ∈ wsX5_digest_r11, w ∈ lw_tbl := mem_places [713, 715, 467, 469, 8, 470, 472, 474, 475, 476, 477, 478, 479, 481, 9, 482, 483, 484, 485, 486, 807, 810, 487, 489] (by decide +kernel)
set_option maxRecDepth 20000 in
theorem wD_X5_digest_r12 : ∀ w ∈ wsX5_digest_r12, w ∈ lw_tbl := mem_places [10, 490, 492, 493, 494, 495, 497, 689, 582, 496, 498, 499, 500, 501, 685, 502, 503, 504, 505, 506, 507, 508, 509, 589] (by decide +kernel)
set_option maxRecDepth 20000 in
theorem wD_X5_digest_r13 : ∀ w ∈ wsX5_digest_r13, w ∈ lw_tbl := mem_places [510, 512, 513, 514, 515, 516, 517, 518, 519, 520, 522, 11, 524, 525, 527, 12, 528, 568, 529, 531, 13, 532] (by decide +kernel)
theorem wD_X5_digest : ∀ w ∈ wsX5_digest, w ∈ lw_tbl := List.forall_mem_cons.mpr ⟨List.mem_of_getElem? (i := 217) (by decide +kernel), List.forall_mem_append.mpr ⟨List.forall_mem_append.mpr ⟨List.forall_mem_append.mpr ⟨List.forall_mem_append.mpr ⟨List.forall_mem_append.mpr ⟨List.forall_mem_append.mpr ⟨List.forall_mem_append.mpr ⟨List.forall_mem_append.mpr ⟨List.forall_mem_append.mpr ⟨List.forall_mem_append.mpr ⟨wD_X5_digest_r1, List.forall_mem_append.mpr ⟨wD_X5_digest_r2, List.forall_mem_append.mpr ⟨wD_X5_digest_r3, List.forall_mem_append.mpr ⟨wD_X5_digest_r4, List.forall_mem_append.mpr ⟨wD_X5_digest_r5, List.forall_mem_append.mpr ⟨wD_X5_digest_r6, List.forall_mem_append.mpr ⟨wD_X5_digest_r7, List.forall_mem_append.mpr ⟨wD_X5_digest_r8, List.forall_mem_append.mpr ⟨wD_X5_digest_r9, List.forall_mem_append.mpr ⟨wD_X5_digest_r10, List.forall_mem_append.mpr ⟨wD_X5_digest_r11, List.forall_mem_append.mpr ⟨wD_X5_digest_r12, wD_X5_digest_r13⟩⟩⟩⟩⟩⟩⟩⟩⟩⟩⟩⟩, wL_wsX50⟩, wL_wsX00⟩, wL_wsX10⟩, wL_wsJx4a65c0⟩, wL_wsX40⟩, wL_wsX20⟩, wL_wsX30⟩, wsL_law_x0⟩, wsL_law_x2⟩⟩
set_option maxRecDepth 20000 in
theorem wD_X5_digest_g : wsX5_digest.all goodWord = true := by decide +kernel
set_option maxRecDepth 20000 in
theorem gD_law_X5_digest : GoodIn lw_tbl (wsV RL 166 RX5 yX5_digest wsX5_digest) := goodIn_app (goodIn_of _ (by decide +kernel)) (goodIn_sub wD_X5_digest wD_X5_digest_g)
set_option maxRecDepth 20000 in
theorem wD_X9_digest_r1 : ∀ w ∈ wsX9_digest_r1, w ∈ lw_tbl := mem_places [966, 1490, 977, 1325, 967, 968, 1078, 969, 1222, 1446, 1448, 49, 64, 1449, 149, 974, 1085, 973, 971, 972, 978, 979, 980, 1031] (by decide +kernel)
set_option maxRecDepth 20000 in
theorem wD_X9_digest_r2 : ∀ w ∈ wsX9_digest_r2, w ∈ lw_tbl := mem_places [225, 226, 60, 227, 112, 1450, 1452, 50, 1453, 1129, 1130, 1131, 1132, 1133, 1134, 80, 1135, 1136, 1137, 1142, 1138, 93, 94, 1140] (by decide +kernel)
set_option maxRecDepth 20000 in
theorem wD_X9_digest_r3 : ∀ w ∈ wsX9_digest_r3, w ∈ lw_tbl := mem_places [114, 115, 1141, 1153, 1157, 1159, 1161, 1139, 1163, 1166, 1168, 1170, 110, 1171, 1172, 1173, 1174, 1175, 1176, 1177, 79, 1178, 1098, 1454] (by decide +kernel)
set_option maxRecDepth 20000 in
theorem wD_X9_digest_r4 : ∀ w ∈ wsX9_digest_r4, w ∈ lw_tbl := mem_places [1456, 51, 1457, 1388, 1389, 1390, 84, 1391, 1372, 1373, 1374, 1375, 1230, 1365, 1366, 1367, 1368, 1233, 1371, 1090, 1369, 1370, 234, 235] (by decide +kernel)
set_option maxRecDepth 20000 in
theorem wD_X9_digest_r5 : ∀ w ∈ wsX9_digest_r5, w ∈ lw_tbl := mem_places [236, 237, 238, 76, 239, 240, 241, 77, 242, 243, 244, 245, 246, 109, 1458, 1460, 52, 1461, 1191, 383, 72, 384, 1187, 1188] (by decide +kernel)
set_option maxRecDepth 20000 in
theorem wD_X9_digest_r6 : ∀ w ∈ wsX9_digest_r6, w ∈ lw_tbl := mem_places [1189, 1190, 1096, 1086, 1045, 1491, 1492, 1493, 1494, 1396, 1398, 45, 1399, 1032, 1088, 1040, 1043, 1046, 1049, 1051, 1054, 1077, 1474, 1476] (by decide +kernel)
set_option maxRecDepth 20000 in
theorem wD_X9_digest_r7 : ∀ w ∈ wsX9_digest_r7, w ∈ lw_tbl := mem_places [54, 1477, 1091, 1412, 1414, 47, 1415, 1249, 1251, 32, 1252, 1284, 975, 1253, 1255, 33, 1256, 1257, 1258, 1259, 1260, 1100, 1261, 1180] (by decide +kernel)
set_option maxRecDepth 20000 in
theorem wD_X9_digest_r8 : ∀ w ∈ wsX9_digest_r8, w ∈ lw_tbl := mem_places [1181, 1182, 1092, 1094, 1039, 1042, 1183, 1184, 1185, 1186, 1262, 1263, 1265, 34, 1266, 1093, 1095, 1267, 1269, 35, 1270, 1271, 1273, 36] (by decide +kernel)
set_option maxRecDepth 20000 in
theorem wD_X9_digest_r9 : ∀ w ∈ wsX9_digest_r9, w ∈ lw_tbl := mem_places [1274, 1275, 1276, 1277, 1278, 1021, 1022, 1280, 1282, 37, 1283, 1285, 1287, 38, 1288, 1289, 1290, 1300, 1301, 1291, 1293, 39, 1294, 1295] (by decide +kernel)
set_option maxRecDepth 20000 in
theorem wD_X9_digest_r10 : ∀ w ∈ wsX9_digest_r10, w ∈ lw_tbl := mem_places [1297, 40, 1298, 1097, 1299, 1302, 1304, 41, 1305, 1102, 1306, 1308, 42, 1309, 1310, 380, 381, 1311, 1312, 1321, 1322, 976, 1323, 1313] (by decide +kernel)
set_option maxRecDepth 20000 in
theorem wD_X9_digest_r11 : ∀ w ∈ wsX9_digest_r11, w ∈ lw_tbl := mem_places [1314, 72, 1315, 1316, 1318, 1317, 85, 1319, 1404, 1406, 46, 1407, 1099, 1103, 1466, 1468, 53, 1469, 1437, 1439, 48, 1440, 1234, 1232] (by decide +kernel)
set_option maxRecDepth 20000 in
theorem wD_X9_digest_r12 : ∀ w ∈ wsX9_digest_r12, w ∈ lw_tbl := mem_places [1441, 1377, 1378, 1379, 1087, 1048, 1482, 1484, 55, 1485, 1361, 1362, 1363, 1364, 1053, 1376] (by decide +kernel)
theorem wD_X9_digest : ∀ w ∈ wsX9_digest, w ∈ lw_tbl := List.forall_mem_cons.mpr ⟨List.mem_of_getElem? (i := 1489) (by decide +kernel), List.forall_mem_append.mpr ⟨List.forall_mem_append.mpr ⟨List.forall_mem_append.mpr ⟨List.forall_mem_append.mpr ⟨List.forall_mem_append.mpr ⟨List.forall_mem_append.mpr ⟨List.forall_mem_append.mpr ⟨wD_X9_digest_r1, List.forall_mem_append.mpr ⟨wD_X9_digest_r2, List.forall_mem_append.mpr ⟨wD_X9_digest_r3, List.forall_mem_append.mpr ⟨wD_X9_digest_r4, List.forall_mem_append.mpr ⟨wD_X9_digest_r5, List.forall_mem_append.mpr ⟨wD_X9_digest_r6, List.forall_mem_append.mpr ⟨wD_X9_digest_r7, List.forall_mem_append.mpr ⟨wD_X9_digest_r8, List.forall_mem_append.mpr ⟨wD_X9_digest_r9, List.forall_mem_append.mpr ⟨wD_X9_digest_r10, List.forall_mem_append.mpr ⟨wD_X9_digest_r11, wD_X9_digest_r12⟩⟩⟩⟩⟩⟩⟩⟩⟩⟩⟩, wL_wsX90⟩, wL_wsX80⟩, wL_wsJx4a65c0⟩, wL_wsJx354110⟩, wL_wsX60⟩, wL_wsX70⟩⟩
set_option maxRecDepth 20000 in
theorem wD_X9_digest_g : wsX9_digest.all goodWord = true := by decide +kernel
set_option maxRecDepth 20000 in
theorem gD_law_X9_digest : GoodIn lw_tbl (wsV RL 170 RX9 yX9_digest wsX9_digest) := goodIn_app (goodIn_of _ (by decide +kernel)) (goodIn_sub wD_X9_digest wD_X9_digest_g)
