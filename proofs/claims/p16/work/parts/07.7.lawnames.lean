theorem lw_inp {ws : List Cond} (ps : List Nat) (hp : ws = ps.filterMap (fun i => lw_tbl[i]?)) : ∀ w ∈ ws, w ∈ lw_tbl := by
  intro w hw
  rw [hp] at hw
  obtain ⟨i, _, h⟩ := List.mem_filterMap.mp hw
  exact List.mem_of_getElem? h
set_option maxRecDepth 20000 in
theorem lw_in_r1 : ∀ w ∈ wsL_law0_r1, w ∈ lw_tbl := lw_inp [98, 99, 80, 1147, 1148, 90, 1599, 100, 101, 102, 103, 104, 105, 106, 107, 81, 447, 127, 128, 82, 448, 169, 170, 83] rfl
set_option maxRecDepth 20000 in
theorem lw_in_r2 : ∀ w ∈ wsL_law0_r2, w ∈ lw_tbl := lw_inp [449, 254, 255, 84, 450, 281, 282, 85, 451, 350, 351, 87, 452, 108, 109, 110, 111, 125, 112, 126, 114, 116, 130, 131] rfl
set_option maxRecDepth 20000 in
theorem lw_in_r3 : ∀ w ∈ wsL_law0_r3, w ∈ lw_tbl := lw_inp [132, 133, 135, 139, 141, 143, 145, 146, 172, 173, 174, 181, 189, 194, 197, 200, 206, 208, 210, 212, 217, 256, 257, 258] rfl
set_option maxRecDepth 20000 in
theorem lw_in_r4 : ∀ w ∈ wsL_law0_r4, w ∈ lw_tbl := lw_inp [259, 260, 261, 262, 265, 266, 267, 283, 284, 285, 286, 298, 300, 302, 304, 306, 308, 309, 310, 311, 312, 313, 314, 290] rfl
set_option maxRecDepth 20000 in
theorem lw_in_r5 : ∀ w ∈ wsL_law0_r5, w ∈ lw_tbl := lw_inp [291, 287, 288, 86, 289, 352, 353, 354, 355, 428, 429, 430, 431, 356, 357, 88, 432, 409, 410, 89, 433, 358, 359, 360] rfl
set_option maxRecDepth 20000 in
theorem lw_in_r6 : ∀ w ∈ wsL_law0_r6, w ∈ lw_tbl := lw_inp [361, 363, 362, 411, 412, 413, 414, 415, 416, 417, 418, 1149, 1150, 1151, 1152, 1156, 1159, 1160, 1161, 1162, 1163, 1164, 1165, 1166] rfl
set_option maxRecDepth 20000 in
theorem lw_in_r7 : ∀ w ∈ wsL_law0_r7, w ∈ lw_tbl := lw_inp [1167, 1170, 1174, 1178, 1179, 1180, 1181, 1182, 1153, 1183, 1184, 1185, 1186, 1187, 1188, 1189, 1192, 1193, 1194, 1195, 1196, 1198, 1199, 1200] rfl
set_option maxRecDepth 20000 in
theorem lw_in_r8 : ∀ w ∈ wsL_law0_r8, w ∈ lw_tbl := lw_inp [1201, 1202, 1207, 1208, 1211, 1154, 1212, 1214, 1215, 1216, 877, 878, 79, 879, 880, 881, 882, 883, 884, 885, 890, 94, 957, 95] rfl
set_option maxRecDepth 20000 in
theorem lw_in_r9 : ∀ w ∈ wsL_law0_r9, w ∈ lw_tbl := lw_inp [886, 887, 888, 889, 973, 974, 975, 976, 1342, 1343, 1344, 1345, 1155, 1346, 1348, 36, 1349, 1350, 1352, 37, 1353, 1354, 1356, 38] rfl
set_option maxRecDepth 20000 in
theorem lw_in_r10 : ∀ w ∈ wsL_law0_r10, w ∈ lw_tbl := lw_inp [1357, 977, 978, 979, 980, 981, 982, 983, 984, 985, 986, 987, 481, 529, 562, 563, 564, 990, 991, 992, 993, 137, 1358, 1359] rfl
set_option maxRecDepth 20000 in
theorem lw_in_r11 : ∀ w ∈ wsL_law0_r11, w ∈ lw_tbl := lw_inp [1360, 1361, 1157, 1362, 1364, 39, 1365, 1366, 1367, 994, 995, 996, 997, 998, 999, 1000, 1001, 1002, 1003, 1004, 1005, 1009, 1010, 1011] rfl
set_option maxRecDepth 20000 in
theorem lw_in_r12 : ∀ w ∈ wsL_law0_r12, w ∈ lw_tbl := lw_inp [1012, 148, 1368, 1369, 1370, 1371, 1158, 1013, 1014, 1015, 1016, 1017, 1018, 1019, 1021, 1022, 1023, 1024, 1026, 1027, 1028, 1029, 1372, 1373] rfl
set_option maxRecDepth 20000 in
theorem lw_in_r13 : ∀ w ∈ wsL_law0_r13, w ∈ lw_tbl := lw_inp [1374, 1375, 1030, 1031, 1032, 1033, 1034, 1035, 1036, 1039, 1040, 1041, 1042, 175, 178, 184, 187, 191, 202, 214, 1376, 1377, 1378, 1379] rfl
set_option maxRecDepth 20000 in
theorem lw_in_r14 : ∀ w ∈ wsL_law0_r14, w ∈ lw_tbl := lw_inp [1168, 1169, 1171, 1172, 1173, 1175, 1176, 1177, 1043, 1044, 1045, 1046, 1047, 1048, 1049, 1051, 1052, 1053, 1054, 1380, 1381, 1382, 1383, 1055] rfl
set_option maxRecDepth 20000 in
theorem lw_in_r15 : ∀ w ∈ wsL_law0_r15, w ∈ lw_tbl := lw_inp [1056, 1057, 1058, 1059, 1060, 1061, 1062, 1064, 34, 1065, 1066, 1067, 1068, 1069, 526, 527, 528, 530, 1070, 1071, 1073, 35, 1074, 1075] rfl
set_option maxRecDepth 20000 in
theorem lw_in_r16 : ∀ w ∈ wsL_law0_r16, w ∈ lw_tbl := lw_inp [479, 480, 482, 1076, 1077, 1078, 1079, 488, 489, 1080, 494, 495, 1083, 1084, 1085, 1086, 1384, 1385, 1386, 1387, 1388, 1390, 40, 1391] rfl
set_option maxRecDepth 20000 in
theorem lw_in_r17 : ∀ w ∈ wsL_law0_r17, w ∈ lw_tbl := lw_inp [1392, 1394, 41, 1395, 1396, 1397, 1399, 42, 1400, 1401, 1087, 1088, 1089, 1090, 1091, 1092, 1093, 1095, 1096, 1097, 1098, 496, 497, 498] rfl
set_option maxRecDepth 20000 in
theorem lw_in_r18 : ∀ w ∈ wsL_law0_r18, w ∈ lw_tbl := lw_inp [1100, 1101, 1102, 1103, 1104, 586, 587, 588, 589, 590, 591, 592, 594, 595, 596, 96, 597, 598, 600, 599, 97, 1402, 1403, 1404] rfl
set_option maxRecDepth 20000 in
theorem lw_in_r19 : ∀ w ∈ wsL_law0_r19, w ∈ lw_tbl := lw_inp [1405, 1105, 1106, 1107, 1108, 1109, 1110, 1111, 1114, 1115, 1116, 1117, 1406, 1407, 1408, 1409, 466, 467, 468, 469, 602, 470, 471, 472] rfl
set_option maxRecDepth 20000 in
theorem lw_in_r20 : ∀ w ∈ wsL_law0_r20, w ∈ lw_tbl := lw_inp [473, 474, 476, 0, 477, 478, 483, 485, 1, 486, 487, 490, 491, 492, 493, 499, 501, 2, 502, 503, 504, 505, 506, 292] rfl
set_option maxRecDepth 20000 in
theorem lw_in_r21 : ∀ w ∈ wsL_law0_r21, w ∈ lw_tbl := lw_inp [294, 296, 507, 508, 509, 510, 511, 512, 513, 514, 515, 516, 517, 518, 519, 520, 521, 522, 367, 374, 370, 376, 380, 384] rfl
set_option maxRecDepth 20000 in
theorem lw_in_r22 : ∀ w ∈ wsL_law0_r22, w ∈ lw_tbl := lw_inp [386, 523, 524, 525, 531, 532, 533, 534, 382, 535, 536, 537, 538, 539, 541, 3, 542, 543, 544, 545, 546, 547, 548, 549] rfl
set_option maxRecDepth 20000 in
theorem lw_in_r23 : ∀ w ∈ wsL_law0_r23, w ∈ lw_tbl := lw_inp [550, 551, 552, 553, 554, 555, 556, 557, 558, 559, 560, 561, 565, 567, 4, 568, 569, 571, 5, 572, 573, 574, 575, 576] rfl
set_option maxRecDepth 20000 in
theorem lw_in_r24 : ∀ w ∈ wsL_law0_r24, w ∈ lw_tbl := lw_inp [577, 578, 579, 580, 601, 581, 583, 6, 584, 585, 603, 604, 605, 606, 607, 608, 609, 610, 611, 612, 613, 614, 615, 616] rfl
set_option maxRecDepth 20000 in
theorem lw_in_r25 : ∀ w ∈ wsL_law0_r25, w ∈ lw_tbl := lw_inp [617, 618, 619, 620, 622, 7, 623, 624, 626, 8, 627, 628, 629, 630, 631, 632, 634, 9, 635, 636, 637, 638, 639, 640] rfl
set_option maxRecDepth 20000 in
theorem lw_in_r26 : ∀ w ∈ wsL_law0_r26, w ∈ lw_tbl := lw_inp [742, 641, 643, 10, 644, 654, 645, 646, 647, 648, 649, 650, 651, 652, 653, 656, 658, 11, 659, 664, 660, 661, 662, 663] rfl
set_option maxRecDepth 20000 in
theorem lw_in_r27 : ∀ w ∈ wsL_law0_r27, w ∈ lw_tbl := lw_inp [667, 668, 669, 671, 12, 672, 686, 687, 673, 674, 675, 676, 677, 678, 679, 680, 685, 681, 682, 683, 684, 689, 691, 13] rfl
set_option maxRecDepth 20000 in
theorem lw_in_r28 : ∀ w ∈ wsL_law0_r28, w ∈ lw_tbl := lw_inp [692, 693, 694, 695, 696, 698, 14, 699, 700, 701, 702, 704, 15, 705, 706, 707, 708, 709, 717, 710, 711, 712, 713, 714] rfl
set_option maxRecDepth 20000 in
theorem lw_in_r29 : ∀ w ∈ wsL_law0_r29, w ∈ lw_tbl := lw_inp [715, 716, 718, 720, 16, 721, 726, 728, 722, 723, 724, 725, 730, 731, 732, 733, 734, 735, 736, 737, 738, 740, 17, 741] rfl
set_option maxRecDepth 20000 in
theorem lw_in_r30 : ∀ w ∈ wsL_law0_r30, w ∈ lw_tbl := lw_inp [744, 746, 18, 747, 748, 750, 19, 751, 752, 753, 754, 755, 756, 757, 758, 760, 20, 761, 762, 763, 765, 21, 766, 767] rfl
set_option maxRecDepth 20000 in
theorem lw_in_r31 : ∀ w ∈ wsL_law0_r31, w ∈ lw_tbl := lw_inp [769, 22, 770, 771, 773, 23, 774, 775, 776, 777, 778, 779, 781, 24, 782, 783, 784, 785, 786, 787, 788, 790, 25, 791] rfl
set_option maxRecDepth 20000 in
theorem lw_in_r32 : ∀ w ∈ wsL_law0_r32, w ∈ lw_tbl := lw_inp [792, 793, 794, 795, 796, 798, 26, 799, 800, 802, 27, 803, 804, 806, 28, 807, 808, 809, 810, 811, 812, 813, 814, 815] rfl
set_option maxRecDepth 20000 in
theorem lw_in_r33 : ∀ w ∈ wsL_law0_r33, w ∈ lw_tbl := lw_inp [816, 818, 29, 819, 820, 821, 822, 824, 30, 825, 826, 827, 828, 829, 830, 831, 832, 833, 834, 835, 837, 31, 838, 839] rfl
set_option maxRecDepth 20000 in
theorem lw_in_r34 : ∀ w ∈ wsL_law0_r34, w ∈ lw_tbl := lw_inp [841, 32, 842, 843, 844, 845, 846, 1431, 1432, 1433, 1434, 1204, 1205, 1206, 1203, 1213, 1435, 1437, 46, 1438, 1439, 1440, 1441, 1442] rfl
set_option maxRecDepth 20000 in
theorem lw_in_r35 : ∀ w ∈ wsL_law0_r35, w ∈ lw_tbl := lw_inp [1443, 1444, 1445, 1446, 1448, 47, 1449, 1197, 1209, 1210, 1190, 1191, 1450, 1452, 48, 1453, 1454, 1456, 49, 1457, 1458, 1460, 50, 1461] rfl
set_option maxRecDepth 20000 in
theorem lw_in_r36 : ∀ w ∈ wsL_law0_r36, w ∈ lw_tbl := lw_inp [1462, 1464, 51, 1465, 1466, 1468, 52, 1469, 1426, 1428, 45, 1429, 1430, 1418, 1420, 44, 1421, 1470, 1472, 53, 1473, 1474, 1476, 54] rfl
set_option maxRecDepth 20000 in
theorem lw_in_r37 : ∀ w ∈ wsL_law0_r37, w ∈ lw_tbl := lw_inp [1477, 1478, 1480, 55, 1481, 1482, 1484, 56, 1485, 1486, 1488, 57, 1489, 1568, 1490, 1492, 58, 1493, 1497, 1494, 1495, 1496, 1499, 1501] rfl
set_option maxRecDepth 20000 in
theorem lw_in_r38 : ∀ w ∈ wsL_law0_r38, w ∈ lw_tbl := lw_inp [59, 1502, 1511, 1503, 1505, 60, 1506, 1507, 1509, 61, 1510, 1512, 1514, 62, 1515, 1516, 1518, 63, 1519, 1520, 1522, 64, 1523, 1524] rfl
set_option maxRecDepth 20000 in
theorem lw_in_r39 : ∀ w ∈ wsL_law0_r39, w ∈ lw_tbl := lw_inp [1526, 65, 1527, 1414, 1416, 43, 1417, 1528, 1530, 66, 1531, 1532, 1534, 67, 1535, 1536, 1538, 68, 1539, 1540, 1542, 69, 1543, 1544] rfl
set_option maxRecDepth 20000 in
theorem lw_in_r40 : ∀ w ∈ wsL_law0_r40, w ∈ lw_tbl := lw_inp [1546, 70, 1547, 1548, 1550, 71, 1551, 1552, 1554, 72, 1555, 1556, 1558, 73, 1559, 1560, 1562, 74, 1563, 1564, 1566, 75, 1567, 1569] rfl
set_option maxRecDepth 20000 in
theorem lw_in_r41 : ∀ w ∈ wsL_law0_r41, w ∈ lw_tbl := lw_inp [1571, 76, 1572, 1573, 1575, 77, 1576, 1118, 1119, 1120, 1121, 1122, 1123, 1124, 873, 874, 875, 876, 1577, 1578, 1579, 1580, 1581, 1583] rfl
set_option maxRecDepth 20000 in
theorem lw_in_r42 : ∀ w ∈ wsL_law0_r42, w ∈ lw_tbl := lw_inp [78, 1584, 847, 848, 849, 850, 851, 852, 853, 854, 855, 856, 857, 858, 1585, 1586, 1587, 1588, 859, 860, 861, 862, 863, 864] rfl
set_option maxRecDepth 20000 in
theorem lw_in_r43 : ∀ w ∈ wsL_law0_r43, w ∈ lw_tbl := lw_inp [865, 866, 1589, 1590, 1591, 1592, 867, 868, 869, 870, 871, 872, 1593, 1594, 1595, 1596, 1597, 1598, 1126, 1127, 1128, 1129, 1130, 1131] rfl
set_option maxRecDepth 20000 in
theorem lw_in_r44 : ∀ w ∈ wsL_law0_r44, w ∈ lw_tbl := lw_inp [1132, 1133, 1410, 1411, 1412, 1413, 1143, 1144, 1145, 1146, 1134, 1135, 1136, 1137, 1138, 1139, 1140, 1142, 1422, 1423, 1424, 1425] rfl
set_option maxRecDepth 20000 in
theorem lw_in_X8 : ∀ w ∈ wsX80, w ∈ lw_tbl := lw_inp [453, 455, 457, 459, 461, 463] rfl
set_option maxRecDepth 20000 in
theorem lw_in_X9 : ∀ w ∈ wsX90, w ∈ lw_tbl := lw_inp [1217, 1219, 1221, 1223, 1225, 1227, 1229, 1231, 1233, 1235, 1237, 1239, 1241, 1243, 1245, 1247, 1249, 1251, 1253, 1255, 1257, 1259, 1261, 1263, 1265, 1267, 1269, 1271, 1273, 1275, 1277, 1279, 1281, 1283, 1285, 1287, 1289, 1291, 1293, 1295, 1297, 1299, 1301, 1303, 1305, 1307, 1309, 1311, 1313, 1315, 1317, 1319, 1321, 1323, 1325, 1327, 1329, 1331, 1333, 1335, 1337, 1339] rfl
set_option maxRecDepth 20000 in
theorem lw_in_X7 : ∀ w ∈ wsX70, w ∈ lw_tbl := lw_inp [118, 120, 122] rfl
set_option maxRecDepth 20000 in
theorem lw_in_X4 : ∀ w ∈ wsX40, w ∈ lw_tbl := lw_inp [150, 152, 154, 156, 158, 160, 162, 164, 166] rfl
set_option maxRecDepth 20000 in
theorem lw_in_X0 : ∀ w ∈ wsX00, w ∈ lw_tbl := lw_inp [219, 221, 223, 225, 227, 229, 231, 233, 235, 237, 239, 241, 243, 245, 247, 249, 251] rfl
set_option maxRecDepth 20000 in
theorem lw_in_X1 : ∀ w ∈ wsX10, w ∈ lw_tbl := lw_inp [268, 270, 272, 274, 276, 278] rfl
set_option maxRecDepth 20000 in
theorem lw_in_X3 : ∀ w ∈ wsX30, w ∈ lw_tbl := lw_inp [315, 317, 319, 321, 323, 325, 327, 329, 331, 333, 335, 337, 339, 341, 343, 345, 347] rfl
set_option maxRecDepth 20000 in
theorem lw_in_X2 : ∀ w ∈ wsX20, w ∈ lw_tbl := lw_inp [434, 436, 438, 440, 442, 444] rfl
set_option maxRecDepth 20000 in
theorem lw_in_X5 : ∀ w ∈ wsX50, w ∈ lw_tbl := lw_inp [388, 390, 392, 394, 396, 398, 400, 402, 404, 406] rfl
set_option maxRecDepth 20000 in
theorem lw_in_X6 : ∀ w ∈ wsX60, w ∈ lw_tbl := lw_inp [419, 421, 423, 425] rfl
theorem wsL_law_in0 : ∀ w ∈ wsL_law0, w ∈ lw_tbl := fun w h => (List.mem_append.mp h).elim (fun h => (List.mem_append.mp h).elim (fun h => (List.mem_append.mp h).elim (fun h => (List.mem_append.mp h).elim (fun h => (List.mem_append.mp h).elim (fun h => (List.mem_append.mp h).elim (fun h => (List.mem_append.mp h).elim (fun h => (List.mem_append.mp h).elim (fun h => (List.mem_append.mp h).elim (fun h => (List.mem_append.mp h).elim (fun h => (List.mem_append.mp h).elim (fun h => (List.mem_append.mp h).elim (fun h => lw_in_r1 w h) (fun h => (List.mem_append.mp h).elim (fun h => lw_in_r2 w h) (fun h => (List.mem_append.mp h).elim (fun h => lw_in_r3 w h) (fun h => (List.mem_append.mp h).elim (fun h => lw_in_r4 w h) (fun h => (List.mem_append.mp h).elim (fun h => lw_in_r5 w h) (fun h => (List.mem_append.mp h).elim (fun h => lw_in_r6 w h) (fun h => (List.mem_append.mp h).elim (fun h => lw_in_r7 w h) (fun h => (List.mem_append.mp h).elim (fun h => lw_in_r8 w h) (fun h => (List.mem_append.mp h).elim (fun h => lw_in_r9 w h) (fun h => (List.mem_append.mp h).elim (fun h => lw_in_r10 w h) (fun h => (List.mem_append.mp h).elim (fun h => lw_in_r11 w h) (fun h => (List.mem_append.mp h).elim (fun h => lw_in_r12 w h) (fun h => (List.mem_append.mp h).elim (fun h => lw_in_r13 w h) (fun h => (List.mem_append.mp h).elim (fun h => lw_in_r14 w h) (fun h => (List.mem_append.mp h).elim (fun h => lw_in_r15 w h) (fun h => (List.mem_append.mp h).elim (fun h => lw_in_r16 w h) (fun h => (List.mem_append.mp h).elim (fun h => lw_in_r17 w h) (fun h => (List.mem_append.mp h).elim (fun h => lw_in_r18 w h) (fun h => (List.mem_append.mp h).elim (fun h => lw_in_r19 w h) (fun h => (List.mem_append.mp h).elim (fun h => lw_in_r20 w h) (fun h => (List.mem_append.mp h).elim (fun h => lw_in_r21 w h) (fun h => (List.mem_append.mp h).elim (fun h => lw_in_r22 w h) (fun h => (List.mem_append.mp h).elim (fun h => lw_in_r23 w h) (fun h => (List.mem_append.mp h).elim (fun h => lw_in_r24 w h) (fun h => (List.mem_append.mp h).elim (fun h => lw_in_r25 w h) (fun h => (List.mem_append.mp h).elim (fun h => lw_in_r26 w h) (fun h => (List.mem_append.mp h).elim (fun h => lw_in_r27 w h) (fun h => (List.mem_append.mp h).elim (fun h => lw_in_r28 w h) (fun h => (List.mem_append.mp h).elim (fun h => lw_in_r29 w h) (fun h => (List.mem_append.mp h).elim (fun h => lw_in_r30 w h) (fun h => (List.mem_append.mp h).elim (fun h => lw_in_r31 w h) (fun h => (List.mem_append.mp h).elim (fun h => lw_in_r32 w h) (fun h => (List.mem_append.mp h).elim (fun h => lw_in_r33 w h) (fun h => (List.mem_append.mp h).elim (fun h => lw_in_r34 w h) (fun h => (List.mem_append.mp h).elim (fun h => lw_in_r35 w h) (fun h => (List.mem_append.mp h).elim (fun h => lw_in_r36 w h) (fun h => (List.mem_append.mp h).elim (fun h => lw_in_r37 w h) (fun h => (List.mem_append.mp h).elim (fun h => lw_in_r38 w h) (fun h => (List.mem_append.mp h).elim (fun h => lw_in_r39 w h) (fun h => (List.mem_append.mp h).elim (fun h => lw_in_r40 w h) (fun h => (List.mem_append.mp h).elim (fun h => lw_in_r41 w h) (fun h => (List.mem_append.mp h).elim (fun h => lw_in_r42 w h) (fun h => (List.mem_append.mp h).elim (fun h => lw_in_r43 w h) (fun h => lw_in_r44 w h)))))))))))))))))))))))))))))))))))))))))))) (fun h => lw_in_X8 w h)) (fun h => lw_in_X9 w h)) (fun h => lw_in_X7 w h)) (fun h => lw_in_X4 w h)) (fun h => lw_in_X0 w h)) (fun h => lw_in_X1 w h)) (fun h => lw_in_X3 w h)) (fun h => lw_in_X2 w h)) (fun h => lw_in_X5 w h)) (fun h => lw_in_X6 w h)) (fun h => absurd h (List.not_mem_nil))
theorem wsL_law_x0 : ∀ w ∈ (vx_atS RX8 67 "java/lang/IllegalArgumentException" ["java/lang/RuntimeException", "java/lang/Exception"]).filter goodWord, w ∈ lw_tbl := by decide +kernel
theorem wsL_law_x1 : ∀ w ∈ (vx_atS RX8 78 "java/lang/IllegalStateException" ["java/lang/RuntimeException", "java/lang/Exception"]).filter goodWord, w ∈ lw_tbl := by decide +kernel
theorem wsL_law_in : ∀ w ∈ wsL_law, w ∈ lw_tbl := fun w h => (List.mem_append.mp h).elim (fun h => (List.mem_append.mp h).elim (fun h => wsL_law_in0 w h) (fun h => wsL_law_x0 w h)) (fun h => wsL_law_x1 w h)
theorem inlX0 : ∀ w ∈ wsX00, w ∈ wsL_law := fun _ h => List.mem_append_left _ (List.mem_append_left _ (List.mem_append_left _ (List.mem_append_left _ (List.mem_append_left _ (List.mem_append_left _ (List.mem_append_left _ (List.mem_append_left _ (List.mem_append_right _ h))))))))
theorem inX0 : ∀ w ∈ wsX00, w ∈ lw_tbl := lw_in_X0
theorem inlX1 : ∀ w ∈ wsX10, w ∈ wsL_law := fun _ h => List.mem_append_left _ (List.mem_append_left _ (List.mem_append_left _ (List.mem_append_left _ (List.mem_append_left _ (List.mem_append_left _ (List.mem_append_left _ (List.mem_append_right _ h)))))))
theorem inX1 : ∀ w ∈ wsX10, w ∈ lw_tbl := lw_in_X1
theorem inlX2 : ∀ w ∈ wsX20, w ∈ wsL_law := fun _ h => List.mem_append_left _ (List.mem_append_left _ (List.mem_append_left _ (List.mem_append_left _ (List.mem_append_left _ (List.mem_append_right _ h)))))
theorem inX2 : ∀ w ∈ wsX20, w ∈ lw_tbl := lw_in_X2
theorem inlX3 : ∀ w ∈ wsX30, w ∈ wsL_law := fun _ h => List.mem_append_left _ (List.mem_append_left _ (List.mem_append_left _ (List.mem_append_left _ (List.mem_append_left _ (List.mem_append_left _ (List.mem_append_right _ h))))))
theorem inX3 : ∀ w ∈ wsX30, w ∈ lw_tbl := lw_in_X3
theorem inlX4 : ∀ w ∈ wsX40, w ∈ wsL_law := fun _ h => List.mem_append_left _ (List.mem_append_left _ (List.mem_append_left _ (List.mem_append_left _ (List.mem_append_left _ (List.mem_append_left _ (List.mem_append_left _ (List.mem_append_left _ (List.mem_append_left _ (List.mem_append_right _ h)))))))))
theorem inX4 : ∀ w ∈ wsX40, w ∈ lw_tbl := lw_in_X4
theorem inlX5 : ∀ w ∈ wsX50, w ∈ wsL_law := fun _ h => List.mem_append_left _ (List.mem_append_left _ (List.mem_append_left _ (List.mem_append_left _ (List.mem_append_right _ h))))
theorem inX5 : ∀ w ∈ wsX50, w ∈ lw_tbl := lw_in_X5
theorem inlX6 : ∀ w ∈ wsX60, w ∈ wsL_law := fun _ h => List.mem_append_left _ (List.mem_append_left _ (List.mem_append_left _ (List.mem_append_right _ h)))
theorem inX6 : ∀ w ∈ wsX60, w ∈ lw_tbl := lw_in_X6
theorem inlX7 : ∀ w ∈ wsX70, w ∈ wsL_law := fun _ h => List.mem_append_left _ (List.mem_append_left _ (List.mem_append_left _ (List.mem_append_left _ (List.mem_append_left _ (List.mem_append_left _ (List.mem_append_left _ (List.mem_append_left _ (List.mem_append_left _ (List.mem_append_left _ (List.mem_append_right _ h))))))))))
theorem inX7 : ∀ w ∈ wsX70, w ∈ lw_tbl := lw_in_X7
theorem inlX8 : ∀ w ∈ wsX80, w ∈ wsL_law := fun _ h => List.mem_append_left _ (List.mem_append_left _ (List.mem_append_left _ (List.mem_append_left _ (List.mem_append_left _ (List.mem_append_left _ (List.mem_append_left _ (List.mem_append_left _ (List.mem_append_left _ (List.mem_append_left _ (List.mem_append_left _ (List.mem_append_left _ (List.mem_append_right _ h))))))))))))
theorem inX8 : ∀ w ∈ wsX80, w ∈ lw_tbl := lw_in_X8
theorem inlX9 : ∀ w ∈ wsX90, w ∈ wsL_law := fun _ h => List.mem_append_left _ (List.mem_append_left _ (List.mem_append_left _ (List.mem_append_left _ (List.mem_append_left _ (List.mem_append_left _ (List.mem_append_left _ (List.mem_append_left _ (List.mem_append_left _ (List.mem_append_left _ (List.mem_append_left _ (List.mem_append_right _ h)))))))))))
theorem inX9 : ∀ w ∈ wsX90, w ∈ lw_tbl := lw_in_X9
