theorem mem_places {big ws : List Cond} (ps : List Nat) (hp : ws = ps.filterMap (fun i => big[i]?)) : ∀ w ∈ ws, w ∈ big := by
  intro w hw
  rw [hp] at hw
  obtain ⟨i, -, hi⟩ := List.mem_filterMap.mp hw
  exact List.mem_of_getElem? hi
set_option maxRecDepth 20000 in
theorem lwr_1 : ∀ w ∈ wsL_law_r1, w ∈ lw_tbl := mem_places [124, 125, 106, 1210, 1211, 115, 1827, 126, 127, 128, 129, 130, 131, 132, 412, 171, 413, 414, 134, 135, 107, 415, 251, 252] (by decide +kernel)
set_option maxRecDepth 20000 in
theorem lwr_2 : ∀ w ∈ wsL_law_r2, w ∈ lw_tbl := mem_places [110, 416, 266, 267, 111, 417, 377, 378, 114, 418, 136, 137, 138, 139, 140, 141, 108, 238, 172, 173, 109, 240, 143, 144] (by decide +kernel)
set_option maxRecDepth 20000 in
theorem lwr_3 : ∀ w ∈ wsL_law_r3, w ∈ lw_tbl := mem_places [145, 174, 175, 176, 177, 191, 195, 198, 200, 208, 202, 203, 206, 253, 254, 255, 256, 259, 268, 269, 270, 271, 272, 273] (by decide +kernel)
set_option maxRecDepth 20000 in
theorem lwr_4 : ∀ w ∈ wsL_law_r4, w ∈ lw_tbl := mem_places [112, 333, 296, 297, 113, 335, 343, 345, 274, 275, 276, 277, 281, 283, 285, 299, 300, 301, 379, 380, 381, 382, 392, 394] (by decide +kernel)
set_option maxRecDepth 20000 in
theorem lwr_5 : ∀ w ∈ wsL_law_r5, w ∈ lw_tbl := mem_places [1212, 1213, 1214, 1215, 1139, 1217, 1358, 1219, 1220, 1221, 1222, 1223, 1224, 1225, 1226, 1227, 1232, 1235, 1244, 1245, 1249, 1250, 1254, 1256] (by decide +kernel)
set_option maxRecDepth 20000 in
theorem lwr_6 : ∀ w ∈ wsL_law_r6, w ∈ lw_tbl := mem_places [1257, 1261, 434, 435, 436, 437, 438, 439, 440, 1359, 1360, 1361, 1362, 1216, 1218, 1363, 1365, 36, 1366, 441, 442, 443, 444, 1367] (by decide +kernel)
set_option maxRecDepth 20000 in
theorem lwr_7 : ∀ w ∈ wsL_law_r7, w ∈ lw_tbl := mem_places [1368, 1369, 1370, 1371, 1372, 1373, 445, 446, 447, 448, 449, 450, 451, 452, 453, 454, 455, 457, 0, 458, 459, 116, 460, 461] (by decide +kernel)
set_option maxRecDepth 20000 in
theorem lwr_8 : ∀ w ∈ wsL_law_r8, w ∈ lw_tbl := mem_places [462, 463, 464, 512, 466, 467, 117, 515, 489, 520, 468, 469, 470, 471, 478, 480, 490, 548, 549, 550, 551, 491, 494, 497] (by decide +kernel)
set_option maxRecDepth 20000 in
theorem lwr_9 : ∀ w ∈ wsL_law_r9, w ∈ lw_tbl := mem_places [504, 506, 508, 510, 473, 552, 553, 554, 555, 146, 158, 556, 557, 558, 559, 500, 502, 560, 561, 118, 562, 152, 156, 591] (by decide +kernel)
set_option maxRecDepth 20000 in
theorem lwr_10 : ∀ w ∈ wsL_law_r10, w ∈ lw_tbl := mem_places [580, 581, 180, 209, 563, 564, 565, 566, 567, 568, 569, 150, 570, 155, 571, 572, 573, 574, 579, 582, 178, 182, 184, 477] (by decide +kernel)
set_option maxRecDepth 20000 in
theorem lwr_11 : ∀ w ∈ wsL_law_r11, w ∈ lw_tbl := mem_places [189, 479, 575, 577, 1, 578, 584, 585, 586, 587, 588, 589, 590, 592, 593, 594, 595, 188, 596, 597, 598, 599, 604, 153] (by decide +kernel)
set_option maxRecDepth 20000 in
theorem lwr_12 : ∀ w ∈ wsL_law_r12, w ∈ lw_tbl := mem_places [157, 600, 601, 602, 603, 605, 1374, 1375, 1376, 1377, 1378, 1379, 1380, 1381, 1382, 1383, 1384, 1386, 37, 1387, 1388, 1390, 38, 1391] (by decide +kernel)
set_option maxRecDepth 20000 in
theorem lwr_13 : ∀ w ∈ wsL_law_r13, w ∈ lw_tbl := mem_places [1392, 1394, 39, 1395, 1404, 1405, 1229, 1230, 1231, 1441, 1396, 1398, 40, 1399, 1400, 1402, 41, 1403, 1406, 1408, 42, 1409, 1228, 1410] (by decide +kernel)
set_option maxRecDepth 20000 in
theorem lwr_14 : ∀ w ∈ wsL_law_r14, w ∈ lw_tbl := mem_places [1412, 43, 1413, 1414, 1421, 1415, 1417, 44, 1418, 1419, 1420, 1422, 1424, 45, 1425, 1426, 1428, 46, 1429, 1430, 1432, 47, 1433, 1434] (by decide +kernel)
set_option maxRecDepth 20000 in
theorem lwr_15 : ∀ w ∈ wsL_law_r15, w ∈ lw_tbl := mem_places [1435, 1436, 1437, 1439, 48, 1440, 1442, 1444, 49, 1445, 1446, 1448, 50, 1449, 1450, 1452, 51, 1453, 1454, 1456, 52, 1457, 1458, 1460] (by decide +kernel)
set_option maxRecDepth 20000 in
theorem lwr_16 : ∀ w ∈ wsL_law_r16, w ∈ lw_tbl := mem_places [53, 1461, 606, 607, 608, 609, 610, 612, 2, 613, 614, 615, 616, 617, 618, 619, 620, 621, 622, 623, 624, 625, 472, 626] (by decide +kernel)
set_option maxRecDepth 20000 in
theorem lwr_17 : ∀ w ∈ wsL_law_r17, w ∈ lw_tbl := mem_places [627, 628, 629, 630, 631, 632, 633, 634, 635, 636, 637, 638, 639, 640, 641, 642, 481, 205, 193, 643, 644, 645, 646, 196] (by decide +kernel)
set_option maxRecDepth 20000 in
theorem lwr_18 : ∀ w ∈ wsL_law_r18, w ∈ lw_tbl := mem_places [186, 647, 648, 649, 650, 651, 652, 653, 654, 655, 656, 657, 658, 659, 660, 661, 662, 663, 664, 665, 666, 667, 669, 671] (by decide +kernel)
set_option maxRecDepth 20000 in
theorem lwr_19 : ∀ w ∈ wsL_law_r19, w ∈ lw_tbl := mem_places [670, 119, 668, 672, 673, 674, 675, 676, 677, 678, 679, 680, 681, 682, 683, 684, 685, 686, 1462, 1463, 1464, 1465, 1466, 1468] (by decide +kernel)
set_option maxRecDepth 20000 in
theorem lwr_20 : ∀ w ∈ wsL_law_r20, w ∈ lw_tbl := mem_places [54, 1469, 1470, 1471, 1472, 1473, 1475, 55, 1476, 1477, 1479, 56, 1480, 1481, 1483, 57, 1484, 1485, 1487, 58, 1488, 1489, 1491, 59] (by decide +kernel)
set_option maxRecDepth 20000 in
theorem lwr_21 : ∀ w ∈ wsL_law_r21, w ∈ lw_tbl := mem_places [1492, 1497, 1493, 1495, 60, 1496, 1498, 1500, 61, 1501, 1502, 1503, 1504, 1505, 1507, 62, 1508, 1509, 1511, 63, 1512, 687, 688, 689] (by decide +kernel)
set_option maxRecDepth 20000 in
theorem lwr_22 : ∀ w ∈ wsL_law_r22, w ∈ lw_tbl := mem_places [690, 691, 518, 692, 693, 694, 695, 696, 1513, 1514, 1515, 1516, 1517, 697, 698, 699, 700, 701, 702, 703, 704, 705, 706, 707] (by decide +kernel)
set_option maxRecDepth 20000 in
theorem lwr_23 : ∀ w ∈ wsL_law_r23, w ∈ lw_tbl := mem_places [708, 709, 710, 711, 712, 1518, 1519, 1520, 1521, 1522, 1524, 64, 1525, 1526, 713, 714, 715, 716, 514, 160, 509, 1527, 1528, 1529] (by decide +kernel)
set_option maxRecDepth 20000 in
theorem lwr_24 : ∀ w ∈ wsL_law_r24, w ∈ lw_tbl := mem_places [1530, 717, 718, 719, 720, 476, 501, 503, 522, 181, 187, 183, 185, 505, 507, 511, 148, 493, 496, 499, 721, 1531, 1532, 1533] (by decide +kernel)
set_option maxRecDepth 20000 in
theorem lwr_25 : ∀ w ∈ wsL_law_r25, w ∈ lw_tbl := mem_places [1534, 1535, 1536, 722, 723, 724, 725, 194, 197, 727, 199, 201, 726, 1537, 1538, 1539, 1540, 1541, 1543, 65, 1544, 728, 729, 730] (by decide +kernel)
set_option maxRecDepth 20000 in
theorem lwr_26 : ∀ w ∈ wsL_law_r26, w ∈ lw_tbl := mem_places [731, 732, 733, 734, 735, 736, 737, 1545, 1546, 1547, 1548, 738, 739, 740, 741, 742, 743, 1549, 1550, 1551, 1552, 744, 745, 746] (by decide +kernel)
set_option maxRecDepth 20000 in
theorem lwr_27 : ∀ w ∈ wsL_law_r27, w ∈ lw_tbl := mem_places [747, 1553, 1554, 1555, 1556, 748, 749, 750, 751, 752, 753, 754, 755, 756, 1557, 1558, 1559, 1560, 1561, 1563, 66, 1564, 757, 758] (by decide +kernel)
set_option maxRecDepth 20000 in
theorem lwr_28 : ∀ w ∈ wsL_law_r28, w ∈ lw_tbl := mem_places [759, 760, 761, 1565, 1566, 1567, 1568, 762, 763, 764, 765, 766, 767, 768, 769, 770, 1608, 1609, 1610, 1611, 771, 772, 773, 774] (by decide +kernel)
set_option maxRecDepth 20000 in
theorem lwr_29 : ∀ w ∈ wsL_law_r29, w ∈ lw_tbl := mem_places [775, 776, 777, 778, 1569, 1570, 1571, 1572, 779, 780, 781, 782, 783, 784, 785, 786, 787, 788, 789, 790, 1573, 1574, 1575, 1576] (by decide +kernel)
set_option maxRecDepth 20000 in
theorem lwr_30 : ∀ w ∈ wsL_law_r30, w ∈ lw_tbl := mem_places [791, 792, 793, 794, 1577, 1578, 1579, 1580, 795, 796, 797, 798, 1581, 1582, 1583, 1584, 799, 800, 801, 802, 803, 804, 805, 806] (by decide +kernel)
set_option maxRecDepth 20000 in
theorem lwr_31 : ∀ w ∈ wsL_law_r31, w ∈ lw_tbl := mem_places [807, 808, 809, 192, 810, 811, 812, 1585, 1586, 1587, 1588, 1589, 1590, 1591, 813, 814, 815, 816, 817, 818, 819, 820, 517, 151] (by decide +kernel)
set_option maxRecDepth 20000 in
theorem lwr_32 : ∀ w ∈ wsL_law_r32, w ∈ lw_tbl := mem_places [154, 521, 179, 821, 822, 823, 1600, 1601, 1602, 1603, 1604, 1606, 67, 1607, 824, 825, 826, 827, 828, 829, 830, 831, 832, 833] (by decide +kernel)
set_option maxRecDepth 20000 in
theorem lwr_33 : ∀ w ∈ wsL_law_r33, w ∈ lw_tbl := mem_places [834, 836, 3, 837, 207, 204, 838, 1592, 1593, 1594, 1595, 840, 841, 842, 843, 844, 845, 846, 847, 1596, 1597, 1598, 1599, 848] (by decide +kernel)
set_option maxRecDepth 20000 in
theorem lwr_34 : ∀ w ∈ wsL_law_r34, w ∈ lw_tbl := mem_places [849, 850, 851, 852, 1612, 1613, 1614, 1615, 853, 854, 855, 856, 864, 241, 243, 239, 857, 858, 859, 860, 475, 861, 159, 242] (by decide +kernel)
set_option maxRecDepth 20000 in
theorem lwr_35 : ∀ w ∈ wsL_law_r35, w ∈ lw_tbl := mem_places [210, 862, 863, 865, 866, 867, 868, 190, 869, 870, 871, 872, 1616, 1617, 1618, 1619, 1624, 1233, 1234, 1620, 1622, 68, 1623, 1625] (by decide +kernel)
set_option maxRecDepth 20000 in
theorem lwr_36 : ∀ w ∈ wsL_law_r36, w ∈ lw_tbl := mem_places [1627, 69, 1628, 1629, 1631, 70, 1632, 873, 874, 875, 876, 877, 1633, 1634, 1635, 1636, 878, 879, 880, 881, 882, 883, 884, 885] (by decide +kernel)
set_option maxRecDepth 20000 in
theorem lwr_37 : ∀ w ∈ wsL_law_r37, w ∈ lw_tbl := mem_places [886, 1637, 1638, 1639, 1640, 1641, 1643, 71, 1644, 887, 888, 889, 890, 1645, 1646, 1647, 1648, 891, 892, 893, 894, 1649, 1650, 1651] (by decide +kernel)
set_option maxRecDepth 20000 in
theorem lwr_38 : ∀ w ∈ wsL_law_r38, w ∈ lw_tbl := mem_places [1652, 895, 896, 897, 898, 899, 900, 901, 902, 903, 904, 905, 906, 1653, 1654, 1655, 1656, 907, 908, 909, 910, 328, 334, 384] (by decide +kernel)
set_option maxRecDepth 20000 in
theorem lwr_39 : ∀ w ∈ wsL_law_r39, w ∈ lw_tbl := mem_places [911, 912, 913, 914, 327, 279, 336, 339, 341, 342, 344, 308, 915, 917, 4, 918, 329, 331, 919, 920, 921, 922, 302, 923] (by decide +kernel)
set_option maxRecDepth 20000 in
theorem lwr_40 : ∀ w ∈ wsL_law_r40, w ∈ lw_tbl := mem_places [303, 304, 306, 307, 311, 924, 925, 926, 927, 928, 930, 5, 931, 932, 933, 934, 935, 936, 937, 938, 940, 6, 941, 309] (by decide +kernel)
set_option maxRecDepth 20000 in
theorem lwr_41 : ∀ w ∈ wsL_law_r41, w ∈ lw_tbl := mem_places [942, 944, 7, 945, 946, 948, 8, 949, 951, 953, 9, 954, 955, 956, 957, 120, 958, 1828, 959, 960, 961, 962, 963, 1829] (by decide +kernel)
set_option maxRecDepth 20000 in
theorem lwr_42 : ∀ w ∈ wsL_law_r42, w ∈ lw_tbl := mem_places [965, 966, 967, 968, 969, 970, 971, 972, 973, 974, 121, 975, 976, 977, 978, 979, 981, 982, 122, 983, 984, 985, 123, 986] (by decide +kernel)
set_option maxRecDepth 20000 in
theorem lwr_43 : ∀ w ∈ wsL_law_r43, w ∈ lw_tbl := mem_places [987, 988, 989, 990, 991, 992, 993, 994, 995, 996, 997, 999, 1001, 1011, 1013, 10, 1014, 1015, 1017, 11, 1018, 1019, 1021, 12] (by decide +kernel)
set_option maxRecDepth 20000 in
theorem lwr_44 : ∀ w ∈ wsL_law_r44, w ∈ lw_tbl := mem_places [1022, 305, 338, 337, 1023, 1025, 13, 1026, 1027, 1029, 14, 1030, 1031, 1032, 1033, 1034, 278, 1035, 1036, 1037, 1038, 1039, 1040, 1041] (by decide +kernel)
set_option maxRecDepth 20000 in
theorem lwr_45 : ∀ w ∈ wsL_law_r45, w ∈ lw_tbl := mem_places [1042, 1043, 1045, 15, 1046, 1047, 1049, 16, 1050, 310, 1051, 1053, 17, 1054, 1055, 1057, 18, 1058, 1059, 1060, 1061, 1062, 1064, 19] (by decide +kernel)
set_option maxRecDepth 20000 in
theorem lwr_46 : ∀ w ∈ wsL_law_r46, w ∈ lw_tbl := mem_places [1065, 1066, 1068, 20, 1069, 1070, 1072, 21, 1073, 1074, 1076, 22, 1077, 1078, 1080, 23, 1081, 340, 1082, 1084, 24, 1085, 1086, 1088] (by decide +kernel)
set_option maxRecDepth 20000 in
theorem lwr_47 : ∀ w ∈ wsL_law_r47, w ∈ lw_tbl := mem_places [25, 1089, 1090, 1091, 1092, 1093, 383, 385, 387, 389, 391, 393, 1094, 1095, 1096, 1097, 1098, 280, 282, 284, 286, 1099, 1101, 26] (by decide +kernel)
set_option maxRecDepth 20000 in
theorem lwr_48 : ∀ w ∈ wsL_law_r48, w ∈ lw_tbl := mem_places [1102, 1103, 1105, 27, 1106, 1107, 1109, 28, 1110, 1111, 1113, 29, 1114, 1115, 1117, 30, 1118, 1119, 1120, 1122, 31, 1123, 1124, 1126] (by decide +kernel)
set_option maxRecDepth 20000 in
theorem lwr_49 : ∀ w ∈ wsL_law_r49, w ∈ lw_tbl := mem_places [32, 1127, 519, 1129, 1130, 1131, 1132, 1133, 1134, 1135, 1137, 33, 1138, 1657, 1658, 1659, 1660, 1251, 1252, 1253, 1240, 1259, 1661, 1663] (by decide +kernel)
set_option maxRecDepth 20000 in
theorem lwr_50 : ∀ w ∈ wsL_law_r50, w ∈ lw_tbl := mem_places [72, 1664, 1237, 1238, 1239, 1241, 1242, 1236, 1243, 1248, 1665, 1667, 73, 1668, 1669, 1671, 74, 1672, 1673, 1675, 75, 1676, 1677, 1679] (by decide +kernel)
set_option maxRecDepth 20000 in
theorem lwr_51 : ∀ w ∈ wsL_law_r51, w ∈ lw_tbl := mem_places [76, 1680, 1681, 1683, 77, 1684, 1685, 1687, 78, 1688, 1689, 1691, 79, 1692, 1693, 1695, 80, 1696, 1697, 1699, 81, 1700, 1746, 1701] (by decide +kernel)
set_option maxRecDepth 20000 in
theorem lwr_52 : ∀ w ∈ wsL_law_r52, w ∈ lw_tbl := mem_places [1703, 82, 1704, 1705, 1707, 83, 1708, 1709, 1710, 1711, 1713, 84, 1714, 1246, 1247, 1715, 1717, 85, 1718, 1719, 1720, 1722, 86, 1723] (by decide +kernel)
set_option maxRecDepth 20000 in
theorem lwr_53 : ∀ w ∈ wsL_law_r53, w ∈ lw_tbl := mem_places [1724, 1726, 87, 1727, 1728, 1729, 1730, 1732, 88, 1733, 1734, 1736, 89, 1737, 1738, 1740, 90, 1741, 1742, 1744, 91, 1745, 1747, 1749] (by decide +kernel)
set_option maxRecDepth 20000 in
theorem lwr_54 : ∀ w ∈ wsL_law_r54, w ∈ lw_tbl := mem_places [92, 1750, 1751, 1753, 93, 1754, 1258, 1255, 1260, 1755, 1757, 94, 1758, 1759, 1761, 95, 1762, 1763, 1764, 1765, 1766, 1768, 96, 1769] (by decide +kernel)
set_option maxRecDepth 20000 in
theorem lwr_55 : ∀ w ∈ wsL_law_r55, w ∈ lw_tbl := mem_places [1770, 1772, 97, 1773, 1774, 1776, 98, 1777, 1778, 1780, 99, 1781, 1782, 1784, 100, 1785, 1140, 1141, 1142, 1143, 330, 332, 386, 388] (by decide +kernel)
set_option maxRecDepth 20000 in
theorem lwr_56 : ∀ w ∈ wsL_law_r56, w ∈ lw_tbl := mem_places [390, 1786, 1787, 1788, 1789, 1144, 1145, 1146, 1147, 258, 1148, 1149, 1150, 1151, 516, 492, 495, 498, 513, 147, 474, 257, 1153, 1154] (by decide +kernel)
set_option maxRecDepth 20000 in
theorem lwr_57 : ∀ w ∈ wsL_law_r57, w ∈ lw_tbl := mem_places [1156, 1157, 1790, 1791, 1792, 1793, 1262, 1794, 1796, 101, 1797, 1798, 1800, 102, 1801, 1802, 1158, 1159, 1160, 1161, 260, 1803, 1804, 1805] (by decide +kernel)
set_option maxRecDepth 20000 in
theorem lwr_58 : ∀ w ∈ wsL_law_r58, w ∈ lw_tbl := mem_places [1806, 1162, 1163, 1164, 1165, 1166, 1167, 1168, 1169, 1170, 1171, 1172, 1173, 1174, 1175, 1176, 1177, 1178, 1179, 1180, 1807, 1808, 1809, 1810] (by decide +kernel)
set_option maxRecDepth 20000 in
theorem lwr_59 : ∀ w ∈ wsL_law_r59, w ∈ lw_tbl := mem_places [1811, 1813, 103, 1814, 1815, 1817, 104, 1818, 1181, 1182, 1183, 1184, 1185, 1186, 1187, 1188, 149, 161, 1189, 1190, 1191, 1192, 1193, 1194] (by decide +kernel)
set_option maxRecDepth 20000 in
theorem lwr_60 : ∀ w ∈ wsL_law_r60, w ∈ lw_tbl := mem_places [1195, 1196, 1197, 1819, 1820, 1821, 1822, 1198, 1199, 1200, 1201, 1202, 1204, 34, 1205, 1206, 1208, 35, 1209, 1823, 1824, 1825, 1826] (by decide +kernel)
set_option maxRecDepth 20000 in
theorem lwb_X10 : ∀ w ∈ wsX100, w ∈ lw_tbl := mem_places [419, 421, 423, 425, 427, 429, 431] (by decide +kernel)
set_option maxRecDepth 20000 in
theorem lwb_X11 : ∀ w ∈ wsX110, w ∈ lw_tbl := mem_places [1263, 1265, 1267, 1269, 1271, 1273, 1275, 1277, 1279, 1281, 1283, 1285, 1287, 1289, 1291, 1293, 1295, 1297, 1299, 1301, 1303, 1305, 1307, 1309, 1311, 1313, 1315, 1317, 1319, 1321, 1323, 1325, 1327, 1329, 1331, 1333, 1335, 1337, 1339, 1341, 1343, 1345, 1347, 1349, 1351, 1353, 1355] (by decide +kernel)
set_option maxRecDepth 20000 in
theorem lwb_X5 : ∀ w ∈ wsX50, w ∈ lw_tbl := mem_places [244, 246, 248] (by decide +kernel)
set_option maxRecDepth 20000 in
theorem lwb_X1 : ∀ w ∈ wsX10, w ∈ lw_tbl := mem_places [261, 263] (by decide +kernel)
set_option maxRecDepth 20000 in
theorem lwb_X6 : ∀ w ∈ wsX60, w ∈ lw_tbl := mem_places [346, 348, 350, 352, 354, 356, 358, 360, 362, 364, 366, 368, 370, 372, 374] (by decide +kernel)
set_option maxRecDepth 20000 in
theorem lwb_X4 : ∀ w ∈ wsX40, w ∈ lw_tbl := mem_places [395, 397, 399, 401, 403, 405, 407, 409] (by decide +kernel)
set_option maxRecDepth 20000 in
theorem lwb_X0 : ∀ w ∈ wsX00, w ∈ lw_tbl := mem_places [162, 164, 166, 168] (by decide +kernel)
set_option maxRecDepth 20000 in
theorem lwb_X3 : ∀ w ∈ wsX30, w ∈ lw_tbl := mem_places [211, 213, 215, 217, 219, 221, 223, 225, 227, 229, 231, 233, 235] (by decide +kernel)
set_option maxRecDepth 20000 in
theorem lwb_X7 : ∀ w ∈ wsX70, w ∈ lw_tbl := mem_places [287, 289, 291, 293] (by decide +kernel)
set_option maxRecDepth 20000 in
theorem lwb_X8 : ∀ w ∈ wsX80, w ∈ lw_tbl := mem_places [312, 314, 316, 318, 320, 322, 324] (by decide +kernel)
set_option maxRecDepth 20000 in
theorem lwb_X9 : ∀ w ∈ wsX90, w ∈ lw_tbl := mem_places [523, 525, 527, 529, 531, 533, 535, 537, 539, 541, 543, 545] (by decide +kernel)
set_option maxRecDepth 20000 in
theorem lwb_X2 : ∀ w ∈ wsX20, w ∈ lw_tbl := mem_places [482, 484, 486] (by decide +kernel)
set_option maxRecDepth 20000 in
theorem wsL_law_in : ∀ w ∈ wsL_law, w ∈ lw_tbl :=
  List.forall_mem_append.mpr ⟨List.forall_mem_append.mpr ⟨List.forall_mem_append.mpr ⟨List.forall_mem_append.mpr ⟨List.forall_mem_append.mpr ⟨List.forall_mem_append.mpr ⟨List.forall_mem_append.mpr ⟨List.forall_mem_append.mpr ⟨List.forall_mem_append.mpr ⟨List.forall_mem_append.mpr ⟨List.forall_mem_append.mpr ⟨List.forall_mem_append.mpr ⟨List.forall_mem_append.mpr ⟨List.forall_mem_append.mpr ⟨lwr_1, List.forall_mem_append.mpr ⟨lwr_2, List.forall_mem_append.mpr ⟨lwr_3, List.forall_mem_append.mpr ⟨lwr_4, List.forall_mem_append.mpr ⟨lwr_5, List.forall_mem_append.mpr ⟨lwr_6, List.forall_mem_append.mpr ⟨lwr_7, List.forall_mem_append.mpr ⟨lwr_8, List.forall_mem_append.mpr ⟨lwr_9, List.forall_mem_append.mpr ⟨lwr_10, List.forall_mem_append.mpr ⟨lwr_11, List.forall_mem_append.mpr ⟨lwr_12, List.forall_mem_append.mpr ⟨lwr_13, List.forall_mem_append.mpr ⟨lwr_14, List.forall_mem_append.mpr ⟨lwr_15, List.forall_mem_append.mpr ⟨lwr_16, List.forall_mem_append.mpr ⟨lwr_17, List.forall_mem_append.mpr ⟨lwr_18, List.forall_mem_append.mpr ⟨lwr_19, List.forall_mem_append.mpr ⟨lwr_20, List.forall_mem_append.mpr ⟨lwr_21, List.forall_mem_append.mpr ⟨lwr_22, List.forall_mem_append.mpr ⟨lwr_23, List.forall_mem_append.mpr ⟨lwr_24, List.forall_mem_append.mpr ⟨lwr_25, List.forall_mem_append.mpr ⟨lwr_26, List.forall_mem_append.mpr ⟨lwr_27, List.forall_mem_append.mpr ⟨lwr_28, List.forall_mem_append.mpr ⟨lwr_29, List.forall_mem_append.mpr ⟨lwr_30, List.forall_mem_append.mpr ⟨lwr_31, List.forall_mem_append.mpr ⟨lwr_32, List.forall_mem_append.mpr ⟨lwr_33, List.forall_mem_append.mpr ⟨lwr_34, List.forall_mem_append.mpr ⟨lwr_35, List.forall_mem_append.mpr ⟨lwr_36, List.forall_mem_append.mpr ⟨lwr_37, List.forall_mem_append.mpr ⟨lwr_38, List.forall_mem_append.mpr ⟨lwr_39, List.forall_mem_append.mpr ⟨lwr_40, List.forall_mem_append.mpr ⟨lwr_41, List.forall_mem_append.mpr ⟨lwr_42, List.forall_mem_append.mpr ⟨lwr_43, List.forall_mem_append.mpr ⟨lwr_44, List.forall_mem_append.mpr ⟨lwr_45, List.forall_mem_append.mpr ⟨lwr_46, List.forall_mem_append.mpr ⟨lwr_47, List.forall_mem_append.mpr ⟨lwr_48, List.forall_mem_append.mpr ⟨lwr_49, List.forall_mem_append.mpr ⟨lwr_50, List.forall_mem_append.mpr ⟨lwr_51, List.forall_mem_append.mpr ⟨lwr_52, List.forall_mem_append.mpr ⟨lwr_53, List.forall_mem_append.mpr ⟨lwr_54, List.forall_mem_append.mpr ⟨lwr_55, List.forall_mem_append.mpr ⟨lwr_56, List.forall_mem_append.mpr ⟨lwr_57, List.forall_mem_append.mpr ⟨lwr_58, List.forall_mem_append.mpr ⟨lwr_59, lwr_60⟩⟩⟩⟩⟩⟩⟩⟩⟩⟩⟩⟩⟩⟩⟩⟩⟩⟩⟩⟩⟩⟩⟩⟩⟩⟩⟩⟩⟩⟩⟩⟩⟩⟩⟩⟩⟩⟩⟩⟩⟩⟩⟩⟩⟩⟩⟩⟩⟩⟩⟩⟩⟩⟩⟩⟩⟩⟩⟩, lwb_X10⟩, lwb_X11⟩, lwb_X5⟩, lwb_X1⟩, lwb_X6⟩, lwb_X4⟩, lwb_X0⟩, lwb_X3⟩, lwb_X7⟩, lwb_X8⟩, lwb_X9⟩, lwb_X2⟩, fun _ h => absurd h List.not_mem_nil⟩
theorem inlX0 : ∀ w ∈ wsX00, w ∈ wsL_law := fun _ h => List.mem_append_left _ (List.mem_append_left _ (List.mem_append_left _ (List.mem_append_left _ (List.mem_append_left _ (List.mem_append_left _ (List.mem_append_right _ h))))))
theorem inX0 : ∀ w ∈ wsX00, w ∈ lw_tbl := fun w h => wsL_law_in w (inlX0 w h)
theorem inlX1 : ∀ w ∈ wsX10, w ∈ wsL_law := fun _ h => List.mem_append_left _ (List.mem_append_left _ (List.mem_append_left _ (List.mem_append_left _ (List.mem_append_left _ (List.mem_append_left _ (List.mem_append_left _ (List.mem_append_left _ (List.mem_append_left _ (List.mem_append_right _ h)))))))))
theorem inX1 : ∀ w ∈ wsX10, w ∈ lw_tbl := fun w h => wsL_law_in w (inlX1 w h)
theorem inlX2 : ∀ w ∈ wsX20, w ∈ wsL_law := fun _ h => List.mem_append_left _ (List.mem_append_right _ h)
theorem inX2 : ∀ w ∈ wsX20, w ∈ lw_tbl := fun w h => wsL_law_in w (inlX2 w h)
theorem inlX3 : ∀ w ∈ wsX30, w ∈ wsL_law := fun _ h => List.mem_append_left _ (List.mem_append_left _ (List.mem_append_left _ (List.mem_append_left _ (List.mem_append_left _ (List.mem_append_right _ h)))))
theorem inX3 : ∀ w ∈ wsX30, w ∈ lw_tbl := fun w h => wsL_law_in w (inlX3 w h)
theorem inlX4 : ∀ w ∈ wsX40, w ∈ wsL_law := fun _ h => List.mem_append_left _ (List.mem_append_left _ (List.mem_append_left _ (List.mem_append_left _ (List.mem_append_left _ (List.mem_append_left _ (List.mem_append_left _ (List.mem_append_right _ h)))))))
theorem inX4 : ∀ w ∈ wsX40, w ∈ lw_tbl := fun w h => wsL_law_in w (inlX4 w h)
theorem inlX5 : ∀ w ∈ wsX50, w ∈ wsL_law := fun _ h => List.mem_append_left _ (List.mem_append_left _ (List.mem_append_left _ (List.mem_append_left _ (List.mem_append_left _ (List.mem_append_left _ (List.mem_append_left _ (List.mem_append_left _ (List.mem_append_left _ (List.mem_append_left _ (List.mem_append_right _ h))))))))))
theorem inX5 : ∀ w ∈ wsX50, w ∈ lw_tbl := fun w h => wsL_law_in w (inlX5 w h)
theorem inlX6 : ∀ w ∈ wsX60, w ∈ wsL_law := fun _ h => List.mem_append_left _ (List.mem_append_left _ (List.mem_append_left _ (List.mem_append_left _ (List.mem_append_left _ (List.mem_append_left _ (List.mem_append_left _ (List.mem_append_left _ (List.mem_append_right _ h))))))))
theorem inX6 : ∀ w ∈ wsX60, w ∈ lw_tbl := fun w h => wsL_law_in w (inlX6 w h)
theorem inlX7 : ∀ w ∈ wsX70, w ∈ wsL_law := fun _ h => List.mem_append_left _ (List.mem_append_left _ (List.mem_append_left _ (List.mem_append_left _ (List.mem_append_right _ h))))
theorem inX7 : ∀ w ∈ wsX70, w ∈ lw_tbl := fun w h => wsL_law_in w (inlX7 w h)
theorem inlX8 : ∀ w ∈ wsX80, w ∈ wsL_law := fun _ h => List.mem_append_left _ (List.mem_append_left _ (List.mem_append_left _ (List.mem_append_right _ h)))
theorem inX8 : ∀ w ∈ wsX80, w ∈ lw_tbl := fun w h => wsL_law_in w (inlX8 w h)
theorem inlX9 : ∀ w ∈ wsX90, w ∈ wsL_law := fun _ h => List.mem_append_left _ (List.mem_append_left _ (List.mem_append_right _ h))
theorem inX9 : ∀ w ∈ wsX90, w ∈ lw_tbl := fun w h => wsL_law_in w (inlX9 w h)
theorem inlX10 : ∀ w ∈ wsX100, w ∈ wsL_law := fun _ h => List.mem_append_left _ (List.mem_append_left _ (List.mem_append_left _ (List.mem_append_left _ (List.mem_append_left _ (List.mem_append_left _ (List.mem_append_left _ (List.mem_append_left _ (List.mem_append_left _ (List.mem_append_left _ (List.mem_append_left _ (List.mem_append_left _ (List.mem_append_right _ h))))))))))))
theorem inX10 : ∀ w ∈ wsX100, w ∈ lw_tbl := fun w h => wsL_law_in w (inlX10 w h)
theorem inlX11 : ∀ w ∈ wsX110, w ∈ wsL_law := fun _ h => List.mem_append_left _ (List.mem_append_left _ (List.mem_append_left _ (List.mem_append_left _ (List.mem_append_left _ (List.mem_append_left _ (List.mem_append_left _ (List.mem_append_left _ (List.mem_append_left _ (List.mem_append_left _ (List.mem_append_left _ (List.mem_append_right _ h)))))))))))
theorem inX11 : ∀ w ∈ wsX110, w ∈ lw_tbl := fun w h => wsL_law_in w (inlX11 w h)
