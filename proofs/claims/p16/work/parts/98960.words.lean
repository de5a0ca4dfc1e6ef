set_option maxRecDepth 20000 in
theorem sy_g_1 : GoodIn lw_tbl wsL_law_r1 := goodIn_r _ [137, 138, 117, 1210, 1211, 127, 139, 140, 141, 142, 143, 144, 145, 146, 118, 473, 474, 234, 475, 476, 477, 478, 236, 237] rfl (by decide +kernel)
set_option maxRecDepth 20000 in
theorem sy_g_2 : GoodIn lw_tbl wsL_law_r2 := goodIn_r _ [120, 479, 277, 278, 121, 480, 359, 360, 122, 481, 482, 483, 484, 383, 384, 123, 485, 486, 416, 417, 124, 487, 437, 438] rfl (by decide +kernel)
set_option maxRecDepth 20000 in
theorem sy_g_3 : GoodIn lw_tbl wsL_law_r3 := goodIn_r _ [125, 488, 458, 459, 126, 489, 415, 490, 147, 148, 149, 150, 160, 164, 167, 170, 172, 174, 177, 180, 183, 185, 187, 151] rfl (by decide +kernel)
set_option maxRecDepth 20000 in
theorem sy_g_4 : GoodIn lw_tbl wsL_law_r4 := goodIn_r _ [191, 193, 195, 197, 199, 157, 159, 158, 119, 239, 240, 241, 242, 243, 244, 245, 246, 247, 248, 249, 250, 251, 252, 280] rfl (by decide +kernel)
set_option maxRecDepth 20000 in
theorem sy_g_5 : GoodIn lw_tbl wsL_law_r5 := goodIn_r _ [281, 282, 283, 285, 287, 290, 358, 292, 295, 297, 300, 303, 305, 307, 310, 311, 312, 315, 316, 318, 319, 361, 362, 363] rfl (by decide +kernel)
set_option maxRecDepth 20000 in
theorem sy_g_6 : GoodIn lw_tbl wsL_law_r6 := goodIn_r _ [364, 365, 368, 369, 370, 371, 367, 386, 387, 388, 389, 391, 393, 395, 397, 398, 399, 419, 420, 421, 422, 424, 426, 427] rfl (by decide +kernel)
set_option maxRecDepth 20000 in
theorem sy_g_7 : GoodIn lw_tbl wsL_law_r7 := goodIn_r _ [440, 441, 442, 443, 445, 447, 448, 461, 462, 463, 464, 466, 1212, 1213, 1214, 1215, 1218, 1219, 1220, 1221, 1222, 1227, 1228, 1229] rfl (by decide +kernel)
set_option maxRecDepth 20000 in
theorem sy_g_8 : GoodIn lw_tbl wsL_law_r8 := goodIn_r _ [1216, 1233, 1234, 1235, 1236, 1237, 1238, 1239, 1243, 994, 1245, 1246, 1247, 1249, 1250, 1251, 1252, 1260, 1261, 1264, 1266, 1267, 1269, 1270] rfl (by decide +kernel)
set_option maxRecDepth 20000 in
theorem sy_g_9 : GoodIn lw_tbl wsL_law_r9 := goodIn_r _ [1271, 1272, 1273, 1274, 1275, 528, 529, 530, 531, 539, 541, 162, 532, 533, 534, 535, 537, 0, 538, 543, 544, 545, 546, 548] rfl (by decide +kernel)
set_option maxRecDepth 20000 in
theorem sy_g_10 : GoodIn lw_tbl wsL_law_r10 := goodIn_r _ [1, 549, 1414, 1415, 1416, 1417, 1399, 1400, 1401, 1402, 1404, 44, 1405, 1217, 1406, 1408, 45, 1409, 550, 551, 552, 553, 554, 166] rfl (by decide +kernel)
set_option maxRecDepth 20000 in
theorem sy_g_11 : GoodIn lw_tbl wsL_law_r11 := goodIn_r _ [1418, 1419, 1420, 1421, 1422, 1424, 46, 1425, 556, 557, 558, 559, 169, 1426, 1427, 1428, 1429, 560, 561, 562, 563, 173, 564, 565] rfl (by decide +kernel)
set_option maxRecDepth 20000 in
theorem sy_g_12 : GoodIn lw_tbl wsL_law_r12 := goodIn_r _ [566, 567, 568, 569, 570, 1430, 1431, 1432, 1433, 571, 572, 573, 574, 176, 1434, 1435, 1436, 1437, 575, 576, 577, 578, 190, 579] rfl (by decide +kernel)
set_option maxRecDepth 20000 in
theorem sy_g_13 : GoodIn lw_tbl wsL_law_r13 := goodIn_r _ [581, 2, 582, 583, 584, 585, 586, 588, 3, 589, 590, 591, 592, 593, 594, 596, 4, 597, 598, 599, 600, 601, 602, 603] rfl (by decide +kernel)
set_option maxRecDepth 20000 in
theorem sy_g_14 : GoodIn lw_tbl wsL_law_r14 := goodIn_r _ [604, 605, 1438, 1439, 1440, 1441, 1248, 1442, 1444, 47, 1445, 1446, 1448, 48, 1449, 1450, 1452, 49, 1453, 606, 607, 608, 609, 186] rfl (by decide +kernel)
set_option maxRecDepth 20000 in
theorem sy_g_15 : GoodIn lw_tbl wsL_law_r15 := goodIn_r _ [610, 611, 612, 613, 1454, 1455, 1456, 1457, 1458, 1460, 50, 1461, 615, 616, 617, 618, 182, 179, 1462, 1463, 1464, 1465, 619, 620] rfl (by decide +kernel)
set_option maxRecDepth 20000 in
theorem sy_g_16 : GoodIn lw_tbl wsL_law_r16 := goodIn_r _ [621, 622, 623, 624, 625, 626, 627, 628, 629, 630, 631, 632, 633, 634, 635, 636, 637, 128, 638, 639, 640, 641, 1466, 1467] rfl (by decide +kernel)
set_option maxRecDepth 20000 in
theorem sy_g_17 : GoodIn lw_tbl wsL_law_r17 := goodIn_r _ [1468, 1469, 1470, 1472, 51, 1473, 1474, 1476, 52, 1477, 1478, 1480, 53, 1481, 1482, 1484, 54, 1485, 1486, 1488, 55, 1489, 1490, 1492] rfl (by decide +kernel)
set_option maxRecDepth 20000 in
theorem sy_g_18 : GoodIn lw_tbl wsL_law_r18 := goodIn_r _ [56, 1493, 1494, 1495, 1496, 642, 643, 644, 645, 646, 647, 648, 649, 650, 651, 652, 653, 654, 655, 656, 657, 658, 129, 659] rfl (by decide +kernel)
set_option maxRecDepth 20000 in
theorem sy_g_19 : GoodIn lw_tbl wsL_law_r19 := goodIn_r _ [1497, 1498, 1499, 1500, 1501, 1503, 57, 1504, 1505, 1507, 58, 1508, 1509, 1510, 1511, 660, 661, 662, 663, 664, 665, 666, 667, 1512] rfl (by decide +kernel)
set_option maxRecDepth 20000 in
theorem sy_g_20 : GoodIn lw_tbl wsL_law_r20 := goodIn_r _ [1513, 1514, 1515, 1516, 1518, 59, 1519, 668, 669, 670, 671, 672, 673, 674, 675, 165, 676, 168, 175, 188, 677, 678, 130, 679] rfl (by decide +kernel)
set_option maxRecDepth 20000 in
theorem sy_g_21 : GoodIn lw_tbl wsL_law_r21 := goodIn_r _ [680, 681, 683, 5, 684, 181, 178, 163, 685, 686, 687, 688, 689, 690, 692, 6, 693, 694, 695, 696, 697, 699, 7, 700] rfl (by decide +kernel)
set_option maxRecDepth 20000 in
theorem sy_g_22 : GoodIn lw_tbl wsL_law_r22 := goodIn_r _ [171, 701, 702, 703, 704, 705, 706, 707, 708, 709, 710, 711, 317, 288, 712, 713, 714, 715, 720, 716, 717, 718, 719, 721] rfl (by decide +kernel)
set_option maxRecDepth 20000 in
theorem sy_g_23 : GoodIn lw_tbl wsL_law_r23 := goodIn_r _ [723, 8, 724, 284, 296, 286, 725, 727, 9, 728, 729, 730, 731, 732, 735, 737, 10, 738, 299, 302, 739, 741, 11, 742] rfl (by decide +kernel)
set_option maxRecDepth 20000 in
theorem sy_g_24 : GoodIn lw_tbl wsL_law_r24 := goodIn_r _ [294, 743, 759, 760, 761, 314, 744, 746, 12, 749, 750, 751, 752, 754, 13, 762, 764, 14, 765, 755, 309, 756, 757, 131] rfl (by decide +kernel)
set_option maxRecDepth 20000 in
theorem sy_g_25 : GoodIn lw_tbl wsL_law_r25 := goodIn_r _ [758, 747, 748, 1520, 1521, 1522, 1523, 1241, 1240, 1524, 1526, 60, 1527, 1528, 1530, 61, 1531, 1532, 1534, 62, 1535, 1226, 1223, 1225] rfl (by decide +kernel)
set_option maxRecDepth 20000 in
theorem sy_g_26 : GoodIn lw_tbl wsL_law_r26 := goodIn_r _ [1224, 1536, 1537, 1538, 1539, 1541, 63, 1542, 1543, 1545, 64, 1546, 1547, 1549, 65, 1550, 1232, 1231, 1551, 1552, 1553, 1554, 1556, 66] rfl (by decide +kernel)
set_option maxRecDepth 20000 in
theorem sy_g_27 : GoodIn lw_tbl wsL_law_r27 := goodIn_r _ [1557, 1230, 1558, 1560, 67, 1561, 1562, 1564, 68, 1565, 1566, 1567, 1568, 1569, 1570, 1571, 1572, 1574, 69, 1575, 1576, 1578, 70, 1579] rfl (by decide +kernel)
set_option maxRecDepth 20000 in
theorem sy_g_28 : GoodIn lw_tbl wsL_law_r28 := goodIn_r _ [1580, 1582, 71, 1583, 1584, 1586, 72, 1587, 1588, 1590, 73, 1591, 1592, 1594, 74, 1595, 1242, 1244, 1596, 1598, 75, 1599, 1600, 1602] rfl (by decide +kernel)
set_option maxRecDepth 20000 in
theorem sy_g_29 : GoodIn lw_tbl wsL_law_r29 := goodIn_r _ [76, 1603, 766, 767, 768, 769, 770, 771, 772, 773, 775, 776, 777, 778, 779, 780, 781, 782, 793, 783, 784, 785, 786, 787] rfl (by decide +kernel)
set_option maxRecDepth 20000 in
theorem sy_g_30 : GoodIn lw_tbl wsL_law_r30 := goodIn_r _ [788, 789, 790, 791, 792, 1604, 1605, 1606, 1607, 1608, 1610, 77, 1611, 794, 795, 796, 797, 798, 799, 800, 801, 802, 803, 804] rfl (by decide +kernel)
set_option maxRecDepth 20000 in
theorem sy_g_31 : GoodIn lw_tbl wsL_law_r31 := goodIn_r _ [805, 806, 809, 810, 811, 1612, 1613, 1614, 1615, 812, 813, 814, 815, 816, 818, 15, 819, 1633, 1634, 1635, 1636, 820, 821, 822] rfl (by decide +kernel)
set_option maxRecDepth 20000 in
theorem sy_g_32 : GoodIn lw_tbl wsL_law_r32 := goodIn_r _ [823, 1637, 1638, 1639, 1640, 824, 825, 826, 827, 194, 253, 828, 829, 830, 831, 832, 963, 964, 136, 833, 835, 16, 836, 837] rfl (by decide +kernel)
set_option maxRecDepth 20000 in
theorem sy_g_33 : GoodIn lw_tbl wsL_law_r33 := goodIn_r _ [838, 839, 840, 841, 842, 843, 844, 845, 846, 847, 848, 901, 902, 849, 850, 851, 853, 854, 855, 132, 856, 1866, 857, 858] rfl (by decide +kernel)
set_option maxRecDepth 20000 in
theorem sy_g_34 : GoodIn lw_tbl wsL_law_r34 := goodIn_r _ [859, 860, 861, 1867, 863, 864, 865, 866, 867, 868, 869, 870, 871, 872, 133, 873, 874, 875, 876, 877, 879, 880, 134, 881] rfl (by decide +kernel)
set_option maxRecDepth 20000 in
theorem sy_g_35 : GoodIn lw_tbl wsL_law_r35 := goodIn_r _ [882, 883, 135, 884, 885, 886, 887, 888, 889, 890, 891, 892, 893, 894, 895, 897, 899, 903, 905, 17, 906, 907, 909, 18] rfl (by decide +kernel)
set_option maxRecDepth 20000 in
theorem sy_g_36 : GoodIn lw_tbl wsL_law_r36 := goodIn_r _ [910, 911, 913, 19, 914, 915, 917, 20, 918, 919, 921, 21, 939, 941, 26, 942, 959, 961, 31, 962, 922, 923, 925, 22] rfl (by decide +kernel)
set_option maxRecDepth 20000 in
theorem sy_g_37 : GoodIn lw_tbl wsL_law_r37 := goodIn_r _ [926, 927, 929, 23, 930, 931, 933, 24, 934, 935, 937, 25, 938, 943, 945, 27, 946, 947, 949, 28, 950, 951, 953, 29] rfl (by decide +kernel)
set_option maxRecDepth 20000 in
theorem sy_g_38 : GoodIn lw_tbl wsL_law_r38 := goodIn_r _ [958, 954, 955, 957, 30, 965, 966, 967, 968, 969, 970, 971, 972, 974, 975, 976, 977, 978, 979, 980, 981, 983, 985, 995] rfl (by decide +kernel)
set_option maxRecDepth 20000 in
theorem sy_g_39 : GoodIn lw_tbl wsL_law_r39 := goodIn_r _ [996, 997, 998, 1641, 1642, 1643, 1644, 1253, 1645, 1647, 80, 1648, 1254, 1255, 1256, 1649, 1651, 81, 1652, 1663, 1653, 1654, 1655, 1656] rfl (by decide +kernel)
set_option maxRecDepth 20000 in
theorem sy_g_40 : GoodIn lw_tbl wsL_law_r40 := goodIn_r _ [1657, 1658, 1659, 1661, 82, 1662, 1664, 1666, 83, 1667, 1668, 1670, 84, 1671, 1672, 1674, 85, 1675, 1676, 1678, 86, 1679, 1680, 1682] rfl (by decide +kernel)
set_option maxRecDepth 20000 in
theorem sy_g_41 : GoodIn lw_tbl wsL_law_r41 := goodIn_r _ [87, 1683, 1684, 1686, 88, 1687, 1688, 1690, 89, 1691, 1692, 1693, 1694, 1695, 1697, 90, 1698, 1699, 1701, 91, 1702, 1703, 1705, 92] rfl (by decide +kernel)
set_option maxRecDepth 20000 in
theorem sy_g_42 : GoodIn lw_tbl wsL_law_r42 := goodIn_r _ [1706, 1707, 1709, 93, 1714, 1715, 1710, 1711, 1713, 94, 999, 1000, 1001, 1002, 1716, 1717, 1718, 1719, 1003, 1004, 1005, 1006, 192, 1007] rfl (by decide +kernel)
set_option maxRecDepth 20000 in
theorem sy_g_43 : GoodIn lw_tbl wsL_law_r43 := goodIn_r _ [1008, 1009, 1010, 1011, 1013, 32, 1014, 1015, 1016, 1017, 1018, 1019, 1020, 1022, 33, 1023, 289, 1026, 301, 293, 313, 306, 298, 320] rfl (by decide +kernel)
set_option maxRecDepth 20000 in
theorem sy_g_44 : GoodIn lw_tbl wsL_law_r44 := goodIn_r _ [291, 1024, 1025, 1027, 1028, 1029, 1031, 34, 1032, 1033, 1034, 1035, 1036, 1037, 1038, 1039, 1040, 1041, 1043, 1045, 35, 1046, 982, 984] rfl (by decide +kernel)
set_option maxRecDepth 20000 in
theorem sy_g_45 : GoodIn lw_tbl wsL_law_r45 := goodIn_r _ [986, 1047, 1049, 36, 1050, 308, 304, 1051, 1053, 37, 1054, 1055, 1057, 38, 1058, 1062, 1063, 1059, 1060, 1061, 1064, 1065, 1066, 1067] rfl (by decide +kernel)
set_option maxRecDepth 20000 in
theorem sy_g_46 : GoodIn lw_tbl wsL_law_r46 := goodIn_r _ [1068, 1069, 1070, 1071, 1072, 1073, 1720, 1721, 1722, 1723, 1262, 1265, 1724, 1726, 95, 1727, 1728, 1730, 96, 1731, 1263, 1732, 1734, 97] rfl (by decide +kernel)
set_option maxRecDepth 20000 in
theorem sy_g_47 : GoodIn lw_tbl wsL_law_r47 := goodIn_r _ [1735, 1257, 1258, 1259, 1736, 1738, 98, 1739, 1740, 1742, 99, 1743, 1744, 1746, 100, 1747, 1748, 1750, 101, 1751, 1752, 1754, 102, 1755] rfl (by decide +kernel)
set_option maxRecDepth 20000 in
theorem sy_g_48 : GoodIn lw_tbl wsL_law_r48 := goodIn_r _ [1756, 1758, 103, 1759, 1760, 1762, 104, 1763, 1764, 1766, 105, 1767, 1768, 1770, 106, 1771, 1772, 1774, 107, 1780, 1782, 109, 1783, 1784] rfl (by decide +kernel)
set_option maxRecDepth 20000 in
theorem sy_g_49 : GoodIn lw_tbl wsL_law_r49 := goodIn_r _ [1785, 1779, 1775, 1776, 1778, 108, 1786, 1788, 110, 1789, 1790, 1792, 111, 1793, 1074, 1075, 1076, 1077, 392, 390, 1794, 1795, 1796, 1797] rfl (by decide +kernel)
set_option maxRecDepth 20000 in
theorem sy_g_50 : GoodIn lw_tbl wsL_law_r50 := goodIn_r _ [1078, 1079, 1080, 1081, 1082, 1798, 1799, 1800, 1801, 1624, 1083, 1084, 1085, 1086, 1616, 1617, 1618, 1619, 1087, 1088, 1089, 1090, 1091, 1092] rfl (by decide +kernel)
set_option maxRecDepth 20000 in
theorem sy_g_51 : GoodIn lw_tbl wsL_law_r51 := goodIn_r _ [1093, 1094, 1095, 1097, 39, 1098, 1099, 1100, 1101, 1102, 1103, 1104, 1105, 1106, 1620, 1621, 1622, 1623, 1625, 1627, 78, 1628, 1629, 1631] rfl (by decide +kernel)
set_option maxRecDepth 20000 in
theorem sy_g_52 : GoodIn lw_tbl wsL_law_r52 := goodIn_r _ [79, 1632, 1107, 1108, 1109, 1110, 198, 1111, 1112, 1113, 1114, 1802, 1803, 1804, 1805, 1115, 1116, 1117, 1118, 196, 1119, 1120, 1121, 1122] rfl (by decide +kernel)
set_option maxRecDepth 20000 in
theorem sy_g_53 : GoodIn lw_tbl wsL_law_r53 := goodIn_r _ [1123, 1124, 1126, 40, 1127, 1128, 1129, 1806, 1807, 1808, 1809, 1268, 1810, 1812, 112, 1813, 1814, 1816, 113, 1817, 1130, 1131, 1132, 1133] rfl (by decide +kernel)
set_option maxRecDepth 20000 in
theorem sy_g_54 : GoodIn lw_tbl wsL_law_r54 := goodIn_r _ [425, 423, 1818, 1819, 1820, 1821, 1134, 1135, 1136, 1137, 200, 1822, 1823, 1824, 1825, 1138, 1139, 1140, 1141, 1142, 1143, 1144, 1145, 1146] rfl (by decide +kernel)
set_option maxRecDepth 20000 in
theorem sy_g_55 : GoodIn lw_tbl wsL_law_r55 := goodIn_r _ [1148, 41, 1149, 1150, 1826, 1827, 1828, 1829, 1151, 1152, 1153, 1154, 446, 444, 1830, 1831, 1832, 1833, 1155, 1156, 1157, 1158, 465, 467] rfl (by decide +kernel)
set_option maxRecDepth 20000 in
theorem sy_g_56 : GoodIn lw_tbl wsL_law_r56 := goodIn_r _ [1159, 1160, 1161, 1162, 161, 1163, 1164, 1165, 1166, 189, 1167, 1168, 1834, 1835, 1836, 1837, 1838, 1840, 114, 1841, 1169, 1170, 1171, 1172] rfl (by decide +kernel)
set_option maxRecDepth 20000 in
theorem sy_g_57 : GoodIn lw_tbl wsL_law_r57 := goodIn_r _ [184, 396, 1173, 1842, 1843, 1844, 1845, 1174, 1175, 1176, 1177, 1178, 1180, 42, 1181, 1846, 1847, 1848, 1849, 1182, 1183, 1184, 1185, 1186] rfl (by decide +kernel)
set_option maxRecDepth 20000 in
theorem sy_g_58 : GoodIn lw_tbl wsL_law_r58 := goodIn_r _ [1188, 43, 1189, 394, 1850, 1851, 1852, 1853, 1854, 1856, 115, 1857, 1190, 1191, 1192, 1193, 1194, 1195, 1196, 1197, 1395, 1396, 1397, 1398] rfl (by decide +kernel)
set_option maxRecDepth 20000 in
theorem sy_g_59 : GoodIn lw_tbl wsL_law_r59 := goodIn_r _ [1198, 1199, 1200, 1201, 1410, 1411, 1412, 1413, 1202, 1203, 1204, 1205, 1858, 1859, 1860, 1861, 1206, 1207, 1208, 1209, 1862, 1863, 1864, 1865] rfl (by decide +kernel)
set_option maxRecDepth 20000 in
theorem sy_g_wsX100 : GoodIn lw_tbl wsX100 := goodIn_r _ [491, 493, 495, 497, 499, 501, 503, 505, 507, 509, 511, 513, 515, 517, 519, 521, 523, 525] (by decide +kernel) (by decide +kernel)
set_option maxRecDepth 20000 in
theorem sy_g_wsX110 : GoodIn lw_tbl wsX110 := goodIn_r _ [1276, 1278, 1280, 1282, 1284, 1286, 1288, 1290, 1292, 1294, 1296, 1298, 1300, 1302, 1304, 1306, 1308, 1310, 1312, 1314, 1316, 1318, 1320, 1322, 1324, 1326, 1328, 1330, 1332, 1334, 1336, 1338, 1340, 1342, 1344, 1346, 1348, 1350, 1352, 1354, 1356, 1358, 1360, 1362, 1364, 1366, 1368, 1370, 1372, 1374, 1376, 1378, 1380, 1382, 1384, 1386, 1388, 1390, 1392] (by decide +kernel) (by decide +kernel)
set_option maxRecDepth 20000 in
theorem sy_g_wsX80 : GoodIn lw_tbl wsX80 := goodIn_r _ [201, 203, 205, 207, 209, 211, 213, 215, 217, 219, 221, 223, 225, 227, 229, 231] (by decide +kernel) (by decide +kernel)
set_option maxRecDepth 20000 in
theorem sy_g_wsX40 : GoodIn lw_tbl wsX40 := goodIn_r _ [254, 256, 258, 260, 262, 264, 266, 268, 270, 272, 274] (by decide +kernel) (by decide +kernel)
set_option maxRecDepth 20000 in
theorem sy_g_wsX90 : GoodIn lw_tbl wsX90 := goodIn_r _ [321, 323, 325, 327, 329, 331, 333, 335, 337, 339, 341, 343, 345, 347, 349, 351, 353, 355] (by decide +kernel) (by decide +kernel)
set_option maxRecDepth 20000 in
theorem sy_g_wsX70 : GoodIn lw_tbl wsX70 := goodIn_r _ [372, 374, 376, 378, 380] (by decide +kernel) (by decide +kernel)
set_option maxRecDepth 20000 in
theorem sy_g_wsX00 : GoodIn lw_tbl wsX00 := goodIn_r _ [400, 402, 404, 406, 408, 410, 412] (by decide +kernel) (by decide +kernel)
set_option maxRecDepth 20000 in
theorem sy_g_wsX10 : GoodIn lw_tbl wsX10 := goodIn_r _ [428, 430, 432, 434] (by decide +kernel) (by decide +kernel)
set_option maxRecDepth 20000 in
theorem sy_g_wsX50 : GoodIn lw_tbl wsX50 := goodIn_r _ [449, 451, 453, 455] (by decide +kernel) (by decide +kernel)
set_option maxRecDepth 20000 in
theorem sy_g_wsX20 : GoodIn lw_tbl wsX20 := goodIn_r _ [468, 470] (by decide +kernel) (by decide +kernel)
set_option maxRecDepth 20000 in
theorem sy_g_wsX30 : GoodIn lw_tbl wsX30 := goodIn_r _ [987, 989, 991] (by decide +kernel) (by decide +kernel)
theorem sy_good : GoodIn lw_tbl wsL_law := (goodIn_app (goodIn_app (goodIn_app (goodIn_app (goodIn_app (goodIn_app (goodIn_app (goodIn_app (goodIn_app (goodIn_app (goodIn_app (goodIn_app (goodIn_app sy_g_1 (goodIn_app sy_g_2 (goodIn_app sy_g_3 (goodIn_app sy_g_4 (goodIn_app sy_g_5 (goodIn_app sy_g_6 (goodIn_app sy_g_7 (goodIn_app sy_g_8 (goodIn_app sy_g_9 (goodIn_app sy_g_10 (goodIn_app sy_g_11 (goodIn_app sy_g_12 (goodIn_app sy_g_13 (goodIn_app sy_g_14 (goodIn_app sy_g_15 (goodIn_app sy_g_16 (goodIn_app sy_g_17 (goodIn_app sy_g_18 (goodIn_app sy_g_19 (goodIn_app sy_g_20 (goodIn_app sy_g_21 (goodIn_app sy_g_22 (goodIn_app sy_g_23 (goodIn_app sy_g_24 (goodIn_app sy_g_25 (goodIn_app sy_g_26 (goodIn_app sy_g_27 (goodIn_app sy_g_28 (goodIn_app sy_g_29 (goodIn_app sy_g_30 (goodIn_app sy_g_31 (goodIn_app sy_g_32 (goodIn_app sy_g_33 (goodIn_app sy_g_34 (goodIn_app sy_g_35 (goodIn_app sy_g_36 (goodIn_app sy_g_37 (goodIn_app sy_g_38 (goodIn_app sy_g_39 (goodIn_app sy_g_40 (goodIn_app sy_g_41 (goodIn_app sy_g_42 (goodIn_app sy_g_43 (goodIn_app sy_g_44 (goodIn_app sy_g_45 (goodIn_app sy_g_46 (goodIn_app sy_g_47 (goodIn_app sy_g_48 (goodIn_app sy_g_49 (goodIn_app sy_g_50 (goodIn_app sy_g_51 (goodIn_app sy_g_52 (goodIn_app sy_g_53 (goodIn_app sy_g_54 (goodIn_app sy_g_55 (goodIn_app sy_g_56 (goodIn_app sy_g_57 (goodIn_app sy_g_58 sy_g_59)))))))))))))))))))))))))))))))))))))))))))))))))))))))))) sy_g_wsX100) sy_g_wsX110) sy_g_wsX80) sy_g_wsX40) sy_g_wsX90) sy_g_wsX70) sy_g_wsX00) sy_g_wsX10) sy_g_wsX50) sy_g_wsX20) sy_g_wsX30) (fun _ h => absurd h List.not_mem_nil))
