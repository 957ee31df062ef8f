set_option maxRecDepth 20000 in
theorem in_wsL_law0_r1 : ∀ w ∈ wsL_law0_r1, w ∈ lw_tbl := fun w h => (goodIn_r wsL_law0_r1 [111, 112, 75, 1395, 1396, 82, 2349, 2350, 113, 114, 115, 116, 117, 118, 119, 328, 121, 76, 148, 329, 150, 77, 256, 330] (by decide +kernel) (by decide +kernel) w h).1
set_option maxRecDepth 20000 in
theorem in_wsL_law0_r2 : ∀ w ∈ wsL_law0_r2, w ∈ lw_tbl := fun w h => (goodIn_r wsL_law0_r2 [295, 296, 81, 331, 334, 335, 337, 122, 123, 124, 125, 147, 126, 151, 152, 153, 154, 155, 156, 78, 279, 225, 226, 79] (by decide +kernel) (by decide +kernel) w h).1
set_option maxRecDepth 20000 in
theorem in_wsL_law0_r3 : ∀ w ∈ wsL_law0_r3, w ∈ lw_tbl := fun w h => (goodIn_r wsL_law0_r3 [281, 257, 258, 80, 283, 158, 159, 160, 227, 228, 229, 230, 231, 233, 235, 259, 260, 261, 262, 263, 297, 298, 299, 300] (by decide +kernel) (by decide +kernel) w h).1
set_option maxRecDepth 20000 in
theorem in_wsL_law0_r4 : ∀ w ∈ wsL_law0_r4, w ∈ lw_tbl := fun w h => (goodIn_r wsL_law0_r4 [301, 303, 305, 1397, 1398, 1399, 1400, 1401, 1498, 1403, 1499, 1500, 1501, 1502, 1503, 1504, 1505, 1434, 1506, 1507, 1508, 1509, 1405, 1406] (by decide +kernel) (by decide +kernel) w h).1
set_option maxRecDepth 20000 in
theorem in_wsL_law0_r5 : ∀ w ∈ wsL_law0_r5, w ∈ lw_tbl := fun w h => (goodIn_r wsL_law0_r5 [85, 1510, 1511, 1512, 1513, 1516, 1517, 1407, 1408, 1409, 1417, 1419, 1410, 1411, 84, 1412, 1423, 1413, 1414, 83, 1415, 1416, 1435, 1436] (by decide +kernel) (by decide +kernel) w h).1
set_option maxRecDepth 20000 in
theorem in_wsL_law0_r6 : ∀ w ∈ wsL_law0_r6, w ∈ lw_tbl := fun w h => (goodIn_r wsL_law0_r6 [1437, 1438, 1426, 1425, 1422, 1439, 1441, 34, 1442, 1443, 1445, 35, 1446, 1447, 1449, 36, 1450, 1496, 1234, 87, 1235, 1497, 1451, 1452] (by decide +kernel) (by decide +kernel) w h).1
set_option maxRecDepth 20000 in
theorem in_wsL_law0_r7 : ∀ w ∈ wsL_law0_r7, w ∈ lw_tbl := fun w h => (goodIn_r wsL_law0_r7 [86, 1453, 1454, 1455, 1456, 1457, 1458, 1459, 1460, 88, 1461, 1462, 2383, 1463, 1485, 1486, 1487, 1488, 1489, 1491, 1492, 420, 421, 1493] (by decide +kernel) (by decide +kernel) w h).1
set_option maxRecDepth 20000 in
theorem in_wsL_law0_r8 : ∀ w ∈ wsL_law0_r8, w ∈ lw_tbl := fun w h => (goodIn_r wsL_law0_r8 [1495, 1494, 89, 495, 496, 74, 497, 498, 501, 502, 503, 504, 506, 93, 579, 94, 599, 95, 338, 332, 127, 128, 129, 131] (by decide +kernel) (by decide +kernel) w h).1
set_option maxRecDepth 20000 in
theorem in_wsL_law0_r9 : ∀ w ∈ wsL_law0_r9, w ∈ lw_tbl := fun w h => (goodIn_r wsL_law0_r9 [505, 466, 467, 595, 597, 8, 598, 615, 469, 470, 1596, 1597, 1598, 1599, 1514, 1519, 1610, 1600, 1601, 1602, 1603, 1604, 1605, 1606] (by decide +kernel) (by decide +kernel) w h).1
set_option maxRecDepth 20000 in
theorem in_wsL_law0_r10 : ∀ w ∈ wsL_law0_r10, w ∈ lw_tbl := fun w h => (goodIn_r wsL_law0_r10 [1608, 37, 1609, 1528, 1592, 1593, 1594, 1595, 616, 617, 618, 619, 643, 644, 645, 646, 133, 647, 649, 9, 650, 651, 96, 664] (by decide +kernel) (by decide +kernel) w h).1
set_option maxRecDepth 20000 in
theorem in_wsL_law0_r11 : ∀ w ∈ wsL_law0_r11, w ∈ lw_tbl := fun w h => (goodIn_r wsL_law0_r11 [665, 666, 669, 670, 671, 672, 132, 1611, 1612, 1613, 1614, 1615, 1616, 1617, 1618, 1620, 38, 1621, 673, 674, 675, 676, 677, 678] (by decide +kernel) (by decide +kernel) w h).1
set_option maxRecDepth 20000 in
theorem in_wsL_law0_r12 : ∀ w ∈ wsL_law0_r12, w ∈ lw_tbl := fun w h => (goodIn_r wsL_law0_r12 [679, 680, 681, 682, 381, 382, 383, 384, 1622, 1623, 1624, 1625, 684, 685, 686, 499, 687, 688, 689, 690, 333, 1626, 1627, 1628] (by decide +kernel) (by decide +kernel) w h).1
set_option maxRecDepth 20000 in
theorem in_wsL_law0_r13 : ∀ w ∈ wsL_law0_r13, w ∈ lw_tbl := fun w h => (goodIn_r wsL_law0_r13 [1629, 1515, 692, 693, 694, 695, 696, 697, 698, 339, 285, 699, 701, 10, 702, 1630, 1631, 1632, 1633, 1520, 1634, 1636, 39, 1637] (by decide +kernel) (by decide +kernel) w h).1
set_option maxRecDepth 20000 in
theorem in_wsL_law0_r14 : ∀ w ∈ wsL_law0_r14, w ∈ lw_tbl := fun w h => (goodIn_r wsL_law0_r14 [706, 707, 708, 709, 710, 711, 712, 491, 493, 6, 494, 1638, 1639, 1640, 1641, 1642, 1644, 40, 1645, 371, 372, 373, 374, 1646] (by decide +kernel) (by decide +kernel) w h).1
set_option maxRecDepth 20000 in
theorem in_wsL_law0_r15 : ∀ w ∈ wsL_law0_r15, w ∈ lw_tbl := fun w h => (goodIn_r wsL_law0_r15 [1647, 1648, 1649, 713, 714, 715, 716, 717, 718, 719, 1650, 1651, 1652, 1653, 721, 722, 723, 724, 725, 726, 727, 340, 282, 730] (by decide +kernel) (by decide +kernel) w h).1
set_option maxRecDepth 20000 in
theorem in_wsL_law0_r16 : ∀ w ∈ wsL_law0_r16, w ∈ lw_tbl := fun w h => (goodIn_r wsL_law0_r16 [731, 732, 733, 307, 309, 313, 734, 735, 736, 737, 237, 239, 241, 738, 740, 11, 741, 341, 280, 742, 743, 744, 745, 311] (by decide +kernel) (by decide +kernel) w h).1
set_option maxRecDepth 20000 in
theorem in_wsL_law0_r17 : ∀ w ∈ wsL_law0_r17, w ∈ lw_tbl := fun w h => (goodIn_r wsL_law0_r17 [746, 747, 748, 749, 161, 164, 166, 168, 170, 172, 174, 177, 181, 183, 1654, 1655, 1656, 1657, 1518, 1521, 1522, 1523, 1524, 1658] (by decide +kernel) (by decide +kernel) w h).1
set_option maxRecDepth 20000 in
theorem in_wsL_law0_r18 : ∀ w ∈ wsL_law0_r18, w ∈ lw_tbl := fun w h => (goodIn_r wsL_law0_r18 [1660, 41, 1661, 1525, 1526, 750, 751, 752, 753, 754, 755, 756, 757, 759, 12, 760, 1662, 1663, 1664, 1665, 762, 763, 764, 766] (by decide +kernel) (by decide +kernel) w h).1
set_option maxRecDepth 20000 in
theorem in_wsL_law0_r19 : ∀ w ∈ wsL_law0_r19, w ∈ lw_tbl := fun w h => (goodIn_r wsL_law0_r19 [767, 768, 769, 787, 99, 770, 772, 13, 773, 163, 774, 775, 776, 777, 778, 779, 780, 781, 782, 448, 449, 783, 784, 785] (by decide +kernel) (by decide +kernel) w h).1
set_option maxRecDepth 20000 in
theorem in_wsL_law0_r20 : ∀ w ∈ wsL_law0_r20, w ∈ lw_tbl := fun w h => (goodIn_r wsL_law0_r20 [786, 1666, 1667, 1668, 1669, 1670, 1672, 42, 1673, 1674, 1676, 43, 1677, 1678, 1680, 44, 1681, 1682, 1684, 45, 1685, 1686, 1688, 46] (by decide +kernel) (by decide +kernel) w h).1
set_option maxRecDepth 20000 in
theorem in_wsL_law0_r21 : ∀ w ∈ wsL_law0_r21, w ∈ lw_tbl := fun w h => (goodIn_r wsL_law0_r21 [1689, 1690, 1692, 47, 1693, 1694, 1695, 1696, 803, 804, 805, 806, 807, 808, 809, 306, 182, 165, 187, 167, 810, 812, 14, 813] (by decide +kernel) (by decide +kernel) w h).1
set_option maxRecDepth 20000 in
theorem in_wsL_law0_r22 : ∀ w ∈ wsL_law0_r22, w ∈ lw_tbl := fun w h => (goodIn_r wsL_law0_r22 [815, 817, 15, 818, 819, 820, 821, 822, 823, 824, 825, 826, 827, 446, 829, 831, 16, 832, 833, 835, 17, 836, 304, 837] (by decide +kernel) (by decide +kernel) w h).1
set_option maxRecDepth 20000 in
theorem in_wsL_law0_r23 : ∀ w ∈ wsL_law0_r23, w ∈ lw_tbl := fun w h => (goodIn_r wsL_law0_r23 [838, 839, 840, 179, 186, 188, 189, 190, 191, 841, 842, 843, 844, 130, 845, 846, 847, 848, 849, 851, 18, 852, 853, 854] (by decide +kernel) (by decide +kernel) w h).1
set_option maxRecDepth 20000 in
theorem in_wsL_law0_r24 : ∀ w ∈ wsL_law0_r24, w ∈ lw_tbl := fun w h => (goodIn_r wsL_law0_r24 [855, 856, 857, 859, 19, 860, 861, 862, 863, 864, 865, 866, 867, 868, 869, 870, 871, 872, 873, 874, 875, 1697, 1698, 1699] (by decide +kernel) (by decide +kernel) w h).1
set_option maxRecDepth 20000 in
theorem in_wsL_law0_r25 : ∀ w ∈ wsL_law0_r25, w ∈ lw_tbl := fun w h => (goodIn_r wsL_law0_r25 [1700, 1701, 1703, 48, 1704, 1705, 1707, 49, 1708, 1709, 1711, 50, 1712, 1713, 1715, 51, 1716, 1717, 1719, 52, 1720, 1721, 1723, 53] (by decide +kernel) (by decide +kernel) w h).1
set_option maxRecDepth 20000 in
theorem in_wsL_law0_r26 : ∀ w ∈ wsL_law0_r26, w ∈ lw_tbl := fun w h => (goodIn_r wsL_law0_r26 [1724, 1725, 1726, 1728, 54, 1729, 1730, 1732, 55, 1733, 876, 877, 878, 879, 880, 881, 882, 1734, 1735, 1736, 1737, 1738, 1739, 1740] (by decide +kernel) (by decide +kernel) w h).1
set_option maxRecDepth 20000 in
theorem in_wsL_law0_r27 : ∀ w ∈ wsL_law0_r27, w ∈ lw_tbl := fun w h => (goodIn_r wsL_law0_r27 [884, 885, 886, 887, 888, 889, 890, 178, 169, 171, 180, 1741, 1742, 1743, 1744, 892, 893, 894, 895, 896, 897, 898, 900, 901] (by decide +kernel) (by decide +kernel) w h).1
set_option maxRecDepth 20000 in
theorem in_wsL_law0_r28 : ∀ w ∈ wsL_law0_r28, w ∈ lw_tbl := fun w h => (goodIn_r wsL_law0_r28 [902, 903, 904, 905, 906, 907, 1745, 1746, 1747, 1748, 908, 909, 910, 911, 912, 913, 914, 173, 916, 918, 20, 919, 176, 920] (by decide +kernel) (by decide +kernel) w h).1
set_option maxRecDepth 20000 in
theorem in_wsL_law0_r29 : ∀ w ∈ wsL_law0_r29, w ∈ lw_tbl := fun w h => (goodIn_r wsL_law0_r29 [921, 922, 923, 924, 925, 926, 927, 1749, 1750, 1751, 1752, 1753, 1754, 1755, 928, 929, 930, 931, 932, 933, 934, 430, 431, 432] (by decide +kernel) (by decide +kernel) w h).1
set_option maxRecDepth 20000 in
theorem in_wsL_law0_r30 : ∀ w ∈ wsL_law0_r30, w ∈ lw_tbl := fun w h => (goodIn_r wsL_law0_r30 [433, 936, 937, 938, 939, 941, 942, 943, 944, 945, 946, 947, 948, 949, 950, 951, 1756, 1757, 1758, 1759, 1764, 1180, 1181, 1760] (by decide +kernel) (by decide +kernel) w h).1
set_option maxRecDepth 20000 in
theorem in_wsL_law0_r31 : ∀ w ∈ wsL_law0_r31, w ∈ lw_tbl := fun w h => (goodIn_r wsL_law0_r31 [1762, 56, 1763, 1765, 1766, 1767, 1768, 1770, 57, 1771, 1772, 1774, 58, 1775, 953, 954, 955, 956, 957, 958, 959, 960, 961, 962] (by decide +kernel) (by decide +kernel) w h).1
set_option maxRecDepth 20000 in
theorem in_wsL_law0_r32 : ∀ w ∈ wsL_law0_r32, w ∈ lw_tbl := fun w h => (goodIn_r wsL_law0_r32 [963, 964, 965, 966, 967, 968, 1776, 1777, 1778, 1779, 970, 971, 972, 973, 974, 975, 976, 426, 428, 1, 429, 434, 435, 436] (by decide +kernel) (by decide +kernel) w h).1
set_option maxRecDepth 20000 in
theorem in_wsL_law0_r33 : ∀ w ∈ wsL_law0_r33, w ∈ lw_tbl := fun w h => (goodIn_r wsL_law0_r33 [437, 438, 439, 440, 441, 442, 443, 444, 445, 1780, 1781, 1782, 1783, 1784, 1786, 59, 1787, 1788, 1790, 60, 1791, 979, 980, 981] (by decide +kernel) (by decide +kernel) w h).1
set_option maxRecDepth 20000 in
theorem in_wsL_law0_r34 : ∀ w ∈ wsL_law0_r34, w ∈ lw_tbl := fun w h => (goodIn_r wsL_law0_r34 [982, 983, 984, 985, 986, 987, 1792, 1793, 1794, 1795, 989, 990, 991, 992, 993, 994, 995, 185, 996, 998, 999, 1000, 1001, 1796] (by decide +kernel) (by decide +kernel) w h).1
set_option maxRecDepth 20000 in
theorem in_wsL_law0_r35 : ∀ w ∈ wsL_law0_r35, w ∈ lw_tbl := fun w h => (goodIn_r wsL_law0_r35 [1797, 1798, 1799, 1002, 1003, 1004, 1005, 1006, 1007, 1008, 1010, 1011, 1012, 1013, 1800, 1801, 1802, 1803, 1014, 1015, 1016, 1017, 1018, 1019] (by decide +kernel) (by decide +kernel) w h).1
set_option maxRecDepth 20000 in
theorem in_wsL_law0_r36 : ∀ w ∈ wsL_law0_r36, w ∈ lw_tbl := fun w h => (goodIn_r wsL_law0_r36 [1020, 1804, 1805, 1806, 1807, 1023, 1024, 1025, 1026, 1027, 1028, 1029, 1808, 1809, 1810, 1811, 1031, 1032, 1033, 1034, 1035, 1036, 1037, 1039] (by decide +kernel) (by decide +kernel) w h).1
set_option maxRecDepth 20000 in
theorem in_wsL_law0_r37 : ∀ w ∈ wsL_law0_r37, w ∈ lw_tbl := fun w h => (goodIn_r wsL_law0_r37 [1041, 21, 1042, 1812, 1813, 1814, 1815, 1043, 1044, 1045, 1046, 1047, 1048, 1049, 1816, 1817, 1818, 1819, 1050, 1051, 1052, 1053, 1054, 1055] (by decide +kernel) (by decide +kernel) w h).1
set_option maxRecDepth 20000 in
theorem in_wsL_law0_r38 : ∀ w ∈ wsL_law0_r38, w ∈ lw_tbl := fun w h => (goodIn_r wsL_law0_r38 [1056, 1820, 1821, 1822, 1823, 1058, 1059, 1060, 1061, 1062, 1063, 1064, 312, 314, 308, 1066, 1067, 1068, 1070, 1072, 22, 1073, 1074, 1076] (by decide +kernel) (by decide +kernel) w h).1
set_option maxRecDepth 20000 in
theorem in_wsL_law0_r39 : ∀ w ∈ wsL_law0_r39, w ∈ lw_tbl := fun w h => (goodIn_r wsL_law0_r39 [23, 1077, 1078, 1079, 1080, 1081, 1824, 1825, 1826, 1827, 1828, 1830, 61, 1831, 1082, 1083, 1084, 1085, 1086, 1087, 1088, 1090, 1091, 1092] (by decide +kernel) (by decide +kernel) w h).1
set_option maxRecDepth 20000 in
theorem in_wsL_law0_r40 : ∀ w ∈ wsL_law0_r40, w ∈ lw_tbl := fun w h => (goodIn_r wsL_law0_r40 [1093, 162, 175, 184, 1094, 1095, 1097, 24, 1098, 1099, 1100, 1101, 1102, 1103, 410, 101, 411, 1104, 1106, 25, 1107, 1108, 1110, 26] (by decide +kernel) (by decide +kernel) w h).1
set_option maxRecDepth 20000 in
theorem in_wsL_law0_r41 : ∀ w ∈ wsL_law0_r41, w ∈ lw_tbl := fun w h => (goodIn_r wsL_law0_r41 [1111, 1112, 1114, 27, 1115, 1832, 1833, 1834, 1835, 1836, 1838, 62, 1839, 1840, 1842, 63, 1843, 1116, 1117, 1118, 1119, 1120, 1121, 1122] (by decide +kernel) (by decide +kernel) w h).1
set_option maxRecDepth 20000 in
theorem in_wsL_law0_r42 : ∀ w ∈ wsL_law0_r42, w ∈ lw_tbl := fun w h => (goodIn_r wsL_law0_r42 [1844, 1845, 1846, 1847, 1848, 1850, 64, 1851, 1123, 1124, 1125, 1126, 1127, 1128, 1129, 1852, 1853, 1854, 1855, 1131, 1132, 1133, 1134, 1135] (by decide +kernel) (by decide +kernel) w h).1
set_option maxRecDepth 20000 in
theorem in_wsL_law0_r43 : ∀ w ∈ wsL_law0_r43, w ∈ lw_tbl := fun w h => (goodIn_r wsL_law0_r43 [1136, 1137, 1856, 1857, 1858, 1859, 1138, 1139, 1140, 1141, 1142, 1143, 1144, 1860, 1861, 1862, 1863, 1145, 1146, 1147, 1148, 1149, 1150, 1151] (by decide +kernel) (by decide +kernel) w h).1
set_option maxRecDepth 20000 in
theorem in_wsL_law0_r44 : ∀ w ∈ wsL_law0_r44, w ∈ lw_tbl := fun w h => (goodIn_r wsL_law0_r44 [240, 1864, 1865, 1866, 1867, 1152, 1153, 1154, 1155, 1156, 1157, 1158, 1868, 1869, 1870, 1871, 1160, 1161, 1162, 500, 1163, 1164, 1165, 1166] (by decide +kernel) (by decide +kernel) w h).1
set_option maxRecDepth 20000 in
theorem in_wsL_law0_r45 : ∀ w ∈ wsL_law0_r45, w ∈ lw_tbl := fun w h => (goodIn_r wsL_law0_r45 [1167, 1169, 28, 1170, 1872, 1873, 1874, 1875, 1172, 1173, 1174, 1175, 1176, 1177, 1178, 1179, 310, 1876, 1877, 1878, 1879, 1182, 1183, 1184] (by decide +kernel) (by decide +kernel) w h).1
set_option maxRecDepth 20000 in
theorem in_wsL_law0_r46 : ∀ w ∈ wsL_law0_r46, w ∈ lw_tbl := fun w h => (goodIn_r wsL_law0_r46 [1185, 1186, 1187, 1188, 238, 236, 471, 473, 2, 474, 1880, 1881, 1882, 1883, 1884, 1886, 65, 1887, 1191, 1192, 1193, 1194, 1195, 1196] (by decide +kernel) (by decide +kernel) w h).1
set_option maxRecDepth 20000 in
theorem in_wsL_law0_r47 : ∀ w ∈ wsL_law0_r47, w ∈ lw_tbl := fun w h => (goodIn_r wsL_law0_r47 [1197, 1199, 1200, 1201, 1202, 1203, 1205, 1206, 1207, 1208, 1209, 484, 485, 486, 1888, 1889, 1890, 1891, 1210, 1211, 1212, 1213, 1214, 1215] (by decide +kernel) (by decide +kernel) w h).1
set_option maxRecDepth 20000 in
theorem in_wsL_law0_r48 : ∀ w ∈ wsL_law0_r48, w ∈ lw_tbl := fun w h => (goodIn_r wsL_law0_r48 [1216, 1217, 1218, 1219, 1220, 1222, 1223, 1224, 1225, 1892, 1893, 1894, 1895, 1896, 1898, 66, 1899, 1900, 1902, 67, 1903, 1226, 1227, 1228] (by decide +kernel) (by decide +kernel) w h).1
set_option maxRecDepth 20000 in
theorem in_wsL_law0_r49 : ∀ w ∈ wsL_law0_r49, w ∈ lw_tbl := fun w h => (goodIn_r wsL_law0_r49 [1229, 1230, 1231, 1232, 1233, 483, 487, 489, 5, 490, 1904, 1905, 1906, 1907, 1912, 1908, 1910, 68, 1911, 1236, 1237, 1238, 1239, 1240] (by decide +kernel) (by decide +kernel) w h).1
set_option maxRecDepth 20000 in
theorem in_wsL_law0_r50 : ∀ w ∈ wsL_law0_r50, w ∈ lw_tbl := fun w h => (goodIn_r wsL_law0_r50 [1241, 1242, 1243, 1245, 29, 1246, 1913, 1914, 1915, 1916, 1917, 1248, 1249, 1250, 1251, 1252, 1253, 1254, 1257, 1918, 1919, 1920, 1921, 1922] (by decide +kernel) (by decide +kernel) w h).1
set_option maxRecDepth 20000 in
theorem in_wsL_law0_r51 : ∀ w ∈ wsL_law0_r51, w ∈ lw_tbl := fun w h => (goodIn_r wsL_law0_r51 [1258, 1259, 1260, 1261, 1262, 1263, 1264, 475, 477, 3, 478, 479, 481, 4, 482, 1923, 1924, 1925, 1926, 1265, 1266, 1267, 1268, 1269] (by decide +kernel) (by decide +kernel) w h).1
set_option maxRecDepth 20000 in
theorem in_wsL_law0_r52 : ∀ w ∈ wsL_law0_r52, w ∈ lw_tbl := fun w h => (goodIn_r wsL_law0_r52 [1270, 1271, 1272, 1274, 30, 1275, 1276, 1277, 1278, 1279, 1281, 1283, 31, 1284, 1285, 1287, 32, 1288, 1927, 1928, 1929, 1930, 1931, 1933] (by decide +kernel) (by decide +kernel) w h).1
set_option maxRecDepth 20000 in
theorem in_wsL_law0_r53 : ∀ w ∈ wsL_law0_r53, w ∈ lw_tbl := fun w h => (goodIn_r wsL_law0_r53 [69, 1934, 1935, 1937, 70, 1938, 1289, 1290, 1291, 1292, 1293, 1294, 1295, 1939, 1940, 1941, 1942, 1296, 1297, 1298, 1299, 1300, 1301, 1302] (by decide +kernel) (by decide +kernel) w h).1
set_option maxRecDepth 20000 in
theorem in_wsL_law0_r54 : ∀ w ∈ wsL_law0_r54, w ∈ lw_tbl := fun w h => (goodIn_r wsL_law0_r54 [1943, 1944, 1945, 1946, 1304, 1305, 1306, 1307, 1308, 1309, 1310, 336, 1947, 1948, 1949, 1950, 1527, 1312, 1313, 1314, 1315, 1316, 1317, 1318] (by decide +kernel) (by decide +kernel) w h).1
set_option maxRecDepth 20000 in
theorem in_wsL_law0_r55 : ∀ w ∈ wsL_law0_r55, w ∈ lw_tbl := fun w h => (goodIn_r wsL_law0_r55 [242, 284, 1320, 413, 87, 414, 1321, 1322, 1323, 1324, 264, 266, 268, 419, 1325, 1326, 1327, 1328, 393, 394, 395, 396, 397, 398] (by decide +kernel) (by decide +kernel) w h).1
set_option maxRecDepth 20000 in
theorem in_wsL_law0_r56 : ∀ w ∈ wsL_law0_r56, w ∈ lw_tbl := fun w h => (goodIn_r wsL_law0_r56 [399, 400, 401, 402, 403, 404, 405, 406, 407, 408, 409, 412, 1329, 1330, 1331, 1332, 1333, 1334, 1335, 1336, 415, 416, 417, 418] (by decide +kernel) (by decide +kernel) w h).1
set_option maxRecDepth 20000 in
theorem in_wsL_law0_r57 : ∀ w ∈ wsL_law0_r57, w ∈ lw_tbl := fun w h => (goodIn_r wsL_law0_r57 [1951, 1952, 1953, 1954, 1405, 2007, 1955, 1956, 1957, 1958, 1959, 1960, 1961, 102, 1962, 1963, 1964, 103, 1965, 1966, 1967, 1968, 1969, 1970] (by decide +kernel) (by decide +kernel) w h).1
set_option maxRecDepth 20000 in
theorem in_wsL_law0_r58 : ∀ w ∈ wsL_law0_r58, w ∈ lw_tbl := fun w h => (goodIn_r wsL_law0_r58 [1971, 1972, 1973, 1974, 1975, 1976, 1977, 1979, 1981, 1982, 1983, 1984, 1985, 1990, 1986, 1987, 100, 1988, 1989, 1994, 1995, 1996, 1997, 1998] (by decide +kernel) (by decide +kernel) w h).1
set_option maxRecDepth 20000 in
theorem in_wsL_law0_r59 : ∀ w ∈ wsL_law0_r59, w ∈ lw_tbl := fun w h => (goodIn_r wsL_law0_r59 [1999, 2000, 2001, 2002, 2004, 71, 2005, 2006, 2008, 2009, 2010, 2011, 2012, 2013, 2014, 2015, 2016, 2017, 2018, 2019, 2020, 2021, 2022, 2023] (by decide +kernel) (by decide +kernel) w h).1
set_option maxRecDepth 20000 in
theorem in_wsL_law0_r60 : ∀ w ∈ wsL_law0_r60, w ∈ lw_tbl := fun w h => (goodIn_r wsL_law0_r60 [2024, 105, 2025, 2026, 2027, 2032, 2028, 2030, 1424, 2031, 2043, 2047, 2049, 2051, 2029, 2053, 2056, 2058, 2060, 1420, 2061, 2062, 2063, 2064] (by decide +kernel) (by decide +kernel) w h).1
set_option maxRecDepth 20000 in
theorem in_wsL_law0_r61 : ∀ w ∈ wsL_law0_r61, w ∈ lw_tbl := fun w h => (goodIn_r wsL_law0_r61 [2076, 2077, 2078, 2079, 2080, 2082, 72, 2083, 2316, 2317, 2318, 1337, 1338, 1339, 1340, 1341, 1342, 1343, 265, 1345, 2319, 2320, 2321, 2322] (by decide +kernel) (by decide +kernel) w h).1
set_option maxRecDepth 20000 in
theorem in_wsL_law0_r62 : ∀ w ∈ wsL_law0_r62, w ∈ lw_tbl := fun w h => (goodIn_r wsL_law0_r62 [1346, 1347, 1348, 1349, 1350, 1351, 1352, 267, 1353, 1355, 33, 1356, 2323, 2324, 2325, 2326, 1358, 1359, 1360, 1361, 1362, 1363, 1364, 269] (by decide +kernel) (by decide +kernel) w h).1
set_option maxRecDepth 20000 in
theorem in_wsL_law0_r63 : ∀ w ∈ wsL_law0_r63, w ∈ lw_tbl := fun w h => (goodIn_r wsL_law0_r63 [2327, 2328, 2329, 2330, 375, 376, 377, 378, 379, 380, 2331, 2332, 2333, 2334, 2335, 2336, 1365, 1366, 1367, 1382, 1383, 1384, 1385, 1386] (by decide +kernel) (by decide +kernel) w h).1
set_option maxRecDepth 20000 in
theorem in_wsL_law0_r64 : ∀ w ∈ wsL_law0_r64, w ∈ lw_tbl := fun w h => (goodIn_r wsL_law0_r64 [110, 232, 234, 2337, 2338, 2339, 2340, 1388, 1389, 1390, 1391, 1392, 1393, 1394, 2341, 2342, 2343, 2344, 385, 386, 387, 388, 389, 390] (by decide +kernel) (by decide +kernel) w h).1
set_option maxRecDepth 20000 in
theorem in_wsL_law0_r65 : ∀ w ∈ wsL_law0_r65, w ∈ lw_tbl := fun w h => (goodIn_r wsL_law0_r65 [391, 392, 422, 424, 0, 425, 450, 451, 452, 453, 454, 455, 456, 457, 459, 460, 461, 462, 463, 464, 2345, 2346, 2347, 2348] (by decide +kernel) (by decide +kernel) w h).1
theorem in_wsX60 : ∀ w ∈ wsX60, w ∈ lw_tbl := by decide +kernel
