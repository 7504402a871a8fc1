theorem k_pl {big : List Cond} (ws : List Cond) (ps : List Nat) (hp : ws = ps.filterMap (fun i => big[i]?)) : ∀ w ∈ ws, w ∈ big := by
  intro w hw
  rw [hp] at hw
  obtain ⟨i, -, hi⟩ := List.mem_filterMap.mp hw
  first | exact List.mem_of_getElem? hi | exact List.getElem?_mem hi
set_option maxRecDepth 20000 in
theorem kl_wsL_law_r1 : ∀ w ∈ wsL_law_r1, w ∈ lw_tbl := k_pl _ [150, 151, 131, 1281, 1282, 145, 152, 153, 154, 155, 156, 157, 229, 518, 519, 158, 159, 132, 520, 408, 165, 133, 521, 410] (by decide +kernel)
set_option maxRecDepth 20000 in
theorem kl_wsL_law_r2 : ∀ w ∈ wsL_law_r2, w ∈ lw_tbl := k_pl _ [411, 141, 522, 434, 171, 134, 523, 524, 525, 436, 437, 142, 526, 455, 456, 143, 527, 230, 528, 529, 482, 483, 144, 530] (by decide +kernel)
set_option maxRecDepth 20000 in
theorem kl_wsL_law_r3 : ∀ w ∈ wsL_law_r3, w ∈ lw_tbl := k_pl _ [531, 160, 161, 162, 163, 164, 358, 360, 362, 407, 364, 365, 366, 367, 368, 369, 370, 371, 372, 373, 374, 375, 167, 168] (by decide +kernel)
set_option maxRecDepth 20000 in
theorem kl_wsL_law_r4 : ∀ w ∈ wsL_law_r4, w ∈ lw_tbl := k_pl _ [169, 247, 251, 255, 260, 263, 266, 269, 272, 170, 275, 231, 232, 136, 279, 281, 172, 173, 174, 175, 179, 184, 189, 192] (by decide +kernel)
set_option maxRecDepth 20000 in
theorem kl_wsL_law_r5 : ∀ w ∈ wsL_law_r5, w ∈ lw_tbl := k_pl _ [197, 201, 205, 208, 176, 177, 135, 178, 234, 235, 236, 237, 238, 239, 306, 307, 308, 137, 309, 2047, 310, 311, 312, 313] (by decide +kernel)
set_option maxRecDepth 20000 in
theorem kl_wsL_law_r6 : ∀ w ∈ wsL_law_r6, w ∈ lw_tbl := k_pl _ [314, 2048, 316, 317, 318, 319, 320, 321, 322, 323, 324, 325, 138, 326, 327, 328, 329, 330, 332, 333, 139, 334, 335, 336] (by decide +kernel)
set_option maxRecDepth 20000 in
theorem kl_wsL_law_r7 : ∀ w ∈ wsL_law_r7, w ∈ lw_tbl := k_pl _ [140, 337, 338, 339, 340, 341, 342, 343, 344, 345, 346, 347, 348, 350, 352, 354, 355, 356, 357, 412, 413, 414, 415, 419] (by decide +kernel)
set_option maxRecDepth 20000 in
theorem kl_wsL_law_r8 : ∀ w ∈ wsL_law_r8, w ∈ lw_tbl := k_pl _ [421, 416, 423, 424, 418, 435, 439, 440, 441, 442, 443, 444, 445, 458, 459, 460, 461, 463, 465, 466, 467, 468, 485, 486] (by decide +kernel)
set_option maxRecDepth 20000 in
theorem kl_wsL_law_r9 : ∀ w ∈ wsL_law_r9, w ∈ lw_tbl := k_pl _ [487, 488, 490, 491, 517, 492, 493, 494, 495, 496, 497, 1283, 1284, 1285, 1286, 1311, 1312, 1316, 1322, 1323, 1324, 1325, 1326, 1327] (by decide +kernel)
set_option maxRecDepth 20000 in
theorem kl_wsL_law_r10 : ∀ w ∈ wsL_law_r10, w ∈ lw_tbl := k_pl _ [1328, 1329, 1330, 1331, 1332, 1333, 1334, 1335, 1336, 1337, 1338, 1339, 1340, 1341, 1342, 1343, 1344, 1345, 1356, 1357, 1358, 1359, 1360, 1363] (by decide +kernel)
set_option maxRecDepth 20000 in
theorem kl_wsL_law_r11 : ∀ w ∈ wsL_law_r11, w ∈ lw_tbl := k_pl _ [1364, 1366, 1367, 1368, 1369, 1370, 1371, 1372, 1373, 1376, 1377, 1287, 1289, 53, 1290, 1347, 1348, 1291, 1293, 54, 1294, 1361, 1362, 1374] (by decide +kernel)
set_option maxRecDepth 20000 in
theorem kl_wsL_law_r12 : ∀ w ∈ wsL_law_r12, w ∈ lw_tbl := k_pl _ [1365, 1295, 1297, 55, 1298, 1346, 1299, 1301, 56, 1302, 1303, 1305, 57, 1306, 1307, 1309, 58, 1310, 561, 562, 563, 564, 565, 567] (by decide +kernel)
set_option maxRecDepth 20000 in
theorem kl_wsL_law_r13 : ∀ w ∈ wsL_law_r13, w ∈ lw_tbl := k_pl _ [0, 568, 2039, 2040, 2041, 2042, 1313, 569, 570, 571, 572, 2043, 2044, 2045, 2046, 573, 574, 575, 576, 359, 277, 257, 577, 578] (by decide +kernel)
set_option maxRecDepth 20000 in
theorem kl_wsL_law_r14 : ∀ w ∈ wsL_law_r14, w ∈ lw_tbl := k_pl _ [579, 580, 581, 582, 146, 583, 584, 585, 586, 587, 588, 589, 590, 591, 592, 593, 594, 595, 596, 598, 1, 599, 600, 602] (by decide +kernel)
set_option maxRecDepth 20000 in
theorem kl_wsL_law_r15 : ∀ w ∈ wsL_law_r15, w ∈ lw_tbl := k_pl _ [2, 603, 604, 605, 606, 607, 608, 609, 610, 612, 3, 613, 614, 616, 4, 617, 618, 619, 620, 621, 623, 5, 624, 626] (by decide +kernel)
set_option maxRecDepth 20000 in
theorem kl_wsL_law_r16 : ∀ w ∈ wsL_law_r16, w ∈ lw_tbl := k_pl _ [627, 628, 629, 630, 631, 632, 633, 634, 635, 636, 637, 641, 642, 643, 644, 638, 639, 640, 645, 646, 647, 648, 649, 650] (by decide +kernel)
set_option maxRecDepth 20000 in
theorem kl_wsL_law_r17 : ∀ w ∈ wsL_law_r17, w ∈ lw_tbl := k_pl _ [651, 652, 653, 654, 655, 656, 657, 658, 659, 660, 661, 662, 663, 664, 665, 666, 667, 668, 669, 670, 671, 672, 673, 147] (by decide +kernel)
set_option maxRecDepth 20000 in
theorem kl_wsL_law_r18 : ∀ w ∈ wsL_law_r18, w ∈ lw_tbl := k_pl _ [674, 675, 676, 677, 678, 679, 680, 681, 682, 683, 685, 6, 686, 687, 689, 7, 690, 248, 267, 270, 691, 693, 8, 694] (by decide +kernel)
set_option maxRecDepth 20000 in
theorem kl_wsL_law_r19 : ∀ w ∈ wsL_law_r19, w ∈ lw_tbl := k_pl _ [695, 697, 9, 698, 699, 701, 10, 702, 703, 705, 11, 706, 707, 709, 12, 710, 711, 713, 13, 714, 715, 717, 14, 718] (by decide +kernel)
set_option maxRecDepth 20000 in
theorem kl_wsL_law_r20 : ∀ w ∈ wsL_law_r20, w ∈ lw_tbl := k_pl _ [719, 721, 15, 722, 723, 725, 16, 726, 253, 276, 182, 727, 729, 17, 730, 259, 195, 273, 199, 187, 731, 732, 733, 734] (by decide +kernel)
set_option maxRecDepth 20000 in
theorem kl_wsL_law_r21 : ∀ w ∈ wsL_law_r21, w ∈ lw_tbl := k_pl _ [185, 735, 737, 18, 738, 739, 741, 19, 742, 280, 743, 745, 20, 751, 752, 753, 754, 746, 747, 749, 21, 750, 755, 757] (by decide +kernel)
set_option maxRecDepth 20000 in
theorem kl_wsL_law_r22 : ∀ w ∈ wsL_law_r22, w ∈ lw_tbl := k_pl _ [22, 786, 787, 788, 770, 264, 758, 759, 761, 23, 762, 763, 765, 24, 783, 784, 785, 766, 767, 769, 25, 771, 772, 773] (by decide +kernel)
set_option maxRecDepth 20000 in
theorem kl_wsL_law_r23 : ∀ w ∈ wsL_law_r23, w ∈ lw_tbl := k_pl _ [774, 775, 776, 777, 778, 779, 780, 781, 782, 789, 791, 26, 792, 261, 793, 795, 27, 796, 209, 797, 799, 28, 800, 202] (by decide +kernel)
set_option maxRecDepth 20000 in
theorem kl_wsL_law_r24 : ∀ w ∈ wsL_law_r24, w ∈ lw_tbl := k_pl _ [801, 802, 803, 804, 805, 806, 807, 808, 809, 810, 811, 812, 813, 814, 815, 817, 816, 148, 818, 819, 820, 821, 1513, 1514] (by decide +kernel)
set_option maxRecDepth 20000 in
theorem kl_wsL_law_r25 : ∀ w ∈ wsL_law_r25, w ∈ lw_tbl := k_pl _ [1515, 1516, 1315, 1314, 1318, 1319, 1517, 1519, 59, 1520, 1317, 1321, 1320, 1521, 1523, 60, 1524, 1525, 1526, 1527, 1528, 1529, 1530, 1531] (by decide +kernel)
set_option maxRecDepth 20000 in
theorem kl_wsL_law_r26 : ∀ w ∈ wsL_law_r26, w ∈ lw_tbl := k_pl _ [1532, 1533, 1534, 1535, 1536, 1537, 1538, 1539, 1540, 1541, 1542, 1543, 1544, 1545, 1546, 1547, 1548, 1549, 1550, 1551, 1552, 1553, 1554, 1555] (by decide +kernel)
set_option maxRecDepth 20000 in
theorem kl_wsL_law_r27 : ∀ w ∈ wsL_law_r27, w ∈ lw_tbl := k_pl _ [1556, 1558, 61, 1559, 1560, 1562, 62, 1563, 1564, 1566, 63, 1567, 1568, 1570, 64, 1571, 1572, 1573, 1574, 1575, 1577, 65, 1578, 1579] (by decide +kernel)
set_option maxRecDepth 20000 in
theorem kl_wsL_law_r28 : ∀ w ∈ wsL_law_r28, w ∈ lw_tbl := k_pl _ [1581, 66, 1582, 1583, 1585, 67, 1586, 1587, 1589, 68, 1590, 1591, 1593, 69, 1594, 1595, 1597, 70, 1598, 1599, 1601, 71, 1602, 1603] (by decide +kernel)
set_option maxRecDepth 20000 in
theorem kl_wsL_law_r29 : ∀ w ∈ wsL_law_r29, w ∈ lw_tbl := k_pl _ [1605, 72, 1606, 1607, 1609, 73, 1610, 1611, 1613, 74, 1614, 1615, 1617, 75, 1618, 1619, 1621, 76, 1622, 1623, 1625, 77, 1626, 1627] (by decide +kernel)
set_option maxRecDepth 20000 in
theorem kl_wsL_law_r30 : ∀ w ∈ wsL_law_r30, w ∈ lw_tbl := k_pl _ [1629, 78, 1630, 1631, 1633, 79, 1634, 1635, 1637, 80, 1638, 1351, 1639, 1641, 81, 1642, 1350, 1349, 1643, 1645, 82, 1646, 1647, 1649] (by decide +kernel)
set_option maxRecDepth 20000 in
theorem kl_wsL_law_r31 : ∀ w ∈ wsL_law_r31, w ∈ lw_tbl := k_pl _ [83, 1650, 1651, 1653, 84, 1654, 1655, 1657, 85, 1658, 1659, 1661, 86, 1662, 1663, 1665, 87, 1666, 1667, 1669, 88, 1670, 1671, 1673] (by decide +kernel)
set_option maxRecDepth 20000 in
theorem kl_wsL_law_r32 : ∀ w ∈ wsL_law_r32, w ∈ lw_tbl := k_pl _ [89, 1674, 822, 823, 824, 825, 361, 363, 1675, 1676, 1677, 1678, 826, 827, 828, 829, 268, 271, 830, 832, 29, 833, 250, 834] (by decide +kernel)
set_option maxRecDepth 20000 in
theorem kl_wsL_law_r33 : ∀ w ∈ wsL_law_r33, w ∈ lw_tbl := k_pl _ [835, 836, 837, 838, 839, 840, 841, 842, 843, 844, 845, 180, 846, 847, 848, 849, 850, 851, 852, 853, 1679, 1680, 1681, 1682] (by decide +kernel)
set_option maxRecDepth 20000 in
theorem kl_wsL_law_r34 : ∀ w ∈ wsL_law_r34, w ∈ lw_tbl := k_pl _ [1683, 1685, 90, 1686, 1687, 1688, 1689, 1690, 1692, 91, 1693, 1694, 1696, 92, 1697, 1698, 1700, 93, 1701, 1702, 1704, 94, 1705, 854] (by decide +kernel)
set_option maxRecDepth 20000 in
theorem kl_wsL_law_r35 : ∀ w ∈ wsL_law_r35, w ∈ lw_tbl := k_pl _ [855, 856, 857, 183, 858, 860, 30, 861, 254, 862, 1706, 1707, 1708, 1709, 1710, 1712, 95, 1713, 1714, 1716, 96, 1717, 863, 864] (by decide +kernel)
set_option maxRecDepth 20000 in
theorem kl_wsL_law_r36 : ∀ w ∈ wsL_law_r36, w ∈ lw_tbl := k_pl _ [865, 866, 188, 196, 274, 200, 191, 867, 869, 31, 870, 1718, 1719, 1720, 1721, 1722, 1724, 97, 1725, 871, 872, 873, 874, 876] (by decide +kernel)
set_option maxRecDepth 20000 in
theorem kl_wsL_law_r37 : ∀ w ∈ wsL_law_r37, w ∈ lw_tbl := k_pl _ [875, 877, 878, 879, 880, 881, 882, 883, 884, 194, 198, 190, 206, 885, 886, 887, 888, 889, 890, 891, 892, 893, 894, 895] (by decide +kernel)
set_option maxRecDepth 20000 in
theorem kl_wsL_law_r38 : ∀ w ∈ wsL_law_r38, w ∈ lw_tbl := k_pl _ [896, 897, 898, 1726, 1727, 1728, 1729, 1756, 1730, 1732, 98, 1733, 1734, 1736, 99, 1737, 1352, 1353, 1354, 1355, 1738, 1740, 100, 1741] (by decide +kernel)
set_option maxRecDepth 20000 in
theorem kl_wsL_law_r39 : ∀ w ∈ wsL_law_r39, w ∈ lw_tbl := k_pl _ [1742, 1743, 1744, 1745, 1747, 101, 1748, 1749, 1751, 102, 1752, 1753, 1754, 1755, 899, 900, 901, 902, 207, 903, 904, 905, 906, 907] (by decide +kernel)
set_option maxRecDepth 20000 in
theorem kl_wsL_law_r40 : ∀ w ∈ wsL_law_r40, w ∈ lw_tbl := k_pl _ [908, 909, 910, 911, 912, 913, 914, 915, 916, 917, 918, 919, 920, 921, 923, 32, 924, 210, 925, 926, 927, 928, 929, 203] (by decide +kernel)
set_option maxRecDepth 20000 in
theorem kl_wsL_law_r41 : ∀ w ∈ wsL_law_r41, w ∈ lw_tbl := k_pl _ [930, 931, 932, 933, 1793, 1794, 1795, 1796, 1797, 1799, 106, 1800, 1801, 1803, 107, 1804, 1805, 1807, 108, 1808, 1761, 1763, 103, 1764] (by decide +kernel)
set_option maxRecDepth 20000 in
theorem kl_wsL_law_r42 : ∀ w ∈ wsL_law_r42, w ∈ lw_tbl := k_pl _ [1765, 1767, 104, 1768, 1769, 1771, 105, 1772, 1809, 1811, 109, 1812, 1813, 1815, 110, 1816, 1817, 1819, 111, 1820, 1821, 1823, 112, 1824] (by decide +kernel)
set_option maxRecDepth 20000 in
theorem kl_wsL_law_r43 : ∀ w ∈ wsL_law_r43, w ∈ lw_tbl := k_pl _ [1825, 1827, 113, 1828, 934, 935, 936, 937, 938, 1829, 1830, 1831, 1832, 1833, 1835, 114, 1836, 939, 940, 941, 942, 943, 945, 33] (by decide +kernel)
set_option maxRecDepth 20000 in
theorem kl_wsL_law_r44 : ∀ w ∈ wsL_law_r44, w ∈ lw_tbl := k_pl _ [946, 1837, 1838, 1839, 1840, 947, 948, 949, 950, 1841, 1842, 1843, 1844, 951, 952, 953, 954, 955, 957, 34, 958, 959, 1845, 1846] (by decide +kernel)
set_option maxRecDepth 20000 in
theorem kl_wsL_law_r45 : ∀ w ∈ wsL_law_r45, w ∈ lw_tbl := k_pl _ [1847, 1848, 960, 961, 962, 963, 1849, 1850, 1851, 1852, 1853, 1855, 115, 1856, 964, 965, 966, 967, 1857, 1858, 1859, 1860, 968, 969] (by decide +kernel)
set_option maxRecDepth 20000 in
theorem kl_wsL_law_r46 : ∀ w ∈ wsL_law_r46, w ∈ lw_tbl := k_pl _ [970, 971, 972, 973, 974, 975, 1861, 1862, 1863, 1864, 1865, 1867, 116, 1868, 976, 977, 978, 979, 980, 981, 982, 983, 1869, 1870] (by decide +kernel)
set_option maxRecDepth 20000 in
theorem kl_wsL_law_r47 : ∀ w ∈ wsL_law_r47, w ∈ lw_tbl := k_pl _ [1871, 1872, 984, 985, 986, 987, 988, 989, 990, 991, 992, 994, 35, 995, 996, 997, 1877, 1878, 1879, 1880, 1881, 1882, 1883, 1884] (by decide +kernel)
set_option maxRecDepth 20000 in
theorem kl_wsL_law_r48 : ∀ w ∈ wsL_law_r48, w ∈ lw_tbl := k_pl _ [1886, 117, 1887, 1888, 1890, 118, 1891, 998, 999, 1000, 1001, 1892, 1893, 1894, 1895, 1896, 1898, 119, 1899, 1002, 1003, 1004, 1005, 1006] (by decide +kernel)
set_option maxRecDepth 20000 in
theorem kl_wsL_law_r49 : ∀ w ∈ wsL_law_r49, w ∈ lw_tbl := k_pl _ [1757, 1758, 1759, 1760, 1055, 1056, 1057, 1058, 1059, 1060, 1061, 1062, 256, 252, 1063, 1065, 38, 1066, 1069, 1070, 1067, 1068, 1071, 1073] (by decide +kernel)
set_option maxRecDepth 20000 in
theorem kl_wsL_law_r50 : ∀ w ∈ wsL_law_r50, w ∈ lw_tbl := k_pl _ [39, 1074, 1075, 1077, 40, 1078, 1079, 1080, 1081, 1082, 1083, 1084, 1085, 1086, 1087, 1938, 1939, 1940, 1941, 1950, 1942, 1944, 122, 1945] (by decide +kernel)
set_option maxRecDepth 20000 in
theorem kl_wsL_law_r51 : ∀ w ∈ wsL_law_r51, w ∈ lw_tbl := k_pl _ [1946, 1948, 123, 1949, 1786, 1787, 1788, 1088, 1089, 1090, 1091, 1092, 1093, 1094, 1095, 1951, 1952, 1953, 1954, 1096, 1097, 1098, 1099, 1100] (by decide +kernel)
set_option maxRecDepth 20000 in
theorem kl_wsL_law_r52 : ∀ w ∈ wsL_law_r52, w ∈ lw_tbl := k_pl _ [1102, 41, 1103, 1955, 1956, 1957, 1958, 1104, 1105, 1106, 1107, 1108, 1110, 42, 1111, 1112, 1113, 1024, 1025, 1026, 1959, 1960, 1961, 1962] (by decide +kernel)
set_option maxRecDepth 20000 in
theorem kl_wsL_law_r53 : ∀ w ∈ wsL_law_r53, w ∈ lw_tbl := k_pl _ [1963, 1965, 124, 1966, 1114, 1115, 1116, 1117, 1967, 1968, 1969, 1970, 1159, 1160, 1161, 1162, 204, 1163, 1165, 47, 1166, 1167, 1916, 1917] (by decide +kernel)
set_option maxRecDepth 20000 in
theorem kl_wsL_law_r54 : ∀ w ∈ wsL_law_r54, w ∈ lw_tbl := k_pl _ [1918, 1919, 1920, 1922, 121, 1923, 1168, 1169, 1170, 1171, 1924, 1925, 1926, 1927, 1033, 1034, 1035, 1036, 1037, 1011, 1013, 36, 1014, 1908] (by decide +kernel)
set_option maxRecDepth 20000 in
theorem kl_wsL_law_r55 : ∀ w ∈ wsL_law_r55, w ∈ lw_tbl := k_pl _ [1909, 1910, 1911, 1904, 1906, 120, 1907, 1118, 1119, 1120, 1121, 462, 464, 1122, 1124, 43, 1125, 1126, 1127, 1128, 1129, 1130, 1131, 1132] (by decide +kernel)
set_option maxRecDepth 20000 in
theorem kl_wsL_law_r56 : ∀ w ∈ wsL_law_r56, w ∈ lw_tbl := k_pl _ [193, 1133, 1134, 1135, 1136, 1137, 1138, 1139, 1140, 1142, 44, 1143, 1144, 1146, 45, 1147, 1148, 1149, 1150, 1151, 1153, 46, 1154, 1975] (by decide +kernel)
set_option maxRecDepth 20000 in
theorem kl_wsL_law_r57 : ∀ w ∈ wsL_law_r57, w ∈ lw_tbl := k_pl _ [1976, 1977, 1978, 1979, 1981, 125, 1982, 1983, 1984, 1985, 1986, 1988, 126, 1989, 1038, 1039, 1040, 1041, 1042, 1044, 37, 1045, 1046, 1912] (by decide +kernel)
set_option maxRecDepth 20000 in
theorem kl_wsL_law_r58 : ∀ w ∈ wsL_law_r58, w ∈ lw_tbl := k_pl _ [1913, 1914, 1915, 1172, 1173, 1174, 1175, 1176, 1178, 48, 1179, 1971, 1972, 1973, 1974, 1180, 1181, 1182, 1183, 1184, 1186, 49, 1187, 1054] (by decide +kernel)
set_option maxRecDepth 20000 in
theorem kl_wsL_law_r59 : ∀ w ∈ wsL_law_r59, w ∈ lw_tbl := k_pl _ [1782, 1783, 1784, 1785, 1188, 1189, 1190, 1191, 1192, 1194, 50, 1195, 1789, 1790, 1791, 1792, 1007, 1008, 1009, 1010, 1900, 1901, 1902, 1903] (by decide +kernel)
set_option maxRecDepth 20000 in
theorem kl_wsL_law_r60 : ∀ w ∈ wsL_law_r60, w ∈ lw_tbl := k_pl _ [1015, 1016, 1017, 1018, 1019, 1020, 1021, 1022, 1023, 1027, 1028, 149, 1029, 1030, 1031, 1032, 1773, 1774, 1775, 1776, 1196, 1197, 1198, 1199] (by decide +kernel)
set_option maxRecDepth 20000 in
theorem kl_wsL_law_r61 : ∀ w ∈ wsL_law_r61, w ∈ lw_tbl := k_pl _ [1200, 1777, 1778, 1779, 1780, 1781, 1047, 1048, 1049, 1050, 262, 1051, 1052, 1053, 1928, 1929, 1930, 1931, 1932, 1933, 1934, 1935, 1936, 1937] (by decide +kernel)
set_option maxRecDepth 20000 in
theorem kl_wsL_law_r62 : ∀ w ∈ wsL_law_r62, w ∈ lw_tbl := k_pl _ [1155, 1156, 1157, 1158, 1873, 1874, 1875, 1876, 1201, 1202, 1203, 1204, 1205, 1206, 1207, 1208, 1209, 1210, 1211, 1990, 1991, 1992, 1993, 1375] (by decide +kernel)
set_option maxRecDepth 20000 in
theorem kl_wsL_law_r63 : ∀ w ∈ wsL_law_r63, w ∈ lw_tbl := k_pl _ [1212, 1213, 1214, 1215, 1216, 1217, 1218, 1219, 1994, 1995, 1996, 1997, 1220, 1221, 1222, 1223, 1224, 1998, 1999, 2000, 2001, 1225, 1226, 1227] (by decide +kernel)
set_option maxRecDepth 20000 in
theorem kl_wsL_law_r64 : ∀ w ∈ wsL_law_r64, w ∈ lw_tbl := k_pl _ [1228, 1229, 1230, 1231, 1232, 249, 258, 278, 186, 181, 1233, 1234, 1235, 1236, 1237, 1238, 1239, 1240, 1241, 1242, 1243, 1245, 51, 1246] (by decide +kernel)
set_option maxRecDepth 20000 in
theorem kl_wsL_law_r65 : ∀ w ∈ wsL_law_r65, w ∈ lw_tbl := k_pl _ [1247, 1249, 52, 1250, 2002, 2003, 2004, 2005, 2006, 2008, 127, 2009, 2010, 2012, 128, 2013, 1251, 1252, 1253, 1254, 2014, 2015, 2016, 2017] (by decide +kernel)
set_option maxRecDepth 20000 in
theorem kl_wsL_law_r66 : ∀ w ∈ wsL_law_r66, w ∈ lw_tbl := k_pl _ [2018, 1255, 1256, 1257, 1258, 1259, 1260, 1261, 1262, 1263, 1264, 2019, 2020, 2021, 2022, 1265, 1266, 1267, 1268, 2023, 2024, 2025, 2026, 1269] (by decide +kernel)
set_option maxRecDepth 20000 in
theorem kl_wsL_law_r67 : ∀ w ∈ wsL_law_r67, w ∈ lw_tbl := k_pl _ [1270, 1271, 1272, 2027, 2028, 2029, 2030, 1273, 1274, 1275, 1276, 211, 420, 422, 489, 265, 1277, 1278, 1279, 1280, 2031, 2032, 2033, 2034] (by decide +kernel)
set_option maxRecDepth 20000 in
theorem kl_wsL_law_r68 : ∀ w ∈ wsL_law_r68, w ∈ lw_tbl := k_pl _ [2035, 2037, 129, 2038] (by decide +kernel)
set_option maxRecDepth 20000 in
theorem kl_wsX80 : ∀ w ∈ wsX80, w ∈ lw_tbl := k_pl _ [532, 534, 536, 538, 540, 542, 544, 546, 548, 550, 552, 554, 556, 558] (by decide +kernel)
set_option maxRecDepth 20000 in
theorem kl_wsX90 : ∀ w ∈ wsX90, w ∈ lw_tbl := k_pl _ [1378, 1380, 1382, 1384, 1386, 1388, 1390, 1392, 1394, 1396, 1398, 1400, 1402, 1404, 1406, 1408, 1410, 1412, 1414, 1416, 1418, 1420, 1422, 1424, 1426, 1428, 1430, 1432, 1434, 1436, 1438, 1440, 1442, 1444, 1446, 1448, 1450, 1452, 1454, 1456, 1458, 1460, 1462, 1464, 1466, 1468, 1470, 1472, 1474, 1476, 1478, 1480, 1482, 1484, 1486, 1488, 1490, 1492, 1494, 1496, 1498, 1500, 1502, 1504, 1506, 1508, 1510] (by decide +kernel)
set_option maxRecDepth 20000 in
theorem kl_wsX50 : ∀ w ∈ wsX50, w ∈ lw_tbl := k_pl _ [376, 378, 380, 382, 384, 386, 388, 390, 392, 394, 396, 398, 400, 402, 404] (by decide +kernel)
set_option maxRecDepth 20000 in
theorem kl_wsX40 : ∀ w ∈ wsX40, w ∈ lw_tbl := k_pl _ [282, 284, 286, 288, 290, 292, 294, 296, 298, 300, 302] (by decide +kernel)
set_option maxRecDepth 20000 in
theorem kl_wsX00 : ∀ w ∈ wsX00, w ∈ lw_tbl := k_pl _ [425, 427, 429, 431] (by decide +kernel)
set_option maxRecDepth 20000 in
theorem kl_wsX70 : ∀ w ∈ wsX70, w ∈ lw_tbl := k_pl _ [212, 214, 216, 218, 220, 222, 224, 226] (by decide +kernel)
set_option maxRecDepth 20000 in
theorem kl_wsX30 : ∀ w ∈ wsX30, w ∈ lw_tbl := k_pl _ [446, 448, 450, 452] (by decide +kernel)
set_option maxRecDepth 20000 in
theorem kl_wsX10 : ∀ w ∈ wsX10, w ∈ lw_tbl := k_pl _ [469, 471, 473, 475, 477, 479] (by decide +kernel)
set_option maxRecDepth 20000 in
theorem kl_wsX60 : ∀ w ∈ wsX60, w ∈ lw_tbl := k_pl _ [498, 500, 502, 504, 506, 508, 510, 512, 514] (by decide +kernel)
set_option maxRecDepth 20000 in
theorem kl_wsX20 : ∀ w ∈ wsX20, w ∈ lw_tbl := k_pl _ [240, 242, 244] (by decide +kernel)
theorem wsL_law_in : ∀ w ∈ wsL_law, w ∈ lw_tbl := by
  unfold wsL_law
  exact (List.forall_mem_append.mpr ⟨(List.forall_mem_append.mpr ⟨(List.forall_mem_append.mpr ⟨(List.forall_mem_append.mpr ⟨(List.forall_mem_append.mpr ⟨(List.forall_mem_append.mpr ⟨(List.forall_mem_append.mpr ⟨(List.forall_mem_append.mpr ⟨(List.forall_mem_append.mpr ⟨(List.forall_mem_append.mpr ⟨(List.forall_mem_append.mpr ⟨(List.forall_mem_append.mpr ⟨kl_wsL_law_r1, (List.forall_mem_append.mpr ⟨kl_wsL_law_r2, (List.forall_mem_append.mpr ⟨kl_wsL_law_r3, (List.forall_mem_append.mpr ⟨kl_wsL_law_r4, (List.forall_mem_append.mpr ⟨kl_wsL_law_r5, (List.forall_mem_append.mpr ⟨kl_wsL_law_r6, (List.forall_mem_append.mpr ⟨kl_wsL_law_r7, (List.forall_mem_append.mpr ⟨kl_wsL_law_r8, (List.forall_mem_append.mpr ⟨kl_wsL_law_r9, (List.forall_mem_append.mpr ⟨kl_wsL_law_r10, (List.forall_mem_append.mpr ⟨kl_wsL_law_r11, (List.forall_mem_append.mpr ⟨kl_wsL_law_r12, (List.forall_mem_append.mpr ⟨kl_wsL_law_r13, (List.forall_mem_append.mpr ⟨kl_wsL_law_r14, (List.forall_mem_append.mpr ⟨kl_wsL_law_r15, (List.forall_mem_append.mpr ⟨kl_wsL_law_r16, (List.forall_mem_append.mpr ⟨kl_wsL_law_r17, (List.forall_mem_append.mpr ⟨kl_wsL_law_r18, (List.forall_mem_append.mpr ⟨kl_wsL_law_r19, (List.forall_mem_append.mpr ⟨kl_wsL_law_r20, (List.forall_mem_append.mpr ⟨kl_wsL_law_r21, (List.forall_mem_append.mpr ⟨kl_wsL_law_r22, (List.forall_mem_append.mpr ⟨kl_wsL_law_r23, (List.forall_mem_append.mpr ⟨kl_wsL_law_r24, (List.forall_mem_append.mpr ⟨kl_wsL_law_r25, (List.forall_mem_append.mpr ⟨kl_wsL_law_r26, (List.forall_mem_append.mpr ⟨kl_wsL_law_r27, (List.forall_mem_append.mpr ⟨kl_wsL_law_r28, (List.forall_mem_append.mpr ⟨kl_wsL_law_r29, (List.forall_mem_append.mpr ⟨kl_wsL_law_r30, (List.forall_mem_append.mpr ⟨kl_wsL_law_r31, (List.forall_mem_append.mpr ⟨kl_wsL_law_r32, (List.forall_mem_append.mpr ⟨kl_wsL_law_r33, (List.forall_mem_append.mpr ⟨kl_wsL_law_r34, (List.forall_mem_append.mpr ⟨kl_wsL_law_r35, (List.forall_mem_append.mpr ⟨kl_wsL_law_r36, (List.forall_mem_append.mpr ⟨kl_wsL_law_r37, (List.forall_mem_append.mpr ⟨kl_wsL_law_r38, (List.forall_mem_append.mpr ⟨kl_wsL_law_r39, (List.forall_mem_append.mpr ⟨kl_wsL_law_r40, (List.forall_mem_append.mpr ⟨kl_wsL_law_r41, (List.forall_mem_append.mpr ⟨kl_wsL_law_r42, (List.forall_mem_append.mpr ⟨kl_wsL_law_r43, (List.forall_mem_append.mpr ⟨kl_wsL_law_r44, (List.forall_mem_append.mpr ⟨kl_wsL_law_r45, (List.forall_mem_append.mpr ⟨kl_wsL_law_r46, (List.forall_mem_append.mpr ⟨kl_wsL_law_r47, (List.forall_mem_append.mpr ⟨kl_wsL_law_r48, (List.forall_mem_append.mpr ⟨kl_wsL_law_r49, (List.forall_mem_append.mpr ⟨kl_wsL_law_r50, (List.forall_mem_append.mpr ⟨kl_wsL_law_r51, (List.forall_mem_append.mpr ⟨kl_wsL_law_r52, (List.forall_mem_append.mpr ⟨kl_wsL_law_r53, (List.forall_mem_append.mpr ⟨kl_wsL_law_r54, (List.forall_mem_append.mpr ⟨kl_wsL_law_r55, (List.forall_mem_append.mpr ⟨kl_wsL_law_r56, (List.forall_mem_append.mpr ⟨kl_wsL_law_r57, (List.forall_mem_append.mpr ⟨kl_wsL_law_r58, (List.forall_mem_append.mpr ⟨kl_wsL_law_r59, (List.forall_mem_append.mpr ⟨kl_wsL_law_r60, (List.forall_mem_append.mpr ⟨kl_wsL_law_r61, (List.forall_mem_append.mpr ⟨kl_wsL_law_r62, (List.forall_mem_append.mpr ⟨kl_wsL_law_r63, (List.forall_mem_append.mpr ⟨kl_wsL_law_r64, (List.forall_mem_append.mpr ⟨kl_wsL_law_r65, (List.forall_mem_append.mpr ⟨kl_wsL_law_r66, (List.forall_mem_append.mpr ⟨kl_wsL_law_r67, kl_wsL_law_r68⟩)⟩)⟩)⟩)⟩)⟩)⟩)⟩)⟩)⟩)⟩)⟩)⟩)⟩)⟩)⟩)⟩)⟩)⟩)⟩)⟩)⟩)⟩)⟩)⟩)⟩)⟩)⟩)⟩)⟩)⟩)⟩)⟩)⟩)⟩)⟩)⟩)⟩)⟩)⟩)⟩)⟩)⟩)⟩)⟩)⟩)⟩)⟩)⟩)⟩)⟩)⟩)⟩)⟩)⟩)⟩)⟩)⟩)⟩)⟩)⟩)⟩)⟩)⟩)⟩)⟩)⟩), kl_wsX80⟩), kl_wsX90⟩), kl_wsX50⟩), kl_wsX40⟩), kl_wsX00⟩), kl_wsX70⟩), kl_wsX30⟩), kl_wsX10⟩), kl_wsX60⟩), kl_wsX20⟩), (fun _ h => absurd h List.not_mem_nil)⟩)
theorem inlX0 : ∀ w ∈ wsX00, w ∈ wsL_law := fun _ h => List.mem_append_left _ (List.mem_append_left _ (List.mem_append_left _ (List.mem_append_left _ (List.mem_append_left _ (List.mem_append_left _ (List.mem_append_right _ h))))))
theorem inX0 : ∀ w ∈ wsX00, w ∈ lw_tbl := fun w h => wsL_law_in w (inlX0 w h)
theorem inlX1 : ∀ w ∈ wsX10, w ∈ wsL_law := fun _ h => List.mem_append_left _ (List.mem_append_left _ (List.mem_append_left _ (List.mem_append_right _ h)))
theorem inX1 : ∀ w ∈ wsX10, w ∈ lw_tbl := fun w h => wsL_law_in w (inlX1 w h)
theorem inlX2 : ∀ w ∈ wsX20, w ∈ wsL_law := fun _ h => List.mem_append_left _ (List.mem_append_right _ h)
theorem inX2 : ∀ w ∈ wsX20, w ∈ lw_tbl := fun w h => wsL_law_in w (inlX2 w h)
theorem inlX3 : ∀ w ∈ wsX30, w ∈ wsL_law := fun _ h => List.mem_append_left _ (List.mem_append_left _ (List.mem_append_left _ (List.mem_append_left _ (List.mem_append_right _ h))))
theorem inX3 : ∀ w ∈ wsX30, w ∈ lw_tbl := fun w h => wsL_law_in w (inlX3 w h)
theorem inlX4 : ∀ w ∈ wsX40, w ∈ wsL_law := fun _ h => List.mem_append_left _ (List.mem_append_left _ (List.mem_append_left _ (List.mem_append_left _ (List.mem_append_left _ (List.mem_append_left _ (List.mem_append_left _ (List.mem_append_right _ h)))))))
theorem inX4 : ∀ w ∈ wsX40, w ∈ lw_tbl := fun w h => wsL_law_in w (inlX4 w h)
theorem inlX5 : ∀ w ∈ wsX50, w ∈ wsL_law := fun _ h => List.mem_append_left _ (List.mem_append_left _ (List.mem_append_left _ (List.mem_append_left _ (List.mem_append_left _ (List.mem_append_left _ (List.mem_append_left _ (List.mem_append_left _ (List.mem_append_right _ h))))))))
theorem inX5 : ∀ w ∈ wsX50, w ∈ lw_tbl := fun w h => wsL_law_in w (inlX5 w h)
theorem inlX6 : ∀ w ∈ wsX60, w ∈ wsL_law := fun _ h => List.mem_append_left _ (List.mem_append_left _ (List.mem_append_right _ h))
theorem inX6 : ∀ w ∈ wsX60, w ∈ lw_tbl := fun w h => wsL_law_in w (inlX6 w h)
theorem inlX7 : ∀ w ∈ wsX70, w ∈ wsL_law := fun _ h => List.mem_append_left _ (List.mem_append_left _ (List.mem_append_left _ (List.mem_append_left _ (List.mem_append_left _ (List.mem_append_right _ h)))))
theorem inX7 : ∀ w ∈ wsX70, w ∈ lw_tbl := fun w h => wsL_law_in w (inlX7 w h)
theorem inlX8 : ∀ w ∈ wsX80, w ∈ wsL_law := fun _ h => List.mem_append_left _ (List.mem_append_left _ (List.mem_append_left _ (List.mem_append_left _ (List.mem_append_left _ (List.mem_append_left _ (List.mem_append_left _ (List.mem_append_left _ (List.mem_append_left _ (List.mem_append_left _ (List.mem_append_right _ h))))))))))
theorem inX8 : ∀ w ∈ wsX80, w ∈ lw_tbl := fun w h => wsL_law_in w (inlX8 w h)
theorem inlX9 : ∀ w ∈ wsX90, w ∈ wsL_law := fun _ h => List.mem_append_left _ (List.mem_append_left _ (List.mem_append_left _ (List.mem_append_left _ (List.mem_append_left _ (List.mem_append_left _ (List.mem_append_left _ (List.mem_append_left _ (List.mem_append_left _ (List.mem_append_right _ h)))))))))
theorem inX9 : ∀ w ∈ wsX90, w ∈ lw_tbl := fun w h => wsL_law_in w (inlX9 w h)
