/-! ===== the start: words among the tables ===== -/
theorem goodIn_d (ws : List Cond) (h : ∀ w ∈ ws, w ∈ lw_tbl) (g : ws.all goodWord = true) : GoodIn lw_tbl ws := fun w hw => ⟨h w hw, good_of_word (List.all_eq_true.mp g w hw)⟩
def uL : List Cond := xm_U 330 vwCl xt_zs xt_ys xt_N xt_FL xt_KI xt_KL xt_GS xt_LK
theorem goodIn_td {big l : List Cond} {a b : Nat} (h1 : GoodIn big ((l.drop a).take b)) (h2 : GoodIn big (l.drop (a + b))) : GoodIn big (l.drop a) := by
  rw [← List.drop_drop] at h2
  have := goodIn_app h1 h2
  rwa [List.take_append_drop] at this
set_option maxRecDepth 100000 in
set_option maxHeartbeats 4000000 in
theorem uL_0 : GoodIn lw_tbl ((uL.drop 0).take 40) := goodIn_r _ [1329, 211, 1433, 211, 1457, 211, 1325, 211, 1465, 211, 1429, 211, 1381, 211, 1361, 211, 1445, 211, 1317, 211, 1385, 211, 1369, 211, 1357, 211, 1441, 211, 1397, 211, 1373, 211, 1405, 211, 1413, 211, 1333, 211, 1341, 211] rfl rfl
set_option maxRecDepth 100000 in
set_option maxHeartbeats 4000000 in
theorem uL_40 : GoodIn lw_tbl ((uL.drop 40).take 40) := goodIn_r _ [1349, 211, 1393, 211, 1449, 211, 1417, 211, 1469, 211, 1337, 211, 1345, 211, 1040, 211, 1421, 211, 1425, 211, 1321, 211, 1409, 211, 1353, 211, 1377, 211, 1453, 211, 1401, 211, 1365, 211, 1461, 211, 1389, 211, 1437, 211] rfl rfl
set_option maxRecDepth 100000 in
set_option maxHeartbeats 4000000 in
theorem uL_80 : GoodIn lw_tbl ((uL.drop 80).take 40) := goodIn_r _ [920, 210, 916, 210, 285, 210, 924, 210, 911, 210, 943, 210, 900, 210, 903, 210, 933, 210, 896, 210, 928, 210, 907, 210, 1536, 213, 1523, 213, 1551, 213, 1544, 213, 1581, 213, 1539, 213, 1554, 213, 1562, 213] rfl rfl
set_option maxRecDepth 100000 in
set_option maxHeartbeats 4000000 in
theorem uL_120 : GoodIn lw_tbl ((uL.drop 120).take 40) := goodIn_r _ [1566, 213, 1531, 213, 1508, 213, 1547, 213, 1514, 213, 1519, 213, 1527, 213, 1558, 213, 1576, 213, 857, 215, 869, 215, 873, 215, 845, 215, 861, 215, 829, 215, 991, 215, 986, 215, 1486, 212, 1504, 212, 1590, 212] rfl rfl
set_option maxRecDepth 100000 in
set_option maxHeartbeats 4000000 in
theorem uL_160 : GoodIn lw_tbl ((uL.drop 160).take 40) := goodIn_r _ [1594, 212, 1586, 212, 1491, 212, 1500, 212, 1601, 212, 1495, 212, 1478, 212, 1606, 212, 1473, 212, 982, 209, 892, 209, 885, 209, 889, 209, 971, 209, 1144, 209, 978, 209, 975, 209, 881, 209, 865, 217, 1108, 217] rfl rfl
set_option maxRecDepth 100000 in
set_option maxHeartbeats 4000000 in
theorem uL_200 : GoodIn lw_tbl ((uL.drop 200).take 40) := goodIn_r _ [877, 217, 1313, 217, 1877, 217, 1308, 217, 1024, 217, 833, 217, 1035, 217, 1015, 217, 1030, 217, 1019, 217, 963, 217, 967, 217, 1683, 217, 1785, 217, 1790, 217, 1719, 217, 1798, 217, 1661, 214, 1651, 214, 1670, 214] rfl rfl
set_option maxRecDepth 100000 in
set_option maxHeartbeats 4000000 in
theorem uL_240 : GoodIn lw_tbl ((uL.drop 240).take 40) := goodIn_r _ [1691, 214, 1044, 214, 1655, 214, 1647, 214, 1664, 214, 1687, 214, 853, 208, 849, 208, 821, 208, 837, 208, 1126, 208, 1009, 208, 1175, 208, 1162, 208, 1158, 208, 1179, 208, 1794, 208, 1782, 208, 1171, 208, 1724, 208] rfl rfl
set_option maxRecDepth 100000 in
set_option maxHeartbeats 4000000 in
theorem uL_280 : GoodIn lw_tbl ((uL.drop 280).take 40) := goodIn_r _ [1729, 208, 1095, 216, 1091, 216, 1134, 216, 1065, 216, 1148, 216, 1138, 216, 1061, 216, 1079, 216, 1057, 216, 1087, 216, 1122, 216, 1130, 216, 1099, 216, 1114, 216, 1118, 216, 1075, 216, 1103, 216, 1082, 216, 1069, 216] rfl rfl
set_option maxRecDepth 100000 in
set_option maxHeartbeats 4000000 in
theorem uL_320 : GoodIn lw_tbl ((uL.drop 320).take 40) := goodIn_r _ [1052, 216, 1183, 216, 1167, 216, 1154, 216, 947, 218, 939, 218, 952, 218, 995, 218, 1303, 218, 1005, 218, 999, 218, 1708, 218, 1843, 218, 1838, 218, 1834, 218, 1818, 218, 1703, 218, 1814, 218, 1193, 207, 1202, 207] rfl rfl
set_option maxRecDepth 100000 in
set_option maxHeartbeats 4000000 in
theorem uL_360 : GoodIn lw_tbl ((uL.drop 360).take 40) := goodIn_r _ [1619, 207, 825, 207, 1868, 207, 1873, 207, 1615, 207, 1859, 207, 1188, 207, 1642, 207, 1293, 207, 1048, 207, 1715, 207, 1810, 207, 1830, 207, 1698, 207, 1679, 207, 1806, 207, 817, 207, 1299, 207, 1826, 207, 1852, 207] rfl rfl
set_option maxRecDepth 100000 in
set_option maxHeartbeats 4000000 in
theorem uL_400 : GoodIn lw_tbl ((uL.drop 400).take 40) := goodIn_r _ [2196, 219, 2481, 219, 2372, 219, 2394, 219, 2256, 219, 2264, 219, 2619, 219, 2429, 219, 2216, 219, 2292, 219, 2224, 219, 2358, 219, 2280, 219, 2260, 219, 2244, 219, 2402, 219, 2588, 219, 2533, 219, 2552, 219, 2670, 219] rfl rfl
set_option maxRecDepth 100000 in
set_option maxHeartbeats 4000000 in
theorem uL_440 : GoodIn lw_tbl ((uL.drop 440).take 40) := goodIn_r _ [2615, 219, 2187, 219, 2350, 219, 2276, 219, 2252, 219, 2240, 219, 2398, 219, 2303, 219, 2307, 219, 2445, 219, 2406, 219, 2236, 219, 2494, 219, 2599, 219, 2311, 219, 2458, 219, 2530, 219, 2319, 219, 2248, 219, 2414, 219] rfl rfl
set_option maxRecDepth 100000 in
set_option maxHeartbeats 4000000 in
theorem uL_480 : GoodIn lw_tbl ((uL.drop 480).take 40) := goodIn_r _ [2635, 219, 2288, 219, 2272, 219, 2647, 219, 2323, 219, 2327, 219, 2631, 219, 2361, 219, 2335, 219, 2410, 219, 1893, 219, 2204, 219, 2556, 219, 2627, 219, 2514, 219, 2564, 219, 2568, 219, 2572, 219, 2526, 219, 2576, 219] rfl rfl
set_option maxRecDepth 100000 in
set_option maxHeartbeats 4000000 in
theorem uL_520 : GoodIn lw_tbl ((uL.drop 520).take 40) := goodIn_r _ [2433, 219, 2651, 219, 2468, 219, 2341, 219, 2475, 219, 2611, 219, 2212, 219, 2592, 219, 2490, 219, 2418, 219, 2465, 219, 2449, 219, 2478, 219, 2284, 219, 2200, 219, 2603, 219, 2537, 219, 2442, 219, 2390, 219, 2438, 219] rfl rfl
set_option maxRecDepth 100000 in
set_option maxHeartbeats 4000000 in
theorem uL_560 : GoodIn lw_tbl ((uL.drop 560).take 40) := goodIn_r _ [2452, 219, 2232, 219, 2228, 219, 2208, 219, 2315, 219, 2623, 219, 2455, 219, 2498, 219, 2354, 219, 2331, 219, 2381, 219, 2580, 219, 2296, 219, 2461, 219, 2472, 219, 2369, 219, 2560, 219, 2584, 219, 2426, 219, 2422, 219] rfl rfl
set_option maxRecDepth 100000 in
set_option maxHeartbeats 4000000 in
theorem uL_600 : GoodIn lw_tbl ((uL.drop 600).take 40) := goodIn_r _ [2549, 219, 2643, 219, 2639, 219, 2545, 219, 2385, 219, 2220, 219, 2365, 219, 2486, 219, 2518, 219, 2183, 219, 2607, 219, 2344, 219, 2506, 219, 2510, 219, 2300, 219, 2502, 219, 2268, 219, 2522, 219, 2192, 219, 1896, 219] rfl rfl
set_option maxRecDepth 100000 in
set_option maxHeartbeats 4000000 in
theorem uL_640 : GoodIn lw_tbl ((uL.drop 640).take 40) := goodIn_r _ [2655, 219, 2541, 219, 2377, 219, 2674, 219, 2679, 219, 2667, 219, 2663, 219, 2659, 219, 2596, 219, 1569, 227, 368, 370, 372, 374, 376, 378, 380, 382, 384, 386, 294, 296, 298, 300, 302, 304, 306, 308, 411, 413] rfl rfl
set_option maxRecDepth 100000 in
set_option maxHeartbeats 4000000 in
theorem uL_680 : GoodIn lw_tbl ((uL.drop 680).take 40) := goodIn_r _ [415, 417, 419, 421, 423, 425, 427, 429, 527, 529, 531, 533, 535, 537, 451, 453, 455, 457, 459, 461, 463, 465, 467, 469, 471, 473, 475, 477, 479, 481, 483, 325, 327, 329, 331, 333, 335, 337, 339, 341] rfl rfl
set_option maxRecDepth 100000 in
set_option maxHeartbeats 4000000 in
theorem uL_720 : GoodIn lw_tbl ((uL.drop 720).take 40) := goodIn_r _ [343, 729, 731, 733, 735, 737, 739, 741, 743, 745, 747, 749, 751, 753, 755, 757, 759, 500, 502, 504, 506, 508, 510, 512, 260, 262, 264, 266, 564, 566, 568, 570, 572, 574, 576, 578, 580, 582, 584, 586] rfl rfl
set_option maxRecDepth 100000 in
set_option maxHeartbeats 4000000 in
theorem uL_760 : GoodIn lw_tbl ((uL.drop 760).take 40) := goodIn_r _ [588, 590, 592, 594, 596, 633, 635, 637, 639, 641, 643, 645, 647, 649, 651, 653, 655, 779, 781, 783, 785, 787, 789, 791, 793, 795, 797, 799, 801, 803, 805, 807, 809, 811, 1991, 1993, 1995, 1997, 1999, 2001] rfl rfl
set_option maxRecDepth 100000 in
set_option maxHeartbeats 4000000 in
theorem uL_800 : GoodIn lw_tbl ((uL.drop 800).take 40) := goodIn_r _ [2003, 2005, 2007, 2009, 2011, 2013, 2015, 2017, 2019, 2021, 2023, 2025, 2027, 2029, 2031, 2033, 2035, 2037, 2039, 2041, 2043, 2045, 2047, 2049, 2051, 2053, 2055, 2057, 2059, 2061, 2063, 2065, 2067, 2069, 2071, 2073, 2075, 2077, 2079, 2081] rfl rfl
set_option maxRecDepth 100000 in
set_option maxHeartbeats 4000000 in
theorem uL_840 : GoodIn lw_tbl ((uL.drop 840).take 40) := goodIn_r _ [2083, 2085, 2087, 2089, 2091, 2093, 2095, 2097, 2099, 2101, 2103, 2105, 2107, 2109, 2111, 2113, 2115, 2117, 2119, 2121, 2123, 2125, 2127, 2129, 2131, 2133, 2135, 2137, 2139, 2141, 2143, 2145, 2147, 2149, 2151, 2153, 2155, 2157, 2159, 2161] rfl rfl
set_option maxRecDepth 100000 in
set_option maxHeartbeats 4000000 in
theorem uL_880 : GoodIn lw_tbl ((uL.drop 880).take 40) := goodIn_r _ [2163, 2165, 2167, 2169, 2171, 2173, 2175, 2177, 352, 354, 356, 358, 360, 362, 364, 365, 366, 367, 286, 287, 288, 289, 290, 291, 292, 721, 667, 696, 700, 675, 682, 688, 293, 401, 402, 408, 409, 410, 403, 404] rfl rfl
set_option maxRecDepth 100000 in
set_option maxHeartbeats 4000000 in
theorem uL_920 : GoodIn lw_tbl ((uL.drop 920).take 40) := goodIn_r _ [405, 406, 407, 521, 522, 716, 523, 524, 250, 525, 526, 660, 674, 681, 687, 711, 726, 669, 723, 701, 437, 438, 439, 440, 441, 442, 443, 436, 450, 447, 446, 663, 253, 444, 433, 435, 445, 448, 449, 717] rfl rfl
set_option maxRecDepth 100000 in
set_option maxHeartbeats 4000000 in
theorem uL_960 : GoodIn lw_tbl ((uL.drop 960).take 40) := goodIn_r _ [359, 353, 361, 355, 357, 363, 312, 314, 318, 319, 320, 321, 322, 323, 324, 316, 673, 680, 666, 713, 691, 698, 702, 665, 672, 679, 686, 693, 695, 699, 704, 706, 708, 710, 715, 719, 659, 728, 725, 624] rfl rfl
set_option maxRecDepth 100000 in
set_option maxHeartbeats 4000000 in
theorem uL_1000 : GoodIn lw_tbl ((uL.drop 1000).take 40) := goodIn_r _ [619, 622, 258, 493, 494, 495, 496, 498, 499, 661, 720, 614, 497, 668, 712, 689, 676, 683, 616, 618, 621, 247, 248, 259, 254, 549, 550, 551, 552, 553, 548, 556, 557, 546, 563, 560, 554, 317, 255, 558] rfl rfl
set_option maxRecDepth 100000 in
set_option maxHeartbeats 4000000 in
theorem uL_1040 : GoodIn lw_tbl ((uL.drop 1040).take 40) := goodIn_r _ [561, 559, 562, 251, 555, 664, 692, 694, 714, 313, 678, 685, 315, 671, 724, 703, 615, 617, 620, 623, 625, 626, 627, 629, 630, 631, 613, 632, 252, 256, 762, 763, 764, 766, 767, 768, 769, 770, 771, 772] rfl rfl
set_option maxRecDepth 100000 in
set_option maxHeartbeats 4000000 in
theorem uL_1080 : GoodIn lw_tbl ((uL.drop 1080).take 40) := goodIn_r _ [249, 773, 662, 722, 697, 670, 690, 774, 432, 775, 434, 776, 777, 677, 684, 705, 707, 709, 628, 547, 778, 257, 718, 727, 1898, 1900, 1903, 1904, 1905, 1906, 1907, 1908, 1909, 1910, 1912, 1913, 1914, 1915, 1917, 1918] rfl rfl
set_option maxRecDepth 100000 in
set_option maxHeartbeats 4000000 in
theorem uL_1120 : GoodIn lw_tbl ((uL.drop 1120).take 40) := goodIn_r _ [1919, 1920, 1921, 1922, 1923, 1924, 1925, 1926, 1927, 1928, 1938, 1939, 1940, 1941, 1942, 1943, 1944, 1945, 1946, 1948, 1949, 1950, 1951, 1952, 1953, 1954, 1955, 1956, 1957, 1959, 1960, 1961, 1965, 1966, 1967, 1968, 1969, 1970, 1983, 1984] rfl rfl
set_option maxRecDepth 100000 in
set_option maxHeartbeats 4000000 in
theorem uL_1160 : GoodIn lw_tbl ((uL.drop 1160).take 40) := goodIn_r _ [1986, 1987, 1988, 1990, 1897, 1899, 1901, 1902, 1911, 1947, 1937, 1958, 1964, 1962, 1963, 1930, 1916, 1929, 1931, 1971, 1977, 1973, 1975, 1974, 1976, 1972, 1932, 1934, 1935, 1936, 1933, 1978, 1979, 1981, 1980, 1982, 1985, 1989, 912, 1479] rfl rfl
set_option maxRecDepth 100000 in
set_option maxHeartbeats 4000000 in
theorem uL_1200 : GoodIn lw_tbl ((uL.drop 1200).take 40) := goodIn_r _ [979, 1026, 948, 953, 1000, 1309, 2675, 1509, 1532, 1540, 1480, 1487, 1878, 1025, 1672, 1083, 1890, 2373, 2188, 2430, 2434, 2446, 2386, 2482, 1570, 1571, 1572, 2680, 929, 934, 1510, 1577, 1778, 1656, 1665, 1070, 1888, 2345, 2336, 1326] rfl rfl
set_option maxRecDepth 100000 in
set_option maxHeartbeats 4000000 in
theorem uL_1240 : GoodIn lw_tbl ((uL.drop 1240).take 40) := goodIn_r _ [1328, 46, 1354, 1356, 53, 1362, 1364, 55, 1338, 1340, 49, 1318, 1320, 44, 1442, 1444, 75, 1450, 1452, 77, 1454, 1456, 78, 1466, 1468, 81, 1322, 1324, 45, 1330, 1332, 47, 1334, 1336, 48, 1342, 1344, 50, 1358, 1360] rfl rfl
set_option maxRecDepth 100000 in
set_option maxHeartbeats 4000000 in
theorem uL_1280 : GoodIn lw_tbl ((uL.drop 1280).take 40) := goodIn_r _ [54, 1386, 1388, 61, 1350, 1352, 52, 1370, 1372, 57, 1378, 1380, 59, 1374, 1376, 58, 1446, 1448, 76, 1346, 1348, 51, 1390, 1392, 62, 1402, 1404, 65, 1366, 1368, 56, 1382, 1384, 60, 1394, 1396, 63, 1398, 1400, 64] rfl rfl
set_option maxRecDepth 100000 in
set_option maxHeartbeats 4000000 in
theorem uL_1320 : GoodIn lw_tbl ((uL.drop 1320).take 40) := goodIn_r _ [1406, 1408, 66, 1414, 1416, 68, 1418, 1420, 69, 1426, 1428, 71, 1430, 1432, 72, 1434, 1436, 73, 1410, 1412, 67, 1422, 1424, 70, 1438, 1440, 74, 1458, 1460, 79, 1462, 1464, 80, 897, 899, 6, 936, 937, 938, 940] rfl rfl
set_option maxRecDepth 100000 in
set_option maxHeartbeats 4000000 in
theorem uL_1360 : GoodIn lw_tbl ((uL.drop 1360).take 40) := goodIn_r _ [942, 13, 913, 915, 9, 901, 902, 904, 906, 7, 917, 919, 10, 925, 927, 12, 921, 923, 11, 931, 932, 908, 910, 8, 944, 945, 946, 1511, 1513, 86, 1516, 1518, 87, 1528, 1530, 90, 1541, 1543, 92, 1548] rfl rfl
set_option maxRecDepth 100000 in
set_option maxHeartbeats 4000000 in
theorem uL_1400 : GoodIn lw_tbl ((uL.drop 1400).take 40) := goodIn_r _ [1550, 93, 1555, 1557, 94, 1559, 1561, 95, 1563, 1565, 96, 1578, 1580, 98, 1515, 1498, 1499, 1582, 1476, 1477, 1520, 1522, 88, 1524, 1526, 89, 1545, 1546, 1533, 1535, 91, 1537, 1538, 1552, 1553, 1567, 1568, 1573, 1575, 97] rfl rfl
set_option maxRecDepth 100000 in
set_option maxHeartbeats 4000000 in
theorem uL_1440 : GoodIn lw_tbl ((uL.drop 1440).take 40) := goodIn_r _ [830, 831, 832, 834, 835, 836, 842, 844, 1, 858, 860, 3, 878, 879, 880, 882, 883, 884, 886, 887, 888, 968, 969, 970, 983, 985, 16, 854, 856, 2, 862, 863, 864, 866, 868, 4, 870, 872, 5, 874] rfl rfl
set_option maxRecDepth 100000 in
set_option maxHeartbeats 4000000 in
theorem uL_1480 : GoodIn lw_tbl ((uL.drop 1480).take 40) := goodIn_r _ [875, 876, 987, 965, 966, 988, 990, 17, 992, 993, 994, 1011, 1007, 1008, 846, 847, 848, 1607, 1023, 1497, 1498, 1499, 1475, 1476, 1477, 1595, 847, 848, 1602, 1177, 1178, 1474, 851, 852, 1481, 961, 962, 1482, 965, 966] rfl rfl
set_option maxRecDepth 100000 in
set_option maxHeartbeats 4000000 in
theorem uL_1520 : GoodIn lw_tbl ((uL.drop 1520).take 40) := goodIn_r _ [1483, 1485, 82, 1488, 1490, 83, 1492, 1494, 84, 1501, 1503, 85, 1505, 1506, 1507, 1583, 1585, 99, 1496, 958, 226, 959, 1587, 1589, 100, 1591, 1593, 101, 890, 891, 893, 894, 895, 960, 961, 962, 964, 965, 966, 972] rfl rfl
set_option maxRecDepth 100000 in
set_option maxHeartbeats 4000000 in
theorem uL_1560 : GoodIn lw_tbl ((uL.drop 1560).take 40) := goodIn_r _ [974, 15, 976, 977, 980, 981, 1109, 863, 864, 1020, 961, 962, 1021, 965, 966, 1022, 1023, 1016, 1018, 19, 1027, 1029, 20, 1031, 958, 226, 959, 1036, 1003, 1004, 1037, 1038, 1039, 1720, 1160, 1161, 1721, 1722, 1723, 1726] rfl rfl
set_option maxRecDepth 100000 in
set_option maxHeartbeats 4000000 in
theorem uL_1600 : GoodIn lw_tbl ((uL.drop 1600).take 40) := goodIn_r _ [1727, 1728, 1779, 1780, 1781, 1783, 1784, 1787, 1789, 109, 1795, 1797, 110, 1791, 1792, 1793, 1799, 847, 848, 1648, 1650, 103, 1667, 1669, 106, 1688, 1690, 107, 1652, 1654, 104, 1671, 841, 840, 225, 1658, 1660, 105, 1662, 1663] rfl rfl
set_option maxRecDepth 100000 in
set_option maxHeartbeats 4000000 in
theorem uL_1640 : GoodIn lw_tbl ((uL.drop 1640).take 40) := goodIn_r _ [838, 819, 820, 839, 841, 840, 225, 850, 851, 852, 1010, 847, 848, 1159, 1160, 1161, 1172, 1156, 1157, 1173, 1174, 1176, 1177, 1178, 1053, 831, 832, 1054, 1056, 21, 1104, 879, 880, 1139, 887, 888, 1140, 969, 970, 1141] rfl rfl
set_option maxRecDepth 100000 in
set_option maxHeartbeats 4000000 in
theorem uL_1680 : GoodIn lw_tbl ((uL.drop 1680).take 40) := goodIn_r _ [1142, 1143, 1145, 1147, 37, 1150, 819, 820, 1164, 1166, 39, 1058, 1060, 22, 1072, 1074, 24, 1076, 1078, 25, 1084, 1086, 26, 1135, 1137, 36, 1062, 851, 852, 1063, 1064, 1066, 1068, 23, 1080, 1081, 1088, 1090, 27, 1131] rfl rfl
set_option maxRecDepth 100000 in
set_option maxHeartbeats 4000000 in
theorem uL_1720 : GoodIn lw_tbl ((uL.drop 1720).take 40) := goodIn_r _ [1133, 35, 1092, 1094, 28, 1096, 1098, 29, 1100, 1102, 30, 1110, 863, 864, 1111, 1113, 31, 1115, 1117, 32, 1119, 1121, 33, 1127, 1129, 34, 1123, 875, 876, 1124, 1125, 1105, 1106, 1107, 1149, 965, 966, 1151, 1153, 38] rfl rfl
set_option maxRecDepth 100000 in
set_option maxHeartbeats 4000000 in
theorem uL_1760 : GoodIn lw_tbl ((uL.drop 1760).take 40) := goodIn_r _ [1163, 993, 994, 1155, 1156, 1157, 1168, 1169, 1170, 1180, 1182, 40, 1184, 1177, 1178, 949, 951, 14, 954, 955, 226, 956, 957, 958, 226, 959, 1006, 1007, 1008, 1304, 993, 994, 996, 998, 18, 1001, 847, 848, 1002, 1003] rfl rfl
set_option maxRecDepth 100000 in
set_option maxHeartbeats 4000000 in
theorem uL_1800 : GoodIn lw_tbl ((uL.drop 1800).take 40) := goodIn_r _ [1004, 1704, 1160, 1161, 1705, 1707, 108, 1815, 1817, 112, 1819, 1792, 1793, 1835, 1837, 114, 1839, 851, 852, 1840, 1156, 1157, 1841, 1842, 1845, 1177, 1178, 1844, 1125, 1286, 1160, 1161, 818, 819, 820, 826, 827, 828, 1012, 1013] rfl rfl
set_option maxRecDepth 100000 in
set_option maxHeartbeats 4000000 in
theorem uL_1840 : GoodIn lw_tbl ((uL.drop 1840).take 40) := goodIn_r _ [1014, 1032, 1033, 1034, 1041, 1042, 1043, 1296, 1298, 43, 1300, 1301, 1302, 1305, 1306, 1307, 1310, 1311, 1312, 1314, 1315, 1316, 1470, 1471, 1472, 1596, 961, 962, 1597, 965, 966, 1598, 1599, 1600, 1603, 1604, 1605, 1185, 1187, 41] rfl rfl
set_option maxRecDepth 100000 in
set_option maxHeartbeats 4000000 in
theorem uL_1880 : GoodIn lw_tbl ((uL.drop 1880).take 40) := goodIn_r _ [1189, 835, 836, 1616, 1618, 102, 1644, 1645, 1646, 1680, 1681, 1682, 1684, 1685, 1686, 1700, 1701, 1702, 1049, 1050, 1051, 1716, 1717, 1718, 1807, 1809, 111, 1811, 1812, 1813, 1827, 1829, 113, 1831, 1832, 1833, 1861, 851, 852, 1870] rfl rfl
set_option maxRecDepth 100000 in
set_option maxHeartbeats 4000000 in
theorem uL_1920 : GoodIn lw_tbl ((uL.drop 1920).take 40) := goodIn_r _ [1872, 115, 1874, 1875, 1876, 1891, 1892, 1894, 1895, 2241, 2243, 125, 2257, 2259, 129, 2273, 2275, 133, 2289, 2291, 137, 2281, 2283, 135, 2269, 2271, 132, 2277, 2279, 134, 2285, 2287, 136, 2301, 2302, 2297, 2299, 139, 2253, 2255] rfl rfl
set_option maxRecDepth 100000 in
set_option maxHeartbeats 4000000 in
theorem uL_1960 : GoodIn lw_tbl ((uL.drop 1960).take 40) := goodIn_r _ [128, 2261, 2263, 130, 2265, 2267, 131, 2293, 2295, 138, 2217, 2219, 119, 2316, 2318, 143, 2527, 2529, 175, 2511, 2513, 172, 2531, 2532, 2534, 2536, 176, 2546, 2548, 178, 2550, 2551, 2342, 2343, 2338, 2340, 148, 2332, 2334, 147] rfl rfl
set_option maxRecDepth 100000 in
set_option maxHeartbeats 4000000 in
theorem uL_2000 : GoodIn lw_tbl ((uL.drop 2000).take 40) := goodIn_r _ [2347, 2349, 149, 2213, 2215, 118, 2221, 2223, 120, 2209, 2211, 117, 2229, 2231, 122, 2237, 2239, 124, 2308, 2310, 141, 2225, 2227, 121, 2233, 2235, 123, 2245, 2247, 126, 2249, 2251, 127, 2304, 2306, 140, 2312, 2314, 142, 2324] rfl rfl
set_option maxRecDepth 100000 in
set_option maxHeartbeats 4000000 in
theorem uL_2040 : GoodIn lw_tbl ((uL.drop 2040).take 40) := goodIn_r _ [2326, 145, 2328, 2330, 146, 2351, 2353, 150, 2355, 2357, 151, 2359, 2360, 2362, 2364, 152, 2366, 2368, 153, 2370, 2371, 2205, 2207, 116, 2320, 2322, 144, 2427, 2428, 2450, 2451, 2431, 2432, 2435, 2437, 165, 2443, 2444, 2453, 2454] rfl rfl
set_option maxRecDepth 100000 in
set_option maxHeartbeats 4000000 in
theorem uL_2080 : GoodIn lw_tbl ((uL.drop 2080).take 40) := goodIn_r _ [2459, 2460, 2419, 2421, 163, 2466, 2467, 2473, 2474, 2476, 2477, 2479, 2480, 2415, 2417, 162, 2423, 2425, 164, 2439, 2441, 166, 2447, 2448, 2456, 2457, 2462, 2464, 167, 2469, 2471, 168, 2391, 2393, 156, 2399, 2401, 158, 2403, 2405] rfl rfl
set_option maxRecDepth 100000 in
set_option maxHeartbeats 4000000 in
theorem uL_2120 : GoodIn lw_tbl ((uL.drop 2120).take 40) := goodIn_r _ [159, 2407, 2409, 160, 2411, 2413, 161, 2382, 2384, 154, 2387, 2389, 155, 2395, 2397, 157, 2483, 2485, 169, 2491, 2493, 170, 2507, 2509, 171, 2515, 2517, 173, 2523, 2525, 174, 2542, 2544, 177, 2569, 2571, 181, 2565, 2567, 180] rfl rfl
set_option maxRecDepth 100000 in
set_option maxHeartbeats 4000000 in
theorem uL_2160 : GoodIn lw_tbl ((uL.drop 2160).take 40) := goodIn_r _ [2573, 2575, 182, 2561, 2563, 179, 2593, 2595, 186, 2597, 2598, 2589, 2591, 185, 2600, 2602, 187, 2604, 2606, 188, 2608, 2610, 189, 2624, 2626, 193, 2632, 2634, 195, 2636, 2638, 196, 2640, 2642, 197, 2620, 2622, 192, 2628, 2630] rfl rfl
set_option maxRecDepth 100000 in
set_option maxHeartbeats 4000000 in
theorem uL_2200 : GoodIn lw_tbl ((uL.drop 2200).take 40) := goodIn_r _ [194, 2616, 2618, 191, 2644, 2646, 198, 2612, 2614, 190, 2671, 2673, 204, 2668, 2669, 2676, 2678, 205, 2664, 2666, 203, 2660, 2662, 202, 2585, 2587, 184, 2648, 2650, 199, 2652, 2654, 200, 2656, 2658, 201, 2581, 2583, 183, 1199] rfl rfl
set_option maxRecDepth 100000 in
set_option maxHeartbeats 4000000 in
theorem uL_2240 : GoodIn lw_tbl ((uL.drop 2240).take 40) := goodIn_r _ [1200, 1201, 1290, 1291, 1292, 1612, 1613, 1614, 1639, 1640, 1641, 1676, 1677, 1678, 1695, 1696, 1697, 1712, 1713, 1714, 1803, 1804, 1805, 1823, 1824, 1825, 1849, 1850, 1851, 1856, 1857, 1858, 1865, 1866, 1867, 2184, 2185, 2186, 2180, 2181] rfl rfl
set_option maxRecDepth 100000 in
set_option maxHeartbeats 4000000 in
theorem uL_2280 : GoodIn lw_tbl ((uL.drop 2280).take 40) := goodIn_r _ [2182, 814, 815, 816, 2189, 2190, 2191, 822, 823, 824, 2201, 2202, 2203, 2378, 2379, 2380, 2487, 2488, 2489, 2495, 2496, 2497, 2499, 2500, 2501, 2503, 2504, 2505, 1045, 1046, 1047, 2577, 2578, 2579, 2557, 2558, 2559, 1190, 1191, 1192] rfl rfl
set_option maxRecDepth 100000 in
set_option maxHeartbeats 4000000 in
theorem uL_2320 : GoodIn lw_tbl ((uL.drop 2320).take 40) := goodIn_r _ [2193, 2194, 2195, 2519, 2520, 2521, 2538, 2539, 2540, 2374, 2375, 2376, 2197, 2198, 2199, 2553, 2554, 2555] rfl rfl
set_option maxRecDepth 100000 in
set_option maxHeartbeats 4000000 in
theorem uL_e : GoodIn lw_tbl (uL.drop 2360) := by
  have e : uL.drop 2360 = [] := rfl
  rw [e]
  exact fun w hw => nomatch hw
set_option maxRecDepth 100000 in
theorem hU_g : GoodIn lw_tbl (xm_U 330 vwCl xt_zs xt_ys xt_N xt_FL xt_KI xt_KL xt_GS xt_LK) := by
  have g2320 : GoodIn lw_tbl (uL.drop 2320) := goodIn_td (a := 2320) (b := 40) uL_2320 uL_e
  have g2280 : GoodIn lw_tbl (uL.drop 2280) := goodIn_td (a := 2280) (b := 40) uL_2280 g2320
  have g2240 : GoodIn lw_tbl (uL.drop 2240) := goodIn_td (a := 2240) (b := 40) uL_2240 g2280
  have g2200 : GoodIn lw_tbl (uL.drop 2200) := goodIn_td (a := 2200) (b := 40) uL_2200 g2240
  have g2160 : GoodIn lw_tbl (uL.drop 2160) := goodIn_td (a := 2160) (b := 40) uL_2160 g2200
  have g2120 : GoodIn lw_tbl (uL.drop 2120) := goodIn_td (a := 2120) (b := 40) uL_2120 g2160
  have g2080 : GoodIn lw_tbl (uL.drop 2080) := goodIn_td (a := 2080) (b := 40) uL_2080 g2120
  have g2040 : GoodIn lw_tbl (uL.drop 2040) := goodIn_td (a := 2040) (b := 40) uL_2040 g2080
  have g2000 : GoodIn lw_tbl (uL.drop 2000) := goodIn_td (a := 2000) (b := 40) uL_2000 g2040
  have g1960 : GoodIn lw_tbl (uL.drop 1960) := goodIn_td (a := 1960) (b := 40) uL_1960 g2000
  have g1920 : GoodIn lw_tbl (uL.drop 1920) := goodIn_td (a := 1920) (b := 40) uL_1920 g1960
  have g1880 : GoodIn lw_tbl (uL.drop 1880) := goodIn_td (a := 1880) (b := 40) uL_1880 g1920
  have g1840 : GoodIn lw_tbl (uL.drop 1840) := goodIn_td (a := 1840) (b := 40) uL_1840 g1880
  have g1800 : GoodIn lw_tbl (uL.drop 1800) := goodIn_td (a := 1800) (b := 40) uL_1800 g1840
  have g1760 : GoodIn lw_tbl (uL.drop 1760) := goodIn_td (a := 1760) (b := 40) uL_1760 g1800
  have g1720 : GoodIn lw_tbl (uL.drop 1720) := goodIn_td (a := 1720) (b := 40) uL_1720 g1760
  have g1680 : GoodIn lw_tbl (uL.drop 1680) := goodIn_td (a := 1680) (b := 40) uL_1680 g1720
  have g1640 : GoodIn lw_tbl (uL.drop 1640) := goodIn_td (a := 1640) (b := 40) uL_1640 g1680
  have g1600 : GoodIn lw_tbl (uL.drop 1600) := goodIn_td (a := 1600) (b := 40) uL_1600 g1640
  have g1560 : GoodIn lw_tbl (uL.drop 1560) := goodIn_td (a := 1560) (b := 40) uL_1560 g1600
  have g1520 : GoodIn lw_tbl (uL.drop 1520) := goodIn_td (a := 1520) (b := 40) uL_1520 g1560
  have g1480 : GoodIn lw_tbl (uL.drop 1480) := goodIn_td (a := 1480) (b := 40) uL_1480 g1520
  have g1440 : GoodIn lw_tbl (uL.drop 1440) := goodIn_td (a := 1440) (b := 40) uL_1440 g1480
  have g1400 : GoodIn lw_tbl (uL.drop 1400) := goodIn_td (a := 1400) (b := 40) uL_1400 g1440
  have g1360 : GoodIn lw_tbl (uL.drop 1360) := goodIn_td (a := 1360) (b := 40) uL_1360 g1400
  have g1320 : GoodIn lw_tbl (uL.drop 1320) := goodIn_td (a := 1320) (b := 40) uL_1320 g1360
  have g1280 : GoodIn lw_tbl (uL.drop 1280) := goodIn_td (a := 1280) (b := 40) uL_1280 g1320
  have g1240 : GoodIn lw_tbl (uL.drop 1240) := goodIn_td (a := 1240) (b := 40) uL_1240 g1280
  have g1200 : GoodIn lw_tbl (uL.drop 1200) := goodIn_td (a := 1200) (b := 40) uL_1200 g1240
  have g1160 : GoodIn lw_tbl (uL.drop 1160) := goodIn_td (a := 1160) (b := 40) uL_1160 g1200
  have g1120 : GoodIn lw_tbl (uL.drop 1120) := goodIn_td (a := 1120) (b := 40) uL_1120 g1160
  have g1080 : GoodIn lw_tbl (uL.drop 1080) := goodIn_td (a := 1080) (b := 40) uL_1080 g1120
  have g1040 : GoodIn lw_tbl (uL.drop 1040) := goodIn_td (a := 1040) (b := 40) uL_1040 g1080
  have g1000 : GoodIn lw_tbl (uL.drop 1000) := goodIn_td (a := 1000) (b := 40) uL_1000 g1040
  have g960 : GoodIn lw_tbl (uL.drop 960) := goodIn_td (a := 960) (b := 40) uL_960 g1000
  have g920 : GoodIn lw_tbl (uL.drop 920) := goodIn_td (a := 920) (b := 40) uL_920 g960
  have g880 : GoodIn lw_tbl (uL.drop 880) := goodIn_td (a := 880) (b := 40) uL_880 g920
  have g840 : GoodIn lw_tbl (uL.drop 840) := goodIn_td (a := 840) (b := 40) uL_840 g880
  have g800 : GoodIn lw_tbl (uL.drop 800) := goodIn_td (a := 800) (b := 40) uL_800 g840
  have g760 : GoodIn lw_tbl (uL.drop 760) := goodIn_td (a := 760) (b := 40) uL_760 g800
  have g720 : GoodIn lw_tbl (uL.drop 720) := goodIn_td (a := 720) (b := 40) uL_720 g760
  have g680 : GoodIn lw_tbl (uL.drop 680) := goodIn_td (a := 680) (b := 40) uL_680 g720
  have g640 : GoodIn lw_tbl (uL.drop 640) := goodIn_td (a := 640) (b := 40) uL_640 g680
  have g600 : GoodIn lw_tbl (uL.drop 600) := goodIn_td (a := 600) (b := 40) uL_600 g640
  have g560 : GoodIn lw_tbl (uL.drop 560) := goodIn_td (a := 560) (b := 40) uL_560 g600
  have g520 : GoodIn lw_tbl (uL.drop 520) := goodIn_td (a := 520) (b := 40) uL_520 g560
  have g480 : GoodIn lw_tbl (uL.drop 480) := goodIn_td (a := 480) (b := 40) uL_480 g520
  have g440 : GoodIn lw_tbl (uL.drop 440) := goodIn_td (a := 440) (b := 40) uL_440 g480
  have g400 : GoodIn lw_tbl (uL.drop 400) := goodIn_td (a := 400) (b := 40) uL_400 g440
  have g360 : GoodIn lw_tbl (uL.drop 360) := goodIn_td (a := 360) (b := 40) uL_360 g400
  have g320 : GoodIn lw_tbl (uL.drop 320) := goodIn_td (a := 320) (b := 40) uL_320 g360
  have g280 : GoodIn lw_tbl (uL.drop 280) := goodIn_td (a := 280) (b := 40) uL_280 g320
  have g240 : GoodIn lw_tbl (uL.drop 240) := goodIn_td (a := 240) (b := 40) uL_240 g280
  have g200 : GoodIn lw_tbl (uL.drop 200) := goodIn_td (a := 200) (b := 40) uL_200 g240
  have g160 : GoodIn lw_tbl (uL.drop 160) := goodIn_td (a := 160) (b := 40) uL_160 g200
  have g120 : GoodIn lw_tbl (uL.drop 120) := goodIn_td (a := 120) (b := 40) uL_120 g160
  have g80 : GoodIn lw_tbl (uL.drop 80) := goodIn_td (a := 80) (b := 40) uL_80 g120
  have g40 : GoodIn lw_tbl (uL.drop 40) := goodIn_td (a := 40) (b := 40) uL_40 g80
  have g0 : GoodIn lw_tbl (uL.drop 0) := goodIn_td (a := 0) (b := 40) uL_0 g40
  exact g0
set_option maxRecDepth 100000 in
theorem hV0_g : GoodIn lw_tbl xv_V0 := goodIn_d _ (by decide +kernel) (by decide +kernel)
theorem hV_g : GoodIn lw_tbl xv_V := goodIn_app hV0_g (goodIn_app gw_x0 (goodIn_app gw_x1 gw_x2))
set_option maxRecDepth 100000 in
theorem hT_g : GoodIn lw_tbl wsX8_putText := goodIn_d _ (by decide +kernel) (by decide +kernel)
set_option maxRecDepth 100000 in
theorem gH_feed {sc : xm_Sc} : GoodIn lw_tbl (va_wsS RL 66 yL_feed (xm_wsH (XE sc) xv_V vh_feed [(0, 11, 14, 13), (0, 11, 18, 15)] 333 179 7)) := goodIn_app (a := [.methodLink RL 66 yL_feed, .static yL_feed, .initialized RL]) (goodIn_d _ (by decide +kernel) (by decide +kernel)) (goodIn_app (a := [Cond.codeWith yL_feed cL_feed 6 (some .int) [(0, 11, 14, 13), (0, 11, 18, 15)]]) (goodIn_d _ (by decide +kernel) (by decide +kernel)) (goodIn_app (goodIn_d vh_feed (by decide +kernel) (by decide +kernel)) (goodIn_app hU_g hV_g)))
set_option maxRecDepth 100000 in
theorem gH_run {sc : xm_Sc} : GoodIn lw_tbl (va_wsS RL 83 yL_run (xm_wsH (XE sc) xv_V vh_run [(0, 12, 15, 13), (0, 12, 19, 15)] 334 188 17)) := goodIn_app (a := [.methodLink RL 83 yL_run, .static yL_run, .initialized RL]) (goodIn_d _ (by decide +kernel) (by decide +kernel)) (goodIn_app (a := [Cond.codeWith yL_run cL_run 6 (some .int) [(0, 12, 15, 13), (0, 12, 19, 15)]]) (goodIn_d _ (by decide +kernel) (by decide +kernel)) (goodIn_app (goodIn_d vh_run (by decide +kernel) (by decide +kernel)) (goodIn_app hU_g hV_g)))
set_option maxRecDepth 100000 in
theorem gH_node {sc : xm_Sc} : GoodIn lw_tbl (va_wsS RL 87 yL_node (xm_wsH (XE sc) xv_V vh_node [(0, 10, 13, 25)] 335 184 21)) := goodIn_app (a := [.methodLink RL 87 yL_node, .static yL_node, .initialized RL]) (goodIn_d _ (by decide +kernel) (by decide +kernel)) (goodIn_app (a := [Cond.codeWith yL_node cL_node 5 (some .int) [(0, 10, 13, 25)]]) (goodIn_d _ (by decide +kernel) (by decide +kernel)) (goodIn_app (goodIn_d vh_node (by decide +kernel) (by decide +kernel)) (goodIn_app hU_g hV_g)))
set_option maxRecDepth 100000 in
theorem gH_root {sc : xm_Sc} : GoodIn lw_tbl (va_wsS RL 91 yL_root (xm_wsH (XE sc) xv_V vh_root [(0, 9, 12, 25)] 336 187 27)) := goodIn_app (a := [.methodLink RL 91 yL_root, .static yL_root, .initialized RL]) (goodIn_d _ (by decide +kernel) (by decide +kernel)) (goodIn_app (a := [Cond.codeWith yL_root cL_root 5 (some .int) [(0, 9, 12, 25)]]) (goodIn_d _ (by decide +kernel) (by decide +kernel)) (goodIn_app (goodIn_d vh_root (by decide +kernel) (by decide +kernel)) (goodIn_app hU_g hV_g)))
set_option maxRecDepth 100000 in
theorem gH_typeRoot {sc : xm_Sc} : GoodIn lw_tbl (va_wsS RL 94 yL_typeRoot (xm_wsH (XE sc) xv_V vh_typeRoot [(0, 11, 14, 25)] 337 194 31)) := goodIn_app (a := [.methodLink RL 94 yL_typeRoot, .static yL_typeRoot, .initialized RL]) (goodIn_d _ (by decide +kernel) (by decide +kernel)) (goodIn_app (a := [Cond.codeWith yL_typeRoot cL_typeRoot 6 (some .int) [(0, 11, 14, 25)]]) (goodIn_d _ (by decide +kernel) (by decide +kernel)) (goodIn_app (goodIn_d vh_typeRoot (by decide +kernel) (by decide +kernel)) (goodIn_app hU_g hV_g)))
set_option maxRecDepth 100000 in
theorem gH_type {sc : xm_Sc} : GoodIn lw_tbl (va_wsS RL 98 yL_type (xm_wsH (XE sc) xv_V vh_type [(0, 10, 13, 25)] 338 193 35)) := goodIn_app (a := [.methodLink RL 98 yL_type, .static yL_type, .initialized RL]) (goodIn_d _ (by decide +kernel) (by decide +kernel)) (goodIn_app (a := [Cond.codeWith yL_type cL_type 5 (some .int) [(0, 10, 13, 25)]]) (goodIn_d _ (by decide +kernel) (by decide +kernel)) (goodIn_app (goodIn_d vh_type (by decide +kernel) (by decide +kernel)) (goodIn_app hU_g hV_g)))
set_option maxRecDepth 100000 in
theorem gH_value {sc : xm_Sc} : GoodIn lw_tbl (va_wsS RL 114 yL_value (xm_wsH (XE sc) xv_V vh_value [(0, 10, 13, 25)] 340 195 43)) := goodIn_app (a := [.methodLink RL 114 yL_value, .static yL_value, .initialized RL]) (goodIn_d _ (by decide +kernel) (by decide +kernel)) (goodIn_app (a := [Cond.codeWith yL_value cL_value 5 (some .int) [(0, 10, 13, 25)]]) (goodIn_d _ (by decide +kernel) (by decide +kernel)) (goodIn_app (goodIn_d vh_value (by decide +kernel) (by decide +kernel)) (goodIn_app hU_g hV_g)))
set_option maxRecDepth 100000 in
theorem gH_worth {sc : xm_Sc} : GoodIn lw_tbl (va_wsS RL 117 yL_worth (xm_wsH (XE sc) xv_V vh_worth [(0, 10, 13, 25)] 341 198 46)) := goodIn_app (a := [.methodLink RL 117 yL_worth, .static yL_worth, .initialized RL]) (goodIn_d _ (by decide +kernel) (by decide +kernel)) (goodIn_app (a := [Cond.codeWith yL_worth cL_worth 5 (some .int) [(0, 10, 13, 25)]]) (goodIn_d _ (by decide +kernel) (by decide +kernel)) (goodIn_app (goodIn_d vh_worth (by decide +kernel) (by decide +kernel)) (goodIn_app hU_g hV_g)))
set_option maxRecDepth 100000 in
theorem gH_write {sc : xm_Sc} : GoodIn lw_tbl (va_wsS RL 120 yL_write (xm_wsH (XE sc) xv_V vh_write [(0, 8, 11, 15)] 342 199 49)) := goodIn_app (a := [.methodLink RL 120 yL_write, .static yL_write, .initialized RL]) (goodIn_d _ (by decide +kernel) (by decide +kernel)) (goodIn_app (a := [Cond.codeWith yL_write cL_write 3 (some .int) [(0, 8, 11, 15)]]) (goodIn_d _ (by decide +kernel) (by decide +kernel)) (goodIn_app (goodIn_d vh_write (by decide +kernel) (by decide +kernel)) (goodIn_app hU_g hV_g)))
set_option maxRecDepth 100000 in
theorem gH_out {sc : xm_Sc} : GoodIn lw_tbl (va_wsS RL 123 yL_out (xm_wsH (XE sc) xv_V vh_out [(0, 8, 11, 25)] 343 185 52)) := goodIn_app (a := [.methodLink RL 123 yL_out, .static yL_out, .initialized RL]) (goodIn_d _ (by decide +kernel) (by decide +kernel)) (goodIn_app (a := [Cond.codeWith yL_out cL_out 4 (some .int) [(0, 8, 11, 25)]]) (goodIn_d _ (by decide +kernel) (by decide +kernel)) (goodIn_app (goodIn_d vh_out (by decide +kernel) (by decide +kernel)) (goodIn_app hU_g hV_g)))
set_option maxRecDepth 100000 in
theorem gH_look {sc : xm_Sc} : GoodIn lw_tbl (va_wsS RL 127 yL_look (xm_wsH (XE sc) xv_V vh_look [(0, 9, 12, 13)] 344 182 56)) := goodIn_app (a := [.methodLink RL 127 yL_look, .static yL_look, .initialized RL]) (goodIn_d _ (by decide +kernel) (by decide +kernel)) (goodIn_app (a := [Cond.codeWith yL_look cL_look 4 (some .int) [(0, 9, 12, 13)]]) (goodIn_d _ (by decide +kernel) (by decide +kernel)) (goodIn_app (goodIn_d vh_look (by decide +kernel) (by decide +kernel)) (goodIn_app hU_g hV_g)))
theorem lk_h {sc : xm_Sc} {idx z : Nat} (h : xe_lk (XE sc) (xe_cn (XE sc) 330) idx = some z) : (idx, z) ∈ xt_LK.getD 14 [] := by
  obtain ⟨l, hl, hx⟩ := xm_find_of (L := xt_LK) (c := 14) h
  rw [List.getD_eq_getElem?_getD, hl]
  exact hx
set_option maxRecDepth 100000 in
theorem lk_z : ∀ q ∈ xt_LK.getD 14 [], (q.2 = 333 → q.1 = 66) ∧ (q.2 = 334 → q.1 = 83) ∧ (q.2 = 335 → q.1 = 87) ∧ (q.2 = 336 → q.1 = 91) ∧ (q.2 = 337 → q.1 = 94) ∧ (q.2 = 338 → q.1 = 98) ∧ (q.2 = 339 → q.1 = 106) ∧ (q.2 = 340 → q.1 = 114) ∧ (q.2 = 341 → q.1 = 117) ∧ (q.2 = 342 → q.1 = 120) ∧ (q.2 = 343 → q.1 = 123) ∧ (q.2 = 344 → q.1 = 127) := by decide +kernel
