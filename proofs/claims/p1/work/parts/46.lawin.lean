theorem mem_by {big ws : List Cond} (ps : List Nat) (hp : ws = ps.filterMap (fun i => big[i]?)) : ∀ w ∈ ws, w ∈ big := by
  intro w hw
  rw [hp] at hw
  obtain ⟨i, -, hi⟩ := List.mem_filterMap.mp hw
  exact List.mem_of_getElem? hi
set_option maxRecDepth 100000 in
set_option maxHeartbeats 4000000 in
theorem in_wsL_law0_r1 : ∀ w ∈ wsL_law0_r1, w ∈ lw_tbl := mem_by [233, 234, 207, 1879, 1880, 219, 486, 2680, 235, 236, 237, 238, 239, 240, 241, 242, 208, 762, 763, 764, 270, 271, 209, 765] rfl
set_option maxRecDepth 100000 in
set_option maxHeartbeats 4000000 in
theorem in_wsL_law0_r2 : ∀ w ∈ wsL_law0_r2, w ∈ lw_tbl := mem_by [346, 347, 211, 766, 389, 390, 212, 767, 487, 488, 214, 768, 515, 516, 215, 769, 540, 541, 216, 770, 599, 600, 217, 771] rfl
set_option maxRecDepth 100000 in
set_option maxHeartbeats 4000000 in
theorem in_wsL_law0_r3 : ∀ w ∈ wsL_law0_r3, w ∈ lw_tbl := mem_by [772, 244, 245, 246, 269, 247, 273, 274, 275, 311, 312, 314, 318, 319, 320, 321, 322, 276, 277, 210, 323, 278, 279, 280] rfl
set_option maxRecDepth 100000 in
set_option maxHeartbeats 4000000 in
theorem in_wsL_law0_r4 : ∀ w ∈ wsL_law0_r4, w ∈ lw_tbl := mem_by [281, 286, 287, 288, 289, 290, 291, 282, 284, 0, 285, 349, 350, 351, 352, 354, 356, 358, 360, 362, 364, 365, 366, 367] rfl
set_option maxRecDepth 100000 in
set_option maxHeartbeats 4000000 in
theorem in_wsL_law0_r5 : ∀ w ∈ wsL_law0_r5, w ∈ lw_tbl := mem_by [391, 392, 393, 394, 395, 396, 213, 437, 438, 439, 440, 441, 442, 443, 436, 398, 399, 400, 490, 491, 492, 493, 494, 495] rfl
set_option maxRecDepth 100000 in
set_option maxHeartbeats 4000000 in
theorem in_wsL_law0_r6 : ∀ w ∈ wsL_law0_r6, w ∈ lw_tbl := mem_by [496, 517, 518, 519, 520, 521, 542, 543, 544, 545, 549, 550, 551, 552, 553, 548, 602, 603, 604, 665, 672, 679, 686, 693] rfl
set_option maxRecDepth 100000 in
set_option maxHeartbeats 4000000 in
theorem in_wsL_law0_r7 : ∀ w ∈ wsL_law0_r7, w ∈ lw_tbl := mem_by [695, 699, 704, 706, 708, 710, 605, 715, 607, 608, 218, 719, 610, 611, 612, 615, 617, 620, 623, 625, 658, 626, 627, 629] rfl
set_option maxRecDepth 100000 in
set_option maxHeartbeats 4000000 in
theorem in_wsL_law0_r8 : ∀ w ∈ wsL_law0_r8, w ∈ lw_tbl := mem_by [630, 631, 1881, 1882, 1883, 1884, 1898, 1900, 1903, 1904, 1905, 1906, 1907, 1908, 1909, 1910, 1912, 1913, 1885, 1914, 1915, 1917, 1918, 1919] rfl
set_option maxRecDepth 100000 in
set_option maxHeartbeats 4000000 in
theorem in_wsL_law0_r9 : ∀ w ∈ wsL_law0_r9, w ∈ lw_tbl := mem_by [1920, 1921, 1922, 1923, 1924, 1925, 1926, 1927, 1928, 1938, 1939, 1940, 1941, 1942, 1943, 1944, 1945, 1946, 1948, 1949, 1950, 1951, 1952, 1886] rfl
set_option maxRecDepth 100000 in
set_option maxHeartbeats 4000000 in
theorem in_wsL_law0_r10 : ∀ w ∈ wsL_law0_r10, w ∈ lw_tbl := mem_by [1953, 1954, 1887, 1955, 1956, 1957, 1959, 1960, 1961, 1965, 1966, 1967, 1968, 1969, 1970, 1983, 1984, 1986, 1987, 1988, 1990, 1888, 1890, 1891] rfl
set_option maxRecDepth 100000 in
set_option maxHeartbeats 4000000 in
theorem in_wsL_law0_r11 : ∀ w ∈ wsL_law0_r11, w ∈ lw_tbl := mem_by [1892, 1893, 1894, 1895, 1896, 1194, 1195, 206, 1196, 1197, 1198, 1199, 1200, 1201, 1202, 1203, 223, 1270, 224, 249, 1286, 1160, 1161, 1162] rfl
set_option maxRecDepth 100000 in
set_option maxHeartbeats 4000000 in
theorem in_wsL_law0_r12 : ∀ w ∈ wsL_law0_r12, w ∈ lw_tbl := mem_by [248, 254, 2184, 2185, 2186, 2187, 1899, 1897, 2188, 2180, 2181, 2182, 2183, 814, 815, 816, 817, 818, 819, 820, 821, 259, 2189, 2190] rfl
set_option maxRecDepth 100000 in
set_option maxHeartbeats 4000000 in
theorem in_wsL_law0_r13 : ∀ w ∈ wsL_law0_r13, w ∈ lw_tbl := mem_by [2191, 2192, 822, 823, 824, 825, 773, 826, 827, 828, 829, 522, 716, 523, 524, 250, 525, 526, 660, 830, 831, 832, 833, 659] rfl
set_option maxRecDepth 100000 in
set_option maxHeartbeats 4000000 in
theorem in_wsL_law0_r14 : ∀ w ∈ wsL_law0_r14, w ∈ lw_tbl := mem_by [728, 725, 834, 835, 836, 837, 839, 841, 840, 225, 838, 842, 844, 1, 845, 846, 847, 848, 849, 850, 851, 852, 853, 854] rfl
set_option maxRecDepth 100000 in
set_option maxHeartbeats 4000000 in
theorem in_wsL_law0_r15 : ∀ w ∈ wsL_law0_r15, w ∈ lw_tbl := mem_by [856, 2, 857, 858, 860, 3, 861, 674, 681, 687, 862, 863, 864, 865, 866, 868, 4, 869, 870, 872, 5, 873, 711, 874] rfl
set_option maxRecDepth 100000 in
set_option maxHeartbeats 4000000 in
theorem in_wsL_law0_r16 : ∀ w ∈ wsL_law0_r16, w ∈ lw_tbl := mem_by [875, 876, 877, 878, 879, 880, 881, 324, 316, 673, 680, 882, 883, 884, 885, 886, 887, 888, 889, 666, 890, 891, 892, 893] rfl
set_option maxRecDepth 100000 in
set_option maxHeartbeats 4000000 in
theorem in_wsL_law0_r17 : ∀ w ∈ wsL_law0_r17, w ∈ lw_tbl := mem_by [894, 895, 896, 292, 721, 667, 696, 700, 897, 899, 6, 900, 675, 682, 688, 929, 934, 901, 902, 903, 904, 906, 7, 907] rfl
set_option maxRecDepth 100000 in
set_option maxHeartbeats 4000000 in
theorem in_wsL_law0_r18 : ∀ w ∈ wsL_law0_r18, w ∈ lw_tbl := mem_by [293, 912, 908, 910, 8, 911, 913, 915, 9, 916, 917, 919, 10, 920, 921, 923, 11, 924, 925, 927, 12, 928, 931, 932] rfl
set_option maxRecDepth 100000 in
set_option maxHeartbeats 4000000 in
theorem in_wsL_law0_r19 : ∀ w ∈ wsL_law0_r19, w ∈ lw_tbl := mem_by [933, 936, 937, 938, 939, 613, 940, 942, 13, 943, 944, 945, 946, 947, 948, 949, 951, 14, 952, 953, 954, 955, 226, 956] rfl
set_option maxRecDepth 100000 in
set_option maxHeartbeats 4000000 in
theorem in_wsL_law0_r20 : ∀ w ∈ wsL_law0_r20, w ∈ lw_tbl := mem_by [957, 958, 959, 960, 961, 962, 963, 624, 964, 965, 966, 967, 968, 969, 970, 971, 972, 974, 15, 975, 976, 977, 978, 713] rfl
set_option maxRecDepth 100000 in
set_option maxHeartbeats 4000000 in
theorem in_wsL_law0_r21 : ∀ w ∈ wsL_law0_r21, w ∈ lw_tbl := mem_by [691, 698, 702, 979, 980, 981, 982, 983, 985, 16, 986, 726, 669, 987, 988, 990, 17, 991, 723, 701, 992, 993, 994, 995] rfl
set_option maxRecDepth 100000 in
set_option maxHeartbeats 4000000 in
theorem in_wsL_law0_r22 : ∀ w ∈ wsL_law0_r22, w ∈ lw_tbl := mem_by [632, 1000, 996, 998, 18, 999, 1001, 1002, 1003, 1004, 1005, 1006, 1007, 1008, 1009, 1010, 1011, 1012, 1013, 1014, 1015, 1016, 1018, 19] rfl
set_option maxRecDepth 100000 in
set_option maxHeartbeats 4000000 in
theorem in_wsL_law0_r23 : ∀ w ∈ wsL_law0_r23, w ∈ lw_tbl := mem_by [1019, 1020, 1021, 1022, 1023, 1024, 1025, 1026, 1027, 1029, 20, 1030, 1031, 1032, 1033, 1034, 1035, 619, 622, 1036, 1037, 1038, 1039, 1040] rfl
set_option maxRecDepth 100000 in
set_option maxHeartbeats 4000000 in
theorem in_wsL_law0_r24 : ∀ w ∈ wsL_law0_r24, w ∈ lw_tbl := mem_by [1041, 1042, 1043, 1044, 498, 499, 2201, 2202, 2203, 2204, 1931, 2205, 2207, 116, 2208, 1962, 1963, 1964, 1902, 2209, 2211, 117, 2212, 2213] rfl
set_option maxRecDepth 100000 in
set_option maxHeartbeats 4000000 in
theorem in_wsL_law0_r25 : ∀ w ∈ wsL_law0_r25, w ∈ lw_tbl := mem_by [2215, 118, 2216, 2217, 2219, 119, 2220, 2221, 2223, 120, 2224, 2225, 2227, 121, 2228, 2229, 2231, 122, 2232, 2233, 2235, 123, 2236, 1911] rfl
set_option maxRecDepth 100000 in
set_option maxHeartbeats 4000000 in
theorem in_wsL_law0_r26 : ∀ w ∈ wsL_law0_r26, w ∈ lw_tbl := mem_by [2237, 2239, 124, 2240, 2241, 2243, 125, 2244, 2245, 2247, 126, 2248, 2249, 2251, 127, 2252, 1947, 2253, 2255, 128, 2256, 2257, 2259, 129] rfl
set_option maxRecDepth 100000 in
set_option maxHeartbeats 4000000 in
theorem in_wsL_law0_r27 : ∀ w ∈ wsL_law0_r27, w ∈ lw_tbl := mem_by [2260, 2261, 2263, 130, 2264, 1937, 2265, 2267, 131, 2268, 2269, 2271, 132, 2272, 2273, 2275, 133, 2276, 2277, 2279, 134, 2280, 2281, 2283] rfl
set_option maxRecDepth 100000 in
set_option maxHeartbeats 4000000 in
theorem in_wsL_law0_r28 : ∀ w ∈ wsL_law0_r28, w ∈ lw_tbl := mem_by [135, 2284, 2285, 2287, 136, 2288, 2289, 2291, 137, 2292, 2293, 2295, 138, 2296, 2297, 2299, 139, 2300, 2301, 2302, 2303, 2304, 2306, 140] rfl
set_option maxRecDepth 100000 in
set_option maxHeartbeats 4000000 in
theorem in_wsL_law0_r29 : ∀ w ∈ wsL_law0_r29, w ∈ lw_tbl := mem_by [2307, 2308, 2310, 141, 2311, 2312, 2314, 142, 2315, 1930, 2316, 2318, 143, 2319, 2320, 2322, 144, 2323, 1916, 1929, 2324, 2326, 145, 2327] rfl
set_option maxRecDepth 100000 in
set_option maxHeartbeats 4000000 in
theorem in_wsL_law0_r30 : ∀ w ∈ wsL_law0_r30, w ∈ lw_tbl := mem_by [2328, 2330, 146, 2331, 2332, 2334, 147, 2335, 2336, 2338, 2340, 148, 2341, 2345, 2342, 2343, 2344, 2347, 2349, 149, 2350, 2351, 2353, 150] rfl
set_option maxRecDepth 100000 in
set_option maxHeartbeats 4000000 in
theorem in_wsL_law0_r31 : ∀ w ∈ wsL_law0_r31, w ∈ lw_tbl := mem_by [2354, 2355, 2357, 151, 2358, 2359, 2360, 2361, 2362, 2364, 152, 2365, 2366, 2368, 153, 2369, 2370, 2371, 2372, 2373, 1287, 1288, 1289, 1290] rfl
set_option maxRecDepth 100000 in
set_option maxHeartbeats 4000000 in
theorem in_wsL_law0_r32 : ∀ w ∈ wsL_law0_r32, w ∈ lw_tbl := mem_by [1291, 1292, 1293, 662, 1296, 1298, 43, 1299, 722, 697, 1309, 670, 690, 774, 432, 775, 434, 776, 777, 1300, 1301, 1302, 1303, 252] rfl
set_option maxRecDepth 100000 in
set_option maxHeartbeats 4000000 in
theorem in_wsL_law0_r33 : ∀ w ∈ wsL_law0_r33, w ∈ lw_tbl := mem_by [1304, 1305, 1306, 1307, 1308, 1310, 1311, 1312, 1313, 1314, 1315, 1316, 1317, 1318, 1320, 44, 1321, 1322, 1324, 45, 1325, 1326, 1328, 46] rfl
set_option maxRecDepth 100000 in
set_option maxHeartbeats 4000000 in
theorem in_wsL_law0_r34 : ∀ w ∈ wsL_law0_r34, w ∈ lw_tbl := mem_by [1329, 1330, 1332, 47, 1333, 1334, 1336, 48, 1337, 1338, 1340, 49, 1341, 1342, 1344, 50, 1345, 1346, 1348, 51, 1390, 1392, 62, 1402] rfl
set_option maxRecDepth 100000 in
set_option maxHeartbeats 4000000 in
theorem in_wsL_law0_r35 : ∀ w ∈ wsL_law0_r35, w ∈ lw_tbl := mem_by [1404, 65, 1433, 1350, 1352, 52, 1353, 1358, 1360, 54, 1361, 1354, 1356, 53, 1357, 1362, 1364, 55, 1365, 1385, 1370, 1372, 57, 1373] rfl
set_option maxRecDepth 100000 in
set_option maxHeartbeats 4000000 in
theorem in_wsL_law0_r36 : ∀ w ∈ wsL_law0_r36, w ∈ lw_tbl := mem_by [1374, 1376, 58, 1377, 1386, 1388, 61, 1369, 1378, 1380, 59, 1381, 1397, 1405, 1406, 1408, 66, 1409, 1410, 1412, 67, 1413, 1414, 1416] rfl
set_option maxRecDepth 100000 in
set_option maxHeartbeats 4000000 in
theorem in_wsL_law0_r37 : ∀ w ∈ wsL_law0_r37, w ∈ lw_tbl := mem_by [68, 1417, 1418, 1420, 69, 1421, 1422, 1424, 70, 1425, 1426, 1428, 71, 1429, 1430, 1432, 72, 1434, 1436, 73, 1349, 1366, 1368, 56] rfl
set_option maxRecDepth 100000 in
set_option maxHeartbeats 4000000 in
theorem in_wsL_law0_r38 : ∀ w ∈ wsL_law0_r38, w ∈ lw_tbl := mem_by [1382, 1384, 60, 1393, 1394, 1396, 63, 1398, 1400, 64, 1401, 1389, 1437, 1438, 1440, 74, 1441, 1442, 1444, 75, 1445, 1446, 1448, 76] rfl
set_option maxRecDepth 100000 in
set_option maxHeartbeats 4000000 in
theorem in_wsL_law0_r39 : ∀ w ∈ wsL_law0_r39, w ∈ lw_tbl := mem_by [1449, 1450, 1452, 77, 1453, 1454, 1456, 78, 1457, 1458, 1460, 79, 1461, 1462, 1464, 80, 1465, 1466, 1468, 81, 1469, 1470, 1471, 1472] rfl
set_option maxRecDepth 100000 in
set_option maxHeartbeats 4000000 in
theorem in_wsL_law0_r40 : ∀ w ∈ wsL_law0_r40, w ∈ lw_tbl := mem_by [1473, 663, 253, 444, 450, 433, 435, 1487, 445, 446, 447, 448, 449, 717, 1474, 1475, 1476, 1477, 1478, 1479, 1480, 1481, 1482, 1483] rfl
set_option maxRecDepth 100000 in
set_option maxHeartbeats 4000000 in
theorem in_wsL_law0_r41 : ∀ w ∈ wsL_law0_r41, w ∈ lw_tbl := mem_by [1485, 82, 1486, 1488, 1490, 83, 1491, 359, 353, 361, 355, 357, 363, 1492, 1494, 84, 1495, 1496, 1497, 1498, 1499, 1500, 1501, 1503] rfl
set_option maxRecDepth 100000 in
set_option maxHeartbeats 4000000 in
theorem in_wsL_law0_r42 : ∀ w ∈ wsL_law0_r42, w ∈ lw_tbl := mem_by [85, 1504, 1505, 1506, 1507, 1508, 401, 1509, 402, 1510, 408, 409, 410, 1577, 1511, 1513, 86, 1514, 403, 404, 405, 406, 407, 1515] rfl
set_option maxRecDepth 100000 in
set_option maxHeartbeats 4000000 in
theorem in_wsL_law0_r43 : ∀ w ∈ wsL_law0_r43, w ∈ lw_tbl := mem_by [1516, 1518, 87, 1519, 1520, 1522, 88, 1523, 1524, 1526, 89, 1527, 1528, 1530, 90, 1531, 1532, 1533, 1535, 91, 1536, 1537, 1538, 1539] rfl
set_option maxRecDepth 100000 in
set_option maxHeartbeats 4000000 in
theorem in_wsL_law0_r44 : ∀ w ∈ wsL_law0_r44, w ∈ lw_tbl := mem_by [1540, 1541, 1543, 92, 1544, 1545, 1546, 1547, 1548, 1550, 93, 1551, 1552, 1553, 1554, 1555, 1557, 94, 1558, 1559, 1561, 95, 1562, 1563] rfl
set_option maxRecDepth 100000 in
set_option maxHeartbeats 4000000 in
theorem in_wsL_law0_r45 : ∀ w ∈ wsL_law0_r45, w ∈ lw_tbl := mem_by [1565, 96, 1566, 1567, 1568, 227, 1569, 1570, 1571, 1572, 1573, 1575, 97, 1576, 1578, 1580, 98, 1581, 1582, 1583, 1585, 99, 1586, 1587] rfl
set_option maxRecDepth 100000 in
set_option maxHeartbeats 4000000 in
theorem in_wsL_law0_r46 : ∀ w ∈ wsL_law0_r46, w ∈ lw_tbl := mem_by [1589, 100, 1590, 1591, 1593, 101, 1594, 1595, 1596, 1597, 1598, 1599, 1600, 1601, 1602, 1177, 1178, 1179, 1172, 1156, 1157, 1158, 1159, 1603] rfl
set_option maxRecDepth 100000 in
set_option maxHeartbeats 4000000 in
theorem in_wsL_law0_r47 : ∀ w ∈ wsL_law0_r47, w ∈ lw_tbl := mem_by [1604, 1605, 1606, 1607, 1185, 1187, 41, 1188, 1189, 2378, 2379, 2380, 2381, 2386, 1971, 1972, 1973, 1974, 1975, 1976, 1977, 1932, 1934, 2482] rfl
set_option maxRecDepth 100000 in
set_option maxHeartbeats 4000000 in
theorem in_wsL_law0_r48 : ∀ w ∈ wsL_law0_r48, w ∈ lw_tbl := mem_by [1935, 1936, 2382, 2384, 154, 2385, 2387, 2389, 155, 2390, 2391, 2393, 156, 2394, 2395, 2397, 157, 2398, 2399, 2401, 158, 2402, 2403, 2405] rfl
set_option maxRecDepth 100000 in
set_option maxHeartbeats 4000000 in
theorem in_wsL_law0_r49 : ∀ w ∈ wsL_law0_r49, w ∈ lw_tbl := mem_by [159, 2406, 2407, 2409, 160, 2410, 2411, 2413, 161, 2414, 2415, 2417, 162, 2418, 2419, 2421, 163, 2422, 2423, 2425, 164, 2426, 2427, 2428] rfl
set_option maxRecDepth 100000 in
set_option maxHeartbeats 4000000 in
theorem in_wsL_law0_r50 : ∀ w ∈ wsL_law0_r50, w ∈ lw_tbl := mem_by [2429, 2430, 2431, 2432, 2433, 2434, 2435, 2437, 165, 2438, 2439, 2441, 166, 2442, 2443, 2444, 2445, 2446, 2447, 2448, 2449, 2450, 2451, 2452] rfl
set_option maxRecDepth 100000 in
set_option maxHeartbeats 4000000 in
theorem in_wsL_law0_r51 : ∀ w ∈ wsL_law0_r51, w ∈ lw_tbl := mem_by [2453, 2454, 2455, 2456, 2457, 2458, 2459, 2460, 2461, 2462, 2464, 167, 2465, 2466, 2467, 2468, 2469, 2471, 168, 2472, 2473, 2474, 2475, 2476] rfl
set_option maxRecDepth 100000 in
set_option maxHeartbeats 4000000 in
theorem in_wsL_law0_r52 : ∀ w ∈ wsL_law0_r52, w ∈ lw_tbl := mem_by [2477, 2478, 2479, 2480, 2481, 2483, 2485, 169, 2486, 1901, 1608, 1609, 1610, 1611, 1612, 1613, 1614, 1615, 1620, 228, 677, 684, 705, 707] rfl
set_option maxRecDepth 100000 in
set_option maxHeartbeats 4000000 in
theorem in_wsL_law0_r53 : ∀ w ∈ wsL_law0_r53, w ∈ lw_tbl := mem_by [709, 1616, 1618, 102, 1619, 2487, 2488, 2489, 2490, 2491, 2493, 170, 2494, 1636, 1637, 1638, 1639, 1640, 1641, 1642, 1644, 1645, 1646, 1647] rfl
set_option maxRecDepth 100000 in
set_option maxHeartbeats 4000000 in
theorem in_wsL_law0_r54 : ∀ w ∈ wsL_law0_r54, w ∈ lw_tbl := mem_by [661, 1672, 1648, 1650, 103, 1651, 497, 1652, 1654, 104, 1655, 1656, 1658, 1660, 105, 1661, 1665, 1662, 1663, 1664, 1667, 1669, 106, 1670] rfl
set_option maxRecDepth 100000 in
set_option maxHeartbeats 4000000 in
theorem in_wsL_law0_r55 : ∀ w ∈ wsL_law0_r55, w ∈ lw_tbl := mem_by [668, 712, 689, 1671, 676, 683, 2495, 2496, 2497, 2498, 1673, 1674, 1675, 1676, 1677, 1678, 1679, 1680, 1681, 1682, 1683, 1684, 1685, 1686] rfl
set_option maxRecDepth 100000 in
set_option maxHeartbeats 4000000 in
theorem in_wsL_law0_r56 : ∀ w ∈ wsL_law0_r56, w ∈ lw_tbl := mem_by [1687, 720, 614, 1688, 1690, 107, 1691, 616, 618, 621, 2499, 2500, 2501, 2502, 1692, 1693, 1694, 1695, 1696, 1697, 1698, 628, 1700, 1701] rfl
set_option maxRecDepth 100000 in
set_option maxHeartbeats 4000000 in
theorem in_wsL_law0_r57 : ∀ w ∈ wsL_law0_r57, w ∈ lw_tbl := mem_by [1702, 1703, 1704, 1705, 1707, 108, 1708, 2503, 2504, 2505, 2506, 1958, 2507, 2509, 171, 2510, 2511, 2513, 172, 2514, 2515, 2517, 173, 2518] rfl
set_option maxRecDepth 100000 in
set_option maxHeartbeats 4000000 in
theorem in_wsL_law0_r58 : ∀ w ∈ wsL_law0_r58, w ∈ lw_tbl := mem_by [1045, 1046, 1047, 1048, 547, 778, 1049, 1050, 1051, 1052, 556, 557, 546, 563, 560, 554, 317, 255, 1053, 1054, 1056, 21, 1057, 558] rfl
set_option maxRecDepth 100000 in
set_option maxHeartbeats 4000000 in
theorem in_wsL_law0_r59 : ∀ w ∈ wsL_law0_r59, w ∈ lw_tbl := mem_by [561, 559, 1058, 1060, 22, 1061, 562, 251, 1062, 1063, 1064, 1065, 1066, 1068, 23, 1069, 1070, 1072, 1074, 24, 1075, 1076, 1078, 25] rfl
set_option maxRecDepth 100000 in
set_option maxHeartbeats 4000000 in
theorem in_wsL_law0_r60 : ∀ w ∈ wsL_law0_r60, w ∈ lw_tbl := mem_by [1079, 1080, 1081, 1082, 1083, 1084, 1086, 26, 1087, 555, 1088, 1090, 27, 1091, 664, 1092, 1094, 28, 1095, 1096, 1098, 29, 1099, 1100] rfl
set_option maxRecDepth 100000 in
set_option maxHeartbeats 4000000 in
theorem in_wsL_law0_r61 : ∀ w ∈ wsL_law0_r61, w ∈ lw_tbl := mem_by [1102, 30, 1103, 313, 678, 685, 315, 1104, 1105, 1106, 1107, 1108, 1109, 1110, 1111, 1113, 31, 1114, 1115, 1117, 32, 1118, 692, 694] rfl
set_option maxRecDepth 100000 in
set_option maxHeartbeats 4000000 in
theorem in_wsL_law0_r62 : ∀ w ∈ wsL_law0_r62, w ∈ lw_tbl := mem_by [1119, 1121, 33, 1122, 714, 1123, 1124, 1125, 1126, 1127, 1129, 34, 1130, 1131, 1133, 35, 1134, 671, 1135, 1137, 36, 1138, 1139, 1140] rfl
set_option maxRecDepth 100000 in
set_option maxHeartbeats 4000000 in
theorem in_wsL_law0_r63 : ∀ w ∈ wsL_law0_r63, w ∈ lw_tbl := mem_by [1141, 1142, 1143, 1144, 1145, 1147, 37, 1148, 724, 703, 1149, 1150, 1151, 1153, 38, 1154, 1155, 1163, 1164, 1166, 39, 1167, 1168, 1169] rfl
set_option maxRecDepth 100000 in
set_option maxHeartbeats 4000000 in
theorem in_wsL_law0_r64 : ∀ w ∈ wsL_law0_r64, w ∈ lw_tbl := mem_by [1170, 1171, 1173, 1174, 1175, 1176, 1180, 1182, 40, 1183, 1184, 2577, 2578, 2579, 2580, 1989, 2581, 2583, 183, 2584, 1978, 1933, 2675, 2585] rfl
set_option maxRecDepth 100000 in
set_option maxHeartbeats 4000000 in
theorem in_wsL_law0_r65 : ∀ w ∈ wsL_law0_r65, w ∈ lw_tbl := mem_by [2587, 184, 2588, 1982, 1979, 1981, 1980, 2589, 2591, 185, 2592, 2593, 2595, 186, 2596, 2597, 2598, 2599, 2600, 2602, 187, 2603, 2604, 2606] rfl
set_option maxRecDepth 100000 in
set_option maxHeartbeats 4000000 in
theorem in_wsL_law0_r66 : ∀ w ∈ wsL_law0_r66, w ∈ lw_tbl := mem_by [188, 2607, 2608, 2610, 189, 2611, 2612, 2614, 190, 2615, 1985, 2616, 2618, 191, 2619, 2620, 2622, 192, 2623, 2624, 2626, 193, 2627, 2628] rfl
set_option maxRecDepth 100000 in
set_option maxHeartbeats 4000000 in
theorem in_wsL_law0_r67 : ∀ w ∈ wsL_law0_r67, w ∈ lw_tbl := mem_by [2630, 194, 2631, 2632, 2634, 195, 2635, 2636, 2638, 196, 2639, 2640, 2642, 197, 2643, 2550, 2551, 2552, 2644, 2646, 198, 2647, 2648, 2650] rfl
set_option maxRecDepth 100000 in
set_option maxHeartbeats 4000000 in
theorem in_wsL_law0_r68 : ∀ w ∈ wsL_law0_r68, w ∈ lw_tbl := mem_by [199, 2651, 2652, 2654, 200, 2655, 2656, 2658, 201, 2659, 2660, 2662, 202, 2663, 2664, 2666, 203, 2667, 2668, 2669, 2670, 2671, 2673, 204] rfl
set_option maxRecDepth 100000 in
set_option maxHeartbeats 4000000 in
theorem in_wsL_law0_r69 : ∀ w ∈ wsL_law0_r69, w ∈ lw_tbl := mem_by [2674, 2676, 2678, 205, 2679, 1709, 1710, 1711, 1712, 1713, 1714, 1715, 257, 1716, 1717, 1718, 1719, 1778, 1720, 1721, 1722, 1723, 1724, 1726] rfl
set_option maxRecDepth 100000 in
set_option maxHeartbeats 4000000 in
theorem in_wsL_law0_r70 : ∀ w ∈ wsL_law0_r70, w ∈ lw_tbl := mem_by [1727, 1728, 1729, 1730, 1731, 1732, 229, 1733, 2682, 1734, 1735, 1736, 1737, 1738, 2683, 1740, 1741, 1742, 1743, 1744, 1745, 1746, 1747, 1748] rfl
set_option maxRecDepth 100000 in
set_option maxHeartbeats 4000000 in
theorem in_wsL_law0_r71 : ∀ w ∈ wsL_law0_r71, w ∈ lw_tbl := mem_by [1749, 230, 1750, 1751, 1752, 1753, 1754, 1756, 1757, 231, 1758, 1759, 1760, 232, 1761, 1762, 1763, 1764, 1765, 1766, 1767, 1768, 1769, 1770] rfl
set_option maxRecDepth 100000 in
set_option maxHeartbeats 4000000 in
theorem in_wsL_law0_r72 : ∀ w ∈ wsL_law0_r72, w ∈ lw_tbl := mem_by [1771, 1772, 1774, 1776, 1779, 1780, 1781, 1782, 1783, 1784, 1785, 1787, 1789, 109, 1790, 1791, 1792, 1793, 1794, 1795, 1797, 110, 1798, 258] rfl
set_option maxRecDepth 100000 in
set_option maxHeartbeats 4000000 in
theorem in_wsL_law0_r73 : ∀ w ∈ wsL_law0_r73, w ∈ lw_tbl := mem_by [1799, 2557, 2558, 2559, 2560, 2527, 2529, 175, 2530, 2561, 2563, 179, 2564, 2565, 2567, 180, 2568, 2569, 2571, 181, 2572, 2573, 2575, 182] rfl
set_option maxRecDepth 100000 in
set_option maxHeartbeats 4000000 in
theorem in_wsL_law0_r74 : ∀ w ∈ wsL_law0_r74, w ∈ lw_tbl := mem_by [2576, 2531, 2532, 2533, 1190, 1191, 1192, 1193, 2193, 2194, 2195, 2196, 1800, 1801, 1802, 1803, 1804, 1805, 1806, 1807, 1809, 111, 1810, 1811] rfl
set_option maxRecDepth 100000 in
set_option maxHeartbeats 4000000 in
theorem in_wsL_law0_r75 : ∀ w ∈ wsL_law0_r75, w ∈ lw_tbl := mem_by [1812, 1813, 1814, 256, 1815, 1817, 112, 1818, 1819, 2519, 2520, 2521, 2522, 2523, 2525, 174, 2526, 2534, 2536, 176, 2537, 1820, 1821, 1822] rfl
set_option maxRecDepth 100000 in
set_option maxHeartbeats 4000000 in
theorem in_wsL_law0_r76 : ∀ w ∈ wsL_law0_r76, w ∈ lw_tbl := mem_by [1823, 1824, 1825, 1826, 1827, 1829, 113, 1830, 1831, 1832, 1833, 1834, 1835, 1837, 114, 1838, 1839, 1840, 1841, 1842, 1843, 1844, 1845, 2538] rfl
set_option maxRecDepth 100000 in
set_option maxHeartbeats 4000000 in
theorem in_wsL_law0_r77 : ∀ w ∈ wsL_law0_r77, w ∈ lw_tbl := mem_by [2539, 2540, 2541, 2542, 2544, 177, 2545, 2546, 2548, 178, 2549, 1846, 1847, 1848, 1849, 1850, 1851, 1852, 718, 2374, 2375, 2376, 2377, 1853] rfl
set_option maxRecDepth 100000 in
set_option maxHeartbeats 4000000 in
theorem in_wsL_law0_r78 : ∀ w ∈ wsL_law0_r78, w ∈ lw_tbl := mem_by [1854, 1855, 1856, 1857, 1858, 1859, 1861, 2197, 2198, 2199, 2200, 1862, 1863, 1864, 1865, 1866, 1867, 1868, 1870, 1872, 115, 1873, 727, 1874] rfl
set_option maxRecDepth 100000 in
set_option maxHeartbeats 4000000 in
theorem in_wsL_law0_r79 : ∀ w ∈ wsL_law0_r79, w ∈ lw_tbl := mem_by [1875, 1876, 1877, 1878, 2553, 2554, 2555, 2556] rfl
set_option maxRecDepth 100000 in
set_option maxHeartbeats 4000000 in
theorem in_wsX110 : ∀ w ∈ wsX110, w ∈ lw_tbl := mem_by [779, 781, 783, 785, 787, 789, 791, 793, 795, 797, 799, 801, 803, 805, 807, 809, 811] rfl
set_option maxRecDepth 100000 in
set_option maxHeartbeats 4000000 in
theorem in_wsX120 : ∀ w ∈ wsX120, w ∈ lw_tbl := mem_by [1991, 1993, 1995, 1997, 1999, 2001, 2003, 2005, 2007, 2009, 2011, 2013, 2015, 2017, 2019, 2021, 2023, 2025, 2027, 2029, 2031, 2033, 2035, 2037, 2039, 2041, 2043, 2045, 2047, 2049, 2051, 2053, 2055, 2057, 2059, 2061, 2063, 2065, 2067, 2069, 2071, 2073, 2075, 2077, 2079, 2081, 2083, 2085, 2087, 2089, 2091, 2093, 2095, 2097, 2099, 2101, 2103, 2105, 2107, 2109, 2111, 2113, 2115, 2117, 2119, 2121, 2123, 2125, 2127, 2129, 2131, 2133, 2135, 2137, 2139, 2141, 2143, 2145, 2147, 2149, 2151, 2153, 2155, 2157, 2159, 2161, 2163, 2165, 2167, 2169, 2171, 2173, 2175, 2177] rfl
set_option maxRecDepth 100000 in
set_option maxHeartbeats 4000000 in
theorem in_wsX80 : ∀ w ∈ wsX80, w ∈ lw_tbl := mem_by [260, 262, 264, 266] rfl
set_option maxRecDepth 100000 in
set_option maxHeartbeats 4000000 in
theorem in_wsX50 : ∀ w ∈ wsX50, w ∈ lw_tbl := mem_by [325, 327, 329, 331, 333, 335, 337, 339, 341, 343] rfl
set_option maxRecDepth 100000 in
set_option maxHeartbeats 4000000 in
theorem in_wsX00 : ∀ w ∈ wsX00, w ∈ lw_tbl := mem_by [368, 370, 372, 374, 376, 378, 380, 382, 384, 386] rfl
set_option maxRecDepth 100000 in
set_option maxHeartbeats 4000000 in
theorem in_wsX40 : ∀ w ∈ wsX40, w ∈ lw_tbl := mem_by [451, 453, 455, 457, 459, 461, 463, 465, 467, 469, 471, 473, 475, 477, 479, 481, 483] rfl
set_option maxRecDepth 100000 in
set_option maxHeartbeats 4000000 in
theorem in_wsX70 : ∀ w ∈ wsX70, w ∈ lw_tbl := mem_by [500, 502, 504, 506, 508, 510, 512] rfl
set_option maxRecDepth 100000 in
set_option maxHeartbeats 4000000 in
theorem in_wsX30 : ∀ w ∈ wsX30, w ∈ lw_tbl := mem_by [527, 529, 531, 533, 535, 537] rfl
set_option maxRecDepth 100000 in
set_option maxHeartbeats 4000000 in
theorem in_wsX90 : ∀ w ∈ wsX90, w ∈ lw_tbl := mem_by [564, 566, 568, 570, 572, 574, 576, 578, 580, 582, 584, 586, 588, 590, 592, 594, 596] rfl
set_option maxRecDepth 100000 in
set_option maxHeartbeats 4000000 in
theorem in_wsX60 : ∀ w ∈ wsX60, w ∈ lw_tbl := mem_by [729, 731, 733, 735, 737, 739, 741, 743, 745, 747, 749, 751, 753, 755, 757, 759] rfl
set_option maxRecDepth 100000 in
set_option maxHeartbeats 4000000 in
theorem in_wsX10 : ∀ w ∈ wsX10, w ∈ lw_tbl := mem_by [294, 296, 298, 300, 302, 304, 306, 308] rfl
set_option maxRecDepth 100000 in
set_option maxHeartbeats 4000000 in
theorem in_wsX20 : ∀ w ∈ wsX20, w ∈ lw_tbl := mem_by [411, 413, 415, 417, 419, 421, 423, 425, 427, 429] rfl
set_option maxRecDepth 100000 in
set_option maxHeartbeats 4000000 in
theorem in_wsX100 : ∀ w ∈ wsX100, w ∈ lw_tbl := mem_by [633, 635, 637, 639, 641, 643, 645, 647, 649, 651, 653, 655] rfl
theorem mem_app {big a b : List Cond} (ha : ∀ w ∈ a, w ∈ big) (hb : ∀ w ∈ b, w ∈ big) : ∀ w ∈ a ++ b, w ∈ big := fun w h => (List.mem_append.mp h).elim (ha w) (hb w)
set_option maxRecDepth 100000 in
theorem wsL_law_in0 : ∀ w ∈ wsL_law0, w ∈ lw_tbl := mem_app (mem_app (mem_app (mem_app (mem_app (mem_app (mem_app (mem_app (mem_app (mem_app (mem_app (mem_app (mem_app (mem_app (mem_app in_wsL_law0_r1 (mem_app in_wsL_law0_r2 (mem_app in_wsL_law0_r3 (mem_app in_wsL_law0_r4 (mem_app in_wsL_law0_r5 (mem_app in_wsL_law0_r6 (mem_app in_wsL_law0_r7 (mem_app in_wsL_law0_r8 (mem_app in_wsL_law0_r9 (mem_app in_wsL_law0_r10 (mem_app in_wsL_law0_r11 (mem_app in_wsL_law0_r12 (mem_app in_wsL_law0_r13 (mem_app in_wsL_law0_r14 (mem_app in_wsL_law0_r15 (mem_app in_wsL_law0_r16 (mem_app in_wsL_law0_r17 (mem_app in_wsL_law0_r18 (mem_app in_wsL_law0_r19 (mem_app in_wsL_law0_r20 (mem_app in_wsL_law0_r21 (mem_app in_wsL_law0_r22 (mem_app in_wsL_law0_r23 (mem_app in_wsL_law0_r24 (mem_app in_wsL_law0_r25 (mem_app in_wsL_law0_r26 (mem_app in_wsL_law0_r27 (mem_app in_wsL_law0_r28 (mem_app in_wsL_law0_r29 (mem_app in_wsL_law0_r30 (mem_app in_wsL_law0_r31 (mem_app in_wsL_law0_r32 (mem_app in_wsL_law0_r33 (mem_app in_wsL_law0_r34 (mem_app in_wsL_law0_r35 (mem_app in_wsL_law0_r36 (mem_app in_wsL_law0_r37 (mem_app in_wsL_law0_r38 (mem_app in_wsL_law0_r39 (mem_app in_wsL_law0_r40 (mem_app in_wsL_law0_r41 (mem_app in_wsL_law0_r42 (mem_app in_wsL_law0_r43 (mem_app in_wsL_law0_r44 (mem_app in_wsL_law0_r45 (mem_app in_wsL_law0_r46 (mem_app in_wsL_law0_r47 (mem_app in_wsL_law0_r48 (mem_app in_wsL_law0_r49 (mem_app in_wsL_law0_r50 (mem_app in_wsL_law0_r51 (mem_app in_wsL_law0_r52 (mem_app in_wsL_law0_r53 (mem_app in_wsL_law0_r54 (mem_app in_wsL_law0_r55 (mem_app in_wsL_law0_r56 (mem_app in_wsL_law0_r57 (mem_app in_wsL_law0_r58 (mem_app in_wsL_law0_r59 (mem_app in_wsL_law0_r60 (mem_app in_wsL_law0_r61 (mem_app in_wsL_law0_r62 (mem_app in_wsL_law0_r63 (mem_app in_wsL_law0_r64 (mem_app in_wsL_law0_r65 (mem_app in_wsL_law0_r66 (mem_app in_wsL_law0_r67 (mem_app in_wsL_law0_r68 (mem_app in_wsL_law0_r69 (mem_app in_wsL_law0_r70 (mem_app in_wsL_law0_r71 (mem_app in_wsL_law0_r72 (mem_app in_wsL_law0_r73 (mem_app in_wsL_law0_r74 (mem_app in_wsL_law0_r75 (mem_app in_wsL_law0_r76 (mem_app in_wsL_law0_r77 (mem_app in_wsL_law0_r78 in_wsL_law0_r79)))))))))))))))))))))))))))))))))))))))))))))))))))))))))))))))))))))))))))))) in_wsX110) in_wsX120) in_wsX80) in_wsX50) in_wsX00) in_wsX40) in_wsX70) in_wsX30) in_wsX90) in_wsX60) in_wsX10) in_wsX20) in_wsX100) (fun _ h => nomatch h)
