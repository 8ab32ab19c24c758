set_option maxRecDepth 20000 in
theorem ggL_law_X9_years : GoodIn wsL_law wsX9_years := goodIn_r _ [1408, 1409, 15, 26, 34, 208, 209, 210, 2, 211, 60, 59, 991, 808, 809, 25, 810, 81, 79, 80, 82, 83, 1030, 867, 868, 869, 870, 871, 872, 824, 309, 310, 311, 275, 276, 277, 278, 279, 280, 281, 14, 282, 73, 283, 284, 285, 286, 74, 287, 288, 289, 33, 290, 103, 102, 1410, 1411, 1412, 1413, 1414, 1415, 992, 833, 834, 835, 836, 837, 838, 839, 840, 444, 445, 446, 426, 427, 428, 429, 296, 297, 298, 299, 430, 322, 323, 324, 325, 272, 273, 274, 206, 207, 431, 432, 433, 434, 300, 301, 302, 303, 104, 304, 305, 306, 29, 307, 97, 96, 308, 312, 313, 314, 315, 316, 317, 841, 423, 424, 425, 435, 436, 437, 438, 439, 440, 441, 442, 842, 843, 844, 845, 846, 847, 848, 849, 850, 851, 852, 853, 854, 855, 856, 857, 858, 292, 293, 294, 295, 319, 320, 859, 860, 861, 862, 863, 864, 865, 224, 225, 226, 227, 1489, 1490, 1491, 1492, 1493, 1494, 1495, 1496, 1497, 1498, 1499, 1500, 1501, 1502, 1503, 1504, 1505, 1506, 1507, 1564, 1565, 1566, 1567, 1568, 1569, 1570, 1571, 1572, 1573, 1580, 1581, 1582, 1583, 1584, 1587, 1588, 1589, 1605, 1606, 1607, 1608, 1609, 1610, 1611, 1612, 1585, 1586] rfl (by decide +kernel)
set_option maxRecDepth 20000 in
theorem gL_law_X9_years : GoodIn wsL_law (wsV RL 150 RX9 yX9_years wsX9_years) := goodIn_app (goodIn_of _ (by decide +kernel)) ggL_law_X9_years
set_option maxRecDepth 20000 in
theorem ggL_law_X10_years : GoodIn wsL_law wsX10_years := goodIn_r _ [1419, 724, 1420, 197, 167, 196, 235, 236, 5, 237, 241, 242, 243, 244, 245, 166, 250, 251, 252, 253, 886, 887, 888, 889, 170, 1421, 1422, 1423, 1424, 1425, 1426, 1427, 939, 940, 941, 942, 451, 452, 453, 454, 455, 456, 457, 458, 179, 342, 343, 344, 345, 346, 347, 348, 349, 350, 351, 352, 353, 354, 355, 356, 357, 358, 359, 360, 361, 362, 363, 364, 365, 366, 367, 368, 369, 370, 371, 372, 373, 374, 375, 376, 377, 378, 379, 380, 381, 382, 383, 384, 385, 386, 387, 388, 389, 330, 331, 332, 333, 390, 391, 392, 393, 394, 395, 396, 397, 398, 399, 400, 401, 402, 403, 404, 405, 406, 407, 408, 409, 410, 411, 412, 413, 414, 415, 416, 417, 943, 944, 945, 946, 459, 460, 461, 462, 923, 924, 925, 926, 947, 948, 949, 931, 932, 933, 934, 180, 334, 335, 336, 337, 338, 339, 340, 341, 950, 951, 952, 953, 263, 264, 265, 266, 1508, 1509, 1510, 1511, 1512, 1513, 1514, 1515, 1516, 1517, 1518, 1519, 1520, 1521, 1522, 1523, 1524, 1525, 1526, 1527, 1528, 1529, 1530, 1531, 1532, 1533, 1534, 1535, 1536, 1537, 1538, 1539, 1540, 1541, 1542, 1543, 1544, 1545, 1546, 1547, 1548, 1549, 1550, 1551, 1552, 1553, 1554, 1555, 1556, 1557, 1558, 1559, 1560, 1561, 1562, 1563] rfl (by decide +kernel)
set_option maxRecDepth 20000 in
theorem gL_law_X10_years : GoodIn wsL_law (wsV RL 153 RX10 yX10_years wsX10_years) := goodIn_app (goodIn_of _ (by decide +kernel)) ggL_law_X10_years
set_option maxRecDepth 20000 in
theorem ggL_law_X9_drawn : GoodIn wsL_law wsX9_drawn := goodIn_r _ [1431, 26, 321, 322, 323, 25, 324, 79, 80, 325, 272, 273, 274, 81, 206, 2, 207, 1489, 1490, 1491, 1492, 1493, 1494, 1495, 1496, 1497, 1498, 1499, 1500, 1501, 1502, 1503, 1504, 1505, 1506, 1507, 1580, 1581, 1582, 1583, 1584] rfl (by decide +kernel)
set_option maxRecDepth 20000 in
theorem gL_law_X9_drawn : GoodIn wsL_law (wsV RL 154 RX9 yX9_drawn wsX9_drawn) := goodIn_app (goodIn_of _ (by decide +kernel)) ggL_law_X9_drawn
set_option maxRecDepth 20000 in
theorem ggL_law_X10_drawn : GoodIn wsL_law wsX10_drawn := goodIn_r _ [1435, 197, 196, 235, 236, 5, 237, 238, 239, 240, 1508, 1509, 1510, 1511, 1512, 1513, 1514, 1515, 1516, 1517, 1518, 1519, 1520, 1521, 1522, 1523, 1524, 1525, 1526, 1527, 1528, 1529, 1530, 1531, 1532, 1533, 1534, 1535, 1536, 1537, 1538, 1539, 1540, 1541, 1542, 1543, 1544, 1545, 1546, 1547, 1548, 1549, 1550, 1551, 1552, 1553, 1554, 1555, 1556, 1557, 1558, 1559, 1560, 1561, 1562, 1563] rfl (by decide +kernel)
set_option maxRecDepth 20000 in
theorem gL_law_X10_drawn : GoodIn wsL_law (wsV RL 157 RX10 yX10_drawn wsX10_drawn) := goodIn_app (goodIn_of _ (by decide +kernel)) ggL_law_X10_drawn
set_option maxRecDepth 20000 in
theorem ggL_law_X9_image : GoodIn wsL_law wsX9_image := goodIn_r _ [1439, 16, 15, 18, 1440, 1441, 2, 1442, 208, 209, 210, 211, 60, 59, 1443, 1444, 1445, 14, 1446, 65, 66, 67, 68, 71, 69, 70, 74, 73, 75, 1447, 808, 809, 25, 810, 81, 79, 80, 82, 83, 1448, 867, 868, 869, 870, 871, 872, 824, 309, 310, 311, 224, 225, 226, 227, 1489, 1490, 1491, 1492, 1493, 1494, 1495, 1496, 1497, 1498, 1499, 1500, 1501, 1502, 1503, 1504, 1505, 1506, 1507, 1564, 1565, 1566, 1567, 1568, 1569, 1570, 1571, 1572, 1573, 1580, 1581, 1582, 1583, 1584] rfl (by decide +kernel)
set_option maxRecDepth 20000 in
theorem gL_law_X9_image : GoodIn wsL_law (wsV RL 158 RX9 yX9_image wsX9_image) := goodIn_app (goodIn_of _ (by decide +kernel)) ggL_law_X9_image
set_option maxRecDepth 20000 in
theorem ggL_law_X10_image : GoodIn wsL_law wsX10_image := goodIn_r _ [1452, 168, 167, 169, 235, 236, 5, 237, 241, 242, 243, 244, 245, 166, 263, 264, 265, 266, 1508, 1509, 1510, 1511, 1512, 1513, 1514, 1515, 1516, 1517, 1518, 1519, 1520, 1521, 1522, 1523, 1524, 1525, 1526, 1527, 1528, 1529, 1530, 1531, 1532, 1533, 1534, 1535, 1536, 1537, 1538, 1539, 1540, 1541, 1542, 1543, 1544, 1545, 1546, 1547, 1548, 1549, 1550, 1551, 1552, 1553, 1554, 1555, 1556, 1557, 1558, 1559, 1560, 1561, 1562, 1563] rfl (by decide +kernel)
set_option maxRecDepth 20000 in
theorem gL_law_X10_image : GoodIn wsL_law (wsV RL 161 RX10 yX10_image wsX10_image) := goodIn_app (goodIn_of _ (by decide +kernel)) ggL_law_X10_image
set_option maxRecDepth 20000 in
theorem ggL_law_X9_back : GoodIn wsL_law wsX9_back := goodIn_r _ [1456, 18, 15, 16, 22, 1440, 1441, 2, 1442, 208, 209, 210, 211, 60, 59, 1443, 1444, 1445, 14, 1446, 65, 66, 67, 68, 71, 69, 70, 74, 73, 75, 1447, 808, 809, 25, 810, 81, 79, 80, 82, 83, 1448, 867, 868, 869, 870, 871, 872, 824, 309, 310, 311, 220, 221, 222, 21, 223, 89, 224, 225, 226, 227, 1489, 1490, 1491, 1492, 1493, 1494, 1495, 1496, 1497, 1498, 1499, 1500, 1501, 1502, 1503, 1504, 1505, 1506, 1507, 1564, 1565, 1566, 1567, 1568, 1569, 1570, 1571, 1572, 1573, 1580, 1581, 1582, 1583, 1584, 1574, 1575, 1576, 1577, 1578, 1579] rfl (by decide +kernel)
set_option maxRecDepth 20000 in
theorem gL_law_X9_back : GoodIn wsL_law (wsV RL 162 RX9 yX9_back wsX9_back) := goodIn_app (goodIn_of _ (by decide +kernel)) ggL_law_X9_back
set_option maxRecDepth 20000 in
theorem ggL_law_X10_back : GoodIn wsL_law wsX10_back := goodIn_r _ [1460, 169, 167, 168, 235, 236, 5, 237, 241, 242, 243, 244, 245, 166, 258, 259, 260, 261, 262, 263, 264, 265, 266, 1508, 1509, 1510, 1511, 1512, 1513, 1514, 1515, 1516, 1517, 1518, 1519, 1520, 1521, 1522, 1523, 1524, 1525, 1526, 1527, 1528, 1529, 1530, 1531, 1532, 1533, 1534, 1535, 1536, 1537, 1538, 1539, 1540, 1541, 1542, 1543, 1544, 1545, 1546, 1547, 1548, 1549, 1550, 1551, 1552, 1553, 1554, 1555, 1556, 1557, 1558, 1559, 1560, 1561, 1562, 1563] rfl (by decide +kernel)
set_option maxRecDepth 20000 in
theorem gL_law_X10_back : GoodIn wsL_law (wsV RL 165 RX10 yX10_back wsX10_back) := goodIn_app (goodIn_of _ (by decide +kernel)) ggL_law_X10_back
theorem dL_law_924 : decode cL_law 924 = .ok (.aload_n 1, 1) := by decide +kernel
theorem dL_law_925 : decode cL_law 925 = .ok (.aload_n 0, 1) := by decide +kernel
theorem dL_law_926 : decode cL_law 926 = .ok (.iload_n 3, 1) := by decide +kernel
theorem dL_law_927 : decode cL_law 927 = .ok (.iconst 1, 1) := by decide +kernel
theorem dL_law_928 : decode cL_law 928 = .ok (.iadd, 1) := by decide +kernel
theorem dL_law_929 : decode cL_law 929 = .ok (.iaload, 1) := by decide +kernel
theorem dL_law_930 : decode cL_law 930 = .ok (.aload_n 0, 1) := by decide +kernel
theorem dL_law_931 : decode cL_law 931 = .ok (.iload_n 3, 1) := by decide +kernel
theorem dL_law_932 : decode cL_law 932 = .ok (.iconst 2, 1) := by decide +kernel
theorem dL_law_933 : decode cL_law 933 = .ok (.iadd, 1) := by decide +kernel
theorem dL_law_934 : decode cL_law 934 = .ok (.iaload, 1) := by decide +kernel
theorem dL_law_935 : decode cL_law 935 = .ok (.invokevirtual 150, 3) := by decide +kernel
theorem dL_law_938 : decode cL_law 938 = .ok (.aload_n 2, 1) := by decide +kernel
theorem dL_law_939 : decode cL_law 939 = .ok (.aload_n 0, 1) := by decide +kernel
theorem dL_law_940 : decode cL_law 940 = .ok (.iload_n 3, 1) := by decide +kernel
theorem dL_law_941 : decode cL_law 941 = .ok (.iconst 1, 1) := by decide +kernel
theorem dL_law_942 : decode cL_law 942 = .ok (.iadd, 1) := by decide +kernel
theorem dL_law_943 : decode cL_law 943 = .ok (.iaload, 1) := by decide +kernel
theorem dL_law_944 : decode cL_law 944 = .ok (.aload_n 0, 1) := by decide +kernel
theorem dL_law_945 : decode cL_law 945 = .ok (.iload_n 3, 1) := by decide +kernel
theorem dL_law_946 : decode cL_law 946 = .ok (.iconst 2, 1) := by decide +kernel
theorem dL_law_947 : decode cL_law 947 = .ok (.iadd, 1) := by decide +kernel
theorem dL_law_948 : decode cL_law 948 = .ok (.iaload, 1) := by decide +kernel
theorem dL_law_949 : decode cL_law 949 = .ok (.invokevirtual 153, 3) := by decide +kernel
theorem dL_law_952 : decode cL_law 952 = .ok (.if_icmp .eq 120, 3) := by decide +kernel
theorem dL_law_957 : decode cL_law 957 = .ok (.aload_n 1, 1) := by decide +kernel
theorem dL_law_958 : decode cL_law 958 = .ok (.aload_n 0, 1) := by decide +kernel
theorem dL_law_959 : decode cL_law 959 = .ok (.iload_n 3, 1) := by decide +kernel
theorem dL_law_960 : decode cL_law 960 = .ok (.iconst 1, 1) := by decide +kernel
theorem dL_law_961 : decode cL_law 961 = .ok (.iadd, 1) := by decide +kernel
theorem dL_law_962 : decode cL_law 962 = .ok (.iaload, 1) := by decide +kernel
theorem dL_law_963 : decode cL_law 963 = .ok (.aload_n 0, 1) := by decide +kernel
theorem dL_law_964 : decode cL_law 964 = .ok (.iload_n 3, 1) := by decide +kernel
theorem dL_law_965 : decode cL_law 965 = .ok (.iconst 2, 1) := by decide +kernel
theorem dL_law_966 : decode cL_law 966 = .ok (.iadd, 1) := by decide +kernel
theorem dL_law_967 : decode cL_law 967 = .ok (.iaload, 1) := by decide +kernel
theorem dL_law_968 : decode cL_law 968 = .ok (.invokevirtual 154, 3) := by decide +kernel
theorem dL_law_971 : decode cL_law 971 = .ok (.aload_n 2, 1) := by decide +kernel
theorem dL_law_972 : decode cL_law 972 = .ok (.aload_n 0, 1) := by decide +kernel
theorem dL_law_973 : decode cL_law 973 = .ok (.iload_n 3, 1) := by decide +kernel
theorem dL_law_974 : decode cL_law 974 = .ok (.iconst 1, 1) := by decide +kernel
theorem dL_law_975 : decode cL_law 975 = .ok (.iadd, 1) := by decide +kernel
theorem dL_law_976 : decode cL_law 976 = .ok (.iaload, 1) := by decide +kernel
theorem dL_law_977 : decode cL_law 977 = .ok (.aload_n 0, 1) := by decide +kernel
theorem dL_law_978 : decode cL_law 978 = .ok (.iload_n 3, 1) := by decide +kernel
theorem dL_law_979 : decode cL_law 979 = .ok (.iconst 2, 1) := by decide +kernel
theorem dL_law_980 : decode cL_law 980 = .ok (.iadd, 1) := by decide +kernel
theorem dL_law_981 : decode cL_law 981 = .ok (.iaload, 1) := by decide +kernel
theorem dL_law_982 : decode cL_law 982 = .ok (.invokevirtual 157, 3) := by decide +kernel
theorem dL_law_985 : decode cL_law 985 = .ok (.if_icmp .eq 87, 3) := by decide +kernel
theorem dL_law_990 : decode cL_law 990 = .ok (.aload_n 1, 1) := by decide +kernel
theorem dL_law_991 : decode cL_law 991 = .ok (.aload_n 0, 1) := by decide +kernel
theorem dL_law_992 : decode cL_law 992 = .ok (.iload_n 3, 1) := by decide +kernel
theorem dL_law_993 : decode cL_law 993 = .ok (.iconst 1, 1) := by decide +kernel
theorem dL_law_994 : decode cL_law 994 = .ok (.iadd, 1) := by decide +kernel
theorem dL_law_995 : decode cL_law 995 = .ok (.iaload, 1) := by decide +kernel
theorem dL_law_996 : decode cL_law 996 = .ok (.invokevirtual 158, 3) := by decide +kernel
theorem dL_law_999 : decode cL_law 999 = .ok (.aload_n 2, 1) := by decide +kernel
theorem dL_law_1000 : decode cL_law 1000 = .ok (.aload_n 0, 1) := by decide +kernel
theorem dL_law_1001 : decode cL_law 1001 = .ok (.iload_n 3, 1) := by decide +kernel
theorem dL_law_1002 : decode cL_law 1002 = .ok (.iconst 1, 1) := by decide +kernel
theorem dL_law_1003 : decode cL_law 1003 = .ok (.iadd, 1) := by decide +kernel
theorem dL_law_1004 : decode cL_law 1004 = .ok (.iaload, 1) := by decide +kernel
theorem dL_law_1005 : decode cL_law 1005 = .ok (.invokevirtual 161, 3) := by decide +kernel
theorem dL_law_1008 : decode cL_law 1008 = .ok (.if_icmp .eq 64, 3) := by decide +kernel
theorem dL_law_1013 : decode cL_law 1013 = .ok (.aload_n 1, 1) := by decide +kernel
theorem dL_law_1014 : decode cL_law 1014 = .ok (.aload_n 0, 1) := by decide +kernel
theorem dL_law_1015 : decode cL_law 1015 = .ok (.iload_n 3, 1) := by decide +kernel
theorem dL_law_1016 : decode cL_law 1016 = .ok (.iconst 1, 1) := by decide +kernel
theorem dL_law_1017 : decode cL_law 1017 = .ok (.iadd, 1) := by decide +kernel
theorem dL_law_1018 : decode cL_law 1018 = .ok (.iaload, 1) := by decide +kernel
theorem dL_law_1019 : decode cL_law 1019 = .ok (.invokevirtual 162, 3) := by decide +kernel
theorem dL_law_1022 : decode cL_law 1022 = .ok (.aload_n 2, 1) := by decide +kernel
theorem dL_law_1023 : decode cL_law 1023 = .ok (.aload_n 0, 1) := by decide +kernel
theorem dL_law_1024 : decode cL_law 1024 = .ok (.iload_n 3, 1) := by decide +kernel
theorem dL_law_1025 : decode cL_law 1025 = .ok (.iconst 1, 1) := by decide +kernel
theorem dL_law_1026 : decode cL_law 1026 = .ok (.iadd, 1) := by decide +kernel
theorem dL_law_1027 : decode cL_law 1027 = .ok (.iaload, 1) := by decide +kernel
theorem dL_law_1028 : decode cL_law 1028 = .ok (.invokevirtual 165, 3) := by decide +kernel
theorem dL_law_1031 : decode cL_law 1031 = .ok (.if_icmp .eq 41, 3) := by decide +kernel
