set_option maxRecDepth 20000 in
theorem ggL_law_X9_stopped : GoodIn wsL_law wsX9_stopped := goodIn_r _ [965, 56, 1489, 1490, 1491, 1492, 1493, 1494, 1495, 1496, 1497, 1498, 1499, 1500, 1501, 1502, 1503, 1504, 1505, 1506, 1507] rfl (by decide +kernel)
set_option maxRecDepth 20000 in
theorem gL_law_X9_stopped : GoodIn wsL_law (wsV RL 61 RX9 yX9_stopped wsX9_stopped) := goodIn_app (goodIn_of _ (by decide +kernel)) ggL_law_X9_stopped
set_option maxRecDepth 20000 in
theorem ggL_law_X10_stopped : GoodIn wsL_law wsX10_stopped := goodIn_r _ [969, 195, 1508, 1509, 1510, 1511, 1512, 1513, 1514, 1515, 1516, 1517, 1518, 1519, 1520, 1521, 1522, 1523, 1524, 1525, 1526, 1527, 1528, 1529, 1530, 1531, 1532, 1533, 1534, 1535, 1536, 1537, 1538, 1539, 1540, 1541, 1542, 1543, 1544, 1545, 1546, 1547, 1548, 1549, 1550, 1551, 1552, 1553, 1554, 1555, 1556, 1557, 1558, 1559, 1560, 1561, 1562, 1563] rfl (by decide +kernel)
set_option maxRecDepth 20000 in
theorem gL_law_X10_stopped : GoodIn wsL_law (wsV RL 64 RX10 yX10_stopped wsX10_stopped) := goodIn_app (goodIn_of _ (by decide +kernel)) ggL_law_X10_stopped
set_option maxRecDepth 20000 in
theorem ggL_law_X9_force : GoodIn wsL_law wsX9_force := goodIn_r _ [973, 15, 974, 284, 285, 14, 286, 74, 208, 209, 210, 2, 211, 60, 59, 224, 225, 226, 227, 1489, 1490, 1491, 1492, 1493, 1494, 1495, 1496, 1497, 1498, 1499, 1500, 1501, 1502, 1503, 1504, 1505, 1506, 1507, 1564, 1565, 1566, 1567, 1568, 1569, 1570, 1571, 1572, 1573] rfl (by decide +kernel)
set_option maxRecDepth 20000 in
theorem gL_law_X9_force : GoodIn wsL_law (wsV RL 65 RX9 yX9_force wsX9_force) := goodIn_app (goodIn_of _ (by decide +kernel)) ggL_law_X9_force
set_option maxRecDepth 20000 in
theorem ggL_law_X10_force : GoodIn wsL_law wsX10_force := goodIn_r _ [978, 167, 979, 980, 981, 5, 982, 235, 236, 237, 241, 242, 243, 244, 245, 166, 263, 264, 265, 266, 1508, 1509, 1510, 1511, 1512, 1513, 1514, 1515, 1516, 1517, 1518, 1519, 1520, 1521, 1522, 1523, 1524, 1525, 1526, 1527, 1528, 1529, 1530, 1531, 1532, 1533, 1534, 1535, 1536, 1537, 1538, 1539, 1540, 1541, 1542, 1543, 1544, 1545, 1546, 1547, 1548, 1549, 1550, 1551, 1552, 1553, 1554, 1555, 1556, 1557, 1558, 1559, 1560, 1561, 1562, 1563] rfl (by decide +kernel)
set_option maxRecDepth 20000 in
theorem gL_law_X10_force : GoodIn wsL_law (wsV RL 68 RX10 yX10_force wsX10_force) := goodIn_app (goodIn_of _ (by decide +kernel)) ggL_law_X10_force
set_option maxRecDepth 20000 in
theorem ggL_law_X9_turn : GoodIn wsL_law wsX9_turn := goodIn_r _ [986, 987, 988, 989, 2, 990, 15, 22, 991, 808, 809, 25, 810, 81, 79, 80, 82, 83, 275, 276, 277, 278, 34, 279, 280, 281, 14, 282, 73, 283, 284, 285, 286, 74, 287, 288, 289, 33, 290, 103, 102, 992, 833, 834, 835, 836, 837, 838, 839, 824, 309, 310, 311, 840, 444, 445, 446, 426, 427, 428, 429, 296, 297, 298, 299, 430, 322, 323, 324, 325, 272, 273, 274, 206, 207, 431, 432, 433, 434, 300, 301, 302, 303, 104, 304, 305, 306, 29, 307, 97, 96, 308, 312, 313, 314, 315, 316, 317, 841, 423, 424, 425, 435, 436, 437, 438, 439, 440, 441, 442, 842, 843, 844, 845, 846, 847, 848, 849, 850, 851, 852, 853, 854, 855, 856, 857, 858, 292, 293, 294, 295, 319, 320, 859, 860, 861, 862, 863, 864, 865, 208, 209, 210, 211, 60, 59, 993, 878, 879, 21, 880, 89, 87, 815, 697, 698, 699, 88, 224, 225, 226, 227, 1489, 1490, 1491, 1492, 1493, 1494, 1495, 1496, 1497, 1498, 1499, 1500, 1501, 1502, 1503, 1504, 1505, 1506, 1507, 1564, 1565, 1566, 1567, 1568, 1569, 1570, 1571, 1572, 1573, 1580, 1581, 1582, 1583, 1584, 1587, 1588, 1589, 1605, 1606, 1607, 1608, 1609, 1610, 1611, 1612, 1585, 1586, 1574, 1575, 1576, 1577, 1578, 1579] rfl (by decide +kernel)
set_option maxRecDepth 20000 in
theorem gL_law_X9_turn : GoodIn wsL_law (wsV RL 69 RX9 yX9_turn wsX9_turn) := goodIn_app (goodIn_of _ (by decide +kernel)) ggL_law_X9_turn
set_option maxRecDepth 20000 in
theorem ggL_law_X10_turn : GoodIn wsL_law wsX10_turn := goodIn_r _ [997, 935, 936, 937, 5, 938, 235, 236, 237, 939, 940, 941, 942, 167, 250, 251, 252, 253, 451, 452, 453, 454, 455, 456, 457, 458, 179, 342, 343, 344, 345, 346, 347, 348, 349, 350, 351, 352, 353, 354, 355, 356, 357, 358, 359, 360, 361, 362, 363, 364, 365, 366, 367, 368, 369, 370, 371, 372, 373, 374, 375, 376, 377, 378, 379, 380, 381, 382, 383, 384, 385, 386, 387, 388, 389, 330, 331, 332, 333, 390, 391, 392, 393, 394, 395, 396, 397, 398, 399, 400, 401, 402, 403, 404, 405, 406, 407, 408, 409, 410, 411, 412, 413, 414, 415, 416, 417, 915, 916, 917, 918, 262, 181, 943, 944, 945, 946, 459, 460, 461, 462, 923, 924, 925, 926, 947, 948, 949, 998, 999, 1000, 1001, 241, 242, 243, 244, 245, 166, 263, 264, 265, 266, 1508, 1509, 1510, 1511, 1512, 1513, 1514, 1515, 1516, 1517, 1518, 1519, 1520, 1521, 1522, 1523, 1524, 1525, 1526, 1527, 1528, 1529, 1530, 1531, 1532, 1533, 1534, 1535, 1536, 1537, 1538, 1539, 1540, 1541, 1542, 1543, 1544, 1545, 1546, 1547, 1548, 1549, 1550, 1551, 1552, 1553, 1554, 1555, 1556, 1557, 1558, 1559, 1560, 1561, 1562, 1563] rfl (by decide +kernel)
set_option maxRecDepth 20000 in
theorem gL_law_X10_turn : GoodIn wsL_law (wsV RL 72 RX10 yX10_turn wsX10_turn) := goodIn_app (goodIn_of _ (by decide +kernel)) ggL_law_X10_turn
set_option maxRecDepth 20000 in
theorem ggL_law_X9_right : GoodIn wsL_law wsX9_right := goodIn_r _ [1005, 987, 988, 989, 2, 990, 15, 22, 991, 808, 809, 25, 810, 81, 79, 80, 82, 83, 275, 276, 277, 278, 34, 279, 280, 281, 14, 282, 73, 283, 284, 285, 286, 74, 287, 288, 289, 33, 290, 103, 102, 992, 833, 834, 835, 836, 837, 838, 839, 824, 309, 310, 311, 840, 444, 445, 446, 426, 427, 428, 429, 296, 297, 298, 299, 430, 322, 323, 324, 325, 272, 273, 274, 206, 207, 431, 432, 433, 434, 300, 301, 302, 303, 104, 304, 305, 306, 29, 307, 97, 96, 308, 312, 313, 314, 315, 316, 317, 841, 423, 424, 425, 435, 436, 437, 438, 439, 440, 441, 442, 842, 843, 844, 845, 846, 847, 848, 849, 850, 851, 852, 853, 854, 855, 856, 857, 858, 292, 293, 294, 295, 319, 320, 859, 860, 861, 862, 863, 864, 865, 208, 209, 210, 211, 60, 59, 993, 878, 879, 21, 880, 89, 87, 815, 697, 698, 699, 88, 224, 225, 226, 227, 1489, 1490, 1491, 1492, 1493, 1494, 1495, 1496, 1497, 1498, 1499, 1500, 1501, 1502, 1503, 1504, 1505, 1506, 1507, 1564, 1565, 1566, 1567, 1568, 1569, 1570, 1571, 1572, 1573, 1580, 1581, 1582, 1583, 1584, 1587, 1588, 1589, 1605, 1606, 1607, 1608, 1609, 1610, 1611, 1612, 1585, 1586, 1574, 1575, 1576, 1577, 1578, 1579] rfl (by decide +kernel)
set_option maxRecDepth 20000 in
theorem gL_law_X9_right : GoodIn wsL_law (wsV RL 73 RX9 yX9_right wsX9_right) := goodIn_app (goodIn_of _ (by decide +kernel)) ggL_law_X9_right
set_option maxRecDepth 20000 in
theorem ggL_law_X10_right : GoodIn wsL_law wsX10_right := goodIn_r _ [1009, 911, 912, 913, 5, 914, 167, 235, 236, 237, 330, 331, 332, 333, 250, 251, 252, 253, 915, 916, 917, 918, 262, 181, 998, 999, 1000, 1001, 241, 242, 243, 244, 245, 166, 263, 264, 265, 266, 1508, 1509, 1510, 1511, 1512, 1513, 1514, 1515, 1516, 1517, 1518, 1519, 1520, 1521, 1522, 1523, 1524, 1525, 1526, 1527, 1528, 1529, 1530, 1531, 1532, 1533, 1534, 1535, 1536, 1537, 1538, 1539, 1540, 1541, 1542, 1543, 1544, 1545, 1546, 1547, 1548, 1549, 1550, 1551, 1552, 1553, 1554, 1555, 1556, 1557, 1558, 1559, 1560, 1561, 1562, 1563] rfl (by decide +kernel)
set_option maxRecDepth 20000 in
theorem gL_law_X10_right : GoodIn wsL_law (wsV RL 76 RX10 yX10_right wsX10_right) := goodIn_app (goodIn_of _ (by decide +kernel)) ggL_law_X10_right
set_option maxRecDepth 20000 in
theorem ggL_law_X9_swap : GoodIn wsL_law wsX9_swap := goodIn_r _ [1013, 987, 988, 989, 2, 990, 15, 22, 991, 808, 809, 25, 810, 81, 79, 80, 82, 83, 275, 276, 277, 278, 34, 279, 280, 281, 14, 282, 73, 283, 284, 285, 286, 74, 287, 288, 289, 33, 290, 103, 102, 992, 833, 834, 835, 836, 837, 838, 839, 824, 309, 310, 311, 840, 444, 445, 446, 426, 427, 428, 429, 296, 297, 298, 299, 430, 322, 323, 324, 325, 272, 273, 274, 206, 207, 431, 432, 433, 434, 300, 301, 302, 303, 104, 304, 305, 306, 29, 307, 97, 96, 308, 312, 313, 314, 315, 316, 317, 841, 423, 424, 425, 435, 436, 437, 438, 439, 440, 441, 442, 842, 843, 844, 845, 846, 847, 848, 849, 850, 851, 852, 853, 854, 855, 856, 857, 858, 292, 293, 294, 295, 319, 320, 859, 860, 861, 862, 863, 864, 865, 208, 209, 210, 211, 60, 59, 993, 878, 879, 21, 880, 89, 87, 815, 697, 698, 699, 88, 224, 225, 226, 227, 1489, 1490, 1491, 1492, 1493, 1494, 1495, 1496, 1497, 1498, 1499, 1500, 1501, 1502, 1503, 1504, 1505, 1506, 1507, 1564, 1565, 1566, 1567, 1568, 1569, 1570, 1571, 1572, 1573, 1580, 1581, 1582, 1583, 1584, 1587, 1588, 1589, 1605, 1606, 1607, 1608, 1609, 1610, 1611, 1612, 1585, 1586, 1574, 1575, 1576, 1577, 1578, 1579] rfl (by decide +kernel)
set_option maxRecDepth 20000 in
theorem gL_law_X9_swap : GoodIn wsL_law (wsV RL 77 RX9 yX9_swap wsX9_swap) := goodIn_app (goodIn_of _ (by decide +kernel)) ggL_law_X9_swap
set_option maxRecDepth 20000 in
theorem ggL_law_X10_swap : GoodIn wsL_law wsX10_swap := goodIn_r _ [1017, 919, 920, 921, 5, 922, 167, 235, 236, 237, 330, 331, 332, 333, 250, 251, 252, 253, 915, 916, 917, 918, 262, 181, 923, 924, 925, 926, 998, 999, 1000, 1001, 241, 242, 243, 244, 245, 166, 263, 264, 265, 266, 1508, 1509, 1510, 1511, 1512, 1513, 1514, 1515, 1516, 1517, 1518, 1519, 1520, 1521, 1522, 1523, 1524, 1525, 1526, 1527, 1528, 1529, 1530, 1531, 1532, 1533, 1534, 1535, 1536, 1537, 1538, 1539, 1540, 1541, 1542, 1543, 1544, 1545, 1546, 1547, 1548, 1549, 1550, 1551, 1552, 1553, 1554, 1555, 1556, 1557, 1558, 1559, 1560, 1561, 1562, 1563] rfl (by decide +kernel)
set_option maxRecDepth 20000 in
theorem gL_law_X10_swap : GoodIn wsL_law (wsV RL 80 RX10 yX10_swap wsX10_swap) := goodIn_app (goodIn_of _ (by decide +kernel)) ggL_law_X10_swap
set_option maxRecDepth 20000 in
theorem ggL_law_X9_pass : GoodIn wsL_law wsX9_pass := goodIn_r _ [1021, 987, 988, 989, 2, 990, 15, 22, 991, 808, 809, 25, 810, 81, 79, 80, 82, 83, 275, 276, 277, 278, 34, 279, 280, 281, 14, 282, 73, 283, 284, 285, 286, 74, 287, 288, 289, 33, 290, 103, 102, 992, 833, 834, 835, 836, 837, 838, 839, 824, 309, 310, 311, 840, 444, 445, 446, 426, 427, 428, 429, 296, 297, 298, 299, 430, 322, 323, 324, 325, 272, 273, 274, 206, 207, 431, 432, 433, 434, 300, 301, 302, 303, 104, 304, 305, 306, 29, 307, 97, 96, 308, 312, 313, 314, 315, 316, 317, 841, 423, 424, 425, 435, 436, 437, 438, 439, 440, 441, 442, 842, 843, 844, 845, 846, 847, 848, 849, 850, 851, 852, 853, 854, 855, 856, 857, 858, 292, 293, 294, 295, 319, 320, 859, 860, 861, 862, 863, 864, 865, 208, 209, 210, 211, 60, 59, 993, 878, 879, 21, 880, 89, 87, 815, 697, 698, 699, 88, 224, 225, 226, 227, 1489, 1490, 1491, 1492, 1493, 1494, 1495, 1496, 1497, 1498, 1499, 1500, 1501, 1502, 1503, 1504, 1505, 1506, 1507, 1564, 1565, 1566, 1567, 1568, 1569, 1570, 1571, 1572, 1573, 1580, 1581, 1582, 1583, 1584, 1587, 1588, 1589, 1605, 1606, 1607, 1608, 1609, 1610, 1611, 1612, 1585, 1586, 1574, 1575, 1576, 1577, 1578, 1579] rfl (by decide +kernel)
set_option maxRecDepth 20000 in
theorem gL_law_X9_pass : GoodIn wsL_law (wsV RL 81 RX9 yX9_pass wsX9_pass) := goodIn_app (goodIn_of _ (by decide +kernel)) ggL_law_X9_pass
set_option maxRecDepth 20000 in
theorem ggL_law_X10_pass : GoodIn wsL_law wsX10_pass := goodIn_r _ [1025, 927, 928, 929, 5, 930, 167, 915, 916, 917, 918, 262, 181, 931, 932, 933, 934, 180, 250, 251, 252, 253, 334, 335, 336, 337, 338, 339, 340, 341, 179, 342, 343, 344, 345, 346, 347, 348, 349, 350, 351, 352, 353, 354, 355, 356, 357, 358, 359, 360, 361, 362, 363, 364, 365, 366, 367, 368, 369, 370, 371, 372, 373, 374, 375, 376, 377, 378, 379, 380, 381, 382, 383, 384, 385, 386, 387, 388, 389, 330, 331, 332, 333, 235, 236, 237, 390, 391, 392, 393, 394, 395, 396, 397, 398, 399, 400, 401, 402, 403, 404, 405, 406, 407, 408, 409, 410, 411, 412, 413, 414, 415, 416, 417, 998, 999, 1000, 1001, 241, 242, 243, 244, 245, 166, 263, 264, 265, 266, 1508, 1509, 1510, 1511, 1512, 1513, 1514, 1515, 1516, 1517, 1518, 1519, 1520, 1521, 1522, 1523, 1524, 1525, 1526, 1527, 1528, 1529, 1530, 1531, 1532, 1533, 1534, 1535, 1536, 1537, 1538, 1539, 1540, 1541, 1542, 1543, 1544, 1545, 1546, 1547, 1548, 1549, 1550, 1551, 1552, 1553, 1554, 1555, 1556, 1557, 1558, 1559, 1560, 1561, 1562, 1563] rfl (by decide +kernel)
set_option maxRecDepth 20000 in
theorem gL_law_X10_pass : GoodIn wsL_law (wsV RL 84 RX10 yX10_pass wsX10_pass) := goodIn_app (goodIn_of _ (by decide +kernel)) ggL_law_X10_pass
set_option maxRecDepth 20000 in
theorem ggL_law_X9_undo : GoodIn wsL_law wsX9_undo := goodIn_r _ [1029, 22, 15, 208, 209, 210, 2, 211, 60, 59, 1030, 867, 868, 25, 869, 870, 83, 871, 82, 80, 79, 872, 824, 309, 310, 311, 81, 224, 225, 226, 227, 1489, 1490, 1491, 1492, 1493, 1494, 1495, 1496, 1497, 1498, 1499, 1500, 1501, 1502, 1503, 1504, 1505, 1506, 1507, 1574, 1575, 1576, 1577, 1578, 1579, 1564, 1565, 1566, 1567, 1568, 1569, 1570, 1571, 1572, 1573, 1580, 1581, 1582, 1583, 1584] rfl (by decide +kernel)
set_option maxRecDepth 20000 in
theorem gL_law_X9_undo : GoodIn wsL_law (wsV RL 85 RX9 yX9_undo wsX9_undo) := goodIn_app (goodIn_of _ (by decide +kernel)) ggL_law_X9_undo
set_option maxRecDepth 20000 in
theorem ggL_law_X10_undo : GoodIn wsL_law wsX10_undo := goodIn_r _ [1034, 262, 167, 181, 241, 242, 243, 5, 244, 245, 166, 263, 264, 265, 266, 1508, 1509, 1510, 1511, 1512, 1513, 1514, 1515, 1516, 1517, 1518, 1519, 1520, 1521, 1522, 1523, 1524, 1525, 1526, 1527, 1528, 1529, 1530, 1531, 1532, 1533, 1534, 1535, 1536, 1537, 1538, 1539, 1540, 1541, 1542, 1543, 1544, 1545, 1546, 1547, 1548, 1549, 1550, 1551, 1552, 1553, 1554, 1555, 1556, 1557, 1558, 1559, 1560, 1561, 1562, 1563] rfl (by decide +kernel)
set_option maxRecDepth 20000 in
theorem gL_law_X10_undo : GoodIn wsL_law (wsV RL 88 RX10 yX10_undo wsX10_undo) := goodIn_app (goodIn_of _ (by decide +kernel)) ggL_law_X10_undo
set_option maxRecDepth 20000 in
theorem ggL_law_X9_fewest : GoodIn wsL_law wsX9_fewest := goodIn_r _ [1038, 50, 275, 276, 277, 2, 278, 34, 15, 279, 280, 281, 14, 282, 73, 283, 284, 285, 286, 74, 287, 288, 289, 33, 290, 103, 102, 1039, 1040, 1041, 1042, 1043, 1044, 1045, 49, 1046, 155, 158, 1047, 156, 151, 142, 143, 1048, 309, 310, 311, 157, 1049, 1050, 1051, 1052, 51, 152, 153, 154, 148, 149, 150, 159, 1053, 1054, 1055, 1056, 1057, 1058, 1059, 1060, 319, 320, 1061, 1062, 1063, 1064, 1065, 1066, 1067, 1068, 213, 214, 25, 215, 81, 79, 1069, 1070, 1071, 1072, 1073, 1074, 1075, 1076, 144, 145, 1077, 1078, 1079, 1080, 1081, 297, 298, 299, 1082, 432, 433, 434, 1083, 301, 302, 303, 104, 304, 305, 306, 29, 307, 97, 96, 308, 312, 313, 314, 315, 316, 317, 1084, 436, 437, 438, 439, 440, 441, 442, 1085, 1086, 1087, 1088, 1089, 1090, 1091, 1092, 1093, 1094, 1095, 160, 146, 1096, 697, 698, 699, 1097, 1098, 1099, 1100, 1101, 1102, 1103, 1104, 1105, 1106, 1107, 1108, 1109, 1110, 1111, 1112, 1113, 1114, 1115, 1116, 1117, 1118, 1119, 1120, 1121, 1122, 1123, 1124, 1489, 1490, 1491, 1492, 1493, 1494, 1495, 1496, 1497, 1498, 1499, 1500, 1501, 1502, 1503, 1504, 1505, 1506, 1507, 1564, 1565, 1566, 1567, 1568, 1569, 1570, 1571, 1572, 1573, 1587, 1588, 1589, 1580, 1581, 1582, 1583, 1584, 1613, 1614, 1615, 1616, 1617, 1618, 1619, 1620, 1621, 1622, 1623, 1624, 1625, 1626, 1627, 1628, 1629, 1630, 1631, 1632, 1605, 1606, 1607, 1608, 1609, 1610, 1611, 1612, 1585, 1586] rfl (by decide +kernel)
set_option maxRecDepth 20000 in
theorem gL_law_X9_fewest : GoodIn wsL_law (wsV RL 89 RX9 yX9_fewest wsX9_fewest) := goodIn_app (goodIn_of _ (by decide +kernel)) ggL_law_X9_fewest
set_option maxRecDepth 20000 in
theorem ggL_law_X10_fewest : GoodIn wsL_law wsX10_fewest := goodIn_r _ [1128, 189, 724, 1129, 1130, 1131, 5, 1132, 1133, 190, 191, 1134, 1135, 1136, 1137, 1138, 187, 1139, 1140, 1141, 1142, 1143, 186, 183, 184, 185, 250, 251, 252, 253, 167, 1144, 1145, 1146, 1147, 1148, 1149, 1150, 1151, 1152, 1153, 1154, 1155, 1156, 1157, 1158, 1159, 1160, 1161, 1162, 1163, 1164, 1165, 394, 395, 396, 397, 455, 456, 457, 458, 179, 342, 343, 344, 345, 1166, 1167, 1168, 346, 347, 348, 349, 350, 351, 352, 353, 354, 355, 356, 357, 358, 359, 360, 361, 362, 363, 364, 365, 366, 367, 368, 369, 370, 371, 372, 373, 374, 375, 376, 377, 378, 379, 380, 381, 382, 383, 384, 385, 386, 387, 388, 389, 330, 331, 332, 333, 235, 236, 237, 390, 391, 392, 393, 398, 399, 400, 401, 402, 403, 404, 405, 406, 407, 408, 409, 410, 411, 412, 413, 414, 415, 416, 417, 459, 460, 461, 462, 1169, 1170, 1171, 1172, 1173, 1174, 1175, 1176, 1177, 1178, 1179, 1180, 1181, 1182, 1183, 1184, 947, 948, 949, 1185, 1186, 1187, 1188, 1508, 1509, 1510, 1511, 1512, 1513, 1514, 1515, 1516, 1517, 1518, 1519, 1520, 1521, 1522, 1523, 1524, 1525, 1526, 1527, 1528, 1529, 1530, 1531, 1532, 1533, 1534, 1535, 1536, 1537, 1538, 1539, 1540, 1541, 1542, 1543, 1544, 1545, 1546, 1547, 1548, 1549, 1550, 1551, 1552, 1553, 1554, 1555, 1556, 1557, 1558, 1559, 1560, 1561, 1562, 1563] rfl (by decide +kernel)
set_option maxRecDepth 20000 in
theorem gL_law_X10_fewest : GoodIn wsL_law (wsV RL 92 RX10 yX10_fewest wsX10_fewest) := goodIn_app (goodIn_of _ (by decide +kernel)) ggL_law_X10_fewest
set_option maxRecDepth 20000 in
theorem ggL_law_X9_many : GoodIn wsL_law wsX9_many := goodIn_r _ [1192, 50, 275, 276, 277, 2, 278, 34, 15, 279, 280, 281, 14, 282, 73, 283, 284, 285, 286, 74, 287, 288, 289, 33, 290, 103, 102, 1039, 1040, 1041, 1042, 1043, 1044, 1045, 49, 1046, 155, 158, 1047, 156, 151, 142, 143, 1048, 309, 310, 311, 157, 1049, 1050, 1051, 1052, 51, 152, 153, 154, 148, 149, 150, 159, 1053, 1054, 1055, 1056, 1057, 1058, 1059, 1060, 319, 320, 1061, 1062, 1063, 1064, 1065, 1066, 1067, 1068, 213, 214, 25, 215, 81, 79, 1069, 1070, 1071, 1072, 1073, 1074, 1075, 1076, 144, 145, 1077, 1078, 1079, 1080, 1081, 297, 298, 299, 1082, 432, 433, 434, 1083, 301, 302, 303, 104, 304, 305, 306, 29, 307, 97, 96, 308, 312, 313, 314, 315, 316, 317, 1084, 436, 437, 438, 439, 440, 441, 442, 1085, 1086, 1087, 1193, 1194, 1195, 1196, 1197, 1092, 1093, 1094, 1095, 160, 146, 1096, 697, 698, 699, 1097, 1098, 1099, 1100, 1101, 1102, 1103, 1104, 1105, 1106, 1107, 1108, 1109, 1110, 1111, 1112, 1121, 1122, 1123, 1124, 1489, 1490, 1491, 1492, 1493, 1494, 1495, 1496, 1497, 1498, 1499, 1500, 1501, 1502, 1503, 1504, 1505, 1506, 1507, 1564, 1565, 1566, 1567, 1568, 1569, 1570, 1571, 1572, 1573, 1587, 1588, 1589, 1580, 1581, 1582, 1583, 1584, 1613, 1614, 1615, 1616, 1617, 1618, 1619, 1620, 1621, 1622, 1623, 1624, 1625, 1626, 1627, 1628, 1629, 1630, 1631, 1632, 1605, 1606, 1607, 1608, 1609, 1610, 1611, 1612, 1585, 1586] rfl (by decide +kernel)
set_option maxRecDepth 20000 in
theorem gL_law_X9_many : GoodIn wsL_law (wsV RL 93 RX9 yX9_many wsX9_many) := goodIn_app (goodIn_of _ (by decide +kernel)) ggL_law_X9_many
set_option maxRecDepth 20000 in
theorem ggL_law_X10_many : GoodIn wsL_law wsX10_many := goodIn_r _ [1201, 190, 1129, 1130, 1131, 5, 1132, 1133, 189, 724, 191, 1134, 1135, 1136, 1137, 1138, 187, 1139, 1140, 1141, 1142, 1143, 186, 183, 184, 185, 250, 251, 252, 253, 167, 1144, 1145, 1146, 1147, 1148, 1149, 1150, 1151, 1152, 1153, 1154, 1155, 1156, 1157, 1158, 1159, 1160, 1161, 1162, 1163, 1164, 1165, 394, 395, 396, 397, 455, 456, 457, 458, 179, 342, 343, 344, 345, 1166, 1167, 1168, 346, 347, 348, 349, 350, 351, 352, 353, 354, 355, 356, 357, 358, 359, 360, 361, 362, 363, 364, 365, 366, 367, 368, 369, 370, 371, 372, 373, 374, 375, 376, 377, 378, 379, 380, 381, 382, 383, 384, 385, 386, 387, 388, 389, 330, 331, 332, 333, 235, 236, 237, 390, 391, 392, 393, 398, 399, 400, 401, 402, 403, 404, 405, 406, 407, 408, 409, 410, 411, 412, 413, 414, 415, 416, 417, 459, 460, 461, 462, 1169, 1170, 1171, 1172, 1173, 1174, 1175, 1176, 1177, 1178, 1179, 1180, 1181, 1182, 1183, 1184, 947, 948, 949, 1185, 1186, 1187, 1188, 1508, 1509, 1510, 1511, 1512, 1513, 1514, 1515, 1516, 1517, 1518, 1519, 1520, 1521, 1522, 1523, 1524, 1525, 1526, 1527, 1528, 1529, 1530, 1531, 1532, 1533, 1534, 1535, 1536, 1537, 1538, 1539, 1540, 1541, 1542, 1543, 1544, 1545, 1546, 1547, 1548, 1549, 1550, 1551, 1552, 1553, 1554, 1555, 1556, 1557, 1558, 1559, 1560, 1561, 1562, 1563] rfl (by decide +kernel)
set_option maxRecDepth 20000 in
theorem gL_law_X10_many : GoodIn wsL_law (wsV RL 96 RX10 yX10_many wsX10_many) := goodIn_app (goodIn_of _ (by decide +kernel)) ggL_law_X10_many
set_option maxRecDepth 20000 in
theorem ggL_law_X9_cheapest : GoodIn wsL_law wsX9_cheapest := goodIn_r _ [1205, 50, 34, 15, 275, 276, 277, 2, 278, 279, 280, 281, 14, 282, 73, 283, 284, 285, 286, 74, 287, 288, 289, 33, 290, 103, 102, 1039, 1040, 1041, 1042, 1043, 1044, 1045, 49, 1046, 155, 158, 1047, 156, 151, 142, 143, 1048, 309, 310, 311, 157, 1049, 1050, 1051, 1052, 51, 152, 153, 154, 148, 149, 150, 159, 1053, 1054, 1055, 1056, 1057, 1058, 1059, 1060, 319, 320, 1061, 1062, 1063, 1064, 1065, 1066, 1067, 1068, 213, 214, 25, 215, 81, 79, 1069, 1070, 1071, 1072, 1073, 1074, 1075, 1076, 144, 145, 1077, 1078, 1079, 1080, 1081, 297, 298, 299, 1082, 432, 433, 434, 1083, 301, 302, 303, 104, 304, 305, 306, 29, 307, 97, 96, 308, 312, 313, 314, 315, 316, 317, 1084, 436, 437, 438, 439, 440, 441, 442, 1085, 1086, 1087, 1206, 1207, 1208, 1209, 1210, 147, 1211, 1212, 1213, 1214, 1215, 1216, 1217, 1218, 1101, 1102, 1103, 1104, 1219, 1220, 1221, 1222, 1105, 1106, 1107, 1108, 1109, 1110, 1111, 1112, 1489, 1490, 1491, 1492, 1493, 1494, 1495, 1496, 1497, 1498, 1499, 1500, 1501, 1502, 1503, 1504, 1505, 1506, 1507, 1564, 1565, 1566, 1567, 1568, 1569, 1570, 1571, 1572, 1573, 1580, 1581, 1582, 1583, 1584, 1587, 1588, 1589, 1613, 1614, 1615, 1616, 1617, 1618, 1619, 1620, 1621, 1622, 1623, 1624, 1625, 1626, 1627, 1628, 1629, 1630, 1631, 1632, 1605, 1606, 1607, 1608, 1609, 1610, 1611, 1612, 1585, 1586] rfl (by decide +kernel)
set_option maxRecDepth 20000 in
theorem gL_law_X9_cheapest : GoodIn wsL_law (wsV RL 97 RX9 yX9_cheapest wsX9_cheapest) := goodIn_app (goodIn_of _ (by decide +kernel)) ggL_law_X9_cheapest
set_option maxRecDepth 20000 in
theorem ggL_law_X10_cheapest : GoodIn wsL_law wsX10_cheapest := goodIn_r _ [1226, 1133, 189, 724, 192, 191, 188, 1135, 1136, 1137, 5, 1138, 187, 1139, 1140, 1141, 1142, 1143, 186, 183, 184, 185, 250, 251, 252, 253, 167, 1144, 1145, 1146, 1147, 1148, 1149, 1150, 1151, 1152, 1153, 1154, 1155, 1156, 1157, 1158, 1159, 1160, 1161, 1162, 1163, 1164, 1165, 394, 395, 396, 397, 455, 456, 457, 458, 179, 342, 343, 344, 345, 1166, 1167, 1168, 346, 347, 348, 349, 350, 351, 352, 353, 354, 355, 356, 357, 358, 359, 360, 361, 362, 363, 364, 365, 366, 367, 368, 369, 370, 371, 372, 373, 374, 375, 376, 377, 378, 379, 380, 381, 382, 383, 384, 385, 386, 387, 388, 389, 330, 331, 332, 333, 235, 236, 237, 390, 391, 392, 393, 398, 399, 400, 401, 402, 403, 404, 405, 406, 407, 408, 409, 410, 411, 412, 413, 414, 415, 416, 417, 459, 460, 461, 462, 1169, 1170, 1171, 1172, 1173, 1174, 1175, 1176, 1177, 1178, 1179, 1180, 1181, 1182, 1183, 1184, 1185, 1186, 1187, 1188, 1508, 1509, 1510, 1511, 1512, 1513, 1514, 1515, 1516, 1517, 1518, 1519, 1520, 1521, 1522, 1523, 1524, 1525, 1526, 1527, 1528, 1529, 1530, 1531, 1532, 1533, 1534, 1535, 1536, 1537, 1538, 1539, 1540, 1541, 1542, 1543, 1544, 1545, 1546, 1547, 1548, 1549, 1550, 1551, 1552, 1553, 1554, 1555, 1556, 1557, 1558, 1559, 1560, 1561, 1562, 1563] rfl (by decide +kernel)
set_option maxRecDepth 20000 in
theorem gL_law_X10_cheapest : GoodIn wsL_law (wsV RL 100 RX10 yX10_cheapest wsX10_cheapest) := goodIn_app (goodIn_of _ (by decide +kernel)) ggL_law_X10_cheapest
set_option maxRecDepth 20000 in
theorem ggL_law_X9_worst : GoodIn wsL_law wsX9_worst := goodIn_r _ [1230, 50, 275, 276, 277, 2, 278, 34, 15, 279, 280, 281, 14, 282, 73, 283, 284, 285, 286, 74, 287, 288, 289, 33, 290, 103, 102, 1039, 1040, 1041, 1042, 1043, 1044, 1045, 49, 1046, 155, 158, 1047, 156, 151, 142, 143, 1048, 309, 310, 311, 157, 1049, 1050, 1051, 1052, 51, 152, 153, 154, 148, 149, 150, 159, 1053, 1054, 1055, 1056, 1057, 1058, 1059, 1060, 319, 320, 1061, 1062, 1063, 1064, 1065, 1066, 1067, 1068, 213, 214, 25, 215, 81, 79, 1069, 1070, 1071, 1072, 1073, 1074, 1075, 1076, 144, 145, 1077, 1078, 1079, 1080, 1081, 297, 298, 299, 1082, 432, 433, 434, 1083, 301, 302, 303, 104, 304, 305, 306, 29, 307, 97, 96, 308, 312, 313, 314, 315, 316, 317, 1084, 436, 437, 438, 439, 440, 441, 442, 1085, 1086, 1087, 1231, 1232, 1233, 1234, 1092, 1093, 1094, 1095, 160, 146, 1096, 697, 698, 699, 1097, 1098, 1099, 1100, 1101, 1102, 1103, 1104, 1105, 1106, 1107, 1108, 1109, 1110, 1111, 1112, 1489, 1490, 1491, 1492, 1493, 1494, 1495, 1496, 1497, 1498, 1499, 1500, 1501, 1502, 1503, 1504, 1505, 1506, 1507, 1564, 1565, 1566, 1567, 1568, 1569, 1570, 1571, 1572, 1573, 1587, 1588, 1589, 1580, 1581, 1582, 1583, 1584, 1613, 1614, 1615, 1616, 1617, 1618, 1619, 1620, 1621, 1622, 1623, 1624, 1625, 1626, 1627, 1628, 1629, 1630, 1631, 1632, 1605, 1606, 1607, 1608, 1609, 1610, 1611, 1612, 1585, 1586] rfl (by decide +kernel)
set_option maxRecDepth 20000 in
theorem gL_law_X9_worst : GoodIn wsL_law (wsV RL 101 RX9 yX9_worst wsX9_worst) := goodIn_app (goodIn_of _ (by decide +kernel)) ggL_law_X9_worst
set_option maxRecDepth 20000 in
theorem ggL_law_X10_worst : GoodIn wsL_law wsX10_worst := goodIn_r _ [1238, 1133, 189, 724, 235, 236, 5, 237, 1129, 1130, 1131, 1132, 190, 191, 1134, 1135, 1136, 1137, 1138, 187, 1139, 1140, 1141, 1142, 1143, 186, 183, 184, 185, 250, 251, 252, 253, 167, 1144, 1145, 1146, 1147, 1148, 1149, 1150, 1151, 1152, 1153, 1154, 1155, 1156, 1157, 1158, 1159, 1160, 1161, 1162, 1163, 1164, 1165, 394, 395, 396, 397, 455, 456, 457, 458, 179, 342, 343, 344, 345, 1166, 1167, 1168, 346, 347, 348, 349, 350, 351, 352, 353, 354, 355, 356, 357, 358, 359, 360, 361, 362, 363, 364, 365, 366, 367, 368, 369, 370, 371, 372, 373, 374, 375, 376, 377, 378, 379, 380, 381, 382, 383, 384, 385, 386, 387, 388, 389, 330, 331, 332, 333, 390, 391, 392, 393, 398, 399, 400, 401, 402, 403, 404, 405, 406, 407, 408, 409, 410, 411, 412, 413, 414, 415, 416, 417, 459, 460, 461, 462, 1169, 1170, 1171, 1172, 1173, 1174, 1175, 1176, 1177, 1178, 1179, 1180, 1181, 1182, 1183, 1184, 947, 948, 949, 1239, 1240, 1241, 1508, 1509, 1510, 1511, 1512, 1513, 1514, 1515, 1516, 1517, 1518, 1519, 1520, 1521, 1522, 1523, 1524, 1525, 1526, 1527, 1528, 1529, 1530, 1531, 1532, 1533, 1534, 1535, 1536, 1537, 1538, 1539, 1540, 1541, 1542, 1543, 1544, 1545, 1546, 1547, 1548, 1549, 1550, 1551, 1552, 1553, 1554, 1555, 1556, 1557, 1558, 1559, 1560, 1561, 1562, 1563] rfl (by decide +kernel)
set_option maxRecDepth 20000 in
theorem gL_law_X10_worst : GoodIn wsL_law (wsV RL 104 RX10 yX10_worst wsX10_worst) := goodIn_app (goodIn_of _ (by decide +kernel)) ggL_law_X10_worst
theorem dL_law_487 : decode cL_law 487 = .ok (.aload_n 1, 1) := by decide +kernel
theorem dL_law_488 : decode cL_law 488 = .ok (.invokevirtual 61, 3) := by decide +kernel
theorem dL_law_491 : decode cL_law 491 = .ok (.aload_n 2, 1) := by decide +kernel
theorem dL_law_492 : decode cL_law 492 = .ok (.invokevirtual 64, 3) := by decide +kernel
theorem dL_law_495 : decode cL_law 495 = .ok (.if_icmp .eq 577, 3) := by decide +kernel
theorem dL_law_500 : decode cL_law 500 = .ok (.aload_n 1, 1) := by decide +kernel
theorem dL_law_501 : decode cL_law 501 = .ok (.aload_n 0, 1) := by decide +kernel
theorem dL_law_502 : decode cL_law 502 = .ok (.iload_n 3, 1) := by decide +kernel
theorem dL_law_503 : decode cL_law 503 = .ok (.iconst 1, 1) := by decide +kernel
theorem dL_law_504 : decode cL_law 504 = .ok (.iadd, 1) := by decide +kernel
theorem dL_law_505 : decode cL_law 505 = .ok (.iaload, 1) := by decide +kernel
theorem dL_law_506 : decode cL_law 506 = .ok (.invokevirtual 65, 3) := by decide +kernel
theorem dL_law_509 : decode cL_law 509 = .ok (.aload_n 2, 1) := by decide +kernel
theorem dL_law_510 : decode cL_law 510 = .ok (.aload_n 0, 1) := by decide +kernel
theorem dL_law_511 : decode cL_law 511 = .ok (.iload_n 3, 1) := by decide +kernel
theorem dL_law_512 : decode cL_law 512 = .ok (.iconst 1, 1) := by decide +kernel
theorem dL_law_513 : decode cL_law 513 = .ok (.iadd, 1) := by decide +kernel
theorem dL_law_514 : decode cL_law 514 = .ok (.iaload, 1) := by decide +kernel
theorem dL_law_515 : decode cL_law 515 = .ok (.invokevirtual 68, 3) := by decide +kernel
theorem dL_law_518 : decode cL_law 518 = .ok (.if_icmp .eq 554, 3) := by decide +kernel
theorem dL_law_523 : decode cL_law 523 = .ok (.aload_n 1, 1) := by decide +kernel
theorem dL_law_524 : decode cL_law 524 = .ok (.aload_n 0, 1) := by decide +kernel
theorem dL_law_525 : decode cL_law 525 = .ok (.iload_n 3, 1) := by decide +kernel
theorem dL_law_526 : decode cL_law 526 = .ok (.iconst 1, 1) := by decide +kernel
theorem dL_law_527 : decode cL_law 527 = .ok (.iadd, 1) := by decide +kernel
theorem dL_law_528 : decode cL_law 528 = .ok (.iaload, 1) := by decide +kernel
theorem dL_law_529 : decode cL_law 529 = .ok (.invokevirtual 69, 3) := by decide +kernel
theorem dL_law_532 : decode cL_law 532 = .ok (.aload_n 2, 1) := by decide +kernel
theorem dL_law_533 : decode cL_law 533 = .ok (.aload_n 0, 1) := by decide +kernel
theorem dL_law_534 : decode cL_law 534 = .ok (.iload_n 3, 1) := by decide +kernel
theorem dL_law_535 : decode cL_law 535 = .ok (.iconst 1, 1) := by decide +kernel
theorem dL_law_536 : decode cL_law 536 = .ok (.iadd, 1) := by decide +kernel
theorem dL_law_537 : decode cL_law 537 = .ok (.iaload, 1) := by decide +kernel
theorem dL_law_538 : decode cL_law 538 = .ok (.invokevirtual 72, 3) := by decide +kernel
theorem dL_law_541 : decode cL_law 541 = .ok (.if_icmp .eq 531, 3) := by decide +kernel
theorem dL_law_546 : decode cL_law 546 = .ok (.aload_n 1, 1) := by decide +kernel
theorem dL_law_547 : decode cL_law 547 = .ok (.aload_n 0, 1) := by decide +kernel
theorem dL_law_548 : decode cL_law 548 = .ok (.iload_n 3, 1) := by decide +kernel
theorem dL_law_549 : decode cL_law 549 = .ok (.iconst 1, 1) := by decide +kernel
theorem dL_law_550 : decode cL_law 550 = .ok (.iadd, 1) := by decide +kernel
theorem dL_law_551 : decode cL_law 551 = .ok (.iaload, 1) := by decide +kernel
theorem dL_law_552 : decode cL_law 552 = .ok (.invokevirtual 73, 3) := by decide +kernel
theorem dL_law_555 : decode cL_law 555 = .ok (.aload_n 2, 1) := by decide +kernel
theorem dL_law_556 : decode cL_law 556 = .ok (.aload_n 0, 1) := by decide +kernel
theorem dL_law_557 : decode cL_law 557 = .ok (.iload_n 3, 1) := by decide +kernel
theorem dL_law_558 : decode cL_law 558 = .ok (.iconst 1, 1) := by decide +kernel
theorem dL_law_559 : decode cL_law 559 = .ok (.iadd, 1) := by decide +kernel
theorem dL_law_560 : decode cL_law 560 = .ok (.iaload, 1) := by decide +kernel
theorem dL_law_561 : decode cL_law 561 = .ok (.invokevirtual 76, 3) := by decide +kernel
theorem dL_law_564 : decode cL_law 564 = .ok (.if_icmp .eq 508, 3) := by decide +kernel
theorem dL_law_569 : decode cL_law 569 = .ok (.aload_n 1, 1) := by decide +kernel
theorem dL_law_570 : decode cL_law 570 = .ok (.aload_n 0, 1) := by decide +kernel
theorem dL_law_571 : decode cL_law 571 = .ok (.iload_n 3, 1) := by decide +kernel
theorem dL_law_572 : decode cL_law 572 = .ok (.iconst 1, 1) := by decide +kernel
theorem dL_law_573 : decode cL_law 573 = .ok (.iadd, 1) := by decide +kernel
theorem dL_law_574 : decode cL_law 574 = .ok (.iaload, 1) := by decide +kernel
theorem dL_law_575 : decode cL_law 575 = .ok (.invokevirtual 77, 3) := by decide +kernel
theorem dL_law_578 : decode cL_law 578 = .ok (.aload_n 2, 1) := by decide +kernel
theorem dL_law_579 : decode cL_law 579 = .ok (.aload_n 0, 1) := by decide +kernel
theorem dL_law_580 : decode cL_law 580 = .ok (.iload_n 3, 1) := by decide +kernel
theorem dL_law_581 : decode cL_law 581 = .ok (.iconst 1, 1) := by decide +kernel
theorem dL_law_582 : decode cL_law 582 = .ok (.iadd, 1) := by decide +kernel
theorem dL_law_583 : decode cL_law 583 = .ok (.iaload, 1) := by decide +kernel
theorem dL_law_584 : decode cL_law 584 = .ok (.invokevirtual 80, 3) := by decide +kernel
theorem dL_law_587 : decode cL_law 587 = .ok (.if_icmp .eq 485, 3) := by decide +kernel
theorem dL_law_592 : decode cL_law 592 = .ok (.aload_n 1, 1) := by decide +kernel
theorem dL_law_593 : decode cL_law 593 = .ok (.invokevirtual 81, 3) := by decide +kernel
theorem dL_law_596 : decode cL_law 596 = .ok (.aload_n 2, 1) := by decide +kernel
theorem dL_law_597 : decode cL_law 597 = .ok (.invokevirtual 84, 3) := by decide +kernel
theorem dL_law_600 : decode cL_law 600 = .ok (.if_icmp .eq 472, 3) := by decide +kernel
theorem dL_law_605 : decode cL_law 605 = .ok (.aload_n 1, 1) := by decide +kernel
theorem dL_law_606 : decode cL_law 606 = .ok (.invokevirtual 85, 3) := by decide +kernel
theorem dL_law_609 : decode cL_law 609 = .ok (.aload_n 2, 1) := by decide +kernel
theorem dL_law_610 : decode cL_law 610 = .ok (.invokevirtual 88, 3) := by decide +kernel
theorem dL_law_613 : decode cL_law 613 = .ok (.if_icmp .eq 459, 3) := by decide +kernel
theorem dL_law_618 : decode cL_law 618 = .ok (.aload_n 1, 1) := by decide +kernel
theorem dL_law_619 : decode cL_law 619 = .ok (.aload_n 0, 1) := by decide +kernel
theorem dL_law_620 : decode cL_law 620 = .ok (.iload_n 3, 1) := by decide +kernel
theorem dL_law_621 : decode cL_law 621 = .ok (.iconst 1, 1) := by decide +kernel
theorem dL_law_622 : decode cL_law 622 = .ok (.iadd, 1) := by decide +kernel
theorem dL_law_623 : decode cL_law 623 = .ok (.iaload, 1) := by decide +kernel
theorem dL_law_624 : decode cL_law 624 = .ok (.invokevirtual 89, 3) := by decide +kernel
theorem dL_law_627 : decode cL_law 627 = .ok (.aload_n 2, 1) := by decide +kernel
theorem dL_law_628 : decode cL_law 628 = .ok (.aload_n 0, 1) := by decide +kernel
theorem dL_law_629 : decode cL_law 629 = .ok (.iload_n 3, 1) := by decide +kernel
theorem dL_law_630 : decode cL_law 630 = .ok (.iconst 1, 1) := by decide +kernel
theorem dL_law_631 : decode cL_law 631 = .ok (.iadd, 1) := by decide +kernel
theorem dL_law_632 : decode cL_law 632 = .ok (.iaload, 1) := by decide +kernel
theorem dL_law_633 : decode cL_law 633 = .ok (.invokevirtual 92, 3) := by decide +kernel
theorem dL_law_636 : decode cL_law 636 = .ok (.if_icmp .eq 436, 3) := by decide +kernel
theorem dL_law_641 : decode cL_law 641 = .ok (.aload_n 1, 1) := by decide +kernel
theorem dL_law_642 : decode cL_law 642 = .ok (.invokevirtual 93, 3) := by decide +kernel
theorem dL_law_645 : decode cL_law 645 = .ok (.aload_n 2, 1) := by decide +kernel
theorem dL_law_646 : decode cL_law 646 = .ok (.invokevirtual 96, 3) := by decide +kernel
theorem dL_law_649 : decode cL_law 649 = .ok (.if_icmp .eq 423, 3) := by decide +kernel
theorem dL_law_654 : decode cL_law 654 = .ok (.aload_n 1, 1) := by decide +kernel
theorem dL_law_655 : decode cL_law 655 = .ok (.invokevirtual 97, 3) := by decide +kernel
theorem dL_law_658 : decode cL_law 658 = .ok (.aload_n 2, 1) := by decide +kernel
theorem dL_law_659 : decode cL_law 659 = .ok (.invokevirtual 100, 3) := by decide +kernel
theorem dL_law_662 : decode cL_law 662 = .ok (.if_icmp .eq 410, 3) := by decide +kernel
theorem dL_law_667 : decode cL_law 667 = .ok (.aload_n 1, 1) := by decide +kernel
theorem dL_law_668 : decode cL_law 668 = .ok (.aload_n 0, 1) := by decide +kernel
theorem dL_law_669 : decode cL_law 669 = .ok (.iload_n 3, 1) := by decide +kernel
theorem dL_law_670 : decode cL_law 670 = .ok (.iconst 1, 1) := by decide +kernel
theorem dL_law_671 : decode cL_law 671 = .ok (.iadd, 1) := by decide +kernel
theorem dL_law_672 : decode cL_law 672 = .ok (.iaload, 1) := by decide +kernel
theorem dL_law_673 : decode cL_law 673 = .ok (.invokevirtual 101, 3) := by decide +kernel
theorem dL_law_676 : decode cL_law 676 = .ok (.aload_n 2, 1) := by decide +kernel
theorem dL_law_677 : decode cL_law 677 = .ok (.aload_n 0, 1) := by decide +kernel
theorem dL_law_678 : decode cL_law 678 = .ok (.iload_n 3, 1) := by decide +kernel
theorem dL_law_679 : decode cL_law 679 = .ok (.iconst 1, 1) := by decide +kernel
theorem dL_law_680 : decode cL_law 680 = .ok (.iadd, 1) := by decide +kernel
theorem dL_law_681 : decode cL_law 681 = .ok (.iaload, 1) := by decide +kernel
theorem dL_law_682 : decode cL_law 682 = .ok (.invokevirtual 104, 3) := by decide +kernel
theorem dL_law_685 : decode cL_law 685 = .ok (.if_icmp .eq 387, 3) := by decide +kernel
