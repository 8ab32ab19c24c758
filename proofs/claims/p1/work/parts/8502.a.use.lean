set_option maxRecDepth 20000 in
theorem ggL_law_X9_reach : GoodIn wsL_law wsX9_reach := goodIn_r _ [1245, 50, 275, 276, 277, 2, 278, 34, 15, 279, 280, 281, 14, 282, 73, 283, 284, 285, 286, 74, 287, 288, 289, 33, 290, 103, 102, 1039, 1040, 1041, 1042, 1043, 1044, 1045, 49, 1046, 155, 158, 1047, 156, 151, 142, 143, 1048, 309, 310, 311, 157, 1049, 1050, 1051, 1052, 51, 152, 153, 154, 148, 149, 150, 159, 1053, 1054, 1055, 1056, 1057, 1058, 1059, 1060, 319, 320, 1061, 1062, 1063, 1064, 1065, 1066, 1067, 1068, 213, 214, 25, 215, 81, 79, 1069, 1070, 1071, 1072, 1073, 1074, 1075, 1076, 144, 145, 1077, 1078, 1079, 1080, 1081, 297, 298, 299, 1082, 432, 433, 434, 1083, 301, 302, 303, 104, 304, 305, 306, 29, 307, 97, 96, 308, 312, 313, 314, 315, 316, 317, 1084, 436, 437, 438, 439, 440, 441, 442, 1085, 1086, 1087, 1246, 1247, 1248, 1249, 161, 1250, 1251, 1252, 1253, 1254, 1255, 1256, 1257, 1105, 1106, 1107, 1108, 1109, 1110, 1111, 1112, 1489, 1490, 1491, 1492, 1493, 1494, 1495, 1496, 1497, 1498, 1499, 1500, 1501, 1502, 1503, 1504, 1505, 1506, 1507, 1564, 1565, 1566, 1567, 1568, 1569, 1570, 1571, 1572, 1573, 1587, 1588, 1589, 1580, 1581, 1582, 1583, 1584, 1613, 1614, 1615, 1616, 1617, 1618, 1619, 1620, 1621, 1622, 1623, 1624, 1625, 1626, 1627, 1628, 1629, 1630, 1631, 1632, 1605, 1606, 1607, 1608, 1609, 1610, 1611, 1612, 1585, 1586] rfl (by decide +kernel)
set_option maxRecDepth 20000 in
theorem gL_law_X9_reach : GoodIn wsL_law (wsV RL 105 RX9 yX9_reach wsX9_reach) := goodIn_app (goodIn_of _ (by decide +kernel)) ggL_law_X9_reach
set_option maxRecDepth 20000 in
theorem ggL_law_X10_reach : GoodIn wsL_law wsX10_reach := goodIn_r _ [1261, 1262, 1263, 1264, 5, 1265, 1133, 189, 724, 191, 1135, 1136, 1137, 1138, 187, 1139, 1140, 1141, 1142, 1143, 186, 183, 184, 185, 250, 251, 252, 253, 167, 1144, 1145, 1146, 1147, 1148, 1149, 1150, 1151, 1152, 1153, 1154, 1155, 1156, 1157, 1158, 1159, 1160, 1161, 1162, 1163, 1164, 1165, 394, 395, 396, 397, 455, 456, 457, 458, 179, 342, 343, 344, 345, 1166, 1167, 1168, 346, 347, 348, 349, 350, 351, 352, 353, 354, 355, 356, 357, 358, 359, 360, 361, 362, 363, 364, 365, 366, 367, 368, 369, 370, 371, 372, 373, 374, 375, 376, 377, 378, 379, 380, 381, 382, 383, 384, 385, 386, 387, 388, 389, 330, 331, 332, 333, 235, 236, 237, 390, 391, 392, 393, 398, 399, 400, 401, 402, 403, 404, 405, 406, 407, 408, 409, 410, 411, 412, 413, 414, 415, 416, 417, 459, 460, 461, 462, 1185, 1186, 1187, 1188, 1177, 1178, 1179, 1180, 1181, 1182, 1183, 1184, 1508, 1509, 1510, 1511, 1512, 1513, 1514, 1515, 1516, 1517, 1518, 1519, 1520, 1521, 1522, 1523, 1524, 1525, 1526, 1527, 1528, 1529, 1530, 1531, 1532, 1533, 1534, 1535, 1536, 1537, 1538, 1539, 1540, 1541, 1542, 1543, 1544, 1545, 1546, 1547, 1548, 1549, 1550, 1551, 1552, 1553, 1554, 1555, 1556, 1557, 1558, 1559, 1560, 1561, 1562, 1563] rfl (by decide +kernel)
set_option maxRecDepth 20000 in
theorem gL_law_X10_reach : GoodIn wsL_law (wsV RL 108 RX10 yX10_reach wsX10_reach) := goodIn_app (goodIn_of _ (by decide +kernel)) ggL_law_X10_reach
set_option maxRecDepth 20000 in
theorem ggL_law_X9_gaps : GoodIn wsL_law wsX9_gaps := goodIn_r _ [1269, 15, 1270, 821, 822, 25, 823, 81, 79, 824, 309, 310, 311, 825, 441, 442, 826, 827, 828, 829, 319, 2, 320, 1489, 1490, 1491, 1492, 1493, 1494, 1495, 1496, 1497, 1498, 1499, 1500, 1501, 1502, 1503, 1504, 1505, 1506, 1507, 1564, 1565, 1566, 1567, 1568, 1569, 1570, 1571, 1572, 1573, 1580, 1581, 1582, 1583, 1584] rfl (by decide +kernel)
set_option maxRecDepth 20000 in
theorem gL_law_X9_gaps : GoodIn wsL_law (wsV RL 109 RX9 yX9_gaps wsX9_gaps) := goodIn_app (goodIn_of _ (by decide +kernel)) ggL_law_X9_gaps
set_option maxRecDepth 20000 in
theorem ggL_law_X10_gaps : GoodIn wsL_law wsX10_gaps := goodIn_r _ [393, 167, 250, 251, 252, 5, 253, 394, 395, 396, 397, 1508, 1509, 1510, 1511, 1512, 1513, 1514, 1515, 1516, 1517, 1518, 1519, 1520, 1521, 1522, 1523, 1524, 1525, 1526, 1527, 1528, 1529, 1530, 1531, 1532, 1533, 1534, 1535, 1536, 1537, 1538, 1539, 1540, 1541, 1542, 1543, 1544, 1545, 1546, 1547, 1548, 1549, 1550, 1551, 1552, 1553, 1554, 1555, 1556, 1557, 1558, 1559, 1560, 1561, 1562, 1563] rfl (by decide +kernel)
set_option maxRecDepth 20000 in
theorem gL_law_X10_gaps : GoodIn wsL_law (wsV RL 112 RX10 yX10_gaps wsX10_gaps) := goodIn_app (goodIn_of _ (by decide +kernel)) ggL_law_X10_gaps
set_option maxRecDepth 20000 in
theorem ggL_law_X9_comes : GoodIn wsL_law wsX9_comes := goodIn_r _ [1275, 50, 275, 276, 277, 2, 278, 34, 15, 279, 280, 281, 14, 282, 73, 283, 284, 285, 286, 74, 287, 288, 289, 33, 290, 103, 102, 1039, 1040, 1041, 1042, 1043, 1044, 1045, 49, 1046, 155, 158, 1047, 156, 151, 142, 143, 1048, 309, 310, 311, 157, 1049, 1050, 1051, 1052, 51, 152, 153, 154, 148, 149, 150, 159, 1053, 1054, 1055, 1056, 1057, 1058, 1059, 1060, 319, 320, 1061, 1062, 1063, 1064, 1065, 1066, 1067, 1068, 213, 214, 25, 215, 81, 79, 1069, 1070, 1071, 1072, 1073, 1074, 1075, 1076, 144, 145, 1077, 1078, 1079, 1080, 1081, 297, 298, 299, 1082, 432, 433, 434, 1083, 301, 302, 303, 104, 304, 305, 306, 29, 307, 97, 96, 308, 312, 313, 314, 315, 316, 317, 1084, 436, 437, 438, 439, 440, 441, 442, 1085, 1086, 1087, 1276, 1277, 1278, 1279, 1250, 1251, 1252, 1253, 161, 1254, 1255, 1256, 1257, 1105, 1106, 1107, 1108, 1109, 1110, 1111, 1112, 1489, 1490, 1491, 1492, 1493, 1494, 1495, 1496, 1497, 1498, 1499, 1500, 1501, 1502, 1503, 1504, 1505, 1506, 1507, 1564, 1565, 1566, 1567, 1568, 1569, 1570, 1571, 1572, 1573, 1587, 1588, 1589, 1580, 1581, 1582, 1583, 1584, 1613, 1614, 1615, 1616, 1617, 1618, 1619, 1620, 1621, 1622, 1623, 1624, 1625, 1626, 1627, 1628, 1629, 1630, 1631, 1632, 1605, 1606, 1607, 1608, 1609, 1610, 1611, 1612, 1585, 1586] rfl (by decide +kernel)
set_option maxRecDepth 20000 in
theorem gL_law_X9_comes : GoodIn wsL_law (wsV RL 113 RX9 yX9_comes wsX9_comes) := goodIn_app (goodIn_of _ (by decide +kernel)) ggL_law_X9_comes
set_option maxRecDepth 20000 in
theorem ggL_law_X10_comes : GoodIn wsL_law wsX10_comes := goodIn_r _ [1283, 724, 1143, 189, 1284, 1285, 1286, 5, 1287, 186, 250, 251, 252, 253, 167, 246, 247, 248, 249, 1151, 1152, 1153, 394, 395, 396, 397, 1154, 1155, 1156, 1157, 1262, 1263, 1264, 1265, 1133, 191, 1135, 1136, 1137, 1138, 187, 1139, 1140, 1141, 1142, 183, 184, 185, 1144, 1145, 1146, 1147, 1148, 1149, 1150, 1158, 1159, 1160, 1161, 1162, 1163, 1164, 1165, 455, 456, 457, 458, 179, 342, 343, 344, 345, 1166, 1167, 1168, 346, 347, 348, 349, 350, 351, 352, 353, 354, 355, 356, 357, 358, 359, 360, 361, 362, 363, 364, 365, 366, 367, 368, 369, 370, 371, 372, 373, 374, 375, 376, 377, 378, 379, 380, 381, 382, 383, 384, 385, 386, 387, 388, 389, 330, 331, 332, 333, 235, 236, 237, 390, 391, 392, 393, 398, 399, 400, 401, 402, 403, 404, 405, 406, 407, 408, 409, 410, 411, 412, 413, 414, 415, 416, 417, 459, 460, 461, 462, 1185, 1186, 1187, 1188, 1177, 1178, 1179, 1180, 1181, 1182, 1183, 1184, 947, 948, 949, 1508, 1509, 1510, 1511, 1512, 1513, 1514, 1515, 1516, 1517, 1518, 1519, 1520, 1521, 1522, 1523, 1524, 1525, 1526, 1527, 1528, 1529, 1530, 1531, 1532, 1533, 1534, 1535, 1536, 1537, 1538, 1539, 1540, 1541, 1542, 1543, 1544, 1545, 1546, 1547, 1548, 1549, 1550, 1551, 1552, 1553, 1554, 1555, 1556, 1557, 1558, 1559, 1560, 1561, 1562, 1563] rfl (by decide +kernel)
set_option maxRecDepth 20000 in
theorem gL_law_X10_comes : GoodIn wsL_law (wsV RL 116 RX10 yX10_comes wsX10_comes) := goodIn_app (goodIn_of _ (by decide +kernel)) ggL_law_X10_comes
set_option maxRecDepth 20000 in
theorem ggL_law_X9_view : GoodIn wsL_law wsX9_view := goodIn_r _ [1291, 15, 50, 212, 213, 214, 25, 215, 81, 79, 275, 276, 277, 2, 278, 34, 279, 280, 281, 14, 282, 73, 283, 284, 285, 286, 74, 287, 288, 289, 33, 290, 103, 102, 1039, 1040, 1041, 1042, 1043, 1044, 1045, 49, 1046, 155, 158, 1047, 156, 151, 142, 143, 1048, 309, 310, 311, 157, 1049, 1050, 1051, 1052, 51, 152, 153, 154, 148, 149, 150, 159, 1053, 1054, 1055, 1056, 1057, 1058, 1059, 1060, 319, 320, 1061, 1062, 1063, 1064, 1065, 1066, 1067, 1068, 1069, 1070, 1071, 1072, 1073, 1074, 1075, 1076, 144, 145, 1077, 1078, 1079, 1080, 1081, 297, 298, 299, 1082, 432, 433, 434, 1083, 301, 302, 303, 104, 304, 305, 306, 29, 307, 97, 96, 308, 312, 313, 314, 315, 316, 317, 1084, 436, 437, 438, 439, 440, 441, 442, 1085, 1086, 1087, 1292, 1293, 1294, 1295, 1250, 1251, 1252, 1253, 161, 1254, 1255, 1256, 1257, 1105, 1106, 1107, 1108, 1109, 1110, 1111, 1112, 1489, 1490, 1491, 1492, 1493, 1494, 1495, 1496, 1497, 1498, 1499, 1500, 1501, 1502, 1503, 1504, 1505, 1506, 1507, 1564, 1565, 1566, 1567, 1568, 1569, 1570, 1571, 1572, 1573, 1580, 1581, 1582, 1583, 1584, 1587, 1588, 1589, 1613, 1614, 1615, 1616, 1617, 1618, 1619, 1620, 1621, 1622, 1623, 1624, 1625, 1626, 1627, 1628, 1629, 1630, 1631, 1632, 1605, 1606, 1607, 1608, 1609, 1610, 1611, 1612, 1585, 1586] rfl (by decide +kernel)
set_option maxRecDepth 20000 in
theorem gL_law_X9_view : GoodIn wsL_law (wsV RL 117 RX9 yX9_view wsX9_view) := goodIn_app (goodIn_of _ (by decide +kernel)) ggL_law_X9_view
set_option maxRecDepth 20000 in
theorem ggL_law_X10_view : GoodIn wsL_law wsX10_view := goodIn_r _ [1299, 724, 1133, 183, 189, 232, 233, 5, 234, 235, 236, 237, 246, 247, 248, 249, 167, 250, 251, 252, 253, 1262, 1263, 1264, 1265, 191, 1135, 1136, 1137, 1138, 187, 1139, 1140, 1141, 1142, 1143, 186, 184, 185, 1144, 1145, 1146, 1147, 1148, 1149, 1150, 1151, 1152, 1153, 1154, 1155, 1156, 1157, 1158, 1159, 1160, 1161, 1162, 1163, 1164, 1165, 394, 395, 396, 397, 455, 456, 457, 458, 179, 342, 343, 344, 345, 1166, 1167, 1168, 346, 347, 348, 349, 350, 351, 352, 353, 354, 355, 356, 357, 358, 359, 360, 361, 362, 363, 364, 365, 366, 367, 368, 369, 370, 371, 372, 373, 374, 375, 376, 377, 378, 379, 380, 381, 382, 383, 384, 385, 386, 387, 388, 389, 330, 331, 332, 333, 390, 391, 392, 393, 398, 399, 400, 401, 402, 403, 404, 405, 406, 407, 408, 409, 410, 411, 412, 413, 414, 415, 416, 417, 459, 460, 461, 462, 1185, 1186, 1187, 1188, 1177, 1178, 1179, 1180, 1181, 1182, 1183, 1184, 1169, 1170, 1171, 1172, 947, 948, 949, 1508, 1509, 1510, 1511, 1512, 1513, 1514, 1515, 1516, 1517, 1518, 1519, 1520, 1521, 1522, 1523, 1524, 1525, 1526, 1527, 1528, 1529, 1530, 1531, 1532, 1533, 1534, 1535, 1536, 1537, 1538, 1539, 1540, 1541, 1542, 1543, 1544, 1545, 1546, 1547, 1548, 1549, 1550, 1551, 1552, 1553, 1554, 1555, 1556, 1557, 1558, 1559, 1560, 1561, 1562, 1563] rfl (by decide +kernel)
set_option maxRecDepth 20000 in
theorem gL_law_X10_view : GoodIn wsL_law (wsV RL 120 RX10 yX10_view wsX10_view) := goodIn_app (goodIn_of _ (by decide +kernel)) ggL_law_X10_view
set_option maxRecDepth 20000 in
theorem ggL_law_X9_stays : GoodIn wsL_law wsX9_stays := goodIn_r _ [1303, 15, 205, 206, 2, 207, 1304, 860, 861, 862, 863, 864, 865, 1305, 1306, 1307, 25, 1308, 81, 79, 80, 1489, 1490, 1491, 1492, 1493, 1494, 1495, 1496, 1497, 1498, 1499, 1500, 1501, 1502, 1503, 1504, 1505, 1506, 1507, 1564, 1565, 1566, 1567, 1568, 1569, 1570, 1571, 1572, 1573, 1580, 1581, 1582, 1583, 1584] rfl (by decide +kernel)
set_option maxRecDepth 20000 in
theorem gL_law_X9_stays : GoodIn wsL_law (wsV RL 121 RX9 yX9_stays wsX9_stays) := goodIn_app (goodIn_of _ (by decide +kernel)) ggL_law_X9_stays
set_option maxRecDepth 20000 in
theorem ggL_law_X10_stays : GoodIn wsL_law wsX10_stays := goodIn_r _ [1312, 235, 236, 5, 237, 250, 251, 252, 253, 167, 1313, 1314, 1315, 1316, 1317, 1318, 1319, 1151, 1152, 1153, 1508, 1509, 1510, 1511, 1512, 1513, 1514, 1515, 1516, 1517, 1518, 1519, 1520, 1521, 1522, 1523, 1524, 1525, 1526, 1527, 1528, 1529, 1530, 1531, 1532, 1533, 1534, 1535, 1536, 1537, 1538, 1539, 1540, 1541, 1542, 1543, 1544, 1545, 1546, 1547, 1548, 1549, 1550, 1551, 1552, 1553, 1554, 1555, 1556, 1557, 1558, 1559, 1560, 1561, 1562, 1563] rfl (by decide +kernel)
set_option maxRecDepth 20000 in
theorem gL_law_X10_stays : GoodIn wsL_law (wsV RL 124 RX10 yX10_stays wsX10_stays) := goodIn_app (goodIn_of _ (by decide +kernel)) ggL_law_X10_stays
set_option maxRecDepth 20000 in
theorem ggL_law_X9_seen : GoodIn wsL_law wsX9_seen := goodIn_r _ [1323, 15, 202, 203, 2, 204, 208, 209, 210, 211, 60, 59, 224, 225, 226, 227, 1489, 1490, 1491, 1492, 1493, 1494, 1495, 1496, 1497, 1498, 1499, 1500, 1501, 1502, 1503, 1504, 1505, 1506, 1507, 1564, 1565, 1566, 1567, 1568, 1569, 1570, 1571, 1572, 1573] rfl (by decide +kernel)
set_option maxRecDepth 20000 in
theorem gL_law_X9_seen : GoodIn wsL_law (wsV RL 125 RX9 yX9_seen wsX9_seen) := goodIn_app (goodIn_of _ (by decide +kernel)) ggL_law_X9_seen
set_option maxRecDepth 20000 in
theorem ggL_law_X10_seen : GoodIn wsL_law wsX10_seen := goodIn_r _ [1327, 167, 232, 233, 5, 234, 235, 236, 237, 241, 242, 243, 244, 245, 166, 263, 264, 265, 266, 1508, 1509, 1510, 1511, 1512, 1513, 1514, 1515, 1516, 1517, 1518, 1519, 1520, 1521, 1522, 1523, 1524, 1525, 1526, 1527, 1528, 1529, 1530, 1531, 1532, 1533, 1534, 1535, 1536, 1537, 1538, 1539, 1540, 1541, 1542, 1543, 1544, 1545, 1546, 1547, 1548, 1549, 1550, 1551, 1552, 1553, 1554, 1555, 1556, 1557, 1558, 1559, 1560, 1561, 1562, 1563] rfl (by decide +kernel)
set_option maxRecDepth 20000 in
theorem gL_law_X10_seen : GoodIn wsL_law (wsV RL 128 RX10 yX10_seen wsX10_seen) := goodIn_app (goodIn_of _ (by decide +kernel)) ggL_law_X10_seen
set_option maxRecDepth 20000 in
theorem ggL_law_X9_forget : GoodIn wsL_law wsX9_forget := goodIn_r _ [1331, 15, 1489, 1490, 1491, 1492, 1493, 1494, 1495, 1496, 1497, 1498, 1499, 1500, 1501, 1502, 1503, 1504, 1505, 1506, 1507, 1564, 1565, 1566, 1567, 1568, 1569, 1570, 1571, 1572, 1573] rfl (by decide +kernel)
set_option maxRecDepth 20000 in
theorem gL_law_X9_forget : GoodIn wsL_law (wsV RL 129 RX9 yX9_forget wsX9_forget) := goodIn_app (goodIn_of _ (by decide +kernel)) ggL_law_X9_forget
set_option maxRecDepth 20000 in
theorem ggL_law_X10_forget : GoodIn wsL_law wsX10_forget := goodIn_r _ [1335, 167, 1508, 1509, 1510, 1511, 1512, 1513, 1514, 1515, 1516, 1517, 1518, 1519, 1520, 1521, 1522, 1523, 1524, 1525, 1526, 1527, 1528, 1529, 1530, 1531, 1532, 1533, 1534, 1535, 1536, 1537, 1538, 1539, 1540, 1541, 1542, 1543, 1544, 1545, 1546, 1547, 1548, 1549, 1550, 1551, 1552, 1553, 1554, 1555, 1556, 1557, 1558, 1559, 1560, 1561, 1562, 1563] rfl (by decide +kernel)
set_option maxRecDepth 20000 in
theorem gL_law_X10_forget : GoodIn wsL_law (wsV RL 132 RX10 yX10_forget wsX10_forget) := goodIn_app (goodIn_of _ (by decide +kernel)) ggL_law_X10_forget
set_option maxRecDepth 20000 in
theorem ggL_law_X9_was : GoodIn wsL_law wsX9_was := goodIn_r _ [1339, 15, 275, 276, 277, 2, 278, 34, 279, 280, 281, 14, 282, 73, 283, 284, 285, 286, 74, 287, 288, 289, 33, 290, 103, 102, 443, 444, 445, 446, 426, 427, 428, 429, 296, 297, 298, 299, 430, 322, 323, 25, 324, 79, 80, 325, 272, 273, 274, 81, 206, 207, 431, 432, 433, 434, 300, 301, 302, 303, 104, 304, 305, 306, 29, 307, 97, 96, 308, 309, 310, 311, 312, 313, 314, 315, 316, 317, 1340, 1341, 1342, 1343, 71, 65, 69, 70, 1344, 1345, 1346, 1347, 1489, 1490, 1491, 1492, 1493, 1494, 1495, 1496, 1497, 1498, 1499, 1500, 1501, 1502, 1503, 1504, 1505, 1506, 1507, 1564, 1565, 1566, 1567, 1568, 1569, 1570, 1571, 1572, 1573, 1580, 1581, 1582, 1583, 1584, 1587, 1588, 1589, 1605, 1606, 1607, 1608, 1609, 1610, 1611, 1612, 1585, 1586] rfl (by decide +kernel)
set_option maxRecDepth 20000 in
theorem gL_law_X9_was : GoodIn wsL_law (wsV RL 133 RX9 yX9_was wsX9_was) := goodIn_app (goodIn_of _ (by decide +kernel)) ggL_law_X9_was
set_option maxRecDepth 20000 in
theorem ggL_law_X10_was : GoodIn wsL_law wsX10_was := goodIn_r _ [1351, 250, 251, 252, 5, 253, 167, 1352, 1353, 1354, 1355, 939, 940, 941, 942, 451, 452, 453, 454, 455, 456, 457, 458, 179, 342, 343, 344, 345, 346, 347, 348, 349, 350, 351, 352, 353, 354, 355, 356, 357, 358, 359, 360, 361, 362, 363, 364, 365, 366, 367, 368, 369, 370, 371, 372, 373, 374, 375, 376, 377, 378, 379, 380, 381, 382, 383, 384, 385, 386, 387, 388, 389, 330, 331, 332, 333, 235, 236, 237, 390, 391, 392, 393, 394, 395, 396, 397, 398, 399, 400, 401, 402, 403, 404, 405, 406, 407, 408, 409, 410, 411, 412, 413, 414, 415, 416, 417, 1356, 1357, 1358, 1359, 1508, 1509, 1510, 1511, 1512, 1513, 1514, 1515, 1516, 1517, 1518, 1519, 1520, 1521, 1522, 1523, 1524, 1525, 1526, 1527, 1528, 1529, 1530, 1531, 1532, 1533, 1534, 1535, 1536, 1537, 1538, 1539, 1540, 1541, 1542, 1543, 1544, 1545, 1546, 1547, 1548, 1549, 1550, 1551, 1552, 1553, 1554, 1555, 1556, 1557, 1558, 1559, 1560, 1561, 1562, 1563] rfl (by decide +kernel)
set_option maxRecDepth 20000 in
theorem gL_law_X10_was : GoodIn wsL_law (wsV RL 136 RX10 yX10_was wsX10_was) := goodIn_app (goodIn_of _ (by decide +kernel)) ggL_law_X10_was
set_option maxRecDepth 20000 in
theorem ggL_law_X9_look : GoodIn wsL_law wsX9_look := goodIn_r _ [1363, 15, 1364, 1337, 1338, 2, 1339, 275, 276, 277, 278, 34, 279, 280, 281, 14, 282, 73, 283, 284, 285, 286, 74, 287, 288, 289, 33, 290, 103, 102, 443, 444, 445, 446, 426, 427, 428, 429, 296, 297, 298, 299, 430, 322, 323, 25, 324, 79, 80, 325, 272, 273, 274, 81, 206, 207, 431, 432, 433, 434, 300, 301, 302, 303, 104, 304, 305, 306, 29, 307, 97, 96, 308, 309, 310, 311, 312, 313, 314, 315, 316, 317, 1340, 1341, 1342, 1343, 71, 65, 69, 70, 1344, 1345, 1346, 1347, 205, 1365, 1366, 1367, 1368, 825, 441, 442, 1369, 319, 320, 1489, 1490, 1491, 1492, 1493, 1494, 1495, 1496, 1497, 1498, 1499, 1500, 1501, 1502, 1503, 1504, 1505, 1506, 1507, 1564, 1565, 1566, 1567, 1568, 1569, 1570, 1571, 1572, 1573, 1580, 1581, 1582, 1583, 1584, 1587, 1588, 1589, 1605, 1606, 1607, 1608, 1609, 1610, 1611, 1612, 1585, 1586] rfl (by decide +kernel)
set_option maxRecDepth 20000 in
theorem gL_law_X9_look : GoodIn wsL_law (wsV RL 137 RX9 yX9_look wsX9_look) := goodIn_app (goodIn_of _ (by decide +kernel)) ggL_law_X9_look
set_option maxRecDepth 20000 in
theorem ggL_law_X10_look : GoodIn wsL_law wsX10_look := goodIn_r _ [1373, 724, 235, 236, 5, 237, 1374, 1349, 1350, 1351, 250, 251, 252, 253, 167, 1352, 1353, 1354, 1355, 939, 940, 941, 942, 451, 452, 453, 454, 455, 456, 457, 458, 179, 342, 343, 344, 345, 346, 347, 348, 349, 350, 351, 352, 353, 354, 355, 356, 357, 358, 359, 360, 361, 362, 363, 364, 365, 366, 367, 368, 369, 370, 371, 372, 373, 374, 375, 376, 377, 378, 379, 380, 381, 382, 383, 384, 385, 386, 387, 388, 389, 330, 331, 332, 333, 390, 391, 392, 393, 394, 395, 396, 397, 398, 399, 400, 401, 402, 403, 404, 405, 406, 407, 408, 409, 410, 411, 412, 413, 414, 415, 416, 417, 1356, 1357, 1358, 1359, 1375, 1376, 1377, 1378, 193, 1151, 1152, 1153, 1239, 1240, 1241, 1508, 1509, 1510, 1511, 1512, 1513, 1514, 1515, 1516, 1517, 1518, 1519, 1520, 1521, 1522, 1523, 1524, 1525, 1526, 1527, 1528, 1529, 1530, 1531, 1532, 1533, 1534, 1535, 1536, 1537, 1538, 1539, 1540, 1541, 1542, 1543, 1544, 1545, 1546, 1547, 1548, 1549, 1550, 1551, 1552, 1553, 1554, 1555, 1556, 1557, 1558, 1559, 1560, 1561, 1562, 1563] rfl (by decide +kernel)
set_option maxRecDepth 20000 in
theorem gL_law_X10_look : GoodIn wsL_law (wsV RL 140 RX10 yX10_look wsX10_look) := goodIn_app (goodIn_of _ (by decide +kernel)) ggL_law_X10_look
set_option maxRecDepth 20000 in
theorem ggL_law_X9_few : GoodIn wsL_law wsX9_few := goodIn_r _ [1382, 1383, 58, 1384, 15, 1385, 1386, 1387, 1079, 1388, 1489, 1490, 1491, 1492, 1493, 1494, 1495, 1496, 1497, 1498, 1499, 1500, 1501, 1502, 1503, 1504, 1505, 1506, 1507, 1564, 1565, 1566, 1567, 1568, 1569, 1570, 1571, 1572, 1573] rfl (by decide +kernel)
set_option maxRecDepth 20000 in
theorem gL_law_X9_few : GoodIn wsL_law (wsV RL 141 RX9 yX9_few wsX9_few) := goodIn_app (goodIn_of _ (by decide +kernel)) ggL_law_X9_few
set_option maxRecDepth 20000 in
theorem ggL_law_X10_few : GoodIn wsL_law wsX10_few := goodIn_r _ [1392, 1393, 194, 1394, 167, 1395, 235, 236, 5, 237, 1508, 1509, 1510, 1511, 1512, 1513, 1514, 1515, 1516, 1517, 1518, 1519, 1520, 1521, 1522, 1523, 1524, 1525, 1526, 1527, 1528, 1529, 1530, 1531, 1532, 1533, 1534, 1535, 1536, 1537, 1538, 1539, 1540, 1541, 1542, 1543, 1544, 1545, 1546, 1547, 1548, 1549, 1550, 1551, 1552, 1553, 1554, 1555, 1556, 1557, 1558, 1559, 1560, 1561, 1562, 1563] rfl (by decide +kernel)
set_option maxRecDepth 20000 in
theorem gL_law_X10_few : GoodIn wsL_law (wsV RL 145 RX10 yX10_few wsX10_few) := goodIn_app (goodIn_of _ (by decide +kernel)) ggL_law_X10_few
set_option maxRecDepth 20000 in
theorem ggL_law_X9_compare : GoodIn wsL_law wsX9_compare := goodIn_r _ [1399, 15, 34, 50, 974, 284, 285, 14, 286, 74, 279, 280, 281, 282, 73, 283, 287, 288, 289, 33, 290, 103, 102, 1039, 1040, 1041, 2, 1042, 1043, 1044, 1045, 49, 1046, 155, 158, 1047, 156, 151, 142, 143, 1048, 309, 310, 311, 157, 1049, 1050, 1051, 1052, 51, 152, 153, 154, 148, 149, 150, 159, 1053, 1054, 1055, 1056, 1057, 1058, 1059, 1060, 319, 320, 1061, 1062, 1063, 1064, 1065, 1066, 1067, 1068, 213, 214, 25, 215, 81, 79, 1069, 1070, 1071, 1072, 1073, 1074, 1075, 1076, 144, 145, 1077, 1078, 1079, 1080, 1081, 297, 298, 299, 1082, 432, 433, 434, 1083, 301, 302, 303, 104, 304, 305, 306, 29, 307, 97, 96, 308, 312, 313, 314, 315, 316, 317, 1084, 436, 437, 438, 439, 440, 441, 442, 1085, 1086, 1087, 1088, 1089, 1090, 1091, 1092, 1093, 1094, 1095, 160, 146, 1096, 697, 698, 699, 1097, 1098, 1099, 1100, 1101, 1102, 1103, 1104, 1105, 1106, 1107, 1108, 1109, 1110, 1111, 1112, 1489, 1490, 1491, 1492, 1493, 1494, 1495, 1496, 1497, 1498, 1499, 1500, 1501, 1502, 1503, 1504, 1505, 1506, 1507, 1564, 1565, 1566, 1567, 1568, 1569, 1570, 1571, 1572, 1573, 1587, 1588, 1589, 1580, 1581, 1582, 1583, 1584, 1613, 1614, 1615, 1616, 1617, 1618, 1619, 1620, 1621, 1622, 1623, 1624, 1625, 1626, 1627, 1628, 1629, 1630, 1631, 1632, 1605, 1606, 1607, 1608, 1609, 1610, 1611, 1612, 1585, 1586] rfl (by decide +kernel)
set_option maxRecDepth 20000 in
theorem gL_law_X9_compare : GoodIn wsL_law (wsV RL 146 RX9 yX9_compare wsX9_compare) := goodIn_app (goodIn_of _ (by decide +kernel)) ggL_law_X9_compare
set_option maxRecDepth 20000 in
theorem ggL_law_X10_compare : GoodIn wsL_law wsX10_compare := goodIn_r _ [1403, 167, 979, 980, 981, 5, 982, 235, 236, 237, 1404, 1126, 1127, 1128, 189, 724, 1129, 1130, 1131, 1132, 1133, 190, 191, 1134, 1135, 1136, 1137, 1138, 187, 1139, 1140, 1141, 1142, 1143, 186, 183, 184, 185, 250, 251, 252, 253, 1144, 1145, 1146, 1147, 1148, 1149, 1150, 1151, 1152, 1153, 1154, 1155, 1156, 1157, 1158, 1159, 1160, 1161, 1162, 1163, 1164, 1165, 394, 395, 396, 397, 455, 456, 457, 458, 179, 342, 343, 344, 345, 1166, 1167, 1168, 346, 347, 348, 349, 350, 351, 352, 353, 354, 355, 356, 357, 358, 359, 360, 361, 362, 363, 364, 365, 366, 367, 368, 369, 370, 371, 372, 373, 374, 375, 376, 377, 378, 379, 380, 381, 382, 383, 384, 385, 386, 387, 388, 389, 330, 331, 332, 333, 390, 391, 392, 393, 398, 399, 400, 401, 402, 403, 404, 405, 406, 407, 408, 409, 410, 411, 412, 413, 414, 415, 416, 417, 459, 460, 461, 462, 1169, 1170, 1171, 1172, 1173, 1174, 1175, 1176, 1177, 1178, 1179, 1180, 1181, 1182, 1183, 1184, 947, 948, 949, 1185, 1186, 1187, 1188, 1508, 1509, 1510, 1511, 1512, 1513, 1514, 1515, 1516, 1517, 1518, 1519, 1520, 1521, 1522, 1523, 1524, 1525, 1526, 1527, 1528, 1529, 1530, 1531, 1532, 1533, 1534, 1535, 1536, 1537, 1538, 1539, 1540, 1541, 1542, 1543, 1544, 1545, 1546, 1547, 1548, 1549, 1550, 1551, 1552, 1553, 1554, 1555, 1556, 1557, 1558, 1559, 1560, 1561, 1562, 1563] rfl (by decide +kernel)
set_option maxRecDepth 20000 in
theorem gL_law_X10_compare : GoodIn wsL_law (wsV RL 149 RX10 yX10_compare wsX10_compare) := goodIn_app (goodIn_of _ (by decide +kernel)) ggL_law_X10_compare
theorem dL_law_690 : decode cL_law 690 = .ok (.aload_n 1, 1) := by decide +kernel
theorem dL_law_691 : decode cL_law 691 = .ok (.invokevirtual 105, 3) := by decide +kernel
theorem dL_law_694 : decode cL_law 694 = .ok (.aload_n 2, 1) := by decide +kernel
theorem dL_law_695 : decode cL_law 695 = .ok (.invokevirtual 108, 3) := by decide +kernel
theorem dL_law_698 : decode cL_law 698 = .ok (.if_icmp .eq 374, 3) := by decide +kernel
theorem dL_law_703 : decode cL_law 703 = .ok (.aload_n 1, 1) := by decide +kernel
theorem dL_law_704 : decode cL_law 704 = .ok (.invokevirtual 109, 3) := by decide +kernel
theorem dL_law_707 : decode cL_law 707 = .ok (.aload_n 2, 1) := by decide +kernel
theorem dL_law_708 : decode cL_law 708 = .ok (.invokevirtual 112, 3) := by decide +kernel
theorem dL_law_711 : decode cL_law 711 = .ok (.if_icmp .eq 361, 3) := by decide +kernel
theorem dL_law_716 : decode cL_law 716 = .ok (.aload_n 1, 1) := by decide +kernel
theorem dL_law_717 : decode cL_law 717 = .ok (.aload_n 0, 1) := by decide +kernel
theorem dL_law_718 : decode cL_law 718 = .ok (.iload_n 3, 1) := by decide +kernel
theorem dL_law_719 : decode cL_law 719 = .ok (.iconst 1, 1) := by decide +kernel
theorem dL_law_720 : decode cL_law 720 = .ok (.iadd, 1) := by decide +kernel
theorem dL_law_721 : decode cL_law 721 = .ok (.iaload, 1) := by decide +kernel
theorem dL_law_722 : decode cL_law 722 = .ok (.invokevirtual 113, 3) := by decide +kernel
theorem dL_law_725 : decode cL_law 725 = .ok (.aload_n 2, 1) := by decide +kernel
theorem dL_law_726 : decode cL_law 726 = .ok (.aload_n 0, 1) := by decide +kernel
theorem dL_law_727 : decode cL_law 727 = .ok (.iload_n 3, 1) := by decide +kernel
theorem dL_law_728 : decode cL_law 728 = .ok (.iconst 1, 1) := by decide +kernel
theorem dL_law_729 : decode cL_law 729 = .ok (.iadd, 1) := by decide +kernel
theorem dL_law_730 : decode cL_law 730 = .ok (.iaload, 1) := by decide +kernel
theorem dL_law_731 : decode cL_law 731 = .ok (.invokevirtual 116, 3) := by decide +kernel
theorem dL_law_734 : decode cL_law 734 = .ok (.if_icmp .eq 338, 3) := by decide +kernel
theorem dL_law_739 : decode cL_law 739 = .ok (.aload_n 1, 1) := by decide +kernel
theorem dL_law_740 : decode cL_law 740 = .ok (.aload_n 0, 1) := by decide +kernel
theorem dL_law_741 : decode cL_law 741 = .ok (.iload_n 3, 1) := by decide +kernel
theorem dL_law_742 : decode cL_law 742 = .ok (.iconst 1, 1) := by decide +kernel
theorem dL_law_743 : decode cL_law 743 = .ok (.iadd, 1) := by decide +kernel
theorem dL_law_744 : decode cL_law 744 = .ok (.iaload, 1) := by decide +kernel
theorem dL_law_745 : decode cL_law 745 = .ok (.invokevirtual 117, 3) := by decide +kernel
theorem dL_law_748 : decode cL_law 748 = .ok (.aload_n 2, 1) := by decide +kernel
theorem dL_law_749 : decode cL_law 749 = .ok (.aload_n 0, 1) := by decide +kernel
theorem dL_law_750 : decode cL_law 750 = .ok (.iload_n 3, 1) := by decide +kernel
theorem dL_law_751 : decode cL_law 751 = .ok (.iconst 1, 1) := by decide +kernel
theorem dL_law_752 : decode cL_law 752 = .ok (.iadd, 1) := by decide +kernel
theorem dL_law_753 : decode cL_law 753 = .ok (.iaload, 1) := by decide +kernel
theorem dL_law_754 : decode cL_law 754 = .ok (.invokevirtual 120, 3) := by decide +kernel
theorem dL_law_757 : decode cL_law 757 = .ok (.if_icmp .eq 315, 3) := by decide +kernel
theorem dL_law_762 : decode cL_law 762 = .ok (.aload_n 1, 1) := by decide +kernel
theorem dL_law_763 : decode cL_law 763 = .ok (.aload_n 0, 1) := by decide +kernel
theorem dL_law_764 : decode cL_law 764 = .ok (.iload_n 3, 1) := by decide +kernel
theorem dL_law_765 : decode cL_law 765 = .ok (.iconst 1, 1) := by decide +kernel
theorem dL_law_766 : decode cL_law 766 = .ok (.iadd, 1) := by decide +kernel
theorem dL_law_767 : decode cL_law 767 = .ok (.iaload, 1) := by decide +kernel
theorem dL_law_768 : decode cL_law 768 = .ok (.invokevirtual 121, 3) := by decide +kernel
theorem dL_law_771 : decode cL_law 771 = .ok (.aload_n 2, 1) := by decide +kernel
theorem dL_law_772 : decode cL_law 772 = .ok (.aload_n 0, 1) := by decide +kernel
theorem dL_law_773 : decode cL_law 773 = .ok (.iload_n 3, 1) := by decide +kernel
theorem dL_law_774 : decode cL_law 774 = .ok (.iconst 1, 1) := by decide +kernel
theorem dL_law_775 : decode cL_law 775 = .ok (.iadd, 1) := by decide +kernel
theorem dL_law_776 : decode cL_law 776 = .ok (.iaload, 1) := by decide +kernel
theorem dL_law_777 : decode cL_law 777 = .ok (.invokevirtual 124, 3) := by decide +kernel
theorem dL_law_780 : decode cL_law 780 = .ok (.if_icmp .eq 292, 3) := by decide +kernel
theorem dL_law_785 : decode cL_law 785 = .ok (.aload_n 1, 1) := by decide +kernel
theorem dL_law_786 : decode cL_law 786 = .ok (.aload_n 0, 1) := by decide +kernel
theorem dL_law_787 : decode cL_law 787 = .ok (.iload_n 3, 1) := by decide +kernel
theorem dL_law_788 : decode cL_law 788 = .ok (.iconst 1, 1) := by decide +kernel
theorem dL_law_789 : decode cL_law 789 = .ok (.iadd, 1) := by decide +kernel
theorem dL_law_790 : decode cL_law 790 = .ok (.iaload, 1) := by decide +kernel
theorem dL_law_791 : decode cL_law 791 = .ok (.aload_n 0, 1) := by decide +kernel
theorem dL_law_792 : decode cL_law 792 = .ok (.iload_n 3, 1) := by decide +kernel
theorem dL_law_793 : decode cL_law 793 = .ok (.iconst 2, 1) := by decide +kernel
theorem dL_law_794 : decode cL_law 794 = .ok (.iadd, 1) := by decide +kernel
theorem dL_law_795 : decode cL_law 795 = .ok (.iaload, 1) := by decide +kernel
theorem dL_law_796 : decode cL_law 796 = .ok (.invokevirtual 125, 3) := by decide +kernel
theorem dL_law_799 : decode cL_law 799 = .ok (.aload_n 2, 1) := by decide +kernel
theorem dL_law_800 : decode cL_law 800 = .ok (.aload_n 0, 1) := by decide +kernel
theorem dL_law_801 : decode cL_law 801 = .ok (.iload_n 3, 1) := by decide +kernel
theorem dL_law_802 : decode cL_law 802 = .ok (.iconst 1, 1) := by decide +kernel
theorem dL_law_803 : decode cL_law 803 = .ok (.iadd, 1) := by decide +kernel
theorem dL_law_804 : decode cL_law 804 = .ok (.iaload, 1) := by decide +kernel
theorem dL_law_805 : decode cL_law 805 = .ok (.aload_n 0, 1) := by decide +kernel
theorem dL_law_806 : decode cL_law 806 = .ok (.iload_n 3, 1) := by decide +kernel
theorem dL_law_807 : decode cL_law 807 = .ok (.iconst 2, 1) := by decide +kernel
theorem dL_law_808 : decode cL_law 808 = .ok (.iadd, 1) := by decide +kernel
theorem dL_law_809 : decode cL_law 809 = .ok (.iaload, 1) := by decide +kernel
theorem dL_law_810 : decode cL_law 810 = .ok (.invokevirtual 128, 3) := by decide +kernel
theorem dL_law_813 : decode cL_law 813 = .ok (.if_icmp .eq 259, 3) := by decide +kernel
theorem dL_law_818 : decode cL_law 818 = .ok (.aload_n 1, 1) := by decide +kernel
theorem dL_law_819 : decode cL_law 819 = .ok (.invokevirtual 129, 3) := by decide +kernel
theorem dL_law_822 : decode cL_law 822 = .ok (.aload_n 2, 1) := by decide +kernel
theorem dL_law_823 : decode cL_law 823 = .ok (.invokevirtual 132, 3) := by decide +kernel
theorem dL_law_826 : decode cL_law 826 = .ok (.if_icmp .eq 246, 3) := by decide +kernel
theorem dL_law_831 : decode cL_law 831 = .ok (.aload_n 1, 1) := by decide +kernel
theorem dL_law_832 : decode cL_law 832 = .ok (.invokevirtual 133, 3) := by decide +kernel
theorem dL_law_835 : decode cL_law 835 = .ok (.aload_n 2, 1) := by decide +kernel
theorem dL_law_836 : decode cL_law 836 = .ok (.invokevirtual 136, 3) := by decide +kernel
theorem dL_law_839 : decode cL_law 839 = .ok (.if_icmp .eq 233, 3) := by decide +kernel
theorem dL_law_844 : decode cL_law 844 = .ok (.aload_n 1, 1) := by decide +kernel
theorem dL_law_845 : decode cL_law 845 = .ok (.aload_n 0, 1) := by decide +kernel
theorem dL_law_846 : decode cL_law 846 = .ok (.iload_n 3, 1) := by decide +kernel
theorem dL_law_847 : decode cL_law 847 = .ok (.iconst 1, 1) := by decide +kernel
theorem dL_law_848 : decode cL_law 848 = .ok (.iadd, 1) := by decide +kernel
theorem dL_law_849 : decode cL_law 849 = .ok (.iaload, 1) := by decide +kernel
theorem dL_law_850 : decode cL_law 850 = .ok (.invokevirtual 137, 3) := by decide +kernel
theorem dL_law_853 : decode cL_law 853 = .ok (.aload_n 2, 1) := by decide +kernel
theorem dL_law_854 : decode cL_law 854 = .ok (.aload_n 0, 1) := by decide +kernel
theorem dL_law_855 : decode cL_law 855 = .ok (.iload_n 3, 1) := by decide +kernel
theorem dL_law_856 : decode cL_law 856 = .ok (.iconst 1, 1) := by decide +kernel
theorem dL_law_857 : decode cL_law 857 = .ok (.iadd, 1) := by decide +kernel
theorem dL_law_858 : decode cL_law 858 = .ok (.iaload, 1) := by decide +kernel
theorem dL_law_859 : decode cL_law 859 = .ok (.invokevirtual 140, 3) := by decide +kernel
theorem dL_law_862 : decode cL_law 862 = .ok (.if_icmp .eq 210, 3) := by decide +kernel
theorem dL_law_867 : decode cL_law 867 = .ok (.aload_n 1, 1) := by decide +kernel
theorem dL_law_868 : decode cL_law 868 = .ok (.aload_n 0, 1) := by decide +kernel
theorem dL_law_869 : decode cL_law 869 = .ok (.iload_n 3, 1) := by decide +kernel
theorem dL_law_870 : decode cL_law 870 = .ok (.iconst 1, 1) := by decide +kernel
theorem dL_law_871 : decode cL_law 871 = .ok (.iadd, 1) := by decide +kernel
theorem dL_law_872 : decode cL_law 872 = .ok (.iaload, 1) := by decide +kernel
theorem dL_law_873 : decode cL_law 873 = .ok (.aload_n 0, 1) := by decide +kernel
theorem dL_law_874 : decode cL_law 874 = .ok (.iload_n 3, 1) := by decide +kernel
theorem dL_law_875 : decode cL_law 875 = .ok (.iconst 2, 1) := by decide +kernel
theorem dL_law_876 : decode cL_law 876 = .ok (.iadd, 1) := by decide +kernel
theorem dL_law_877 : decode cL_law 877 = .ok (.iaload, 1) := by decide +kernel
theorem dL_law_878 : decode cL_law 878 = .ok (.invokevirtual 141, 3) := by decide +kernel
theorem dL_law_881 : decode cL_law 881 = .ok (.aload_n 2, 1) := by decide +kernel
theorem dL_law_882 : decode cL_law 882 = .ok (.aload_n 0, 1) := by decide +kernel
theorem dL_law_883 : decode cL_law 883 = .ok (.iload_n 3, 1) := by decide +kernel
theorem dL_law_884 : decode cL_law 884 = .ok (.iconst 1, 1) := by decide +kernel
theorem dL_law_885 : decode cL_law 885 = .ok (.iadd, 1) := by decide +kernel
theorem dL_law_886 : decode cL_law 886 = .ok (.iaload, 1) := by decide +kernel
theorem dL_law_887 : decode cL_law 887 = .ok (.aload_n 0, 1) := by decide +kernel
theorem dL_law_888 : decode cL_law 888 = .ok (.iload_n 3, 1) := by decide +kernel
theorem dL_law_889 : decode cL_law 889 = .ok (.iconst 2, 1) := by decide +kernel
theorem dL_law_890 : decode cL_law 890 = .ok (.iadd, 1) := by decide +kernel
theorem dL_law_891 : decode cL_law 891 = .ok (.iaload, 1) := by decide +kernel
theorem dL_law_892 : decode cL_law 892 = .ok (.invokevirtual 145, 3) := by decide +kernel
theorem dL_law_895 : decode cL_law 895 = .ok (.lcmp, 1) := by decide +kernel
theorem dL_law_896 : decode cL_law 896 = .ok (.ifCond .eq 176, 3) := by decide +kernel
theorem dL_law_901 : decode cL_law 901 = .ok (.aload_n 1, 1) := by decide +kernel
theorem dL_law_902 : decode cL_law 902 = .ok (.aload_n 0, 1) := by decide +kernel
theorem dL_law_903 : decode cL_law 903 = .ok (.iload_n 3, 1) := by decide +kernel
theorem dL_law_904 : decode cL_law 904 = .ok (.iconst 1, 1) := by decide +kernel
theorem dL_law_905 : decode cL_law 905 = .ok (.iadd, 1) := by decide +kernel
theorem dL_law_906 : decode cL_law 906 = .ok (.iaload, 1) := by decide +kernel
theorem dL_law_907 : decode cL_law 907 = .ok (.invokevirtual 146, 3) := by decide +kernel
theorem dL_law_910 : decode cL_law 910 = .ok (.aload_n 2, 1) := by decide +kernel
theorem dL_law_911 : decode cL_law 911 = .ok (.aload_n 0, 1) := by decide +kernel
theorem dL_law_912 : decode cL_law 912 = .ok (.iload_n 3, 1) := by decide +kernel
theorem dL_law_913 : decode cL_law 913 = .ok (.iconst 1, 1) := by decide +kernel
theorem dL_law_914 : decode cL_law 914 = .ok (.iadd, 1) := by decide +kernel
theorem dL_law_915 : decode cL_law 915 = .ok (.iaload, 1) := by decide +kernel
theorem dL_law_916 : decode cL_law 916 = .ok (.invokevirtual 149, 3) := by decide +kernel
theorem dL_law_919 : decode cL_law 919 = .ok (.if_icmp .eq 153, 3) := by decide +kernel
