set_option maxRecDepth 20000 in
theorem ggL_law_L_penalties : GoodIn wsL_law wsL_penalties := goodIn_ca (goodIn_ca (goodIn_ca (goodIn_r _ [1016, 227, 1017, 1018, 1019, 2, 1020, 19, 378, 670, 299, 300, 301, 302, 237, 238, 284, 420, 421, 422, 423, 182, 183, 297, 1560, 1561, 1562, 1563, 1564, 1565, 1566, 1567, 1568, 1569, 1570, 1571, 1572, 1573, 1611, 1612, 1613, 1614, 1621, 1622, 1623, 1624, 1625, 1626, 1627, 1628, 1629, 1630, 1631, 1632, 1633, 1634, 1635, 1636] (by decide +kernel) (by decide +kernel)) (goodIn_sub (fun _ h => List.mem_append_left _ (List.mem_append_left _ (List.mem_append_left _ (List.mem_append_left _ (List.mem_append_left _ (List.mem_append_left _ (List.mem_append_left _ (List.mem_append_right _ h)))))))) (by decide +kernel))) (goodIn_sub (fun _ h => List.mem_append_left _ (List.mem_append_left _ (List.mem_append_left _ (List.mem_append_right _ h)))) (by decide +kernel))) (goodIn_sub (fun _ h => List.mem_append_left _ (List.mem_append_left _ (List.mem_append_left _ (List.mem_append_left _ (List.mem_append_left _ (List.mem_append_right _ h)))))) (by decide +kernel))
set_option maxRecDepth 20000 in
theorem gL_law_L_penalties : GoodIn wsL_law (va_wsS RL 319 yL_penalties wsL_penalties) := goodIn_app (goodIn_of _ (by decide +kernel)) ggL_law_L_penalties
set_option maxRecDepth 20000 in
theorem ggL_law_X7_penalties : GoodIn wsL_law wsX7_penalties := goodIn_ca (goodIn_r _ [1024, 84, 988, 989, 990, 5, 991, 307, 308, 309, 310, 311, 289, 209, 210, 211, 215, 216, 217, 218, 219, 1574, 1575, 1576, 1577, 1578, 1579, 1580, 1581, 1582, 1583, 1584, 1585, 1586, 1587, 1588, 1589, 1590, 1591, 1592, 1593, 1594, 1595, 1596, 1597, 1598, 1599, 1600, 1601, 1602, 1603, 1604] (by decide +kernel) (by decide +kernel)) (goodIn_sub (fun _ h => List.mem_append_left _ (List.mem_append_left _ (List.mem_append_left _ (List.mem_append_left _ (List.mem_append_left _ (List.mem_append_left _ (List.mem_append_left _ (List.mem_append_right _ h)))))))) (by decide +kernel))
set_option maxRecDepth 20000 in
theorem gL_law_X7_penalties : GoodIn wsL_law (wsV RL 321 RX7 yX7_penalties wsX7_penalties) := goodIn_app (goodIn_of _ (by decide +kernel)) ggL_law_X7_penalties
set_option maxRecDepth 20000 in
theorem ggL_law_L_isOut : GoodIn wsL_law wsL_isOut := goodIn_ca (goodIn_ca (goodIn_r _ [1027, 227, 1028, 1029, 1030, 2, 1031, 19, 358, 1032, 299, 300, 301, 302, 237, 238, 284, 1560, 1561, 1562, 1563, 1564, 1565, 1566, 1567, 1568, 1569, 1570, 1571, 1572, 1573, 1611, 1612, 1613, 1614, 1637, 1638, 1639, 1640, 1641, 1642] (by decide +kernel) (by decide +kernel)) (goodIn_sub (fun _ h => List.mem_append_left _ (List.mem_append_left _ (List.mem_append_left _ (List.mem_append_left _ (List.mem_append_left _ (List.mem_append_left _ (List.mem_append_left _ (List.mem_append_right _ h)))))))) (by decide +kernel))) (goodIn_sub (fun _ h => List.mem_append_left _ (List.mem_append_left _ (List.mem_append_left _ (List.mem_append_right _ h)))) (by decide +kernel))
set_option maxRecDepth 20000 in
theorem gL_law_L_isOut : GoodIn wsL_law (va_wsS RL 322 yL_isOut wsL_isOut) := goodIn_app (goodIn_of _ (by decide +kernel)) ggL_law_L_isOut
set_option maxRecDepth 20000 in
theorem ggL_law_X7_isOut : GoodIn wsL_law wsX7_isOut := goodIn_ca (goodIn_r _ [1036, 91, 308, 309, 310, 5, 311, 289, 209, 210, 211, 215, 216, 217, 218, 219, 1574, 1575, 1576, 1577, 1578, 1579, 1580, 1581, 1582, 1583, 1584, 1585, 1586, 1587, 1588, 1589, 1590, 1591, 1592, 1593, 1594, 1595, 1596, 1597, 1598, 1599, 1600, 1601, 1602, 1603, 1604] (by decide +kernel) (by decide +kernel)) (goodIn_sub (fun _ h => List.mem_append_left _ (List.mem_append_left _ (List.mem_append_left _ (List.mem_append_left _ (List.mem_append_left _ (List.mem_append_left _ (List.mem_append_left _ (List.mem_append_right _ h)))))))) (by decide +kernel))
set_option maxRecDepth 20000 in
theorem gL_law_X7_isOut : GoodIn wsL_law (wsV RL 324 RX7 yX7_isOut wsX7_isOut) := goodIn_app (goodIn_of _ (by decide +kernel)) ggL_law_X7_isOut
set_option maxRecDepth 20000 in
theorem ggL_law_L_score : GoodIn wsL_law wsL_score := goodIn_ca (goodIn_ca (goodIn_ca (goodIn_r _ [1039, 227, 1040, 1041, 1042, 2, 1043, 435, 436, 19, 358, 299, 300, 301, 302, 237, 238, 284, 233, 234, 235, 236, 187, 945, 946, 947, 47, 948, 60, 1560, 1561, 1562, 1563, 1564, 1565, 1566, 1567, 1568, 1569, 1570, 1571, 1572, 1573, 1611, 1612, 1613, 1614, 1637, 1638, 1639, 1640, 1641, 1642] (by decide +kernel) (by decide +kernel)) (goodIn_sub (fun _ h => List.mem_append_left _ (List.mem_append_left _ (List.mem_append_left _ (List.mem_append_left _ (List.mem_append_left _ (List.mem_append_left _ (List.mem_append_left _ (List.mem_append_right _ h)))))))) (by decide +kernel))) (goodIn_sub (fun _ h => List.mem_append_left _ (List.mem_append_right _ h)) (by decide +kernel))) (goodIn_sub (fun _ h => List.mem_append_left _ (List.mem_append_left _ (List.mem_append_left _ (List.mem_append_right _ h)))) (by decide +kernel))
set_option maxRecDepth 20000 in
theorem gL_law_L_score : GoodIn wsL_law (va_wsS RL 325 yL_score wsL_score) := goodIn_app (goodIn_of _ (by decide +kernel)) ggL_law_L_score
set_option maxRecDepth 20000 in
theorem ggL_law_X7_score : GoodIn wsL_law wsX7_score := goodIn_ca (goodIn_r _ [1047, 406, 86, 308, 309, 310, 5, 311, 289, 209, 210, 211, 254, 255, 256, 257, 206, 215, 216, 217, 218, 219, 1574, 1575, 1576, 1577, 1578, 1579, 1580, 1581, 1582, 1583, 1584, 1585, 1586, 1587, 1588, 1589, 1590, 1591, 1592, 1593, 1594, 1595, 1596, 1597, 1598, 1599, 1600, 1601, 1602, 1603, 1604] (by decide +kernel) (by decide +kernel)) (goodIn_sub (fun _ h => List.mem_append_left _ (List.mem_append_left _ (List.mem_append_left _ (List.mem_append_left _ (List.mem_append_left _ (List.mem_append_left _ (List.mem_append_left _ (List.mem_append_right _ h)))))))) (by decide +kernel))
set_option maxRecDepth 20000 in
theorem gL_law_X7_score : GoodIn wsL_law (wsV RL 327 RX7 yX7_score wsX7_score) := goodIn_app (goodIn_of _ (by decide +kernel)) ggL_law_X7_score
set_option maxRecDepth 20000 in
theorem ggL_law_L_up : GoodIn wsL_law wsL_up := goodIn_ca (goodIn_ca (goodIn_r _ [1050, 1051, 1052, 1053, 1054, 2, 1055, 27, 902, 1056, 1057, 1058, 1059, 184, 185, 518, 519, 520, 521, 30, 1560, 1561, 1562, 1563, 1564, 1565, 1566, 1567, 1568, 1569, 1570, 1571, 1572, 1573, 1615, 1616, 1617, 1618, 1619, 1620] (by decide +kernel) (by decide +kernel)) (goodIn_sub (fun _ h => List.mem_append_left _ (List.mem_append_left _ (List.mem_append_left _ (List.mem_append_left _ (List.mem_append_left _ (List.mem_append_left _ (List.mem_append_left _ (List.mem_append_right _ h)))))))) (by decide +kernel))) (goodIn_sub (fun _ h => List.mem_append_left _ (List.mem_append_left _ (List.mem_append_left _ (List.mem_append_left _ (List.mem_append_right _ h))))) (by decide +kernel))
set_option maxRecDepth 20000 in
theorem gL_law_L_up : GoodIn wsL_law (va_wsS RL 328 yL_up wsL_up) := goodIn_app (goodIn_of _ (by decide +kernel)) ggL_law_L_up
set_option maxRecDepth 20000 in
theorem ggL_law_X7_up : GoodIn wsL_law wsX7_up := goodIn_ca (goodIn_r _ [1063, 402, 215, 216, 217, 5, 218, 219, 922, 923, 924, 925, 206, 100, 1574, 1575, 1576, 1577, 1578, 1579, 1580, 1581, 1582, 1583, 1584, 1585, 1586, 1587, 1588, 1589, 1590, 1591, 1592, 1593, 1594, 1595, 1596, 1597, 1598, 1599, 1600, 1601, 1602, 1603, 1604] (by decide +kernel) (by decide +kernel)) (goodIn_sub (fun _ h => List.mem_append_left _ (List.mem_append_left _ (List.mem_append_left _ (List.mem_append_left _ (List.mem_append_left _ (List.mem_append_left _ (List.mem_append_left _ (List.mem_append_right _ h)))))))) (by decide +kernel))
set_option maxRecDepth 20000 in
theorem gL_law_X7_up : GoodIn wsL_law (wsV RL 330 RX7 yX7_up wsX7_up) := goodIn_app (goodIn_of _ (by decide +kernel)) ggL_law_X7_up
set_option maxRecDepth 20000 in
theorem ggL_law_L_isMatchOver : GoodIn wsL_law wsL_isMatchOver := goodIn_ca (goodIn_ca (goodIn_r _ [1066, 1051, 1067, 1068, 1069, 2, 1070, 297, 27, 901, 902, 1071, 717, 139, 718, 187, 1072, 1056, 1057, 1058, 1059, 184, 185, 518, 519, 520, 521, 30, 1560, 1561, 1562, 1563, 1564, 1565, 1566, 1567, 1568, 1569, 1570, 1571, 1572, 1573, 1615, 1616, 1617, 1618, 1619, 1620] (by decide +kernel) (by decide +kernel)) (goodIn_sub (fun _ h => List.mem_append_left _ (List.mem_append_left _ (List.mem_append_left _ (List.mem_append_left _ (List.mem_append_left _ (List.mem_append_left _ (List.mem_append_left _ (List.mem_append_right _ h)))))))) (by decide +kernel))) (goodIn_sub (fun _ h => List.mem_append_left _ (List.mem_append_left _ (List.mem_append_left _ (List.mem_append_left _ (List.mem_append_right _ h))))) (by decide +kernel))
set_option maxRecDepth 20000 in
theorem gL_law_L_isMatchOver : GoodIn wsL_law (va_wsS RL 331 yL_isMatchOver wsL_isMatchOver) := goodIn_app (goodIn_of _ (by decide +kernel)) ggL_law_L_isMatchOver
set_option maxRecDepth 20000 in
theorem ggL_law_X7_isMatchOver : GoodIn wsL_law wsX7_isMatchOver := goodIn_ca (goodIn_r _ [1076, 402, 307, 206, 406, 411, 404, 716, 717, 139, 718, 215, 216, 217, 5, 218, 219, 922, 923, 924, 925, 100, 1574, 1575, 1576, 1577, 1578, 1579, 1580, 1581, 1582, 1583, 1584, 1585, 1586, 1587, 1588, 1589, 1590, 1591, 1592, 1593, 1594, 1595, 1596, 1597, 1598, 1599, 1600, 1601, 1602, 1603, 1604] (by decide +kernel) (by decide +kernel)) (goodIn_sub (fun _ h => List.mem_append_left _ (List.mem_append_left _ (List.mem_append_left _ (List.mem_append_left _ (List.mem_append_left _ (List.mem_append_left _ (List.mem_append_left _ (List.mem_append_right _ h)))))))) (by decide +kernel))
set_option maxRecDepth 20000 in
theorem gL_law_X7_isMatchOver : GoodIn wsL_law (wsV RL 333 RX7 yX7_isMatchOver wsX7_isMatchOver) := goodIn_app (goodIn_of _ (by decide +kernel)) ggL_law_X7_isMatchOver
set_option maxRecDepth 20000 in
theorem ggL_law_L_write : GoodIn wsL_law wsL_write := goodIn_ca (goodIn_ca (goodIn_ca (goodIn_ca (goodIn_r _ [1079, 227, 1080, 1081, 1082, 2, 1083, 180, 181, 184, 185, 19, 358, 1084, 1085, 299, 300, 301, 302, 237, 238, 284, 233, 234, 235, 236, 187, 1086, 1087, 1088, 1089, 186, 297, 1560, 1561, 1562, 1563, 1564, 1565, 1566, 1567, 1568, 1569, 1570, 1571, 1572, 1573, 1611, 1612, 1613, 1614, 1637, 1638, 1639, 1640, 1641, 1642] (by decide +kernel) (by decide +kernel)) (goodIn_sub (fun _ h => List.mem_append_left _ (List.mem_append_left _ (List.mem_append_left _ (List.mem_append_left _ (List.mem_append_left _ (List.mem_append_left _ (List.mem_append_left _ (List.mem_append_right _ h)))))))) (by decide +kernel))) (goodIn_sub (fun _ h => List.mem_append_left _ (List.mem_append_left _ (List.mem_append_left _ (List.mem_append_left _ (List.mem_append_left _ (List.mem_append_left _ (List.mem_append_right _ h))))))) (by decide +kernel))) (goodIn_sub (fun _ h => List.mem_append_left _ (List.mem_append_left _ (List.mem_append_left _ (List.mem_append_left _ (List.mem_append_right _ h))))) (by decide +kernel))) (goodIn_sub (fun _ h => List.mem_append_left _ (List.mem_append_left _ (List.mem_append_left _ (List.mem_append_right _ h)))) (by decide +kernel))
set_option maxRecDepth 20000 in
theorem gL_law_L_write : GoodIn wsL_law (va_wsS RL 334 yL_write wsL_write) := goodIn_app (goodIn_of _ (by decide +kernel)) ggL_law_L_write
set_option maxRecDepth 20000 in
theorem ggL_law_X7_write : GoodIn wsL_law wsX7_write := goodIn_ca (goodIn_r _ [1093, 90, 88, 308, 309, 310, 5, 311, 289, 209, 210, 211, 254, 255, 256, 257, 206, 215, 216, 217, 218, 219, 1094, 1095, 1096, 1097, 207, 307, 1574, 1575, 1576, 1577, 1578, 1579, 1580, 1581, 1582, 1583, 1584, 1585, 1586, 1587, 1588, 1589, 1590, 1591, 1592, 1593, 1594, 1595, 1596, 1597, 1598, 1599, 1600, 1601, 1602, 1603, 1604] (by decide +kernel) (by decide +kernel)) (goodIn_sub (fun _ h => List.mem_append_left _ (List.mem_append_left _ (List.mem_append_left _ (List.mem_append_left _ (List.mem_append_left _ (List.mem_append_left _ (List.mem_append_left _ (List.mem_append_right _ h)))))))) (by decide +kernel))
set_option maxRecDepth 20000 in
theorem gL_law_X7_write : GoodIn wsL_law (wsV RL 336 RX7 yX7_write wsX7_write) := goodIn_app (goodIn_of _ (by decide +kernel)) ggL_law_X7_write
set_option maxRecDepth 20000 in
theorem ggL_law_L_sign : GoodIn wsL_law wsL_sign := goodIn_ca (goodIn_ca (goodIn_ca (goodIn_ca (goodIn_r _ [1100, 227, 1101, 1102, 1103, 2, 1104, 184, 185, 435, 436, 19, 358, 1084, 1032, 187, 299, 300, 301, 302, 237, 238, 284, 1086, 1087, 1088, 1089, 186, 297, 1105, 1106, 1107, 47, 1108, 1109, 946, 947, 948, 60, 1110, 1111, 1112, 1113, 1114, 1115, 1116, 1117, 62, 1560, 1561, 1562, 1563, 1564, 1565, 1566, 1567, 1568, 1569, 1570, 1571, 1572, 1573, 1611, 1612, 1613, 1614, 1637, 1638, 1639, 1640, 1641, 1642] (by decide +kernel) (by decide +kernel)) (goodIn_sub (fun _ h => List.mem_append_left _ (List.mem_append_left _ (List.mem_append_left _ (List.mem_append_left _ (List.mem_append_left _ (List.mem_append_left _ (List.mem_append_left _ (List.mem_append_right _ h)))))))) (by decide +kernel))) (goodIn_sub (fun _ h => List.mem_append_left _ (List.mem_append_left _ (List.mem_append_left _ (List.mem_append_left _ (List.mem_append_right _ h))))) (by decide +kernel))) (goodIn_sub (fun _ h => List.mem_append_left _ (List.mem_append_right _ h)) (by decide +kernel))) (goodIn_sub (fun _ h => List.mem_append_left _ (List.mem_append_left _ (List.mem_append_left _ (List.mem_append_right _ h)))) (by decide +kernel))
set_option maxRecDepth 20000 in
theorem gL_law_L_sign : GoodIn wsL_law (va_wsS RL 337 yL_sign wsL_sign) := goodIn_app (goodIn_of _ (by decide +kernel)) ggL_law_L_sign
set_option maxRecDepth 20000 in
theorem ggL_law_X7_sign : GoodIn wsL_law wsX7_sign := goodIn_ca (goodIn_r _ [1121, 90, 91, 206, 86, 88, 308, 309, 310, 5, 311, 289, 209, 210, 211, 215, 216, 217, 218, 219, 1094, 1095, 1096, 1097, 207, 307, 1574, 1575, 1576, 1577, 1578, 1579, 1580, 1581, 1582, 1583, 1584, 1585, 1586, 1587, 1588, 1589, 1590, 1591, 1592, 1593, 1594, 1595, 1596, 1597, 1598, 1599, 1600, 1601, 1602, 1603, 1604] (by decide +kernel) (by decide +kernel)) (goodIn_sub (fun _ h => List.mem_append_left _ (List.mem_append_left _ (List.mem_append_left _ (List.mem_append_left _ (List.mem_append_left _ (List.mem_append_left _ (List.mem_append_left _ (List.mem_append_right _ h)))))))) (by decide +kernel))
set_option maxRecDepth 20000 in
theorem gL_law_X7_sign : GoodIn wsL_law (wsV RL 339 RX7 yX7_sign wsX7_sign) := goodIn_app (goodIn_of _ (by decide +kernel)) ggL_law_X7_sign
set_option maxRecDepth 20000 in
theorem ggL_law_L_total : GoodIn wsL_law wsL_total := goodIn_ca (goodIn_ca (goodIn_ca (goodIn_r _ [1124, 227, 1125, 1126, 1127, 2, 1128, 435, 436, 19, 358, 187, 299, 300, 301, 302, 237, 238, 284, 1129, 1130, 1131, 47, 1132, 1114, 1115, 1116, 1117, 62, 1133, 1134, 1135, 1136, 1560, 1561, 1562, 1563, 1564, 1565, 1566, 1567, 1568, 1569, 1570, 1571, 1572, 1573, 1611, 1612, 1613, 1614, 1637, 1638, 1639, 1640, 1641, 1642] (by decide +kernel) (by decide +kernel)) (goodIn_sub (fun _ h => List.mem_append_left _ (List.mem_append_left _ (List.mem_append_left _ (List.mem_append_left _ (List.mem_append_left _ (List.mem_append_left _ (List.mem_append_left _ (List.mem_append_right _ h)))))))) (by decide +kernel))) (goodIn_sub (fun _ h => List.mem_append_left _ (List.mem_append_right _ h)) (by decide +kernel))) (goodIn_sub (fun _ h => List.mem_append_left _ (List.mem_append_left _ (List.mem_append_left _ (List.mem_append_right _ h)))) (by decide +kernel))
set_option maxRecDepth 20000 in
theorem gL_law_L_total : GoodIn wsL_law (va_wsS RL 340 yL_total wsL_total) := goodIn_app (goodIn_of _ (by decide +kernel)) ggL_law_L_total
set_option maxRecDepth 20000 in
theorem ggL_law_X7_total : GoodIn wsL_law wsX7_total := goodIn_ca (goodIn_r _ [1140, 308, 309, 310, 5, 311, 289, 209, 210, 211, 215, 216, 217, 218, 219, 1141, 1142, 1143, 1144, 206, 88, 1145, 1146, 1147, 1148, 1574, 1575, 1576, 1577, 1578, 1579, 1580, 1581, 1582, 1583, 1584, 1585, 1586, 1587, 1588, 1589, 1590, 1591, 1592, 1593, 1594, 1595, 1596, 1597, 1598, 1599, 1600, 1601, 1602, 1603, 1604] (by decide +kernel) (by decide +kernel)) (goodIn_sub (fun _ h => List.mem_append_left _ (List.mem_append_left _ (List.mem_append_left _ (List.mem_append_left _ (List.mem_append_left _ (List.mem_append_left _ (List.mem_append_left _ (List.mem_append_right _ h)))))))) (by decide +kernel))
set_option maxRecDepth 20000 in
theorem gL_law_X7_total : GoodIn wsL_law (wsV RL 342 RX7 yX7_total wsX7_total) := goodIn_app (goodIn_of _ (by decide +kernel)) ggL_law_X7_total
theorem dL_law_2502 : decode cL_law 2502 = .ok (.aload_n 1, 1) := by decide +kernel
theorem dL_law_2503 : decode cL_law 2503 = .ok (.aload_n 0, 1) := by decide +kernel
theorem dL_law_2504 : decode cL_law 2504 = .ok (.iload 5, 2) := by decide +kernel
theorem dL_law_2506 : decode cL_law 2506 = .ok (.iconst 1, 1) := by decide +kernel
theorem dL_law_2507 : decode cL_law 2507 = .ok (.iadd, 1) := by decide +kernel
theorem dL_law_2508 : decode cL_law 2508 = .ok (.iaload, 1) := by decide +kernel
theorem dL_law_2509 : decode cL_law 2509 = .ok (.aload_n 3, 1) := by decide +kernel
theorem dL_law_2510 : decode cL_law 2510 = .ok (.invokestatic 319, 3) := by decide +kernel
theorem dL_law_2513 : decode cL_law 2513 = .ok (.istore 6, 2) := by decide +kernel
theorem dL_law_2515 : decode cL_law 2515 = .ok (.aload_n 2, 1) := by decide +kernel
theorem dL_law_2516 : decode cL_law 2516 = .ok (.aload_n 0, 1) := by decide +kernel
theorem dL_law_2517 : decode cL_law 2517 = .ok (.iload 5, 2) := by decide +kernel
theorem dL_law_2519 : decode cL_law 2519 = .ok (.iconst 1, 1) := by decide +kernel
theorem dL_law_2520 : decode cL_law 2520 = .ok (.iadd, 1) := by decide +kernel
theorem dL_law_2521 : decode cL_law 2521 = .ok (.iaload, 1) := by decide +kernel
theorem dL_law_2522 : decode cL_law 2522 = .ok (.invokevirtual 321, 3) := by decide +kernel
theorem dL_law_2525 : decode cL_law 2525 = .ok (.istore 7, 2) := by decide +kernel
theorem dL_law_2527 : decode cL_law 2527 = .ok (.aload_n 2, 1) := by decide +kernel
theorem dL_law_2528 : decode cL_law 2528 = .ok (.invokevirtual 211, 3) := by decide +kernel
theorem dL_law_2531 : decode cL_law 2531 = .ok (.iload 6, 2) := by decide +kernel
theorem dL_law_2533 : decode cL_law 2533 = .ok (.if_icmp .eq 5, 3) := by decide +kernel
theorem dL_law_2538 : decode cL_law 2538 = .ok (.iload 6, 2) := by decide +kernel
theorem dL_law_2540 : decode cL_law 2540 = .ok (.ifCond .ne 15, 3) := by decide +kernel
theorem dL_law_2555 : decode cL_law 2555 = .ok (.goto 1349, 3) := by decide +kernel
theorem dL_law_2558 : decode cL_law 2558 = .ok (.aload_n 1, 1) := by decide +kernel
theorem dL_law_2559 : decode cL_law 2559 = .ok (.aload_n 0, 1) := by decide +kernel
theorem dL_law_2560 : decode cL_law 2560 = .ok (.iload 5, 2) := by decide +kernel
theorem dL_law_2562 : decode cL_law 2562 = .ok (.iconst 1, 1) := by decide +kernel
theorem dL_law_2563 : decode cL_law 2563 = .ok (.iadd, 1) := by decide +kernel
theorem dL_law_2564 : decode cL_law 2564 = .ok (.iaload, 1) := by decide +kernel
theorem dL_law_2565 : decode cL_law 2565 = .ok (.aload_n 3, 1) := by decide +kernel
theorem dL_law_2566 : decode cL_law 2566 = .ok (.invokestatic 322, 3) := by decide +kernel
theorem dL_law_2569 : decode cL_law 2569 = .ok (.istore 6, 2) := by decide +kernel
theorem dL_law_2571 : decode cL_law 2571 = .ok (.aload_n 2, 1) := by decide +kernel
theorem dL_law_2572 : decode cL_law 2572 = .ok (.aload_n 0, 1) := by decide +kernel
theorem dL_law_2573 : decode cL_law 2573 = .ok (.iload 5, 2) := by decide +kernel
theorem dL_law_2575 : decode cL_law 2575 = .ok (.iconst 1, 1) := by decide +kernel
theorem dL_law_2576 : decode cL_law 2576 = .ok (.iadd, 1) := by decide +kernel
theorem dL_law_2577 : decode cL_law 2577 = .ok (.iaload, 1) := by decide +kernel
theorem dL_law_2578 : decode cL_law 2578 = .ok (.invokevirtual 324, 3) := by decide +kernel
theorem dL_law_2581 : decode cL_law 2581 = .ok (.istore 7, 2) := by decide +kernel
theorem dL_law_2583 : decode cL_law 2583 = .ok (.aload_n 2, 1) := by decide +kernel
theorem dL_law_2584 : decode cL_law 2584 = .ok (.invokevirtual 211, 3) := by decide +kernel
theorem dL_law_2587 : decode cL_law 2587 = .ok (.iload 6, 2) := by decide +kernel
theorem dL_law_2589 : decode cL_law 2589 = .ok (.if_icmp .eq 5, 3) := by decide +kernel
theorem dL_law_2594 : decode cL_law 2594 = .ok (.iload 6, 2) := by decide +kernel
theorem dL_law_2596 : decode cL_law 2596 = .ok (.ifCond .ne 22, 3) := by decide +kernel
theorem dL_law_2618 : decode cL_law 2618 = .ok (.goto 1286, 3) := by decide +kernel
theorem dL_law_2621 : decode cL_law 2621 = .ok (.aload_n 1, 1) := by decide +kernel
theorem dL_law_2622 : decode cL_law 2622 = .ok (.aload_n 0, 1) := by decide +kernel
theorem dL_law_2623 : decode cL_law 2623 = .ok (.iload 5, 2) := by decide +kernel
theorem dL_law_2625 : decode cL_law 2625 = .ok (.iconst 1, 1) := by decide +kernel
theorem dL_law_2626 : decode cL_law 2626 = .ok (.iadd, 1) := by decide +kernel
theorem dL_law_2627 : decode cL_law 2627 = .ok (.iaload, 1) := by decide +kernel
theorem dL_law_2628 : decode cL_law 2628 = .ok (.aload_n 0, 1) := by decide +kernel
theorem dL_law_2629 : decode cL_law 2629 = .ok (.iload 5, 2) := by decide +kernel
theorem dL_law_2631 : decode cL_law 2631 = .ok (.iconst 2, 1) := by decide +kernel
theorem dL_law_2632 : decode cL_law 2632 = .ok (.iadd, 1) := by decide +kernel
theorem dL_law_2633 : decode cL_law 2633 = .ok (.iaload, 1) := by decide +kernel
theorem dL_law_2634 : decode cL_law 2634 = .ok (.aload_n 3, 1) := by decide +kernel
theorem dL_law_2635 : decode cL_law 2635 = .ok (.invokestatic 325, 3) := by decide +kernel
theorem dL_law_2638 : decode cL_law 2638 = .ok (.istore 6, 2) := by decide +kernel
theorem dL_law_2640 : decode cL_law 2640 = .ok (.aload_n 2, 1) := by decide +kernel
theorem dL_law_2641 : decode cL_law 2641 = .ok (.aload_n 0, 1) := by decide +kernel
theorem dL_law_2642 : decode cL_law 2642 = .ok (.iload 5, 2) := by decide +kernel
theorem dL_law_2644 : decode cL_law 2644 = .ok (.iconst 1, 1) := by decide +kernel
theorem dL_law_2645 : decode cL_law 2645 = .ok (.iadd, 1) := by decide +kernel
theorem dL_law_2646 : decode cL_law 2646 = .ok (.iaload, 1) := by decide +kernel
theorem dL_law_2647 : decode cL_law 2647 = .ok (.aload_n 0, 1) := by decide +kernel
theorem dL_law_2648 : decode cL_law 2648 = .ok (.iload 5, 2) := by decide +kernel
theorem dL_law_2650 : decode cL_law 2650 = .ok (.iconst 2, 1) := by decide +kernel
theorem dL_law_2651 : decode cL_law 2651 = .ok (.iadd, 1) := by decide +kernel
theorem dL_law_2652 : decode cL_law 2652 = .ok (.iaload, 1) := by decide +kernel
theorem dL_law_2653 : decode cL_law 2653 = .ok (.invokevirtual 327, 3) := by decide +kernel
theorem dL_law_2656 : decode cL_law 2656 = .ok (.istore 7, 2) := by decide +kernel
theorem dL_law_2658 : decode cL_law 2658 = .ok (.aload_n 2, 1) := by decide +kernel
theorem dL_law_2659 : decode cL_law 2659 = .ok (.invokevirtual 211, 3) := by decide +kernel
theorem dL_law_2662 : decode cL_law 2662 = .ok (.iload 6, 2) := by decide +kernel
theorem dL_law_2664 : decode cL_law 2664 = .ok (.if_icmp .eq 5, 3) := by decide +kernel
theorem dL_law_2669 : decode cL_law 2669 = .ok (.iload 6, 2) := by decide +kernel
theorem dL_law_2671 : decode cL_law 2671 = .ok (.ifCond .ne 15, 3) := by decide +kernel
theorem dL_law_2686 : decode cL_law 2686 = .ok (.goto 1218, 3) := by decide +kernel
theorem dL_law_2689 : decode cL_law 2689 = .ok (.aload_n 1, 1) := by decide +kernel
theorem dL_law_2690 : decode cL_law 2690 = .ok (.aload_n 3, 1) := by decide +kernel
theorem dL_law_2691 : decode cL_law 2691 = .ok (.invokestatic 328, 3) := by decide +kernel
theorem dL_law_2694 : decode cL_law 2694 = .ok (.istore 6, 2) := by decide +kernel
theorem dL_law_2696 : decode cL_law 2696 = .ok (.aload_n 2, 1) := by decide +kernel
theorem dL_law_2697 : decode cL_law 2697 = .ok (.invokevirtual 330, 3) := by decide +kernel
theorem dL_law_2700 : decode cL_law 2700 = .ok (.istore 7, 2) := by decide +kernel
theorem dL_law_2702 : decode cL_law 2702 = .ok (.aload_n 2, 1) := by decide +kernel
theorem dL_law_2703 : decode cL_law 2703 = .ok (.invokevirtual 211, 3) := by decide +kernel
theorem dL_law_2706 : decode cL_law 2706 = .ok (.iload 6, 2) := by decide +kernel
theorem dL_law_2708 : decode cL_law 2708 = .ok (.if_icmp .eq 5, 3) := by decide +kernel
theorem dL_law_2713 : decode cL_law 2713 = .ok (.iload 6, 2) := by decide +kernel
theorem dL_law_2715 : decode cL_law 2715 = .ok (.ifCond .ne 15, 3) := by decide +kernel
theorem dL_law_2730 : decode cL_law 2730 = .ok (.goto 1174, 3) := by decide +kernel
theorem dL_law_2733 : decode cL_law 2733 = .ok (.aload_n 1, 1) := by decide +kernel
theorem dL_law_2734 : decode cL_law 2734 = .ok (.aload_n 3, 1) := by decide +kernel
theorem dL_law_2735 : decode cL_law 2735 = .ok (.invokestatic 331, 3) := by decide +kernel
theorem dL_law_2738 : decode cL_law 2738 = .ok (.istore 6, 2) := by decide +kernel
theorem dL_law_2740 : decode cL_law 2740 = .ok (.aload_n 2, 1) := by decide +kernel
theorem dL_law_2741 : decode cL_law 2741 = .ok (.invokevirtual 333, 3) := by decide +kernel
theorem dL_law_2744 : decode cL_law 2744 = .ok (.istore 7, 2) := by decide +kernel
theorem dL_law_2746 : decode cL_law 2746 = .ok (.aload_n 2, 1) := by decide +kernel
theorem dL_law_2747 : decode cL_law 2747 = .ok (.invokevirtual 211, 3) := by decide +kernel
theorem dL_law_2750 : decode cL_law 2750 = .ok (.iload 6, 2) := by decide +kernel
theorem dL_law_2752 : decode cL_law 2752 = .ok (.if_icmp .eq 5, 3) := by decide +kernel
theorem dL_law_2757 : decode cL_law 2757 = .ok (.iload 6, 2) := by decide +kernel
theorem dL_law_2759 : decode cL_law 2759 = .ok (.ifCond .ne 22, 3) := by decide +kernel
theorem dL_law_2781 : decode cL_law 2781 = .ok (.goto 1123, 3) := by decide +kernel
theorem dL_law_2784 : decode cL_law 2784 = .ok (.aload_n 1, 1) := by decide +kernel
theorem dL_law_2785 : decode cL_law 2785 = .ok (.aload_n 0, 1) := by decide +kernel
theorem dL_law_2786 : decode cL_law 2786 = .ok (.iload 5, 2) := by decide +kernel
theorem dL_law_2788 : decode cL_law 2788 = .ok (.iconst 1, 1) := by decide +kernel
theorem dL_law_2789 : decode cL_law 2789 = .ok (.iadd, 1) := by decide +kernel
theorem dL_law_2790 : decode cL_law 2790 = .ok (.iaload, 1) := by decide +kernel
theorem dL_law_2791 : decode cL_law 2791 = .ok (.aload_n 0, 1) := by decide +kernel
theorem dL_law_2792 : decode cL_law 2792 = .ok (.iload 5, 2) := by decide +kernel
theorem dL_law_2794 : decode cL_law 2794 = .ok (.iconst 2, 1) := by decide +kernel
theorem dL_law_2795 : decode cL_law 2795 = .ok (.iadd, 1) := by decide +kernel
theorem dL_law_2796 : decode cL_law 2796 = .ok (.iaload, 1) := by decide +kernel
theorem dL_law_2797 : decode cL_law 2797 = .ok (.aload_n 0, 1) := by decide +kernel
theorem dL_law_2798 : decode cL_law 2798 = .ok (.iload 5, 2) := by decide +kernel
theorem dL_law_2800 : decode cL_law 2800 = .ok (.iconst 3, 1) := by decide +kernel
theorem dL_law_2801 : decode cL_law 2801 = .ok (.iadd, 1) := by decide +kernel
theorem dL_law_2802 : decode cL_law 2802 = .ok (.iaload, 1) := by decide +kernel
theorem dL_law_2803 : decode cL_law 2803 = .ok (.aload_n 3, 1) := by decide +kernel
theorem dL_law_2804 : decode cL_law 2804 = .ok (.invokestatic 334, 3) := by decide +kernel
theorem dL_law_2807 : decode cL_law 2807 = .ok (.istore 6, 2) := by decide +kernel
theorem dL_law_2809 : decode cL_law 2809 = .ok (.aload_n 2, 1) := by decide +kernel
theorem dL_law_2810 : decode cL_law 2810 = .ok (.aload_n 0, 1) := by decide +kernel
theorem dL_law_2811 : decode cL_law 2811 = .ok (.iload 5, 2) := by decide +kernel
theorem dL_law_2813 : decode cL_law 2813 = .ok (.iconst 1, 1) := by decide +kernel
theorem dL_law_2814 : decode cL_law 2814 = .ok (.iadd, 1) := by decide +kernel
theorem dL_law_2815 : decode cL_law 2815 = .ok (.iaload, 1) := by decide +kernel
theorem dL_law_2816 : decode cL_law 2816 = .ok (.aload_n 0, 1) := by decide +kernel
theorem dL_law_2817 : decode cL_law 2817 = .ok (.iload 5, 2) := by decide +kernel
theorem dL_law_2819 : decode cL_law 2819 = .ok (.iconst 2, 1) := by decide +kernel
theorem dL_law_2820 : decode cL_law 2820 = .ok (.iadd, 1) := by decide +kernel
theorem dL_law_2821 : decode cL_law 2821 = .ok (.iaload, 1) := by decide +kernel
theorem dL_law_2822 : decode cL_law 2822 = .ok (.aload_n 0, 1) := by decide +kernel
theorem dL_law_2823 : decode cL_law 2823 = .ok (.iload 5, 2) := by decide +kernel
theorem dL_law_2825 : decode cL_law 2825 = .ok (.iconst 3, 1) := by decide +kernel
theorem dL_law_2826 : decode cL_law 2826 = .ok (.iadd, 1) := by decide +kernel
theorem dL_law_2827 : decode cL_law 2827 = .ok (.iaload, 1) := by decide +kernel
theorem dL_law_2828 : decode cL_law 2828 = .ok (.invokevirtual 336, 3) := by decide +kernel
theorem dL_law_2831 : decode cL_law 2831 = .ok (.istore 7, 2) := by decide +kernel
theorem dL_law_2833 : decode cL_law 2833 = .ok (.aload_n 2, 1) := by decide +kernel
theorem dL_law_2834 : decode cL_law 2834 = .ok (.invokevirtual 211, 3) := by decide +kernel
theorem dL_law_2837 : decode cL_law 2837 = .ok (.iload 6, 2) := by decide +kernel
theorem dL_law_2839 : decode cL_law 2839 = .ok (.if_icmp .eq 5, 3) := by decide +kernel
theorem dL_law_2844 : decode cL_law 2844 = .ok (.iload 6, 2) := by decide +kernel
theorem dL_law_2846 : decode cL_law 2846 = .ok (.ifCond .ne 15, 3) := by decide +kernel
theorem dL_law_2861 : decode cL_law 2861 = .ok (.goto 1043, 3) := by decide +kernel
theorem dL_law_2864 : decode cL_law 2864 = .ok (.aload_n 1, 1) := by decide +kernel
theorem dL_law_2865 : decode cL_law 2865 = .ok (.aload_n 0, 1) := by decide +kernel
theorem dL_law_2866 : decode cL_law 2866 = .ok (.iload 5, 2) := by decide +kernel
theorem dL_law_2868 : decode cL_law 2868 = .ok (.iconst 1, 1) := by decide +kernel
theorem dL_law_2869 : decode cL_law 2869 = .ok (.iadd, 1) := by decide +kernel
theorem dL_law_2870 : decode cL_law 2870 = .ok (.iaload, 1) := by decide +kernel
theorem dL_law_2871 : decode cL_law 2871 = .ok (.aload_n 3, 1) := by decide +kernel
theorem dL_law_2872 : decode cL_law 2872 = .ok (.invokestatic 337, 3) := by decide +kernel
theorem dL_law_2875 : decode cL_law 2875 = .ok (.istore 6, 2) := by decide +kernel
theorem dL_law_2877 : decode cL_law 2877 = .ok (.aload_n 2, 1) := by decide +kernel
theorem dL_law_2878 : decode cL_law 2878 = .ok (.aload_n 0, 1) := by decide +kernel
theorem dL_law_2879 : decode cL_law 2879 = .ok (.iload 5, 2) := by decide +kernel
theorem dL_law_2881 : decode cL_law 2881 = .ok (.iconst 1, 1) := by decide +kernel
theorem dL_law_2882 : decode cL_law 2882 = .ok (.iadd, 1) := by decide +kernel
theorem dL_law_2883 : decode cL_law 2883 = .ok (.iaload, 1) := by decide +kernel
theorem dL_law_2884 : decode cL_law 2884 = .ok (.invokevirtual 339, 3) := by decide +kernel
theorem dL_law_2887 : decode cL_law 2887 = .ok (.istore 7, 2) := by decide +kernel
theorem dL_law_2889 : decode cL_law 2889 = .ok (.aload_n 2, 1) := by decide +kernel
theorem dL_law_2890 : decode cL_law 2890 = .ok (.invokevirtual 211, 3) := by decide +kernel
theorem dL_law_2893 : decode cL_law 2893 = .ok (.iload 6, 2) := by decide +kernel
theorem dL_law_2895 : decode cL_law 2895 = .ok (.if_icmp .eq 5, 3) := by decide +kernel
theorem dL_law_2900 : decode cL_law 2900 = .ok (.iload 6, 2) := by decide +kernel
theorem dL_law_2902 : decode cL_law 2902 = .ok (.ifCond .ne 22, 3) := by decide +kernel
theorem dL_law_2924 : decode cL_law 2924 = .ok (.goto 980, 3) := by decide +kernel
theorem dL_law_2927 : decode cL_law 2927 = .ok (.aload_n 1, 1) := by decide +kernel
theorem dL_law_2928 : decode cL_law 2928 = .ok (.aload_n 0, 1) := by decide +kernel
theorem dL_law_2929 : decode cL_law 2929 = .ok (.iload 5, 2) := by decide +kernel
theorem dL_law_2931 : decode cL_law 2931 = .ok (.iconst 1, 1) := by decide +kernel
theorem dL_law_2932 : decode cL_law 2932 = .ok (.iadd, 1) := by decide +kernel
theorem dL_law_2933 : decode cL_law 2933 = .ok (.iaload, 1) := by decide +kernel
theorem dL_law_2934 : decode cL_law 2934 = .ok (.aload_n 3, 1) := by decide +kernel
theorem dL_law_2935 : decode cL_law 2935 = .ok (.invokestatic 340, 3) := by decide +kernel
theorem dL_law_2938 : decode cL_law 2938 = .ok (.istore 6, 2) := by decide +kernel
theorem dL_law_2940 : decode cL_law 2940 = .ok (.aload_n 2, 1) := by decide +kernel
theorem dL_law_2941 : decode cL_law 2941 = .ok (.aload_n 0, 1) := by decide +kernel
theorem dL_law_2942 : decode cL_law 2942 = .ok (.iload 5, 2) := by decide +kernel
theorem dL_law_2944 : decode cL_law 2944 = .ok (.iconst 1, 1) := by decide +kernel
theorem dL_law_2945 : decode cL_law 2945 = .ok (.iadd, 1) := by decide +kernel
theorem dL_law_2946 : decode cL_law 2946 = .ok (.iaload, 1) := by decide +kernel
theorem dL_law_2947 : decode cL_law 2947 = .ok (.invokevirtual 342, 3) := by decide +kernel
theorem dL_law_2950 : decode cL_law 2950 = .ok (.istore 7, 2) := by decide +kernel
theorem dL_law_2952 : decode cL_law 2952 = .ok (.aload_n 2, 1) := by decide +kernel
theorem dL_law_2953 : decode cL_law 2953 = .ok (.invokevirtual 211, 3) := by decide +kernel
theorem dL_law_2956 : decode cL_law 2956 = .ok (.iload 6, 2) := by decide +kernel
theorem dL_law_2958 : decode cL_law 2958 = .ok (.if_icmp .eq 5, 3) := by decide +kernel
theorem dL_law_2963 : decode cL_law 2963 = .ok (.iload 6, 2) := by decide +kernel
theorem dL_law_2965 : decode cL_law 2965 = .ok (.ifCond .ne 15, 3) := by decide +kernel
theorem dL_law_2980 : decode cL_law 2980 = .ok (.goto 924, 3) := by decide +kernel
set_option maxHeartbeats 4000000 in
set_option maxRecDepth 100000 in
theorem law_c32 (l : Launch) (hlT : l.stackTraces = false) {p : Program} {e : Env} {s : State} {m : MethodId} {below : List Frame} {meth : Method} {c : Code} {Q : State → Prop} {D : va_G} {A : Nat → Prop} {b : Nat} {xs : Nat → Int32} {x m7 o o2 : Nat} {rx rm : Nat → Nat} {cO cD : ClassId} {fo : Nat → Int64} {fd : Nat → UInt64} {H : Heap} {locs : List Loc} {ls : Array Slot} (hx : p.tables.exec = Jvm.exec) (hb : c.code = cL_law) (hml : c.maxLocals = 9) (hown : s.vm.findClass RL = some m.cls) (hts : ∀ w ∈ wsL_law, w.before #[Value.ref b] s = true) (hX : va_X b 7 xs s s.heap) (hbl : b < s.heap.size) (hbA : ¬ A b) (hA : ∀ q : Nat, s.heap.size ≤ q → A q) (hT : tf A s s.heap)
    (hK : va_K D vwCl [(cO, .long), (cD, .double)] s) (hP : va_P D vwCl [(x, .inr (12, [.ref (rx 0), .ref (rx 1), .ref (rx 2), .ref (rx 3), .int 0, .int 0, .int 1, .int 110, .int 0, .int 115, .int 0, .int 0, .int 0, .int 0])), (m7, .inr (13, [.ref (rm 0), .ref (rm 1), .ref (rm 2), .ref (rm 3), .ref (rm 4), .ref (rm 5), .ref (rm 6), .ref (rm 7), .ref (rm 8), .ref (rm 9), .ref (rm 10), .ref (rm 11), .ref (rm 12), .ref (rm 13), .ref (rm 14), .ref (rm 15), .int 0, .int 0, .int 1, .int 110, .int 0, .int 0, .int 0, .int 0, .int 0, .int 0, .int 0, .int 0, .int 0, .int 0, .int 0])), (o, .inl (cO, 1, .inr (.inl fo))), (o2, .inl (cD, 1, .inr (.inr (.inr (.inl fd)))))] H) (hD : va_D A [(x, .inr (12, [.ref (rx 0), .ref (rx 1), .ref (rx 2), .ref (rx 3), .int 0, .int 0, .int 1, .int 110, .int 0, .int 115, .int 0, .int 0, .int 0, .int 0])), (m7, .inr (13, [.ref (rm 0), .ref (rm 1), .ref (rm 2), .ref (rm 3), .ref (rm 4), .ref (rm 5), .ref (rm 6), .ref (rm 7), .ref (rm 8), .ref (rm 9), .ref (rm 10), .ref (rm 11), .ref (rm 12), .ref (rm 13), .ref (rm 14), .ref (rm 15), .int 0, .int 0, .int 1, .int 110, .int 0, .int 0, .int 0, .int 0, .int 0, .int 0, .int 0, .int 0, .int 0, .int 0, .int 0])), (o, .inl (cO, 1, .inr (.inl fo))), (o2, .inl (cD, 1, .inr (.inr (.inr (.inl fd)))))]) (hS : va_S A s.heap H locs) (hl : lv_has ls 9 [(0, .ref b), (1, .ref x), (2, .ref m7), (3, .ref o), (4, .ref o2), (5, .int 0)])
    (kk : ∀ (H : Heap) (locs : List Loc) (ls : Array Slot), va_S A s.heap H locs → lv_has ls 9 [(0, .ref b), (5, .int 0)] → W p l e room_1 s m #[Value.ref b] below meth c H locs 200 12100 Q (F0 m 3904 ls [])) :
    W p l e room_1 s m #[Value.ref b] below meth c H locs 140 11923 Q (F0 m 2502 ls []) := by
  obtain ⟨a1, ea1⟩ : ∃ z, z = xs (1 : Int32).toNatClampNeg := ⟨_, rfl⟩
  obtain ⟨a2, ea2⟩ : ∃ z, z = xs (2 : Int32).toNatClampNeg := ⟨_, rfl⟩
  obtain ⟨a3, ea3⟩ : ∃ z, z = xs (3 : Int32).toNatClampNeg := ⟨_, rfl⟩
  obtain ⟨a4, ea4⟩ : ∃ z, z = xs (4 : Int32).toNatClampNeg := ⟨_, rfl⟩
  obtain ⟨a5, ea5⟩ : ∃ z, z = xs (5 : Int32).toNatClampNeg := ⟨_, rfl⟩
  obtain ⟨a6, ea6⟩ : ∃ z, z = xs (6 : Int32).toNatClampNeg := ⟨_, rfl⟩
  refine lv_aload_n hx hb dL_law_2502 rfl (lv_at hl 1 rfl) ?_
  refine lv_aload_n hx hb dL_law_2503 rfl (lv_at hl 0 rfl) ?_
  refine lv_iload hx hb dL_law_2504 (lv_at hl 5 rfl) ?_
  refine lv_iconst (v := 1) hx hb dL_law_2506 (by decide) ?_
  refine lv_iadd hx hb dL_law_2507 ?_
  refine lv_topi (fun y1 ey1 => ?_)
  obtain rfl : y1 = 1 := ey1.trans (by decide)
  refine va_sld hx hb hX hbl hbA hS (vp_in_nI (n := 1) (by decide) (by decide)) dL_law_2508 ?_
  rw [← ea1]
  refine lv_aload_n hx hb dL_law_2509 rfl (lv_at hl 3 rfl) ?_
  have hPc := hP.sub (ws' := [(x, .inr (12, [.ref (rx 0), .ref (rx 1), .ref (rx 2), .ref (rx 3), .int 0, .int 0, .int 1, .int 110, .int 0, .int 115, .int 0, .int 0, .int 0, .int 0]))]) [0] rfl
  have hDc := hD.sub (ws' := [(x, .inr (12, [.ref (rx 0), .ref (rx 1), .ref (rx 2), .ref (rx 3), .int 0, .int 0, .int 1, .int 110, .int 0, .int 115, .int 0, .int 0, .int 0, .int 0]))]) [0] (by decide) rfl
  have hKc := hK.sub (tys' := []) [] rfl
  have hFc := va_free (wc := [(x, .inr (12, [.ref (rx 0), .ref (rx 1), .ref (rx 2), .ref (rx 3), .int 0, .int 0, .int 1, .int 110, .int 0, .int 115, .int 0, .int 0, .int 0, .int 0]))]) hD hS hA [0] rfl
  refine va_calli (vx_runSW (As := [.ref x, .int a1, .ref o]) (rest := []) ⟨hx, hb, hml, hown, hts⟩ (c_L_penalties l hlT D x rx o H.size a1) (vx_cwSW 3 hts gL_law_L_penalties rfl rfl rfl (by decide +kernel) ⟨Nat.le_of_ble_eq_true rfl, Nat.le_of_ble_eq_true rfl⟩) ⟨fun a U g mk q => ⟨q.1, PX6.blind q.2⟩, fun U hU hW => ⟨rfl, PX6.go hPc hKc hT hS hA hU hW⟩⟩ rfl rfl hl.1 rfl (lv_room (Nat.le_of_ble_eq_true rfl)) dL_law_2510 ⟨Nat.le_of_ble_eq_true rfl, Nat.le_of_ble_eq_true rfl⟩) hS (fun q h1 h2 => absurd h1 (Nat.not_lt.mpr h2)) (fun q h => hA q (Nat.le_trans hS.1 h)) (fun r2 u t H1 locs ht hvm hw hB hz1 hk1 hS => ?_)
  have hP := va_kept0 hP hk1
  generalize H1 = H at hP hS ⊢
  have hP : va_P D vwCl [(x, .inr (12, [.ref (rx 0), .ref (rx 1), .ref (rx 2), .ref (rx 3), .int 0, .int 0, .int 1, .int 110, .int 0, .int 115, .int 0, .int 0, .int 0, .int 0])), (m7, .inr (13, [.ref (rm 0), .ref (rm 1), .ref (rm 2), .ref (rm 3), .ref (rm 4), .ref (rm 5), .ref (rm 6), .ref (rm 7), .ref (rm 8), .ref (rm 9), .ref (rm 10), .ref (rm 11), .ref (rm 12), .ref (rm 13), .ref (rm 14), .ref (rm 15), .int 0, .int 0, .int 1, .int 110, .int 0, .int 0, .int 0, .int 0, .int 0, .int 0, .int 0, .int 0, .int 0, .int 0, .int 0])), (o, .inl (cO, 1, .inr (.inl fo))), (o2, .inl (cD, 1, .inr (.inr (.inr (.inl fd)))))] H := hP
  have hD := hD
  refine W.widen (k := 141) (n := 11929) (Nat.le_of_ble_eq_true rfl) (Nat.le_of_ble_eq_true rfl) ?_
  obtain rfl : r2 = 1 := hw
  refine lv_istore (lv' := [(6, .int 1), (0, .ref b), (1, .ref x), (2, .ref m7), (3, .ref o), (4, .ref o2), (5, .int 0)]) hx hb dL_law_2513 hl (by decide) rfl (fun ls hl => ?_)
  refine lv_aload_n hx hb dL_law_2515 rfl (lv_at hl 3 rfl) ?_
  refine lv_aload_n hx hb dL_law_2516 rfl (lv_at hl 1 rfl) ?_
  refine lv_iload hx hb dL_law_2517 (lv_at hl 6 rfl) ?_
  refine lv_iconst (v := 1) hx hb dL_law_2519 (by decide) ?_
  refine lv_iadd hx hb dL_law_2520 ?_
  refine lv_topi (fun y3 ey3 => ?_)
  obtain rfl : y3 = 1 := ey3.trans (by decide)
  refine va_sld hx hb hX hbl hbA hS (vp_in_nI (n := 1) (by decide) (by decide)) dL_law_2521 ?_
  rw [← ea1]
  have hPc := hP.sub (ws' := [(m7, .inr (13, [.ref (rm 0), .ref (rm 1), .ref (rm 2), .ref (rm 3), .ref (rm 4), .ref (rm 5), .ref (rm 6), .ref (rm 7), .ref (rm 8), .ref (rm 9), .ref (rm 10), .ref (rm 11), .ref (rm 12), .ref (rm 13), .ref (rm 14), .ref (rm 15), .int 0, .int 0, .int 1, .int 110, .int 0, .int 0, .int 0, .int 0, .int 0, .int 0, .int 0, .int 0, .int 0, .int 0, .int 0]))]) [1] rfl
  have hDc := hD.sub (ws' := [(m7, .inr (13, [.ref (rm 0), .ref (rm 1), .ref (rm 2), .ref (rm 3), .ref (rm 4), .ref (rm 5), .ref (rm 6), .ref (rm 7), .ref (rm 8), .ref (rm 9), .ref (rm 10), .ref (rm 11), .ref (rm 12), .ref (rm 13), .ref (rm 14), .ref (rm 15), .int 0, .int 0, .int 1, .int 110, .int 0, .int 0, .int 0, .int 0, .int 0, .int 0, .int 0, .int 0, .int 0, .int 0, .int 0]))]) [1] (by decide) rfl
  have hKc := hK.sub (tys' := []) [] rfl
  have hFc := va_free (wc := [(m7, .inr (13, [.ref (rm 0), .ref (rm 1), .ref (rm 2), .ref (rm 3), .ref (rm 4), .ref (rm 5), .ref (rm 6), .ref (rm 7), .ref (rm 8), .ref (rm 9), .ref (rm 10), .ref (rm 11), .ref (rm 12), .ref (rm 13), .ref (rm 14), .ref (rm 15), .int 0, .int 0, .int 1, .int 110, .int 0, .int 0, .int 0, .int 0, .int 0, .int 0, .int 0, .int 0, .int 0, .int 0, .int 0]))]) hD hS hA [1] rfl
  have hFr : ∀ q : Nat, rg1 m7 H.size q → A q := fun q h => hFc q (va_Arg1 q h)
  refine va_calli (va_runV (As := [.int a1]) (rest := []) ⟨hx, hb, hml, hown, hts⟩ (c_X7_penalties l D m7 rm H.size a1) (cwV 1 hts gL_law_X7_penalties rfl rfl rfl (by decide +kernel) ⟨Nat.le_of_ble_eq_true rfl, Nat.le_of_ble_eq_true rfl⟩) ⟨fun a U g mk q => ⟨q.1, PX7.blind q.2⟩, va_recv hK hP (ci := 13) (q0 := 1) rfl rfl, fun U hU hW => ⟨rfl, PX7.go hPc hKc hU hW⟩⟩ rfl rfl hl.1 rfl (lv_room (Nat.le_of_ble_eq_true rfl)) dL_law_2522 ⟨Nat.le_of_ble_eq_true rfl, Nat.le_of_ble_eq_true rfl⟩) hS (fun q _ h => hFr q h) hFr (fun r4 u t H1 locs ht hvm hw hB hz1 hk1 hS => ?_)
  obtain ⟨um, eum⟩ : ∃ z, z = u := ⟨_, rfl⟩
  rw [← eum] at hB hw
  rw [ht] at hB
  have hP1 := hB
  have hD1 : va_D (va_A [(m7, .inr (13, [.ref (rm 0), .ref (rm 1), .ref (rm 2), .ref (rm 3), .ref (rm 4), .ref (rm 5), .ref (rm 6), .ref (rm 7), .ref (rm 8), .ref (rm 9), .ref (rm 10), .ref (rm 11), .ref (rm 12), .ref (rm 13), .ref (rm 14), .ref (rm 15), .int 0, .int 0, .int 1, .int 110, .int 0, .int 0, .int 0, .int 0, .int 0, .int 0, .int 0, .int 0, .int 0, .int 0, .int 0]))] H.size) [(m7, .inr (13, um))] := va_D1 (Or.inl ⟨0, _, rfl⟩)
  have hk1 : ∀ q : Nat, q < H.size → ¬ va_A [(m7, .inr (13, [.ref (rm 0), .ref (rm 1), .ref (rm 2), .ref (rm 3), .ref (rm 4), .ref (rm 5), .ref (rm 6), .ref (rm 7), .ref (rm 8), .ref (rm 9), .ref (rm 10), .ref (rm 11), .ref (rm 12), .ref (rm 13), .ref (rm 14), .ref (rm 15), .int 0, .int 0, .int 1, .int 110, .int 0, .int 0, .int 0, .int 0, .int 0, .int 0, .int 0, .int 0, .int 0, .int 0, .int 0]))] H.size q → H1[q]? = H[q]? := fun q h1 h2 => hk1 q h1 (fun h3 => h2 (va_Arg1 q h3))
  obtain ⟨hP, hD⟩ := va_join (wr := [(x, .inr (12, [.ref (rx 0), .ref (rx 1), .ref (rx 2), .ref (rx 3), .int 0, .int 0, .int 1, .int 110, .int 0, .int 115, .int 0, .int 0, .int 0, .int 0])), (o, .inl (cO, 1, .inr (.inl fo))), (o2, .inl (cD, 1, .inr (.inr (.inr (.inl fd)))))]) (w1 := [(m7, .inr (13, um))]) hP hD [1] [0, 2, 3] rfl rfl (by decide) (by decide) hk1 hFc hP1 hD1
  generalize H1 = H at hP hS ⊢
  have hP : va_P D vwCl [(x, .inr (12, [.ref (rx 0), .ref (rx 1), .ref (rx 2), .ref (rx 3), .int 0, .int 0, .int 1, .int 110, .int 0, .int 115, .int 0, .int 0, .int 0, .int 0])), (o, .inl (cO, 1, .inr (.inl fo))), (o2, .inl (cD, 1, .inr (.inr (.inr (.inl fd))))), (m7, .inr (13, um))] H := hP
  have hD : va_D A [(x, .inr (12, [.ref (rx 0), .ref (rx 1), .ref (rx 2), .ref (rx 3), .int 0, .int 0, .int 1, .int 110, .int 0, .int 115, .int 0, .int 0, .int 0, .int 0])), (o, .inl (cO, 1, .inr (.inl fo))), (o2, .inl (cD, 1, .inr (.inr (.inr (.inl fd))))), (m7, .inr (13, um))] := hD
  refine W.widen (k := 141) (n := 11929) (Nat.le_of_ble_eq_true rfl) (Nat.le_of_ble_eq_true rfl) ?_
  have hu30 := hw
  refine lv_istore (lv' := [(7, .int r4), (6, .int 1), (0, .ref b), (1, .ref x), (2, .ref m7), (3, .ref o), (4, .ref o2), (5, .int 0)]) hx hb dL_law_2525 hl (by decide) rfl (fun ls hl => ?_)
  refine lv_aload_n hx hb dL_law_2527 rfl (lv_at hl 4 rfl) ?_
  have hPc := hP.sub (ws' := [(m7, .inr (13, um))]) [3] rfl
  have hKc := hK.sub (tys' := []) [] rfl
  refine va_calli (va_runV (As := []) (rest := []) ⟨hx, hb, hml, hown, hts⟩ (c_X7_thrown l D m7 um 1 hu30 H.size) (cwV 0 hts gL_law_X7_thrown rfl rfl rfl (by decide +kernel) ⟨Nat.le_of_ble_eq_true rfl, Nat.le_of_ble_eq_true rfl⟩) ⟨fun a U g mk q => ⟨q.1, q.2.1, q.2.2.1, va_K.moved (u := U) (U := U.calling g mk a) (Vm.Alike.refl U.vm) q.2.2.2⟩, va_recv hK hP (ci := 13) (q0 := 3) rfl rfl, fun U hU hW => ⟨rfl, congrArg Array.size hU, by rw [hU]; exact hPc, va_K.moved hW.alike hKc⟩⟩ rfl rfl hl.1 rfl (lv_room (Nat.le_of_ble_eq_true rfl)) dL_law_2528 ⟨Nat.le_of_ble_eq_true rfl, Nat.le_of_ble_eq_true rfl⟩) hS (fun q h1 h2 => absurd h1 (Nat.not_lt.mpr h2)) (fun q h => hA q (Nat.le_trans hS.1 h)) (fun r5 u t H1 locs ht hvm hw hB hz1 hk1 hS => ?_)
  have hP := va_kept0 hP hk1
  generalize H1 = H at hP hS ⊢
  have hP : va_P D vwCl [(x, .inr (12, [.ref (rx 0), .ref (rx 1), .ref (rx 2), .ref (rx 3), .int 0, .int 0, .int 1, .int 110, .int 0, .int 115, .int 0, .int 0, .int 0, .int 0])), (o, .inl (cO, 1, .inr (.inl fo))), (o2, .inl (cD, 1, .inr (.inr (.inr (.inl fd))))), (m7, .inr (13, um))] H := hP
  obtain rfl : r5 = 1 := hw
  refine lv_iload hx hb dL_law_2531 (lv_at hl 1 rfl) ?_
  refine lv_icmp_eq (tgt := 2538) hx hb dL_law_2533 (by decide) (fun _ => ?_) (fun c => by first | exact absurd (by decide) c | exact absurd c (by decide))
  refine lv_iload hx hb dL_law_2538 (lv_at hl 1 rfl) ?_
  refine lv_if_ne (tgt := 2555) hx hb dL_law_2540 (by decide) (fun _ => ?_) (fun c => by first | exact absurd (by decide) c | exact absurd c (by decide))
  refine lv_goto (tgt := 3904) hx hb dL_law_2555 (by decide) ?_
  refine W.widen (k := 200) (n := 12100) (Nat.le_of_ble_eq_true rfl) (Nat.le_of_ble_eq_true rfl) ?_
  exact kk H locs ls hS (lv_sub hl [2, 7] rfl)
set_option maxHeartbeats 4000000 in
set_option maxRecDepth 100000 in
theorem law_c33 (l : Launch) (hlT : l.stackTraces = false) {p : Program} {e : Env} {s : State} {m : MethodId} {below : List Frame} {meth : Method} {c : Code} {Q : State → Prop} {D : va_G} {A : Nat → Prop} {b : Nat} {xs : Nat → Int32} {x m7 o o2 : Nat} {rx rm : Nat → Nat} {cO cD : ClassId} {fo : Nat → Int64} {fd : Nat → UInt64} {H : Heap} {locs : List Loc} {ls : Array Slot} (hx : p.tables.exec = Jvm.exec) (hb : c.code = cL_law) (hml : c.maxLocals = 9) (hown : s.vm.findClass RL = some m.cls) (hts : ∀ w ∈ wsL_law, w.before #[Value.ref b] s = true) (hX : va_X b 7 xs s s.heap) (hbl : b < s.heap.size) (hbA : ¬ A b) (hA : ∀ q : Nat, s.heap.size ≤ q → A q) (hT : tf A s s.heap)
    (hK : va_K D vwCl [(cO, .long), (cD, .double)] s) (hP : va_P D vwCl [(x, .inr (12, [.ref (rx 0), .ref (rx 1), .ref (rx 2), .ref (rx 3), .int 0, .int 0, .int 1, .int 110, .int 0, .int 115, .int 0, .int 0, .int 0, .int 0])), (m7, .inr (13, [.ref (rm 0), .ref (rm 1), .ref (rm 2), .ref (rm 3), .ref (rm 4), .ref (rm 5), .ref (rm 6), .ref (rm 7), .ref (rm 8), .ref (rm 9), .ref (rm 10), .ref (rm 11), .ref (rm 12), .ref (rm 13), .ref (rm 14), .ref (rm 15), .int 0, .int 0, .int 1, .int 110, .int 0, .int 0, .int 0, .int 0, .int 0, .int 0, .int 0, .int 0, .int 0, .int 0, .int 0])), (o, .inl (cO, 1, .inr (.inl fo))), (o2, .inl (cD, 1, .inr (.inr (.inr (.inl fd)))))] H) (hD : va_D A [(x, .inr (12, [.ref (rx 0), .ref (rx 1), .ref (rx 2), .ref (rx 3), .int 0, .int 0, .int 1, .int 110, .int 0, .int 115, .int 0, .int 0, .int 0, .int 0])), (m7, .inr (13, [.ref (rm 0), .ref (rm 1), .ref (rm 2), .ref (rm 3), .ref (rm 4), .ref (rm 5), .ref (rm 6), .ref (rm 7), .ref (rm 8), .ref (rm 9), .ref (rm 10), .ref (rm 11), .ref (rm 12), .ref (rm 13), .ref (rm 14), .ref (rm 15), .int 0, .int 0, .int 1, .int 110, .int 0, .int 0, .int 0, .int 0, .int 0, .int 0, .int 0, .int 0, .int 0, .int 0, .int 0])), (o, .inl (cO, 1, .inr (.inl fo))), (o2, .inl (cD, 1, .inr (.inr (.inr (.inl fd)))))]) (hS : va_S A s.heap H locs) (hl : lv_has ls 9 [(0, .ref b), (1, .ref x), (2, .ref m7), (3, .ref o), (4, .ref o2), (5, .int 0)])
    (kk : ∀ (H : Heap) (locs : List Loc) (ls : Array Slot), va_S A s.heap H locs → lv_has ls 9 [(0, .ref b), (5, .int 0)] → W p l e room_1 s m #[Value.ref b] below meth c H locs 200 12100 Q (F0 m 3904 ls [])) :
    W p l e room_1 s m #[Value.ref b] below meth c H locs 140 11923 Q (F0 m 2558 ls []) := by
  obtain ⟨a1, ea1⟩ : ∃ z, z = xs (1 : Int32).toNatClampNeg := ⟨_, rfl⟩
  obtain ⟨a2, ea2⟩ : ∃ z, z = xs (2 : Int32).toNatClampNeg := ⟨_, rfl⟩
  obtain ⟨a3, ea3⟩ : ∃ z, z = xs (3 : Int32).toNatClampNeg := ⟨_, rfl⟩
  obtain ⟨a4, ea4⟩ : ∃ z, z = xs (4 : Int32).toNatClampNeg := ⟨_, rfl⟩
  obtain ⟨a5, ea5⟩ : ∃ z, z = xs (5 : Int32).toNatClampNeg := ⟨_, rfl⟩
  obtain ⟨a6, ea6⟩ : ∃ z, z = xs (6 : Int32).toNatClampNeg := ⟨_, rfl⟩
  refine lv_aload_n hx hb dL_law_2558 rfl (lv_at hl 1 rfl) ?_
  refine lv_aload_n hx hb dL_law_2559 rfl (lv_at hl 0 rfl) ?_
  refine lv_iload hx hb dL_law_2560 (lv_at hl 5 rfl) ?_
  refine lv_iconst (v := 1) hx hb dL_law_2562 (by decide) ?_
  refine lv_iadd hx hb dL_law_2563 ?_
  refine lv_topi (fun y1 ey1 => ?_)
  obtain rfl : y1 = 1 := ey1.trans (by decide)
  refine va_sld hx hb hX hbl hbA hS (vp_in_nI (n := 1) (by decide) (by decide)) dL_law_2564 ?_
  rw [← ea1]
  refine lv_aload_n hx hb dL_law_2565 rfl (lv_at hl 3 rfl) ?_
  have hPc := hP.sub (ws' := [(x, .inr (12, [.ref (rx 0), .ref (rx 1), .ref (rx 2), .ref (rx 3), .int 0, .int 0, .int 1, .int 110, .int 0, .int 115, .int 0, .int 0, .int 0, .int 0]))]) [0] rfl
  have hDc := hD.sub (ws' := [(x, .inr (12, [.ref (rx 0), .ref (rx 1), .ref (rx 2), .ref (rx 3), .int 0, .int 0, .int 1, .int 110, .int 0, .int 115, .int 0, .int 0, .int 0, .int 0]))]) [0] (by decide) rfl
  have hKc := hK.sub (tys' := []) [] rfl
  have hFc := va_free (wc := [(x, .inr (12, [.ref (rx 0), .ref (rx 1), .ref (rx 2), .ref (rx 3), .int 0, .int 0, .int 1, .int 110, .int 0, .int 115, .int 0, .int 0, .int 0, .int 0]))]) hD hS hA [0] rfl
  refine va_calli (vx_runSW (As := [.ref x, .int a1, .ref o]) (rest := []) ⟨hx, hb, hml, hown, hts⟩ (c_L_isOut l hlT D x rx o H.size a1) (vx_cwSW 3 hts gL_law_L_isOut rfl rfl rfl (by decide +kernel) ⟨Nat.le_of_ble_eq_true rfl, Nat.le_of_ble_eq_true rfl⟩) ⟨fun a U g mk q => ⟨q.1, PX6.blind q.2⟩, fun U hU hW => ⟨rfl, PX6.go hPc hKc hT hS hA hU hW⟩⟩ rfl rfl hl.1 rfl (lv_room (Nat.le_of_ble_eq_true rfl)) dL_law_2566 ⟨Nat.le_of_ble_eq_true rfl, Nat.le_of_ble_eq_true rfl⟩) hS (fun q h1 h2 => absurd h1 (Nat.not_lt.mpr h2)) (fun q h => hA q (Nat.le_trans hS.1 h)) (fun r2 u t H1 locs ht hvm hw hB hz1 hk1 hS => ?_)
  have hP := va_kept0 hP hk1
  generalize H1 = H at hP hS ⊢
  have hP : va_P D vwCl [(x, .inr (12, [.ref (rx 0), .ref (rx 1), .ref (rx 2), .ref (rx 3), .int 0, .int 0, .int 1, .int 110, .int 0, .int 115, .int 0, .int 0, .int 0, .int 0])), (m7, .inr (13, [.ref (rm 0), .ref (rm 1), .ref (rm 2), .ref (rm 3), .ref (rm 4), .ref (rm 5), .ref (rm 6), .ref (rm 7), .ref (rm 8), .ref (rm 9), .ref (rm 10), .ref (rm 11), .ref (rm 12), .ref (rm 13), .ref (rm 14), .ref (rm 15), .int 0, .int 0, .int 1, .int 110, .int 0, .int 0, .int 0, .int 0, .int 0, .int 0, .int 0, .int 0, .int 0, .int 0, .int 0])), (o, .inl (cO, 1, .inr (.inl fo))), (o2, .inl (cD, 1, .inr (.inr (.inr (.inl fd)))))] H := hP
  have hD := hD
  refine W.widen (k := 141) (n := 11929) (Nat.le_of_ble_eq_true rfl) (Nat.le_of_ble_eq_true rfl) ?_
  obtain rfl : r2 = 1 := hw
  refine lv_istore (lv' := [(6, .int 1), (0, .ref b), (1, .ref x), (2, .ref m7), (3, .ref o), (4, .ref o2), (5, .int 0)]) hx hb dL_law_2569 hl (by decide) rfl (fun ls hl => ?_)
  refine lv_aload_n hx hb dL_law_2571 rfl (lv_at hl 3 rfl) ?_
  refine lv_aload_n hx hb dL_law_2572 rfl (lv_at hl 1 rfl) ?_
  refine lv_iload hx hb dL_law_2573 (lv_at hl 6 rfl) ?_
  refine lv_iconst (v := 1) hx hb dL_law_2575 (by decide) ?_
  refine lv_iadd hx hb dL_law_2576 ?_
  refine lv_topi (fun y3 ey3 => ?_)
  obtain rfl : y3 = 1 := ey3.trans (by decide)
  refine va_sld hx hb hX hbl hbA hS (vp_in_nI (n := 1) (by decide) (by decide)) dL_law_2577 ?_
  rw [← ea1]
  have hPc := hP.sub (ws' := [(m7, .inr (13, [.ref (rm 0), .ref (rm 1), .ref (rm 2), .ref (rm 3), .ref (rm 4), .ref (rm 5), .ref (rm 6), .ref (rm 7), .ref (rm 8), .ref (rm 9), .ref (rm 10), .ref (rm 11), .ref (rm 12), .ref (rm 13), .ref (rm 14), .ref (rm 15), .int 0, .int 0, .int 1, .int 110, .int 0, .int 0, .int 0, .int 0, .int 0, .int 0, .int 0, .int 0, .int 0, .int 0, .int 0]))]) [1] rfl
  have hDc := hD.sub (ws' := [(m7, .inr (13, [.ref (rm 0), .ref (rm 1), .ref (rm 2), .ref (rm 3), .ref (rm 4), .ref (rm 5), .ref (rm 6), .ref (rm 7), .ref (rm 8), .ref (rm 9), .ref (rm 10), .ref (rm 11), .ref (rm 12), .ref (rm 13), .ref (rm 14), .ref (rm 15), .int 0, .int 0, .int 1, .int 110, .int 0, .int 0, .int 0, .int 0, .int 0, .int 0, .int 0, .int 0, .int 0, .int 0, .int 0]))]) [1] (by decide) rfl
  have hKc := hK.sub (tys' := []) [] rfl
  have hFc := va_free (wc := [(m7, .inr (13, [.ref (rm 0), .ref (rm 1), .ref (rm 2), .ref (rm 3), .ref (rm 4), .ref (rm 5), .ref (rm 6), .ref (rm 7), .ref (rm 8), .ref (rm 9), .ref (rm 10), .ref (rm 11), .ref (rm 12), .ref (rm 13), .ref (rm 14), .ref (rm 15), .int 0, .int 0, .int 1, .int 110, .int 0, .int 0, .int 0, .int 0, .int 0, .int 0, .int 0, .int 0, .int 0, .int 0, .int 0]))]) hD hS hA [1] rfl
  have hFr : ∀ q : Nat, rg1 m7 H.size q → A q := fun q h => hFc q (va_Arg1 q h)
  refine va_calli (va_runV (As := [.int a1]) (rest := []) ⟨hx, hb, hml, hown, hts⟩ (c_X7_isOut l D m7 rm H.size a1) (cwV 1 hts gL_law_X7_isOut rfl rfl rfl (by decide +kernel) ⟨Nat.le_of_ble_eq_true rfl, Nat.le_of_ble_eq_true rfl⟩) ⟨fun a U g mk q => ⟨q.1, PX7.blind q.2⟩, va_recv hK hP (ci := 13) (q0 := 1) rfl rfl, fun U hU hW => ⟨rfl, PX7.go hPc hKc hU hW⟩⟩ rfl rfl hl.1 rfl (lv_room (Nat.le_of_ble_eq_true rfl)) dL_law_2578 ⟨Nat.le_of_ble_eq_true rfl, Nat.le_of_ble_eq_true rfl⟩) hS (fun q _ h => hFr q h) hFr (fun r4 u t H1 locs ht hvm hw hB hz1 hk1 hS => ?_)
  obtain ⟨um, eum⟩ : ∃ z, z = u := ⟨_, rfl⟩
  rw [← eum] at hB hw
  rw [ht] at hB
  have hP1 := hB
  have hD1 : va_D (va_A [(m7, .inr (13, [.ref (rm 0), .ref (rm 1), .ref (rm 2), .ref (rm 3), .ref (rm 4), .ref (rm 5), .ref (rm 6), .ref (rm 7), .ref (rm 8), .ref (rm 9), .ref (rm 10), .ref (rm 11), .ref (rm 12), .ref (rm 13), .ref (rm 14), .ref (rm 15), .int 0, .int 0, .int 1, .int 110, .int 0, .int 0, .int 0, .int 0, .int 0, .int 0, .int 0, .int 0, .int 0, .int 0, .int 0]))] H.size) [(m7, .inr (13, um))] := va_D1 (Or.inl ⟨0, _, rfl⟩)
  have hk1 : ∀ q : Nat, q < H.size → ¬ va_A [(m7, .inr (13, [.ref (rm 0), .ref (rm 1), .ref (rm 2), .ref (rm 3), .ref (rm 4), .ref (rm 5), .ref (rm 6), .ref (rm 7), .ref (rm 8), .ref (rm 9), .ref (rm 10), .ref (rm 11), .ref (rm 12), .ref (rm 13), .ref (rm 14), .ref (rm 15), .int 0, .int 0, .int 1, .int 110, .int 0, .int 0, .int 0, .int 0, .int 0, .int 0, .int 0, .int 0, .int 0, .int 0, .int 0]))] H.size q → H1[q]? = H[q]? := fun q h1 h2 => hk1 q h1 (fun h3 => h2 (va_Arg1 q h3))
  obtain ⟨hP, hD⟩ := va_join (wr := [(x, .inr (12, [.ref (rx 0), .ref (rx 1), .ref (rx 2), .ref (rx 3), .int 0, .int 0, .int 1, .int 110, .int 0, .int 115, .int 0, .int 0, .int 0, .int 0])), (o, .inl (cO, 1, .inr (.inl fo))), (o2, .inl (cD, 1, .inr (.inr (.inr (.inl fd)))))]) (w1 := [(m7, .inr (13, um))]) hP hD [1] [0, 2, 3] rfl rfl (by decide) (by decide) hk1 hFc hP1 hD1
  generalize H1 = H at hP hS ⊢
  have hP : va_P D vwCl [(x, .inr (12, [.ref (rx 0), .ref (rx 1), .ref (rx 2), .ref (rx 3), .int 0, .int 0, .int 1, .int 110, .int 0, .int 115, .int 0, .int 0, .int 0, .int 0])), (o, .inl (cO, 1, .inr (.inl fo))), (o2, .inl (cD, 1, .inr (.inr (.inr (.inl fd))))), (m7, .inr (13, um))] H := hP
  have hD : va_D A [(x, .inr (12, [.ref (rx 0), .ref (rx 1), .ref (rx 2), .ref (rx 3), .int 0, .int 0, .int 1, .int 110, .int 0, .int 115, .int 0, .int 0, .int 0, .int 0])), (o, .inl (cO, 1, .inr (.inl fo))), (o2, .inl (cD, 1, .inr (.inr (.inr (.inl fd))))), (m7, .inr (13, um))] := hD
  refine W.widen (k := 141) (n := 11929) (Nat.le_of_ble_eq_true rfl) (Nat.le_of_ble_eq_true rfl) ?_
  have hu30 := hw
  refine lv_istore (lv' := [(7, .int r4), (6, .int 1), (0, .ref b), (1, .ref x), (2, .ref m7), (3, .ref o), (4, .ref o2), (5, .int 0)]) hx hb dL_law_2581 hl (by decide) rfl (fun ls hl => ?_)
  refine lv_aload_n hx hb dL_law_2583 rfl (lv_at hl 4 rfl) ?_
  have hPc := hP.sub (ws' := [(m7, .inr (13, um))]) [3] rfl
  have hKc := hK.sub (tys' := []) [] rfl
  refine va_calli (va_runV (As := []) (rest := []) ⟨hx, hb, hml, hown, hts⟩ (c_X7_thrown l D m7 um 1 hu30 H.size) (cwV 0 hts gL_law_X7_thrown rfl rfl rfl (by decide +kernel) ⟨Nat.le_of_ble_eq_true rfl, Nat.le_of_ble_eq_true rfl⟩) ⟨fun a U g mk q => ⟨q.1, q.2.1, q.2.2.1, va_K.moved (u := U) (U := U.calling g mk a) (Vm.Alike.refl U.vm) q.2.2.2⟩, va_recv hK hP (ci := 13) (q0 := 3) rfl rfl, fun U hU hW => ⟨rfl, congrArg Array.size hU, by rw [hU]; exact hPc, va_K.moved hW.alike hKc⟩⟩ rfl rfl hl.1 rfl (lv_room (Nat.le_of_ble_eq_true rfl)) dL_law_2584 ⟨Nat.le_of_ble_eq_true rfl, Nat.le_of_ble_eq_true rfl⟩) hS (fun q h1 h2 => absurd h1 (Nat.not_lt.mpr h2)) (fun q h => hA q (Nat.le_trans hS.1 h)) (fun r5 u t H1 locs ht hvm hw hB hz1 hk1 hS => ?_)
  have hP := va_kept0 hP hk1
  generalize H1 = H at hP hS ⊢
  have hP : va_P D vwCl [(x, .inr (12, [.ref (rx 0), .ref (rx 1), .ref (rx 2), .ref (rx 3), .int 0, .int 0, .int 1, .int 110, .int 0, .int 115, .int 0, .int 0, .int 0, .int 0])), (o, .inl (cO, 1, .inr (.inl fo))), (o2, .inl (cD, 1, .inr (.inr (.inr (.inl fd))))), (m7, .inr (13, um))] H := hP
  obtain rfl : r5 = 1 := hw
  refine lv_iload hx hb dL_law_2587 (lv_at hl 1 rfl) ?_
  refine lv_icmp_eq (tgt := 2594) hx hb dL_law_2589 (by decide) (fun _ => ?_) (fun c => by first | exact absurd (by decide) c | exact absurd c (by decide))
  refine lv_iload hx hb dL_law_2594 (lv_at hl 1 rfl) ?_
  refine lv_if_ne (tgt := 2618) hx hb dL_law_2596 (by decide) (fun _ => ?_) (fun c => by first | exact absurd (by decide) c | exact absurd c (by decide))
  refine lv_goto (tgt := 3904) hx hb dL_law_2618 (by decide) ?_
  refine W.widen (k := 200) (n := 12100) (Nat.le_of_ble_eq_true rfl) (Nat.le_of_ble_eq_true rfl) ?_
  exact kk H locs ls hS (lv_sub hl [2, 7] rfl)
set_option maxHeartbeats 4000000 in
set_option maxRecDepth 100000 in
theorem law_c34 (l : Launch) (hlT : l.stackTraces = false) {p : Program} {e : Env} {s : State} {m : MethodId} {below : List Frame} {meth : Method} {c : Code} {Q : State → Prop} {D : va_G} {A : Nat → Prop} {b : Nat} {xs : Nat → Int32} {x m7 o o2 : Nat} {rx rm : Nat → Nat} {cO cD : ClassId} {fo : Nat → Int64} {fd : Nat → UInt64} {H : Heap} {locs : List Loc} {ls : Array Slot} (hx : p.tables.exec = Jvm.exec) (hb : c.code = cL_law) (hml : c.maxLocals = 9) (hown : s.vm.findClass RL = some m.cls) (hts : ∀ w ∈ wsL_law, w.before #[Value.ref b] s = true) (hX : va_X b 7 xs s s.heap) (hbl : b < s.heap.size) (hbA : ¬ A b) (hA : ∀ q : Nat, s.heap.size ≤ q → A q) (hT : tf A s s.heap)
    (hK : va_K D vwCl [(cO, .long), (cD, .double)] s) (hP : va_P D vwCl [(x, .inr (12, [.ref (rx 0), .ref (rx 1), .ref (rx 2), .ref (rx 3), .int 0, .int 0, .int 1, .int 110, .int 0, .int 115, .int 0, .int 0, .int 0, .int 0])), (m7, .inr (13, [.ref (rm 0), .ref (rm 1), .ref (rm 2), .ref (rm 3), .ref (rm 4), .ref (rm 5), .ref (rm 6), .ref (rm 7), .ref (rm 8), .ref (rm 9), .ref (rm 10), .ref (rm 11), .ref (rm 12), .ref (rm 13), .ref (rm 14), .ref (rm 15), .int 0, .int 0, .int 1, .int 110, .int 0, .int 0, .int 0, .int 0, .int 0, .int 0, .int 0, .int 0, .int 0, .int 0, .int 0])), (o, .inl (cO, 1, .inr (.inl fo))), (o2, .inl (cD, 1, .inr (.inr (.inr (.inl fd)))))] H) (hD : va_D A [(x, .inr (12, [.ref (rx 0), .ref (rx 1), .ref (rx 2), .ref (rx 3), .int 0, .int 0, .int 1, .int 110, .int 0, .int 115, .int 0, .int 0, .int 0, .int 0])), (m7, .inr (13, [.ref (rm 0), .ref (rm 1), .ref (rm 2), .ref (rm 3), .ref (rm 4), .ref (rm 5), .ref (rm 6), .ref (rm 7), .ref (rm 8), .ref (rm 9), .ref (rm 10), .ref (rm 11), .ref (rm 12), .ref (rm 13), .ref (rm 14), .ref (rm 15), .int 0, .int 0, .int 1, .int 110, .int 0, .int 0, .int 0, .int 0, .int 0, .int 0, .int 0, .int 0, .int 0, .int 0, .int 0])), (o, .inl (cO, 1, .inr (.inl fo))), (o2, .inl (cD, 1, .inr (.inr (.inr (.inl fd)))))]) (hS : va_S A s.heap H locs) (hl : lv_has ls 9 [(0, .ref b), (1, .ref x), (2, .ref m7), (3, .ref o), (4, .ref o2), (5, .int 0)])
    (kk : ∀ (H : Heap) (locs : List Loc) (ls : Array Slot), va_S A s.heap H locs → lv_has ls 9 [(0, .ref b), (5, .int 0)] → W p l e room_1 s m #[Value.ref b] below meth c H locs 200 12100 Q (F0 m 3904 ls [])) :
    W p l e room_1 s m #[Value.ref b] below meth c H locs 140 11923 Q (F0 m 2621 ls []) := by
  obtain ⟨a1, ea1⟩ : ∃ z, z = xs (1 : Int32).toNatClampNeg := ⟨_, rfl⟩
  obtain ⟨a2, ea2⟩ : ∃ z, z = xs (2 : Int32).toNatClampNeg := ⟨_, rfl⟩
  obtain ⟨a3, ea3⟩ : ∃ z, z = xs (3 : Int32).toNatClampNeg := ⟨_, rfl⟩
  obtain ⟨a4, ea4⟩ : ∃ z, z = xs (4 : Int32).toNatClampNeg := ⟨_, rfl⟩
  obtain ⟨a5, ea5⟩ : ∃ z, z = xs (5 : Int32).toNatClampNeg := ⟨_, rfl⟩
  obtain ⟨a6, ea6⟩ : ∃ z, z = xs (6 : Int32).toNatClampNeg := ⟨_, rfl⟩
  refine lv_aload_n hx hb dL_law_2621 rfl (lv_at hl 1 rfl) ?_
  refine lv_aload_n hx hb dL_law_2622 rfl (lv_at hl 0 rfl) ?_
  refine lv_iload hx hb dL_law_2623 (lv_at hl 5 rfl) ?_
  refine lv_iconst (v := 1) hx hb dL_law_2625 (by decide) ?_
  refine lv_iadd hx hb dL_law_2626 ?_
  refine lv_topi (fun y1 ey1 => ?_)
  obtain rfl : y1 = 1 := ey1.trans (by decide)
  refine va_sld hx hb hX hbl hbA hS (vp_in_nI (n := 1) (by decide) (by decide)) dL_law_2627 ?_
  rw [← ea1]
  refine lv_aload_n hx hb dL_law_2628 rfl (lv_at hl 0 rfl) ?_
  refine lv_iload hx hb dL_law_2629 (lv_at hl 5 rfl) ?_
  refine lv_iconst (v := 2) hx hb dL_law_2631 (by decide) ?_
  refine lv_iadd hx hb dL_law_2632 ?_
  refine lv_topi (fun y2 ey2 => ?_)
  obtain rfl : y2 = 2 := ey2.trans (by decide)
  refine va_sld hx hb hX hbl hbA hS (vp_in_nI (n := 2) (by decide) (by decide)) dL_law_2633 ?_
  rw [← ea2]
  refine lv_aload_n hx hb dL_law_2634 rfl (lv_at hl 3 rfl) ?_
  have hPc := hP.sub (ws' := [(x, .inr (12, [.ref (rx 0), .ref (rx 1), .ref (rx 2), .ref (rx 3), .int 0, .int 0, .int 1, .int 110, .int 0, .int 115, .int 0, .int 0, .int 0, .int 0]))]) [0] rfl
  have hDc := hD.sub (ws' := [(x, .inr (12, [.ref (rx 0), .ref (rx 1), .ref (rx 2), .ref (rx 3), .int 0, .int 0, .int 1, .int 110, .int 0, .int 115, .int 0, .int 0, .int 0, .int 0]))]) [0] (by decide) rfl
  have hKc := hK.sub (tys' := []) [] rfl
  have hFc := va_free (wc := [(x, .inr (12, [.ref (rx 0), .ref (rx 1), .ref (rx 2), .ref (rx 3), .int 0, .int 0, .int 1, .int 110, .int 0, .int 115, .int 0, .int 0, .int 0, .int 0]))]) hD hS hA [0] rfl
  refine va_calli (vx_runSW (As := [.ref x, .int a1, .int a2, .ref o]) (rest := []) ⟨hx, hb, hml, hown, hts⟩ (c_L_score l hlT D x rx o H.size a1 a2) (vx_cwSW 4 hts gL_law_L_score rfl rfl rfl (by decide +kernel) ⟨Nat.le_of_ble_eq_true rfl, Nat.le_of_ble_eq_true rfl⟩) ⟨fun a U g mk q => ⟨q.1, PX6.blind q.2⟩, fun U hU hW => ⟨rfl, PX6.go hPc hKc hT hS hA hU hW⟩⟩ rfl rfl hl.1 rfl (lv_room (Nat.le_of_ble_eq_true rfl)) dL_law_2635 ⟨Nat.le_of_ble_eq_true rfl, Nat.le_of_ble_eq_true rfl⟩) hS (fun q h1 h2 => absurd h1 (Nat.not_lt.mpr h2)) (fun q h => hA q (Nat.le_trans hS.1 h)) (fun r3 u t H1 locs ht hvm hw hB hz1 hk1 hS => ?_)
  have hP := va_kept0 hP hk1
  generalize H1 = H at hP hS ⊢
  have hP : va_P D vwCl [(x, .inr (12, [.ref (rx 0), .ref (rx 1), .ref (rx 2), .ref (rx 3), .int 0, .int 0, .int 1, .int 110, .int 0, .int 115, .int 0, .int 0, .int 0, .int 0])), (m7, .inr (13, [.ref (rm 0), .ref (rm 1), .ref (rm 2), .ref (rm 3), .ref (rm 4), .ref (rm 5), .ref (rm 6), .ref (rm 7), .ref (rm 8), .ref (rm 9), .ref (rm 10), .ref (rm 11), .ref (rm 12), .ref (rm 13), .ref (rm 14), .ref (rm 15), .int 0, .int 0, .int 1, .int 110, .int 0, .int 0, .int 0, .int 0, .int 0, .int 0, .int 0, .int 0, .int 0, .int 0, .int 0])), (o, .inl (cO, 1, .inr (.inl fo))), (o2, .inl (cD, 1, .inr (.inr (.inr (.inl fd)))))] H := hP
  have hD := hD
  refine W.widen (k := 141) (n := 11929) (Nat.le_of_ble_eq_true rfl) (Nat.le_of_ble_eq_true rfl) ?_
  obtain rfl : r3 = 1 := hw
  refine lv_istore (lv' := [(6, .int 1), (0, .ref b), (1, .ref x), (2, .ref m7), (3, .ref o), (4, .ref o2), (5, .int 0)]) hx hb dL_law_2638 hl (by decide) rfl (fun ls hl => ?_)
  refine lv_aload_n hx hb dL_law_2640 rfl (lv_at hl 3 rfl) ?_
  refine lv_aload_n hx hb dL_law_2641 rfl (lv_at hl 1 rfl) ?_
  refine lv_iload hx hb dL_law_2642 (lv_at hl 6 rfl) ?_
  refine lv_iconst (v := 1) hx hb dL_law_2644 (by decide) ?_
  refine lv_iadd hx hb dL_law_2645 ?_
  refine lv_topi (fun y4 ey4 => ?_)
  obtain rfl : y4 = 1 := ey4.trans (by decide)
  refine va_sld hx hb hX hbl hbA hS (vp_in_nI (n := 1) (by decide) (by decide)) dL_law_2646 ?_
  rw [← ea1]
  refine lv_aload_n hx hb dL_law_2647 rfl (lv_at hl 1 rfl) ?_
  refine lv_iload hx hb dL_law_2648 (lv_at hl 6 rfl) ?_
  refine lv_iconst (v := 2) hx hb dL_law_2650 (by decide) ?_
  refine lv_iadd hx hb dL_law_2651 ?_
  refine lv_topi (fun y5 ey5 => ?_)
  obtain rfl : y5 = 2 := ey5.trans (by decide)
  refine va_sld hx hb hX hbl hbA hS (vp_in_nI (n := 2) (by decide) (by decide)) dL_law_2652 ?_
  rw [← ea2]
  have hPc := hP.sub (ws' := [(m7, .inr (13, [.ref (rm 0), .ref (rm 1), .ref (rm 2), .ref (rm 3), .ref (rm 4), .ref (rm 5), .ref (rm 6), .ref (rm 7), .ref (rm 8), .ref (rm 9), .ref (rm 10), .ref (rm 11), .ref (rm 12), .ref (rm 13), .ref (rm 14), .ref (rm 15), .int 0, .int 0, .int 1, .int 110, .int 0, .int 0, .int 0, .int 0, .int 0, .int 0, .int 0, .int 0, .int 0, .int 0, .int 0]))]) [1] rfl
  have hDc := hD.sub (ws' := [(m7, .inr (13, [.ref (rm 0), .ref (rm 1), .ref (rm 2), .ref (rm 3), .ref (rm 4), .ref (rm 5), .ref (rm 6), .ref (rm 7), .ref (rm 8), .ref (rm 9), .ref (rm 10), .ref (rm 11), .ref (rm 12), .ref (rm 13), .ref (rm 14), .ref (rm 15), .int 0, .int 0, .int 1, .int 110, .int 0, .int 0, .int 0, .int 0, .int 0, .int 0, .int 0, .int 0, .int 0, .int 0, .int 0]))]) [1] (by decide) rfl
  have hKc := hK.sub (tys' := []) [] rfl
  have hFc := va_free (wc := [(m7, .inr (13, [.ref (rm 0), .ref (rm 1), .ref (rm 2), .ref (rm 3), .ref (rm 4), .ref (rm 5), .ref (rm 6), .ref (rm 7), .ref (rm 8), .ref (rm 9), .ref (rm 10), .ref (rm 11), .ref (rm 12), .ref (rm 13), .ref (rm 14), .ref (rm 15), .int 0, .int 0, .int 1, .int 110, .int 0, .int 0, .int 0, .int 0, .int 0, .int 0, .int 0, .int 0, .int 0, .int 0, .int 0]))]) hD hS hA [1] rfl
  have hFr : ∀ q : Nat, rg1 m7 H.size q → A q := fun q h => hFc q (va_Arg1 q h)
  refine va_calli (va_runV (As := [.int a1, .int a2]) (rest := []) ⟨hx, hb, hml, hown, hts⟩ (c_X7_score l D m7 rm H.size a1 a2) (cwV 2 hts gL_law_X7_score rfl rfl rfl (by decide +kernel) ⟨Nat.le_of_ble_eq_true rfl, Nat.le_of_ble_eq_true rfl⟩) ⟨fun a U g mk q => ⟨q.1, PX7.blind q.2⟩, va_recv hK hP (ci := 13) (q0 := 1) rfl rfl, fun U hU hW => ⟨rfl, PX7.go hPc hKc hU hW⟩⟩ rfl rfl hl.1 rfl (lv_room (Nat.le_of_ble_eq_true rfl)) dL_law_2653 ⟨Nat.le_of_ble_eq_true rfl, Nat.le_of_ble_eq_true rfl⟩) hS (fun q _ h => hFr q h) hFr (fun r6 u t H1 locs ht hvm hw hB hz1 hk1 hS => ?_)
  obtain ⟨um, eum⟩ : ∃ z, z = u := ⟨_, rfl⟩
  rw [← eum] at hB hw
  rw [ht] at hB
  have hP1 := hB
  have hD1 : va_D (va_A [(m7, .inr (13, [.ref (rm 0), .ref (rm 1), .ref (rm 2), .ref (rm 3), .ref (rm 4), .ref (rm 5), .ref (rm 6), .ref (rm 7), .ref (rm 8), .ref (rm 9), .ref (rm 10), .ref (rm 11), .ref (rm 12), .ref (rm 13), .ref (rm 14), .ref (rm 15), .int 0, .int 0, .int 1, .int 110, .int 0, .int 0, .int 0, .int 0, .int 0, .int 0, .int 0, .int 0, .int 0, .int 0, .int 0]))] H.size) [(m7, .inr (13, um))] := va_D1 (Or.inl ⟨0, _, rfl⟩)
  have hk1 : ∀ q : Nat, q < H.size → ¬ va_A [(m7, .inr (13, [.ref (rm 0), .ref (rm 1), .ref (rm 2), .ref (rm 3), .ref (rm 4), .ref (rm 5), .ref (rm 6), .ref (rm 7), .ref (rm 8), .ref (rm 9), .ref (rm 10), .ref (rm 11), .ref (rm 12), .ref (rm 13), .ref (rm 14), .ref (rm 15), .int 0, .int 0, .int 1, .int 110, .int 0, .int 0, .int 0, .int 0, .int 0, .int 0, .int 0, .int 0, .int 0, .int 0, .int 0]))] H.size q → H1[q]? = H[q]? := fun q h1 h2 => hk1 q h1 (fun h3 => h2 (va_Arg1 q h3))
  obtain ⟨hP, hD⟩ := va_join (wr := [(x, .inr (12, [.ref (rx 0), .ref (rx 1), .ref (rx 2), .ref (rx 3), .int 0, .int 0, .int 1, .int 110, .int 0, .int 115, .int 0, .int 0, .int 0, .int 0])), (o, .inl (cO, 1, .inr (.inl fo))), (o2, .inl (cD, 1, .inr (.inr (.inr (.inl fd)))))]) (w1 := [(m7, .inr (13, um))]) hP hD [1] [0, 2, 3] rfl rfl (by decide) (by decide) hk1 hFc hP1 hD1
  generalize H1 = H at hP hS ⊢
  have hP : va_P D vwCl [(x, .inr (12, [.ref (rx 0), .ref (rx 1), .ref (rx 2), .ref (rx 3), .int 0, .int 0, .int 1, .int 110, .int 0, .int 115, .int 0, .int 0, .int 0, .int 0])), (o, .inl (cO, 1, .inr (.inl fo))), (o2, .inl (cD, 1, .inr (.inr (.inr (.inl fd))))), (m7, .inr (13, um))] H := hP
  have hD : va_D A [(x, .inr (12, [.ref (rx 0), .ref (rx 1), .ref (rx 2), .ref (rx 3), .int 0, .int 0, .int 1, .int 110, .int 0, .int 115, .int 0, .int 0, .int 0, .int 0])), (o, .inl (cO, 1, .inr (.inl fo))), (o2, .inl (cD, 1, .inr (.inr (.inr (.inl fd))))), (m7, .inr (13, um))] := hD
  refine W.widen (k := 141) (n := 11929) (Nat.le_of_ble_eq_true rfl) (Nat.le_of_ble_eq_true rfl) ?_
  have hu30 := hw
  refine lv_istore (lv' := [(7, .int r6), (6, .int 1), (0, .ref b), (1, .ref x), (2, .ref m7), (3, .ref o), (4, .ref o2), (5, .int 0)]) hx hb dL_law_2656 hl (by decide) rfl (fun ls hl => ?_)
  refine lv_aload_n hx hb dL_law_2658 rfl (lv_at hl 4 rfl) ?_
  have hPc := hP.sub (ws' := [(m7, .inr (13, um))]) [3] rfl
  have hKc := hK.sub (tys' := []) [] rfl
  refine va_calli (va_runV (As := []) (rest := []) ⟨hx, hb, hml, hown, hts⟩ (c_X7_thrown l D m7 um 1 hu30 H.size) (cwV 0 hts gL_law_X7_thrown rfl rfl rfl (by decide +kernel) ⟨Nat.le_of_ble_eq_true rfl, Nat.le_of_ble_eq_true rfl⟩) ⟨fun a U g mk q => ⟨q.1, q.2.1, q.2.2.1, va_K.moved (u := U) (U := U.calling g mk a) (Vm.Alike.refl U.vm) q.2.2.2⟩, va_recv hK hP (ci := 13) (q0 := 3) rfl rfl, fun U hU hW => ⟨rfl, congrArg Array.size hU, by rw [hU]; exact hPc, va_K.moved hW.alike hKc⟩⟩ rfl rfl hl.1 rfl (lv_room (Nat.le_of_ble_eq_true rfl)) dL_law_2659 ⟨Nat.le_of_ble_eq_true rfl, Nat.le_of_ble_eq_true rfl⟩) hS (fun q h1 h2 => absurd h1 (Nat.not_lt.mpr h2)) (fun q h => hA q (Nat.le_trans hS.1 h)) (fun r7 u t H1 locs ht hvm hw hB hz1 hk1 hS => ?_)
  have hP := va_kept0 hP hk1
  generalize H1 = H at hP hS ⊢
  have hP : va_P D vwCl [(x, .inr (12, [.ref (rx 0), .ref (rx 1), .ref (rx 2), .ref (rx 3), .int 0, .int 0, .int 1, .int 110, .int 0, .int 115, .int 0, .int 0, .int 0, .int 0])), (o, .inl (cO, 1, .inr (.inl fo))), (o2, .inl (cD, 1, .inr (.inr (.inr (.inl fd))))), (m7, .inr (13, um))] H := hP
  obtain rfl : r7 = 1 := hw
  refine lv_iload hx hb dL_law_2662 (lv_at hl 1 rfl) ?_
  refine lv_icmp_eq (tgt := 2669) hx hb dL_law_2664 (by decide) (fun _ => ?_) (fun c => by first | exact absurd (by decide) c | exact absurd c (by decide))
  refine lv_iload hx hb dL_law_2669 (lv_at hl 1 rfl) ?_
  refine lv_if_ne (tgt := 2686) hx hb dL_law_2671 (by decide) (fun _ => ?_) (fun c => by first | exact absurd (by decide) c | exact absurd c (by decide))
  refine lv_goto (tgt := 3904) hx hb dL_law_2686 (by decide) ?_
  refine W.widen (k := 200) (n := 12100) (Nat.le_of_ble_eq_true rfl) (Nat.le_of_ble_eq_true rfl) ?_
  exact kk H locs ls hS (lv_sub hl [2, 7] rfl)
set_option maxHeartbeats 4000000 in
set_option maxRecDepth 100000 in
theorem law_c35 (l : Launch) (hlT : l.stackTraces = false) {p : Program} {e : Env} {s : State} {m : MethodId} {below : List Frame} {meth : Method} {c : Code} {Q : State → Prop} {D : va_G} {A : Nat → Prop} {b : Nat} {xs : Nat → Int32} {x m7 o o2 : Nat} {rx rm : Nat → Nat} {cO cD : ClassId} {fo : Nat → Int64} {fd : Nat → UInt64} {H : Heap} {locs : List Loc} {ls : Array Slot} (hx : p.tables.exec = Jvm.exec) (hb : c.code = cL_law) (hml : c.maxLocals = 9) (hown : s.vm.findClass RL = some m.cls) (hts : ∀ w ∈ wsL_law, w.before #[Value.ref b] s = true) (hX : va_X b 7 xs s s.heap) (hbl : b < s.heap.size) (hbA : ¬ A b) (hA : ∀ q : Nat, s.heap.size ≤ q → A q) (hT : tf A s s.heap)
    (hK : va_K D vwCl [(cO, .long), (cD, .double)] s) (hP : va_P D vwCl [(x, .inr (12, [.ref (rx 0), .ref (rx 1), .ref (rx 2), .ref (rx 3), .int 0, .int 0, .int 1, .int 110, .int 0, .int 115, .int 0, .int 0, .int 0, .int 0])), (m7, .inr (13, [.ref (rm 0), .ref (rm 1), .ref (rm 2), .ref (rm 3), .ref (rm 4), .ref (rm 5), .ref (rm 6), .ref (rm 7), .ref (rm 8), .ref (rm 9), .ref (rm 10), .ref (rm 11), .ref (rm 12), .ref (rm 13), .ref (rm 14), .ref (rm 15), .int 0, .int 0, .int 1, .int 110, .int 0, .int 0, .int 0, .int 0, .int 0, .int 0, .int 0, .int 0, .int 0, .int 0, .int 0])), (o, .inl (cO, 1, .inr (.inl fo))), (o2, .inl (cD, 1, .inr (.inr (.inr (.inl fd)))))] H) (hD : va_D A [(x, .inr (12, [.ref (rx 0), .ref (rx 1), .ref (rx 2), .ref (rx 3), .int 0, .int 0, .int 1, .int 110, .int 0, .int 115, .int 0, .int 0, .int 0, .int 0])), (m7, .inr (13, [.ref (rm 0), .ref (rm 1), .ref (rm 2), .ref (rm 3), .ref (rm 4), .ref (rm 5), .ref (rm 6), .ref (rm 7), .ref (rm 8), .ref (rm 9), .ref (rm 10), .ref (rm 11), .ref (rm 12), .ref (rm 13), .ref (rm 14), .ref (rm 15), .int 0, .int 0, .int 1, .int 110, .int 0, .int 0, .int 0, .int 0, .int 0, .int 0, .int 0, .int 0, .int 0, .int 0, .int 0])), (o, .inl (cO, 1, .inr (.inl fo))), (o2, .inl (cD, 1, .inr (.inr (.inr (.inl fd)))))]) (hS : va_S A s.heap H locs) (hl : lv_has ls 9 [(0, .ref b), (1, .ref x), (2, .ref m7), (3, .ref o), (4, .ref o2), (5, .int 0)])
    (kk : ∀ (H : Heap) (locs : List Loc) (ls : Array Slot), va_S A s.heap H locs → lv_has ls 9 [(0, .ref b), (5, .int 0)] → W p l e room_1 s m #[Value.ref b] below meth c H locs 200 12100 Q (F0 m 3904 ls [])) :
    W p l e room_1 s m #[Value.ref b] below meth c H locs 140 11923 Q (F0 m 2689 ls []) := by
  obtain ⟨a1, ea1⟩ : ∃ z, z = xs (1 : Int32).toNatClampNeg := ⟨_, rfl⟩
  obtain ⟨a2, ea2⟩ : ∃ z, z = xs (2 : Int32).toNatClampNeg := ⟨_, rfl⟩
  obtain ⟨a3, ea3⟩ : ∃ z, z = xs (3 : Int32).toNatClampNeg := ⟨_, rfl⟩
  obtain ⟨a4, ea4⟩ : ∃ z, z = xs (4 : Int32).toNatClampNeg := ⟨_, rfl⟩
  obtain ⟨a5, ea5⟩ : ∃ z, z = xs (5 : Int32).toNatClampNeg := ⟨_, rfl⟩
  obtain ⟨a6, ea6⟩ : ∃ z, z = xs (6 : Int32).toNatClampNeg := ⟨_, rfl⟩
  refine lv_aload_n hx hb dL_law_2689 rfl (lv_at hl 1 rfl) ?_
  refine lv_aload_n hx hb dL_law_2690 rfl (lv_at hl 3 rfl) ?_
  have hPc := hP.sub (ws' := [(x, .inr (12, [.ref (rx 0), .ref (rx 1), .ref (rx 2), .ref (rx 3), .int 0, .int 0, .int 1, .int 110, .int 0, .int 115, .int 0, .int 0, .int 0, .int 0]))]) [0] rfl
  have hDc := hD.sub (ws' := [(x, .inr (12, [.ref (rx 0), .ref (rx 1), .ref (rx 2), .ref (rx 3), .int 0, .int 0, .int 1, .int 110, .int 0, .int 115, .int 0, .int 0, .int 0, .int 0]))]) [0] (by decide) rfl
  have hKc := hK.sub (tys' := []) [] rfl
  have hFc := va_free (wc := [(x, .inr (12, [.ref (rx 0), .ref (rx 1), .ref (rx 2), .ref (rx 3), .int 0, .int 0, .int 1, .int 110, .int 0, .int 115, .int 0, .int 0, .int 0, .int 0]))]) hD hS hA [0] rfl
  refine va_calli (vx_runSW (As := [.ref x, .ref o]) (rest := []) ⟨hx, hb, hml, hown, hts⟩ (c_L_up l hlT D x rx o H.size) (vx_cwSW 2 hts gL_law_L_up rfl rfl rfl (by decide +kernel) ⟨Nat.le_of_ble_eq_true rfl, Nat.le_of_ble_eq_true rfl⟩) ⟨fun a U g mk q => ⟨q.1, PX6.blind q.2⟩, fun U hU hW => ⟨rfl, PX6.go hPc hKc hT hS hA hU hW⟩⟩ rfl rfl hl.1 rfl (lv_room (Nat.le_of_ble_eq_true rfl)) dL_law_2691 ⟨Nat.le_of_ble_eq_true rfl, Nat.le_of_ble_eq_true rfl⟩) hS (fun q h1 h2 => absurd h1 (Nat.not_lt.mpr h2)) (fun q h => hA q (Nat.le_trans hS.1 h)) (fun r1 u t H1 locs ht hvm hw hB hz1 hk1 hS => ?_)
  have hP := va_kept0 hP hk1
  generalize H1 = H at hP hS ⊢
  have hP : va_P D vwCl [(x, .inr (12, [.ref (rx 0), .ref (rx 1), .ref (rx 2), .ref (rx 3), .int 0, .int 0, .int 1, .int 110, .int 0, .int 115, .int 0, .int 0, .int 0, .int 0])), (m7, .inr (13, [.ref (rm 0), .ref (rm 1), .ref (rm 2), .ref (rm 3), .ref (rm 4), .ref (rm 5), .ref (rm 6), .ref (rm 7), .ref (rm 8), .ref (rm 9), .ref (rm 10), .ref (rm 11), .ref (rm 12), .ref (rm 13), .ref (rm 14), .ref (rm 15), .int 0, .int 0, .int 1, .int 110, .int 0, .int 0, .int 0, .int 0, .int 0, .int 0, .int 0, .int 0, .int 0, .int 0, .int 0])), (o, .inl (cO, 1, .inr (.inl fo))), (o2, .inl (cD, 1, .inr (.inr (.inr (.inl fd)))))] H := hP
  have hD := hD
  refine W.widen (k := 141) (n := 11929) (Nat.le_of_ble_eq_true rfl) (Nat.le_of_ble_eq_true rfl) ?_
  obtain rfl : r1 = 1 := hw
  refine lv_istore (lv' := [(6, .int 1), (0, .ref b), (1, .ref x), (2, .ref m7), (3, .ref o), (4, .ref o2), (5, .int 0)]) hx hb dL_law_2694 hl (by decide) rfl (fun ls hl => ?_)
  refine lv_aload_n hx hb dL_law_2696 rfl (lv_at hl 3 rfl) ?_
  have hPc := hP.sub (ws' := [(m7, .inr (13, [.ref (rm 0), .ref (rm 1), .ref (rm 2), .ref (rm 3), .ref (rm 4), .ref (rm 5), .ref (rm 6), .ref (rm 7), .ref (rm 8), .ref (rm 9), .ref (rm 10), .ref (rm 11), .ref (rm 12), .ref (rm 13), .ref (rm 14), .ref (rm 15), .int 0, .int 0, .int 1, .int 110, .int 0, .int 0, .int 0, .int 0, .int 0, .int 0, .int 0, .int 0, .int 0, .int 0, .int 0]))]) [1] rfl
  have hDc := hD.sub (ws' := [(m7, .inr (13, [.ref (rm 0), .ref (rm 1), .ref (rm 2), .ref (rm 3), .ref (rm 4), .ref (rm 5), .ref (rm 6), .ref (rm 7), .ref (rm 8), .ref (rm 9), .ref (rm 10), .ref (rm 11), .ref (rm 12), .ref (rm 13), .ref (rm 14), .ref (rm 15), .int 0, .int 0, .int 1, .int 110, .int 0, .int 0, .int 0, .int 0, .int 0, .int 0, .int 0, .int 0, .int 0, .int 0, .int 0]))]) [1] (by decide) rfl
  have hKc := hK.sub (tys' := []) [] rfl
  have hFc := va_free (wc := [(m7, .inr (13, [.ref (rm 0), .ref (rm 1), .ref (rm 2), .ref (rm 3), .ref (rm 4), .ref (rm 5), .ref (rm 6), .ref (rm 7), .ref (rm 8), .ref (rm 9), .ref (rm 10), .ref (rm 11), .ref (rm 12), .ref (rm 13), .ref (rm 14), .ref (rm 15), .int 0, .int 0, .int 1, .int 110, .int 0, .int 0, .int 0, .int 0, .int 0, .int 0, .int 0, .int 0, .int 0, .int 0, .int 0]))]) hD hS hA [1] rfl
  have hFr : ∀ q : Nat, rg1 m7 H.size q → A q := fun q h => hFc q (va_Arg1 q h)
  refine va_calli (va_runV (As := []) (rest := []) ⟨hx, hb, hml, hown, hts⟩ (c_X7_up l D m7 rm H.size) (cwV 0 hts gL_law_X7_up rfl rfl rfl (by decide +kernel) ⟨Nat.le_of_ble_eq_true rfl, Nat.le_of_ble_eq_true rfl⟩) ⟨fun a U g mk q => ⟨q.1, PX7.blind q.2⟩, va_recv hK hP (ci := 13) (q0 := 1) rfl rfl, fun U hU hW => ⟨rfl, PX7.go hPc hKc hU hW⟩⟩ rfl rfl hl.1 rfl (lv_room (Nat.le_of_ble_eq_true rfl)) dL_law_2697 ⟨Nat.le_of_ble_eq_true rfl, Nat.le_of_ble_eq_true rfl⟩) hS (fun q _ h => hFr q h) hFr (fun r2 u t H1 locs ht hvm hw hB hz1 hk1 hS => ?_)
  obtain ⟨um, eum⟩ : ∃ z, z = u := ⟨_, rfl⟩
  rw [← eum] at hB hw
  rw [ht] at hB
  have hP1 := hB
  have hD1 : va_D (va_A [(m7, .inr (13, [.ref (rm 0), .ref (rm 1), .ref (rm 2), .ref (rm 3), .ref (rm 4), .ref (rm 5), .ref (rm 6), .ref (rm 7), .ref (rm 8), .ref (rm 9), .ref (rm 10), .ref (rm 11), .ref (rm 12), .ref (rm 13), .ref (rm 14), .ref (rm 15), .int 0, .int 0, .int 1, .int 110, .int 0, .int 0, .int 0, .int 0, .int 0, .int 0, .int 0, .int 0, .int 0, .int 0, .int 0]))] H.size) [(m7, .inr (13, um))] := va_D1 (Or.inl ⟨0, _, rfl⟩)
  have hk1 : ∀ q : Nat, q < H.size → ¬ va_A [(m7, .inr (13, [.ref (rm 0), .ref (rm 1), .ref (rm 2), .ref (rm 3), .ref (rm 4), .ref (rm 5), .ref (rm 6), .ref (rm 7), .ref (rm 8), .ref (rm 9), .ref (rm 10), .ref (rm 11), .ref (rm 12), .ref (rm 13), .ref (rm 14), .ref (rm 15), .int 0, .int 0, .int 1, .int 110, .int 0, .int 0, .int 0, .int 0, .int 0, .int 0, .int 0, .int 0, .int 0, .int 0, .int 0]))] H.size q → H1[q]? = H[q]? := fun q h1 h2 => hk1 q h1 (fun h3 => h2 (va_Arg1 q h3))
  obtain ⟨hP, hD⟩ := va_join (wr := [(x, .inr (12, [.ref (rx 0), .ref (rx 1), .ref (rx 2), .ref (rx 3), .int 0, .int 0, .int 1, .int 110, .int 0, .int 115, .int 0, .int 0, .int 0, .int 0])), (o, .inl (cO, 1, .inr (.inl fo))), (o2, .inl (cD, 1, .inr (.inr (.inr (.inl fd)))))]) (w1 := [(m7, .inr (13, um))]) hP hD [1] [0, 2, 3] rfl rfl (by decide) (by decide) hk1 hFc hP1 hD1
  generalize H1 = H at hP hS ⊢
  have hP : va_P D vwCl [(x, .inr (12, [.ref (rx 0), .ref (rx 1), .ref (rx 2), .ref (rx 3), .int 0, .int 0, .int 1, .int 110, .int 0, .int 115, .int 0, .int 0, .int 0, .int 0])), (o, .inl (cO, 1, .inr (.inl fo))), (o2, .inl (cD, 1, .inr (.inr (.inr (.inl fd))))), (m7, .inr (13, um))] H := hP
  have hD : va_D A [(x, .inr (12, [.ref (rx 0), .ref (rx 1), .ref (rx 2), .ref (rx 3), .int 0, .int 0, .int 1, .int 110, .int 0, .int 115, .int 0, .int 0, .int 0, .int 0])), (o, .inl (cO, 1, .inr (.inl fo))), (o2, .inl (cD, 1, .inr (.inr (.inr (.inl fd))))), (m7, .inr (13, um))] := hD
  refine W.widen (k := 141) (n := 11929) (Nat.le_of_ble_eq_true rfl) (Nat.le_of_ble_eq_true rfl) ?_
  have hu30 := hw
  refine lv_istore (lv' := [(7, .int r2), (6, .int 1), (0, .ref b), (1, .ref x), (2, .ref m7), (3, .ref o), (4, .ref o2), (5, .int 0)]) hx hb dL_law_2700 hl (by decide) rfl (fun ls hl => ?_)
  refine lv_aload_n hx hb dL_law_2702 rfl (lv_at hl 4 rfl) ?_
  have hPc := hP.sub (ws' := [(m7, .inr (13, um))]) [3] rfl
  have hKc := hK.sub (tys' := []) [] rfl
  refine va_calli (va_runV (As := []) (rest := []) ⟨hx, hb, hml, hown, hts⟩ (c_X7_thrown l D m7 um 1 hu30 H.size) (cwV 0 hts gL_law_X7_thrown rfl rfl rfl (by decide +kernel) ⟨Nat.le_of_ble_eq_true rfl, Nat.le_of_ble_eq_true rfl⟩) ⟨fun a U g mk q => ⟨q.1, q.2.1, q.2.2.1, va_K.moved (u := U) (U := U.calling g mk a) (Vm.Alike.refl U.vm) q.2.2.2⟩, va_recv hK hP (ci := 13) (q0 := 3) rfl rfl, fun U hU hW => ⟨rfl, congrArg Array.size hU, by rw [hU]; exact hPc, va_K.moved hW.alike hKc⟩⟩ rfl rfl hl.1 rfl (lv_room (Nat.le_of_ble_eq_true rfl)) dL_law_2703 ⟨Nat.le_of_ble_eq_true rfl, Nat.le_of_ble_eq_true rfl⟩) hS (fun q h1 h2 => absurd h1 (Nat.not_lt.mpr h2)) (fun q h => hA q (Nat.le_trans hS.1 h)) (fun r3 u t H1 locs ht hvm hw hB hz1 hk1 hS => ?_)
  have hP := va_kept0 hP hk1
  generalize H1 = H at hP hS ⊢
  have hP : va_P D vwCl [(x, .inr (12, [.ref (rx 0), .ref (rx 1), .ref (rx 2), .ref (rx 3), .int 0, .int 0, .int 1, .int 110, .int 0, .int 115, .int 0, .int 0, .int 0, .int 0])), (o, .inl (cO, 1, .inr (.inl fo))), (o2, .inl (cD, 1, .inr (.inr (.inr (.inl fd))))), (m7, .inr (13, um))] H := hP
  obtain rfl : r3 = 1 := hw
  refine lv_iload hx hb dL_law_2706 (lv_at hl 1 rfl) ?_
  refine lv_icmp_eq (tgt := 2713) hx hb dL_law_2708 (by decide) (fun _ => ?_) (fun c => by first | exact absurd (by decide) c | exact absurd c (by decide))
  refine lv_iload hx hb dL_law_2713 (lv_at hl 1 rfl) ?_
  refine lv_if_ne (tgt := 2730) hx hb dL_law_2715 (by decide) (fun _ => ?_) (fun c => by first | exact absurd (by decide) c | exact absurd c (by decide))
  refine lv_goto (tgt := 3904) hx hb dL_law_2730 (by decide) ?_
  refine W.widen (k := 200) (n := 12100) (Nat.le_of_ble_eq_true rfl) (Nat.le_of_ble_eq_true rfl) ?_
  exact kk H locs ls hS (lv_sub hl [2, 7] rfl)
set_option maxHeartbeats 4000000 in
set_option maxRecDepth 100000 in
theorem law_c36 (l : Launch) (hlT : l.stackTraces = false) {p : Program} {e : Env} {s : State} {m : MethodId} {below : List Frame} {meth : Method} {c : Code} {Q : State → Prop} {D : va_G} {A : Nat → Prop} {b : Nat} {xs : Nat → Int32} {x m7 o o2 : Nat} {rx rm : Nat → Nat} {cO cD : ClassId} {fo : Nat → Int64} {fd : Nat → UInt64} {H : Heap} {locs : List Loc} {ls : Array Slot} (hx : p.tables.exec = Jvm.exec) (hb : c.code = cL_law) (hml : c.maxLocals = 9) (hown : s.vm.findClass RL = some m.cls) (hts : ∀ w ∈ wsL_law, w.before #[Value.ref b] s = true) (hX : va_X b 7 xs s s.heap) (hbl : b < s.heap.size) (hbA : ¬ A b) (hA : ∀ q : Nat, s.heap.size ≤ q → A q) (hT : tf A s s.heap)
    (hK : va_K D vwCl [(cO, .long), (cD, .double)] s) (hP : va_P D vwCl [(x, .inr (12, [.ref (rx 0), .ref (rx 1), .ref (rx 2), .ref (rx 3), .int 0, .int 0, .int 1, .int 110, .int 0, .int 115, .int 0, .int 0, .int 0, .int 0])), (m7, .inr (13, [.ref (rm 0), .ref (rm 1), .ref (rm 2), .ref (rm 3), .ref (rm 4), .ref (rm 5), .ref (rm 6), .ref (rm 7), .ref (rm 8), .ref (rm 9), .ref (rm 10), .ref (rm 11), .ref (rm 12), .ref (rm 13), .ref (rm 14), .ref (rm 15), .int 0, .int 0, .int 1, .int 110, .int 0, .int 0, .int 0, .int 0, .int 0, .int 0, .int 0, .int 0, .int 0, .int 0, .int 0])), (o, .inl (cO, 1, .inr (.inl fo))), (o2, .inl (cD, 1, .inr (.inr (.inr (.inl fd)))))] H) (hD : va_D A [(x, .inr (12, [.ref (rx 0), .ref (rx 1), .ref (rx 2), .ref (rx 3), .int 0, .int 0, .int 1, .int 110, .int 0, .int 115, .int 0, .int 0, .int 0, .int 0])), (m7, .inr (13, [.ref (rm 0), .ref (rm 1), .ref (rm 2), .ref (rm 3), .ref (rm 4), .ref (rm 5), .ref (rm 6), .ref (rm 7), .ref (rm 8), .ref (rm 9), .ref (rm 10), .ref (rm 11), .ref (rm 12), .ref (rm 13), .ref (rm 14), .ref (rm 15), .int 0, .int 0, .int 1, .int 110, .int 0, .int 0, .int 0, .int 0, .int 0, .int 0, .int 0, .int 0, .int 0, .int 0, .int 0])), (o, .inl (cO, 1, .inr (.inl fo))), (o2, .inl (cD, 1, .inr (.inr (.inr (.inl fd)))))]) (hS : va_S A s.heap H locs) (hl : lv_has ls 9 [(0, .ref b), (1, .ref x), (2, .ref m7), (3, .ref o), (4, .ref o2), (5, .int 0)])
    (kk : ∀ (H : Heap) (locs : List Loc) (ls : Array Slot), va_S A s.heap H locs → lv_has ls 9 [(0, .ref b), (5, .int 0)] → W p l e room_1 s m #[Value.ref b] below meth c H locs 200 12100 Q (F0 m 3904 ls [])) :
    W p l e room_1 s m #[Value.ref b] below meth c H locs 140 11923 Q (F0 m 2733 ls []) := by
  obtain ⟨a1, ea1⟩ : ∃ z, z = xs (1 : Int32).toNatClampNeg := ⟨_, rfl⟩
  obtain ⟨a2, ea2⟩ : ∃ z, z = xs (2 : Int32).toNatClampNeg := ⟨_, rfl⟩
  obtain ⟨a3, ea3⟩ : ∃ z, z = xs (3 : Int32).toNatClampNeg := ⟨_, rfl⟩
  obtain ⟨a4, ea4⟩ : ∃ z, z = xs (4 : Int32).toNatClampNeg := ⟨_, rfl⟩
  obtain ⟨a5, ea5⟩ : ∃ z, z = xs (5 : Int32).toNatClampNeg := ⟨_, rfl⟩
  obtain ⟨a6, ea6⟩ : ∃ z, z = xs (6 : Int32).toNatClampNeg := ⟨_, rfl⟩
  refine lv_aload_n hx hb dL_law_2733 rfl (lv_at hl 1 rfl) ?_
  refine lv_aload_n hx hb dL_law_2734 rfl (lv_at hl 3 rfl) ?_
  have hPc := hP.sub (ws' := [(x, .inr (12, [.ref (rx 0), .ref (rx 1), .ref (rx 2), .ref (rx 3), .int 0, .int 0, .int 1, .int 110, .int 0, .int 115, .int 0, .int 0, .int 0, .int 0]))]) [0] rfl
  have hDc := hD.sub (ws' := [(x, .inr (12, [.ref (rx 0), .ref (rx 1), .ref (rx 2), .ref (rx 3), .int 0, .int 0, .int 1, .int 110, .int 0, .int 115, .int 0, .int 0, .int 0, .int 0]))]) [0] (by decide) rfl
  have hKc := hK.sub (tys' := []) [] rfl
  have hFc := va_free (wc := [(x, .inr (12, [.ref (rx 0), .ref (rx 1), .ref (rx 2), .ref (rx 3), .int 0, .int 0, .int 1, .int 110, .int 0, .int 115, .int 0, .int 0, .int 0, .int 0]))]) hD hS hA [0] rfl
  refine va_calli (vx_runSW (As := [.ref x, .ref o]) (rest := []) ⟨hx, hb, hml, hown, hts⟩ (c_L_isMatchOver l hlT D x rx o H.size) (vx_cwSW 2 hts gL_law_L_isMatchOver rfl rfl rfl (by decide +kernel) ⟨Nat.le_of_ble_eq_true rfl, Nat.le_of_ble_eq_true rfl⟩) ⟨fun a U g mk q => ⟨q.1, PX6.blind q.2⟩, fun U hU hW => ⟨rfl, PX6.go hPc hKc hT hS hA hU hW⟩⟩ rfl rfl hl.1 rfl (lv_room (Nat.le_of_ble_eq_true rfl)) dL_law_2735 ⟨Nat.le_of_ble_eq_true rfl, Nat.le_of_ble_eq_true rfl⟩) hS (fun q h1 h2 => absurd h1 (Nat.not_lt.mpr h2)) (fun q h => hA q (Nat.le_trans hS.1 h)) (fun r1 u t H1 locs ht hvm hw hB hz1 hk1 hS => ?_)
  have hP := va_kept0 hP hk1
  generalize H1 = H at hP hS ⊢
  have hP : va_P D vwCl [(x, .inr (12, [.ref (rx 0), .ref (rx 1), .ref (rx 2), .ref (rx 3), .int 0, .int 0, .int 1, .int 110, .int 0, .int 115, .int 0, .int 0, .int 0, .int 0])), (m7, .inr (13, [.ref (rm 0), .ref (rm 1), .ref (rm 2), .ref (rm 3), .ref (rm 4), .ref (rm 5), .ref (rm 6), .ref (rm 7), .ref (rm 8), .ref (rm 9), .ref (rm 10), .ref (rm 11), .ref (rm 12), .ref (rm 13), .ref (rm 14), .ref (rm 15), .int 0, .int 0, .int 1, .int 110, .int 0, .int 0, .int 0, .int 0, .int 0, .int 0, .int 0, .int 0, .int 0, .int 0, .int 0])), (o, .inl (cO, 1, .inr (.inl fo))), (o2, .inl (cD, 1, .inr (.inr (.inr (.inl fd)))))] H := hP
  have hD := hD
  refine W.widen (k := 141) (n := 11929) (Nat.le_of_ble_eq_true rfl) (Nat.le_of_ble_eq_true rfl) ?_
  obtain rfl : r1 = 1 := hw
  refine lv_istore (lv' := [(6, .int 1), (0, .ref b), (1, .ref x), (2, .ref m7), (3, .ref o), (4, .ref o2), (5, .int 0)]) hx hb dL_law_2738 hl (by decide) rfl (fun ls hl => ?_)
  refine lv_aload_n hx hb dL_law_2740 rfl (lv_at hl 3 rfl) ?_
  have hPc := hP.sub (ws' := [(m7, .inr (13, [.ref (rm 0), .ref (rm 1), .ref (rm 2), .ref (rm 3), .ref (rm 4), .ref (rm 5), .ref (rm 6), .ref (rm 7), .ref (rm 8), .ref (rm 9), .ref (rm 10), .ref (rm 11), .ref (rm 12), .ref (rm 13), .ref (rm 14), .ref (rm 15), .int 0, .int 0, .int 1, .int 110, .int 0, .int 0, .int 0, .int 0, .int 0, .int 0, .int 0, .int 0, .int 0, .int 0, .int 0]))]) [1] rfl
  have hDc := hD.sub (ws' := [(m7, .inr (13, [.ref (rm 0), .ref (rm 1), .ref (rm 2), .ref (rm 3), .ref (rm 4), .ref (rm 5), .ref (rm 6), .ref (rm 7), .ref (rm 8), .ref (rm 9), .ref (rm 10), .ref (rm 11), .ref (rm 12), .ref (rm 13), .ref (rm 14), .ref (rm 15), .int 0, .int 0, .int 1, .int 110, .int 0, .int 0, .int 0, .int 0, .int 0, .int 0, .int 0, .int 0, .int 0, .int 0, .int 0]))]) [1] (by decide) rfl
  have hKc := hK.sub (tys' := []) [] rfl
  have hFc := va_free (wc := [(m7, .inr (13, [.ref (rm 0), .ref (rm 1), .ref (rm 2), .ref (rm 3), .ref (rm 4), .ref (rm 5), .ref (rm 6), .ref (rm 7), .ref (rm 8), .ref (rm 9), .ref (rm 10), .ref (rm 11), .ref (rm 12), .ref (rm 13), .ref (rm 14), .ref (rm 15), .int 0, .int 0, .int 1, .int 110, .int 0, .int 0, .int 0, .int 0, .int 0, .int 0, .int 0, .int 0, .int 0, .int 0, .int 0]))]) hD hS hA [1] rfl
  have hFr : ∀ q : Nat, rg1 m7 H.size q → A q := fun q h => hFc q (va_Arg1 q h)
  refine va_calli (va_runV (As := []) (rest := []) ⟨hx, hb, hml, hown, hts⟩ (c_X7_isMatchOver l D m7 rm H.size) (cwV 0 hts gL_law_X7_isMatchOver rfl rfl rfl (by decide +kernel) ⟨Nat.le_of_ble_eq_true rfl, Nat.le_of_ble_eq_true rfl⟩) ⟨fun a U g mk q => ⟨q.1, PX7.blind q.2⟩, va_recv hK hP (ci := 13) (q0 := 1) rfl rfl, fun U hU hW => ⟨rfl, PX7.go hPc hKc hU hW⟩⟩ rfl rfl hl.1 rfl (lv_room (Nat.le_of_ble_eq_true rfl)) dL_law_2741 ⟨Nat.le_of_ble_eq_true rfl, Nat.le_of_ble_eq_true rfl⟩) hS (fun q _ h => hFr q h) hFr (fun r2 u t H1 locs ht hvm hw hB hz1 hk1 hS => ?_)
  obtain ⟨um, eum⟩ : ∃ z, z = u := ⟨_, rfl⟩
  rw [← eum] at hB hw
  rw [ht] at hB
  have hP1 := hB
  have hD1 : va_D (va_A [(m7, .inr (13, [.ref (rm 0), .ref (rm 1), .ref (rm 2), .ref (rm 3), .ref (rm 4), .ref (rm 5), .ref (rm 6), .ref (rm 7), .ref (rm 8), .ref (rm 9), .ref (rm 10), .ref (rm 11), .ref (rm 12), .ref (rm 13), .ref (rm 14), .ref (rm 15), .int 0, .int 0, .int 1, .int 110, .int 0, .int 0, .int 0, .int 0, .int 0, .int 0, .int 0, .int 0, .int 0, .int 0, .int 0]))] H.size) [(m7, .inr (13, um))] := va_D1 (Or.inl ⟨0, _, rfl⟩)
  have hk1 : ∀ q : Nat, q < H.size → ¬ va_A [(m7, .inr (13, [.ref (rm 0), .ref (rm 1), .ref (rm 2), .ref (rm 3), .ref (rm 4), .ref (rm 5), .ref (rm 6), .ref (rm 7), .ref (rm 8), .ref (rm 9), .ref (rm 10), .ref (rm 11), .ref (rm 12), .ref (rm 13), .ref (rm 14), .ref (rm 15), .int 0, .int 0, .int 1, .int 110, .int 0, .int 0, .int 0, .int 0, .int 0, .int 0, .int 0, .int 0, .int 0, .int 0, .int 0]))] H.size q → H1[q]? = H[q]? := fun q h1 h2 => hk1 q h1 (fun h3 => h2 (va_Arg1 q h3))
  obtain ⟨hP, hD⟩ := va_join (wr := [(x, .inr (12, [.ref (rx 0), .ref (rx 1), .ref (rx 2), .ref (rx 3), .int 0, .int 0, .int 1, .int 110, .int 0, .int 115, .int 0, .int 0, .int 0, .int 0])), (o, .inl (cO, 1, .inr (.inl fo))), (o2, .inl (cD, 1, .inr (.inr (.inr (.inl fd)))))]) (w1 := [(m7, .inr (13, um))]) hP hD [1] [0, 2, 3] rfl rfl (by decide) (by decide) hk1 hFc hP1 hD1
  generalize H1 = H at hP hS ⊢
  have hP : va_P D vwCl [(x, .inr (12, [.ref (rx 0), .ref (rx 1), .ref (rx 2), .ref (rx 3), .int 0, .int 0, .int 1, .int 110, .int 0, .int 115, .int 0, .int 0, .int 0, .int 0])), (o, .inl (cO, 1, .inr (.inl fo))), (o2, .inl (cD, 1, .inr (.inr (.inr (.inl fd))))), (m7, .inr (13, um))] H := hP
  have hD : va_D A [(x, .inr (12, [.ref (rx 0), .ref (rx 1), .ref (rx 2), .ref (rx 3), .int 0, .int 0, .int 1, .int 110, .int 0, .int 115, .int 0, .int 0, .int 0, .int 0])), (o, .inl (cO, 1, .inr (.inl fo))), (o2, .inl (cD, 1, .inr (.inr (.inr (.inl fd))))), (m7, .inr (13, um))] := hD
  refine W.widen (k := 141) (n := 11929) (Nat.le_of_ble_eq_true rfl) (Nat.le_of_ble_eq_true rfl) ?_
  have hu30 := hw
  refine lv_istore (lv' := [(7, .int r2), (6, .int 1), (0, .ref b), (1, .ref x), (2, .ref m7), (3, .ref o), (4, .ref o2), (5, .int 0)]) hx hb dL_law_2744 hl (by decide) rfl (fun ls hl => ?_)
  refine lv_aload_n hx hb dL_law_2746 rfl (lv_at hl 4 rfl) ?_
  have hPc := hP.sub (ws' := [(m7, .inr (13, um))]) [3] rfl
  have hKc := hK.sub (tys' := []) [] rfl
  refine va_calli (va_runV (As := []) (rest := []) ⟨hx, hb, hml, hown, hts⟩ (c_X7_thrown l D m7 um 1 hu30 H.size) (cwV 0 hts gL_law_X7_thrown rfl rfl rfl (by decide +kernel) ⟨Nat.le_of_ble_eq_true rfl, Nat.le_of_ble_eq_true rfl⟩) ⟨fun a U g mk q => ⟨q.1, q.2.1, q.2.2.1, va_K.moved (u := U) (U := U.calling g mk a) (Vm.Alike.refl U.vm) q.2.2.2⟩, va_recv hK hP (ci := 13) (q0 := 3) rfl rfl, fun U hU hW => ⟨rfl, congrArg Array.size hU, by rw [hU]; exact hPc, va_K.moved hW.alike hKc⟩⟩ rfl rfl hl.1 rfl (lv_room (Nat.le_of_ble_eq_true rfl)) dL_law_2747 ⟨Nat.le_of_ble_eq_true rfl, Nat.le_of_ble_eq_true rfl⟩) hS (fun q h1 h2 => absurd h1 (Nat.not_lt.mpr h2)) (fun q h => hA q (Nat.le_trans hS.1 h)) (fun r3 u t H1 locs ht hvm hw hB hz1 hk1 hS => ?_)
  have hP := va_kept0 hP hk1
  generalize H1 = H at hP hS ⊢
  have hP : va_P D vwCl [(x, .inr (12, [.ref (rx 0), .ref (rx 1), .ref (rx 2), .ref (rx 3), .int 0, .int 0, .int 1, .int 110, .int 0, .int 115, .int 0, .int 0, .int 0, .int 0])), (o, .inl (cO, 1, .inr (.inl fo))), (o2, .inl (cD, 1, .inr (.inr (.inr (.inl fd))))), (m7, .inr (13, um))] H := hP
  obtain rfl : r3 = 1 := hw
  refine lv_iload hx hb dL_law_2750 (lv_at hl 1 rfl) ?_
  refine lv_icmp_eq (tgt := 2757) hx hb dL_law_2752 (by decide) (fun _ => ?_) (fun c => by first | exact absurd (by decide) c | exact absurd c (by decide))
  refine lv_iload hx hb dL_law_2757 (lv_at hl 1 rfl) ?_
  refine lv_if_ne (tgt := 2781) hx hb dL_law_2759 (by decide) (fun _ => ?_) (fun c => by first | exact absurd (by decide) c | exact absurd c (by decide))
  refine lv_goto (tgt := 3904) hx hb dL_law_2781 (by decide) ?_
  refine W.widen (k := 200) (n := 12100) (Nat.le_of_ble_eq_true rfl) (Nat.le_of_ble_eq_true rfl) ?_
  exact kk H locs ls hS (lv_sub hl [2, 7] rfl)
set_option maxHeartbeats 4000000 in
set_option maxRecDepth 100000 in
theorem law_c37 (l : Launch) (hlT : l.stackTraces = false) {p : Program} {e : Env} {s : State} {m : MethodId} {below : List Frame} {meth : Method} {c : Code} {Q : State → Prop} {D : va_G} {A : Nat → Prop} {b : Nat} {xs : Nat → Int32} {x m7 o o2 : Nat} {rx rm : Nat → Nat} {cO cD : ClassId} {fo : Nat → Int64} {fd : Nat → UInt64} {H : Heap} {locs : List Loc} {ls : Array Slot} (hx : p.tables.exec = Jvm.exec) (hb : c.code = cL_law) (hml : c.maxLocals = 9) (hown : s.vm.findClass RL = some m.cls) (hts : ∀ w ∈ wsL_law, w.before #[Value.ref b] s = true) (hX : va_X b 7 xs s s.heap) (hbl : b < s.heap.size) (hbA : ¬ A b) (hA : ∀ q : Nat, s.heap.size ≤ q → A q) (hT : tf A s s.heap)
    (hK : va_K D vwCl [(cO, .long), (cD, .double)] s) (hP : va_P D vwCl [(x, .inr (12, [.ref (rx 0), .ref (rx 1), .ref (rx 2), .ref (rx 3), .int 0, .int 0, .int 1, .int 110, .int 0, .int 115, .int 0, .int 0, .int 0, .int 0])), (m7, .inr (13, [.ref (rm 0), .ref (rm 1), .ref (rm 2), .ref (rm 3), .ref (rm 4), .ref (rm 5), .ref (rm 6), .ref (rm 7), .ref (rm 8), .ref (rm 9), .ref (rm 10), .ref (rm 11), .ref (rm 12), .ref (rm 13), .ref (rm 14), .ref (rm 15), .int 0, .int 0, .int 1, .int 110, .int 0, .int 0, .int 0, .int 0, .int 0, .int 0, .int 0, .int 0, .int 0, .int 0, .int 0])), (o, .inl (cO, 1, .inr (.inl fo))), (o2, .inl (cD, 1, .inr (.inr (.inr (.inl fd)))))] H) (hD : va_D A [(x, .inr (12, [.ref (rx 0), .ref (rx 1), .ref (rx 2), .ref (rx 3), .int 0, .int 0, .int 1, .int 110, .int 0, .int 115, .int 0, .int 0, .int 0, .int 0])), (m7, .inr (13, [.ref (rm 0), .ref (rm 1), .ref (rm 2), .ref (rm 3), .ref (rm 4), .ref (rm 5), .ref (rm 6), .ref (rm 7), .ref (rm 8), .ref (rm 9), .ref (rm 10), .ref (rm 11), .ref (rm 12), .ref (rm 13), .ref (rm 14), .ref (rm 15), .int 0, .int 0, .int 1, .int 110, .int 0, .int 0, .int 0, .int 0, .int 0, .int 0, .int 0, .int 0, .int 0, .int 0, .int 0])), (o, .inl (cO, 1, .inr (.inl fo))), (o2, .inl (cD, 1, .inr (.inr (.inr (.inl fd)))))]) (hS : va_S A s.heap H locs) (hl : lv_has ls 9 [(0, .ref b), (1, .ref x), (2, .ref m7), (3, .ref o), (4, .ref o2), (5, .int 0)])
    (kk : ∀ (H : Heap) (locs : List Loc) (ls : Array Slot), va_S A s.heap H locs → lv_has ls 9 [(0, .ref b), (5, .int 0)] → W p l e room_1 s m #[Value.ref b] below meth c H locs 200 12100 Q (F0 m 3904 ls [])) :
    W p l e room_1 s m #[Value.ref b] below meth c H locs 140 11923 Q (F0 m 2784 ls []) := by
  obtain ⟨a1, ea1⟩ : ∃ z, z = xs (1 : Int32).toNatClampNeg := ⟨_, rfl⟩
  obtain ⟨a2, ea2⟩ : ∃ z, z = xs (2 : Int32).toNatClampNeg := ⟨_, rfl⟩
  obtain ⟨a3, ea3⟩ : ∃ z, z = xs (3 : Int32).toNatClampNeg := ⟨_, rfl⟩
  obtain ⟨a4, ea4⟩ : ∃ z, z = xs (4 : Int32).toNatClampNeg := ⟨_, rfl⟩
  obtain ⟨a5, ea5⟩ : ∃ z, z = xs (5 : Int32).toNatClampNeg := ⟨_, rfl⟩
  obtain ⟨a6, ea6⟩ : ∃ z, z = xs (6 : Int32).toNatClampNeg := ⟨_, rfl⟩
  refine lv_aload_n hx hb dL_law_2784 rfl (lv_at hl 1 rfl) ?_
  refine lv_aload_n hx hb dL_law_2785 rfl (lv_at hl 0 rfl) ?_
  refine lv_iload hx hb dL_law_2786 (lv_at hl 5 rfl) ?_
  refine lv_iconst (v := 1) hx hb dL_law_2788 (by decide) ?_
  refine lv_iadd hx hb dL_law_2789 ?_
  refine lv_topi (fun y1 ey1 => ?_)
  obtain rfl : y1 = 1 := ey1.trans (by decide)
  refine va_sld hx hb hX hbl hbA hS (vp_in_nI (n := 1) (by decide) (by decide)) dL_law_2790 ?_
  rw [← ea1]
  refine lv_aload_n hx hb dL_law_2791 rfl (lv_at hl 0 rfl) ?_
  refine lv_iload hx hb dL_law_2792 (lv_at hl 5 rfl) ?_
  refine lv_iconst (v := 2) hx hb dL_law_2794 (by decide) ?_
  refine lv_iadd hx hb dL_law_2795 ?_
  refine lv_topi (fun y2 ey2 => ?_)
  obtain rfl : y2 = 2 := ey2.trans (by decide)
  refine va_sld hx hb hX hbl hbA hS (vp_in_nI (n := 2) (by decide) (by decide)) dL_law_2796 ?_
  rw [← ea2]
  refine lv_aload_n hx hb dL_law_2797 rfl (lv_at hl 0 rfl) ?_
  refine lv_iload hx hb dL_law_2798 (lv_at hl 5 rfl) ?_
  refine lv_iconst (v := 3) hx hb dL_law_2800 (by decide) ?_
  refine lv_iadd hx hb dL_law_2801 ?_
  refine lv_topi (fun y3 ey3 => ?_)
  obtain rfl : y3 = 3 := ey3.trans (by decide)
  refine va_sld hx hb hX hbl hbA hS (vp_in_nI (n := 3) (by decide) (by decide)) dL_law_2802 ?_
  rw [← ea3]
  refine lv_aload_n hx hb dL_law_2803 rfl (lv_at hl 3 rfl) ?_
  have hPc := hP.sub (ws' := [(x, .inr (12, [.ref (rx 0), .ref (rx 1), .ref (rx 2), .ref (rx 3), .int 0, .int 0, .int 1, .int 110, .int 0, .int 115, .int 0, .int 0, .int 0, .int 0]))]) [0] rfl
  have hDc := hD.sub (ws' := [(x, .inr (12, [.ref (rx 0), .ref (rx 1), .ref (rx 2), .ref (rx 3), .int 0, .int 0, .int 1, .int 110, .int 0, .int 115, .int 0, .int 0, .int 0, .int 0]))]) [0] (by decide) rfl
  have hKc := hK.sub (tys' := []) [] rfl
  have hFc := va_free (wc := [(x, .inr (12, [.ref (rx 0), .ref (rx 1), .ref (rx 2), .ref (rx 3), .int 0, .int 0, .int 1, .int 110, .int 0, .int 115, .int 0, .int 0, .int 0, .int 0]))]) hD hS hA [0] rfl
  refine va_calli (vx_runSW (As := [.ref x, .int a1, .int a2, .int a3, .ref o]) (rest := []) ⟨hx, hb, hml, hown, hts⟩ (c_L_write l hlT D x rx o H.size a1 a2 a3) (vx_cwSW 5 hts gL_law_L_write rfl rfl rfl (by decide +kernel) ⟨Nat.le_of_ble_eq_true rfl, Nat.le_of_ble_eq_true rfl⟩) ⟨fun a U g mk q => ⟨q.1, PX6.blind q.2⟩, fun U hU hW => ⟨rfl, PX6.go hPc hKc hT hS hA hU hW⟩⟩ rfl rfl hl.1 rfl (lv_room (Nat.le_of_ble_eq_true rfl)) dL_law_2804 ⟨Nat.le_of_ble_eq_true rfl, Nat.le_of_ble_eq_true rfl⟩) hS (fun q h1 h2 => absurd h1 (Nat.not_lt.mpr h2)) (fun q h => hA q (Nat.le_trans hS.1 h)) (fun r4 u t H1 locs ht hvm hw hB hz1 hk1 hS => ?_)
  have hP := va_kept0 hP hk1
  generalize H1 = H at hP hS ⊢
  have hP : va_P D vwCl [(x, .inr (12, [.ref (rx 0), .ref (rx 1), .ref (rx 2), .ref (rx 3), .int 0, .int 0, .int 1, .int 110, .int 0, .int 115, .int 0, .int 0, .int 0, .int 0])), (m7, .inr (13, [.ref (rm 0), .ref (rm 1), .ref (rm 2), .ref (rm 3), .ref (rm 4), .ref (rm 5), .ref (rm 6), .ref (rm 7), .ref (rm 8), .ref (rm 9), .ref (rm 10), .ref (rm 11), .ref (rm 12), .ref (rm 13), .ref (rm 14), .ref (rm 15), .int 0, .int 0, .int 1, .int 110, .int 0, .int 0, .int 0, .int 0, .int 0, .int 0, .int 0, .int 0, .int 0, .int 0, .int 0])), (o, .inl (cO, 1, .inr (.inl fo))), (o2, .inl (cD, 1, .inr (.inr (.inr (.inl fd)))))] H := hP
  have hD := hD
  refine W.widen (k := 141) (n := 11929) (Nat.le_of_ble_eq_true rfl) (Nat.le_of_ble_eq_true rfl) ?_
  obtain rfl : r4 = 1 := hw
  refine lv_istore (lv' := [(6, .int 1), (0, .ref b), (1, .ref x), (2, .ref m7), (3, .ref o), (4, .ref o2), (5, .int 0)]) hx hb dL_law_2807 hl (by decide) rfl (fun ls hl => ?_)
  refine lv_aload_n hx hb dL_law_2809 rfl (lv_at hl 3 rfl) ?_
  refine lv_aload_n hx hb dL_law_2810 rfl (lv_at hl 1 rfl) ?_
  refine lv_iload hx hb dL_law_2811 (lv_at hl 6 rfl) ?_
  refine lv_iconst (v := 1) hx hb dL_law_2813 (by decide) ?_
  refine lv_iadd hx hb dL_law_2814 ?_
  refine lv_topi (fun y5 ey5 => ?_)
  obtain rfl : y5 = 1 := ey5.trans (by decide)
  refine va_sld hx hb hX hbl hbA hS (vp_in_nI (n := 1) (by decide) (by decide)) dL_law_2815 ?_
  rw [← ea1]
  refine lv_aload_n hx hb dL_law_2816 rfl (lv_at hl 1 rfl) ?_
  refine lv_iload hx hb dL_law_2817 (lv_at hl 6 rfl) ?_
  refine lv_iconst (v := 2) hx hb dL_law_2819 (by decide) ?_
  refine lv_iadd hx hb dL_law_2820 ?_
  refine lv_topi (fun y6 ey6 => ?_)
  obtain rfl : y6 = 2 := ey6.trans (by decide)
  refine va_sld hx hb hX hbl hbA hS (vp_in_nI (n := 2) (by decide) (by decide)) dL_law_2821 ?_
  rw [← ea2]
  refine lv_aload_n hx hb dL_law_2822 rfl (lv_at hl 1 rfl) ?_
  refine lv_iload hx hb dL_law_2823 (lv_at hl 6 rfl) ?_
  refine lv_iconst (v := 3) hx hb dL_law_2825 (by decide) ?_
  refine lv_iadd hx hb dL_law_2826 ?_
  refine lv_topi (fun y7 ey7 => ?_)
  obtain rfl : y7 = 3 := ey7.trans (by decide)
  refine va_sld hx hb hX hbl hbA hS (vp_in_nI (n := 3) (by decide) (by decide)) dL_law_2827 ?_
  rw [← ea3]
  have hPc := hP.sub (ws' := [(m7, .inr (13, [.ref (rm 0), .ref (rm 1), .ref (rm 2), .ref (rm 3), .ref (rm 4), .ref (rm 5), .ref (rm 6), .ref (rm 7), .ref (rm 8), .ref (rm 9), .ref (rm 10), .ref (rm 11), .ref (rm 12), .ref (rm 13), .ref (rm 14), .ref (rm 15), .int 0, .int 0, .int 1, .int 110, .int 0, .int 0, .int 0, .int 0, .int 0, .int 0, .int 0, .int 0, .int 0, .int 0, .int 0]))]) [1] rfl
  have hDc := hD.sub (ws' := [(m7, .inr (13, [.ref (rm 0), .ref (rm 1), .ref (rm 2), .ref (rm 3), .ref (rm 4), .ref (rm 5), .ref (rm 6), .ref (rm 7), .ref (rm 8), .ref (rm 9), .ref (rm 10), .ref (rm 11), .ref (rm 12), .ref (rm 13), .ref (rm 14), .ref (rm 15), .int 0, .int 0, .int 1, .int 110, .int 0, .int 0, .int 0, .int 0, .int 0, .int 0, .int 0, .int 0, .int 0, .int 0, .int 0]))]) [1] (by decide) rfl
  have hKc := hK.sub (tys' := []) [] rfl
  have hFc := va_free (wc := [(m7, .inr (13, [.ref (rm 0), .ref (rm 1), .ref (rm 2), .ref (rm 3), .ref (rm 4), .ref (rm 5), .ref (rm 6), .ref (rm 7), .ref (rm 8), .ref (rm 9), .ref (rm 10), .ref (rm 11), .ref (rm 12), .ref (rm 13), .ref (rm 14), .ref (rm 15), .int 0, .int 0, .int 1, .int 110, .int 0, .int 0, .int 0, .int 0, .int 0, .int 0, .int 0, .int 0, .int 0, .int 0, .int 0]))]) hD hS hA [1] rfl
  have hFr : ∀ q : Nat, rg1 m7 H.size q → A q := fun q h => hFc q (va_Arg1 q h)
  refine va_calli (va_runV (As := [.int a1, .int a2, .int a3]) (rest := []) ⟨hx, hb, hml, hown, hts⟩ (c_X7_write l D m7 rm H.size a1 a2 a3) (cwV 3 hts gL_law_X7_write rfl rfl rfl (by decide +kernel) ⟨Nat.le_of_ble_eq_true rfl, Nat.le_of_ble_eq_true rfl⟩) ⟨fun a U g mk q => ⟨q.1, PX7.blind q.2⟩, va_recv hK hP (ci := 13) (q0 := 1) rfl rfl, fun U hU hW => ⟨rfl, PX7.go hPc hKc hU hW⟩⟩ rfl rfl hl.1 rfl (lv_room (Nat.le_of_ble_eq_true rfl)) dL_law_2828 ⟨Nat.le_of_ble_eq_true rfl, Nat.le_of_ble_eq_true rfl⟩) hS (fun q _ h => hFr q h) hFr (fun r8 u t H1 locs ht hvm hw hB hz1 hk1 hS => ?_)
  obtain ⟨um, eum⟩ : ∃ z, z = u := ⟨_, rfl⟩
  rw [← eum] at hB hw
  rw [ht] at hB
  have hP1 := hB
  have hD1 : va_D (va_A [(m7, .inr (13, [.ref (rm 0), .ref (rm 1), .ref (rm 2), .ref (rm 3), .ref (rm 4), .ref (rm 5), .ref (rm 6), .ref (rm 7), .ref (rm 8), .ref (rm 9), .ref (rm 10), .ref (rm 11), .ref (rm 12), .ref (rm 13), .ref (rm 14), .ref (rm 15), .int 0, .int 0, .int 1, .int 110, .int 0, .int 0, .int 0, .int 0, .int 0, .int 0, .int 0, .int 0, .int 0, .int 0, .int 0]))] H.size) [(m7, .inr (13, um))] := va_D1 (Or.inl ⟨0, _, rfl⟩)
  have hk1 : ∀ q : Nat, q < H.size → ¬ va_A [(m7, .inr (13, [.ref (rm 0), .ref (rm 1), .ref (rm 2), .ref (rm 3), .ref (rm 4), .ref (rm 5), .ref (rm 6), .ref (rm 7), .ref (rm 8), .ref (rm 9), .ref (rm 10), .ref (rm 11), .ref (rm 12), .ref (rm 13), .ref (rm 14), .ref (rm 15), .int 0, .int 0, .int 1, .int 110, .int 0, .int 0, .int 0, .int 0, .int 0, .int 0, .int 0, .int 0, .int 0, .int 0, .int 0]))] H.size q → H1[q]? = H[q]? := fun q h1 h2 => hk1 q h1 (fun h3 => h2 (va_Arg1 q h3))
  obtain ⟨hP, hD⟩ := va_join (wr := [(x, .inr (12, [.ref (rx 0), .ref (rx 1), .ref (rx 2), .ref (rx 3), .int 0, .int 0, .int 1, .int 110, .int 0, .int 115, .int 0, .int 0, .int 0, .int 0])), (o, .inl (cO, 1, .inr (.inl fo))), (o2, .inl (cD, 1, .inr (.inr (.inr (.inl fd)))))]) (w1 := [(m7, .inr (13, um))]) hP hD [1] [0, 2, 3] rfl rfl (by decide) (by decide) hk1 hFc hP1 hD1
  generalize H1 = H at hP hS ⊢
  have hP : va_P D vwCl [(x, .inr (12, [.ref (rx 0), .ref (rx 1), .ref (rx 2), .ref (rx 3), .int 0, .int 0, .int 1, .int 110, .int 0, .int 115, .int 0, .int 0, .int 0, .int 0])), (o, .inl (cO, 1, .inr (.inl fo))), (o2, .inl (cD, 1, .inr (.inr (.inr (.inl fd))))), (m7, .inr (13, um))] H := hP
  have hD : va_D A [(x, .inr (12, [.ref (rx 0), .ref (rx 1), .ref (rx 2), .ref (rx 3), .int 0, .int 0, .int 1, .int 110, .int 0, .int 115, .int 0, .int 0, .int 0, .int 0])), (o, .inl (cO, 1, .inr (.inl fo))), (o2, .inl (cD, 1, .inr (.inr (.inr (.inl fd))))), (m7, .inr (13, um))] := hD
  refine W.widen (k := 141) (n := 11929) (Nat.le_of_ble_eq_true rfl) (Nat.le_of_ble_eq_true rfl) ?_
  have hu30 := hw
  refine lv_istore (lv' := [(7, .int r8), (6, .int 1), (0, .ref b), (1, .ref x), (2, .ref m7), (3, .ref o), (4, .ref o2), (5, .int 0)]) hx hb dL_law_2831 hl (by decide) rfl (fun ls hl => ?_)
  refine lv_aload_n hx hb dL_law_2833 rfl (lv_at hl 4 rfl) ?_
  have hPc := hP.sub (ws' := [(m7, .inr (13, um))]) [3] rfl
  have hKc := hK.sub (tys' := []) [] rfl
  refine va_calli (va_runV (As := []) (rest := []) ⟨hx, hb, hml, hown, hts⟩ (c_X7_thrown l D m7 um 1 hu30 H.size) (cwV 0 hts gL_law_X7_thrown rfl rfl rfl (by decide +kernel) ⟨Nat.le_of_ble_eq_true rfl, Nat.le_of_ble_eq_true rfl⟩) ⟨fun a U g mk q => ⟨q.1, q.2.1, q.2.2.1, va_K.moved (u := U) (U := U.calling g mk a) (Vm.Alike.refl U.vm) q.2.2.2⟩, va_recv hK hP (ci := 13) (q0 := 3) rfl rfl, fun U hU hW => ⟨rfl, congrArg Array.size hU, by rw [hU]; exact hPc, va_K.moved hW.alike hKc⟩⟩ rfl rfl hl.1 rfl (lv_room (Nat.le_of_ble_eq_true rfl)) dL_law_2834 ⟨Nat.le_of_ble_eq_true rfl, Nat.le_of_ble_eq_true rfl⟩) hS (fun q h1 h2 => absurd h1 (Nat.not_lt.mpr h2)) (fun q h => hA q (Nat.le_trans hS.1 h)) (fun r9 u t H1 locs ht hvm hw hB hz1 hk1 hS => ?_)
  have hP := va_kept0 hP hk1
  generalize H1 = H at hP hS ⊢
  have hP : va_P D vwCl [(x, .inr (12, [.ref (rx 0), .ref (rx 1), .ref (rx 2), .ref (rx 3), .int 0, .int 0, .int 1, .int 110, .int 0, .int 115, .int 0, .int 0, .int 0, .int 0])), (o, .inl (cO, 1, .inr (.inl fo))), (o2, .inl (cD, 1, .inr (.inr (.inr (.inl fd))))), (m7, .inr (13, um))] H := hP
  obtain rfl : r9 = 1 := hw
  refine lv_iload hx hb dL_law_2837 (lv_at hl 1 rfl) ?_
  refine lv_icmp_eq (tgt := 2844) hx hb dL_law_2839 (by decide) (fun _ => ?_) (fun c => by first | exact absurd (by decide) c | exact absurd c (by decide))
  refine lv_iload hx hb dL_law_2844 (lv_at hl 1 rfl) ?_
  refine lv_if_ne (tgt := 2861) hx hb dL_law_2846 (by decide) (fun _ => ?_) (fun c => by first | exact absurd (by decide) c | exact absurd c (by decide))
  refine lv_goto (tgt := 3904) hx hb dL_law_2861 (by decide) ?_
  refine W.widen (k := 200) (n := 12100) (Nat.le_of_ble_eq_true rfl) (Nat.le_of_ble_eq_true rfl) ?_
  exact kk H locs ls hS (lv_sub hl [2, 7] rfl)
set_option maxHeartbeats 4000000 in
set_option maxRecDepth 100000 in
theorem law_c38 (l : Launch) (hlT : l.stackTraces = false) {p : Program} {e : Env} {s : State} {m : MethodId} {below : List Frame} {meth : Method} {c : Code} {Q : State → Prop} {D : va_G} {A : Nat → Prop} {b : Nat} {xs : Nat → Int32} {x m7 o o2 : Nat} {rx rm : Nat → Nat} {cO cD : ClassId} {fo : Nat → Int64} {fd : Nat → UInt64} {H : Heap} {locs : List Loc} {ls : Array Slot} (hx : p.tables.exec = Jvm.exec) (hb : c.code = cL_law) (hml : c.maxLocals = 9) (hown : s.vm.findClass RL = some m.cls) (hts : ∀ w ∈ wsL_law, w.before #[Value.ref b] s = true) (hX : va_X b 7 xs s s.heap) (hbl : b < s.heap.size) (hbA : ¬ A b) (hA : ∀ q : Nat, s.heap.size ≤ q → A q) (hT : tf A s s.heap)
    (hK : va_K D vwCl [(cO, .long), (cD, .double)] s) (hP : va_P D vwCl [(x, .inr (12, [.ref (rx 0), .ref (rx 1), .ref (rx 2), .ref (rx 3), .int 0, .int 0, .int 1, .int 110, .int 0, .int 115, .int 0, .int 0, .int 0, .int 0])), (m7, .inr (13, [.ref (rm 0), .ref (rm 1), .ref (rm 2), .ref (rm 3), .ref (rm 4), .ref (rm 5), .ref (rm 6), .ref (rm 7), .ref (rm 8), .ref (rm 9), .ref (rm 10), .ref (rm 11), .ref (rm 12), .ref (rm 13), .ref (rm 14), .ref (rm 15), .int 0, .int 0, .int 1, .int 110, .int 0, .int 0, .int 0, .int 0, .int 0, .int 0, .int 0, .int 0, .int 0, .int 0, .int 0])), (o, .inl (cO, 1, .inr (.inl fo))), (o2, .inl (cD, 1, .inr (.inr (.inr (.inl fd)))))] H) (hD : va_D A [(x, .inr (12, [.ref (rx 0), .ref (rx 1), .ref (rx 2), .ref (rx 3), .int 0, .int 0, .int 1, .int 110, .int 0, .int 115, .int 0, .int 0, .int 0, .int 0])), (m7, .inr (13, [.ref (rm 0), .ref (rm 1), .ref (rm 2), .ref (rm 3), .ref (rm 4), .ref (rm 5), .ref (rm 6), .ref (rm 7), .ref (rm 8), .ref (rm 9), .ref (rm 10), .ref (rm 11), .ref (rm 12), .ref (rm 13), .ref (rm 14), .ref (rm 15), .int 0, .int 0, .int 1, .int 110, .int 0, .int 0, .int 0, .int 0, .int 0, .int 0, .int 0, .int 0, .int 0, .int 0, .int 0])), (o, .inl (cO, 1, .inr (.inl fo))), (o2, .inl (cD, 1, .inr (.inr (.inr (.inl fd)))))]) (hS : va_S A s.heap H locs) (hl : lv_has ls 9 [(0, .ref b), (1, .ref x), (2, .ref m7), (3, .ref o), (4, .ref o2), (5, .int 0)])
    (kk : ∀ (H : Heap) (locs : List Loc) (ls : Array Slot), va_S A s.heap H locs → lv_has ls 9 [(0, .ref b), (5, .int 0)] → W p l e room_1 s m #[Value.ref b] below meth c H locs 200 12100 Q (F0 m 3904 ls [])) :
    W p l e room_1 s m #[Value.ref b] below meth c H locs 140 11923 Q (F0 m 2864 ls []) := by
  obtain ⟨a1, ea1⟩ : ∃ z, z = xs (1 : Int32).toNatClampNeg := ⟨_, rfl⟩
  obtain ⟨a2, ea2⟩ : ∃ z, z = xs (2 : Int32).toNatClampNeg := ⟨_, rfl⟩
  obtain ⟨a3, ea3⟩ : ∃ z, z = xs (3 : Int32).toNatClampNeg := ⟨_, rfl⟩
  obtain ⟨a4, ea4⟩ : ∃ z, z = xs (4 : Int32).toNatClampNeg := ⟨_, rfl⟩
  obtain ⟨a5, ea5⟩ : ∃ z, z = xs (5 : Int32).toNatClampNeg := ⟨_, rfl⟩
  obtain ⟨a6, ea6⟩ : ∃ z, z = xs (6 : Int32).toNatClampNeg := ⟨_, rfl⟩
  refine lv_aload_n hx hb dL_law_2864 rfl (lv_at hl 1 rfl) ?_
  refine lv_aload_n hx hb dL_law_2865 rfl (lv_at hl 0 rfl) ?_
  refine lv_iload hx hb dL_law_2866 (lv_at hl 5 rfl) ?_
  refine lv_iconst (v := 1) hx hb dL_law_2868 (by decide) ?_
  refine lv_iadd hx hb dL_law_2869 ?_
  refine lv_topi (fun y1 ey1 => ?_)
  obtain rfl : y1 = 1 := ey1.trans (by decide)
  refine va_sld hx hb hX hbl hbA hS (vp_in_nI (n := 1) (by decide) (by decide)) dL_law_2870 ?_
  rw [← ea1]
  refine lv_aload_n hx hb dL_law_2871 rfl (lv_at hl 3 rfl) ?_
  have hPc := hP.sub (ws' := [(x, .inr (12, [.ref (rx 0), .ref (rx 1), .ref (rx 2), .ref (rx 3), .int 0, .int 0, .int 1, .int 110, .int 0, .int 115, .int 0, .int 0, .int 0, .int 0]))]) [0] rfl
  have hDc := hD.sub (ws' := [(x, .inr (12, [.ref (rx 0), .ref (rx 1), .ref (rx 2), .ref (rx 3), .int 0, .int 0, .int 1, .int 110, .int 0, .int 115, .int 0, .int 0, .int 0, .int 0]))]) [0] (by decide) rfl
  have hKc := hK.sub (tys' := []) [] rfl
  have hFc := va_free (wc := [(x, .inr (12, [.ref (rx 0), .ref (rx 1), .ref (rx 2), .ref (rx 3), .int 0, .int 0, .int 1, .int 110, .int 0, .int 115, .int 0, .int 0, .int 0, .int 0]))]) hD hS hA [0] rfl
  refine va_calli (vx_runSW (As := [.ref x, .int a1, .ref o]) (rest := []) ⟨hx, hb, hml, hown, hts⟩ (c_L_sign l hlT D x rx o H.size a1) (vx_cwSW 3 hts gL_law_L_sign rfl rfl rfl (by decide +kernel) ⟨Nat.le_of_ble_eq_true rfl, Nat.le_of_ble_eq_true rfl⟩) ⟨fun a U g mk q => ⟨q.1, PX6.blind q.2⟩, fun U hU hW => ⟨rfl, PX6.go hPc hKc hT hS hA hU hW⟩⟩ rfl rfl hl.1 rfl (lv_room (Nat.le_of_ble_eq_true rfl)) dL_law_2872 ⟨Nat.le_of_ble_eq_true rfl, Nat.le_of_ble_eq_true rfl⟩) hS (fun q h1 h2 => absurd h1 (Nat.not_lt.mpr h2)) (fun q h => hA q (Nat.le_trans hS.1 h)) (fun r2 u t H1 locs ht hvm hw hB hz1 hk1 hS => ?_)
  have hP := va_kept0 hP hk1
  generalize H1 = H at hP hS ⊢
  have hP : va_P D vwCl [(x, .inr (12, [.ref (rx 0), .ref (rx 1), .ref (rx 2), .ref (rx 3), .int 0, .int 0, .int 1, .int 110, .int 0, .int 115, .int 0, .int 0, .int 0, .int 0])), (m7, .inr (13, [.ref (rm 0), .ref (rm 1), .ref (rm 2), .ref (rm 3), .ref (rm 4), .ref (rm 5), .ref (rm 6), .ref (rm 7), .ref (rm 8), .ref (rm 9), .ref (rm 10), .ref (rm 11), .ref (rm 12), .ref (rm 13), .ref (rm 14), .ref (rm 15), .int 0, .int 0, .int 1, .int 110, .int 0, .int 0, .int 0, .int 0, .int 0, .int 0, .int 0, .int 0, .int 0, .int 0, .int 0])), (o, .inl (cO, 1, .inr (.inl fo))), (o2, .inl (cD, 1, .inr (.inr (.inr (.inl fd)))))] H := hP
  have hD := hD
  refine W.widen (k := 141) (n := 11929) (Nat.le_of_ble_eq_true rfl) (Nat.le_of_ble_eq_true rfl) ?_
  obtain rfl : r2 = 1 := hw
  refine lv_istore (lv' := [(6, .int 1), (0, .ref b), (1, .ref x), (2, .ref m7), (3, .ref o), (4, .ref o2), (5, .int 0)]) hx hb dL_law_2875 hl (by decide) rfl (fun ls hl => ?_)
  refine lv_aload_n hx hb dL_law_2877 rfl (lv_at hl 3 rfl) ?_
  refine lv_aload_n hx hb dL_law_2878 rfl (lv_at hl 1 rfl) ?_
  refine lv_iload hx hb dL_law_2879 (lv_at hl 6 rfl) ?_
  refine lv_iconst (v := 1) hx hb dL_law_2881 (by decide) ?_
  refine lv_iadd hx hb dL_law_2882 ?_
  refine lv_topi (fun y3 ey3 => ?_)
  obtain rfl : y3 = 1 := ey3.trans (by decide)
  refine va_sld hx hb hX hbl hbA hS (vp_in_nI (n := 1) (by decide) (by decide)) dL_law_2883 ?_
  rw [← ea1]
  have hPc := hP.sub (ws' := [(m7, .inr (13, [.ref (rm 0), .ref (rm 1), .ref (rm 2), .ref (rm 3), .ref (rm 4), .ref (rm 5), .ref (rm 6), .ref (rm 7), .ref (rm 8), .ref (rm 9), .ref (rm 10), .ref (rm 11), .ref (rm 12), .ref (rm 13), .ref (rm 14), .ref (rm 15), .int 0, .int 0, .int 1, .int 110, .int 0, .int 0, .int 0, .int 0, .int 0, .int 0, .int 0, .int 0, .int 0, .int 0, .int 0]))]) [1] rfl
  have hDc := hD.sub (ws' := [(m7, .inr (13, [.ref (rm 0), .ref (rm 1), .ref (rm 2), .ref (rm 3), .ref (rm 4), .ref (rm 5), .ref (rm 6), .ref (rm 7), .ref (rm 8), .ref (rm 9), .ref (rm 10), .ref (rm 11), .ref (rm 12), .ref (rm 13), .ref (rm 14), .ref (rm 15), .int 0, .int 0, .int 1, .int 110, .int 0, .int 0, .int 0, .int 0, .int 0, .int 0, .int 0, .int 0, .int 0, .int 0, .int 0]))]) [1] (by decide) rfl
  have hKc := hK.sub (tys' := []) [] rfl
  have hFc := va_free (wc := [(m7, .inr (13, [.ref (rm 0), .ref (rm 1), .ref (rm 2), .ref (rm 3), .ref (rm 4), .ref (rm 5), .ref (rm 6), .ref (rm 7), .ref (rm 8), .ref (rm 9), .ref (rm 10), .ref (rm 11), .ref (rm 12), .ref (rm 13), .ref (rm 14), .ref (rm 15), .int 0, .int 0, .int 1, .int 110, .int 0, .int 0, .int 0, .int 0, .int 0, .int 0, .int 0, .int 0, .int 0, .int 0, .int 0]))]) hD hS hA [1] rfl
  have hFr : ∀ q : Nat, rg1 m7 H.size q → A q := fun q h => hFc q (va_Arg1 q h)
  refine va_calli (va_runV (As := [.int a1]) (rest := []) ⟨hx, hb, hml, hown, hts⟩ (c_X7_sign l D m7 rm H.size a1) (cwV 1 hts gL_law_X7_sign rfl rfl rfl (by decide +kernel) ⟨Nat.le_of_ble_eq_true rfl, Nat.le_of_ble_eq_true rfl⟩) ⟨fun a U g mk q => ⟨q.1, PX7.blind q.2⟩, va_recv hK hP (ci := 13) (q0 := 1) rfl rfl, fun U hU hW => ⟨rfl, PX7.go hPc hKc hU hW⟩⟩ rfl rfl hl.1 rfl (lv_room (Nat.le_of_ble_eq_true rfl)) dL_law_2884 ⟨Nat.le_of_ble_eq_true rfl, Nat.le_of_ble_eq_true rfl⟩) hS (fun q _ h => hFr q h) hFr (fun r4 u t H1 locs ht hvm hw hB hz1 hk1 hS => ?_)
  obtain ⟨um, eum⟩ : ∃ z, z = u := ⟨_, rfl⟩
  rw [← eum] at hB hw
  rw [ht] at hB
  have hP1 := hB
  have hD1 : va_D (va_A [(m7, .inr (13, [.ref (rm 0), .ref (rm 1), .ref (rm 2), .ref (rm 3), .ref (rm 4), .ref (rm 5), .ref (rm 6), .ref (rm 7), .ref (rm 8), .ref (rm 9), .ref (rm 10), .ref (rm 11), .ref (rm 12), .ref (rm 13), .ref (rm 14), .ref (rm 15), .int 0, .int 0, .int 1, .int 110, .int 0, .int 0, .int 0, .int 0, .int 0, .int 0, .int 0, .int 0, .int 0, .int 0, .int 0]))] H.size) [(m7, .inr (13, um))] := va_D1 (Or.inl ⟨0, _, rfl⟩)
  have hk1 : ∀ q : Nat, q < H.size → ¬ va_A [(m7, .inr (13, [.ref (rm 0), .ref (rm 1), .ref (rm 2), .ref (rm 3), .ref (rm 4), .ref (rm 5), .ref (rm 6), .ref (rm 7), .ref (rm 8), .ref (rm 9), .ref (rm 10), .ref (rm 11), .ref (rm 12), .ref (rm 13), .ref (rm 14), .ref (rm 15), .int 0, .int 0, .int 1, .int 110, .int 0, .int 0, .int 0, .int 0, .int 0, .int 0, .int 0, .int 0, .int 0, .int 0, .int 0]))] H.size q → H1[q]? = H[q]? := fun q h1 h2 => hk1 q h1 (fun h3 => h2 (va_Arg1 q h3))
  obtain ⟨hP, hD⟩ := va_join (wr := [(x, .inr (12, [.ref (rx 0), .ref (rx 1), .ref (rx 2), .ref (rx 3), .int 0, .int 0, .int 1, .int 110, .int 0, .int 115, .int 0, .int 0, .int 0, .int 0])), (o, .inl (cO, 1, .inr (.inl fo))), (o2, .inl (cD, 1, .inr (.inr (.inr (.inl fd)))))]) (w1 := [(m7, .inr (13, um))]) hP hD [1] [0, 2, 3] rfl rfl (by decide) (by decide) hk1 hFc hP1 hD1
  generalize H1 = H at hP hS ⊢
  have hP : va_P D vwCl [(x, .inr (12, [.ref (rx 0), .ref (rx 1), .ref (rx 2), .ref (rx 3), .int 0, .int 0, .int 1, .int 110, .int 0, .int 115, .int 0, .int 0, .int 0, .int 0])), (o, .inl (cO, 1, .inr (.inl fo))), (o2, .inl (cD, 1, .inr (.inr (.inr (.inl fd))))), (m7, .inr (13, um))] H := hP
  have hD : va_D A [(x, .inr (12, [.ref (rx 0), .ref (rx 1), .ref (rx 2), .ref (rx 3), .int 0, .int 0, .int 1, .int 110, .int 0, .int 115, .int 0, .int 0, .int 0, .int 0])), (o, .inl (cO, 1, .inr (.inl fo))), (o2, .inl (cD, 1, .inr (.inr (.inr (.inl fd))))), (m7, .inr (13, um))] := hD
  refine W.widen (k := 141) (n := 11929) (Nat.le_of_ble_eq_true rfl) (Nat.le_of_ble_eq_true rfl) ?_
  have hu30 := hw
  refine lv_istore (lv' := [(7, .int r4), (6, .int 1), (0, .ref b), (1, .ref x), (2, .ref m7), (3, .ref o), (4, .ref o2), (5, .int 0)]) hx hb dL_law_2887 hl (by decide) rfl (fun ls hl => ?_)
  refine lv_aload_n hx hb dL_law_2889 rfl (lv_at hl 4 rfl) ?_
  have hPc := hP.sub (ws' := [(m7, .inr (13, um))]) [3] rfl
  have hKc := hK.sub (tys' := []) [] rfl
  refine va_calli (va_runV (As := []) (rest := []) ⟨hx, hb, hml, hown, hts⟩ (c_X7_thrown l D m7 um 1 hu30 H.size) (cwV 0 hts gL_law_X7_thrown rfl rfl rfl (by decide +kernel) ⟨Nat.le_of_ble_eq_true rfl, Nat.le_of_ble_eq_true rfl⟩) ⟨fun a U g mk q => ⟨q.1, q.2.1, q.2.2.1, va_K.moved (u := U) (U := U.calling g mk a) (Vm.Alike.refl U.vm) q.2.2.2⟩, va_recv hK hP (ci := 13) (q0 := 3) rfl rfl, fun U hU hW => ⟨rfl, congrArg Array.size hU, by rw [hU]; exact hPc, va_K.moved hW.alike hKc⟩⟩ rfl rfl hl.1 rfl (lv_room (Nat.le_of_ble_eq_true rfl)) dL_law_2890 ⟨Nat.le_of_ble_eq_true rfl, Nat.le_of_ble_eq_true rfl⟩) hS (fun q h1 h2 => absurd h1 (Nat.not_lt.mpr h2)) (fun q h => hA q (Nat.le_trans hS.1 h)) (fun r5 u t H1 locs ht hvm hw hB hz1 hk1 hS => ?_)
  have hP := va_kept0 hP hk1
  generalize H1 = H at hP hS ⊢
  have hP : va_P D vwCl [(x, .inr (12, [.ref (rx 0), .ref (rx 1), .ref (rx 2), .ref (rx 3), .int 0, .int 0, .int 1, .int 110, .int 0, .int 115, .int 0, .int 0, .int 0, .int 0])), (o, .inl (cO, 1, .inr (.inl fo))), (o2, .inl (cD, 1, .inr (.inr (.inr (.inl fd))))), (m7, .inr (13, um))] H := hP
  obtain rfl : r5 = 1 := hw
  refine lv_iload hx hb dL_law_2893 (lv_at hl 1 rfl) ?_
  refine lv_icmp_eq (tgt := 2900) hx hb dL_law_2895 (by decide) (fun _ => ?_) (fun c => by first | exact absurd (by decide) c | exact absurd c (by decide))
  refine lv_iload hx hb dL_law_2900 (lv_at hl 1 rfl) ?_
  refine lv_if_ne (tgt := 2924) hx hb dL_law_2902 (by decide) (fun _ => ?_) (fun c => by first | exact absurd (by decide) c | exact absurd c (by decide))
  refine lv_goto (tgt := 3904) hx hb dL_law_2924 (by decide) ?_
  refine W.widen (k := 200) (n := 12100) (Nat.le_of_ble_eq_true rfl) (Nat.le_of_ble_eq_true rfl) ?_
  exact kk H locs ls hS (lv_sub hl [2, 7] rfl)
set_option maxHeartbeats 4000000 in
set_option maxRecDepth 100000 in
theorem law_c39 (l : Launch) (hlT : l.stackTraces = false) {p : Program} {e : Env} {s : State} {m : MethodId} {below : List Frame} {meth : Method} {c : Code} {Q : State → Prop} {D : va_G} {A : Nat → Prop} {b : Nat} {xs : Nat → Int32} {x m7 o o2 : Nat} {rx rm : Nat → Nat} {cO cD : ClassId} {fo : Nat → Int64} {fd : Nat → UInt64} {H : Heap} {locs : List Loc} {ls : Array Slot} (hx : p.tables.exec = Jvm.exec) (hb : c.code = cL_law) (hml : c.maxLocals = 9) (hown : s.vm.findClass RL = some m.cls) (hts : ∀ w ∈ wsL_law, w.before #[Value.ref b] s = true) (hX : va_X b 7 xs s s.heap) (hbl : b < s.heap.size) (hbA : ¬ A b) (hA : ∀ q : Nat, s.heap.size ≤ q → A q) (hT : tf A s s.heap)
    (hK : va_K D vwCl [(cO, .long), (cD, .double)] s) (hP : va_P D vwCl [(x, .inr (12, [.ref (rx 0), .ref (rx 1), .ref (rx 2), .ref (rx 3), .int 0, .int 0, .int 1, .int 110, .int 0, .int 115, .int 0, .int 0, .int 0, .int 0])), (m7, .inr (13, [.ref (rm 0), .ref (rm 1), .ref (rm 2), .ref (rm 3), .ref (rm 4), .ref (rm 5), .ref (rm 6), .ref (rm 7), .ref (rm 8), .ref (rm 9), .ref (rm 10), .ref (rm 11), .ref (rm 12), .ref (rm 13), .ref (rm 14), .ref (rm 15), .int 0, .int 0, .int 1, .int 110, .int 0, .int 0, .int 0, .int 0, .int 0, .int 0, .int 0, .int 0, .int 0, .int 0, .int 0])), (o, .inl (cO, 1, .inr (.inl fo))), (o2, .inl (cD, 1, .inr (.inr (.inr (.inl fd)))))] H) (hD : va_D A [(x, .inr (12, [.ref (rx 0), .ref (rx 1), .ref (rx 2), .ref (rx 3), .int 0, .int 0, .int 1, .int 110, .int 0, .int 115, .int 0, .int 0, .int 0, .int 0])), (m7, .inr (13, [.ref (rm 0), .ref (rm 1), .ref (rm 2), .ref (rm 3), .ref (rm 4), .ref (rm 5), .ref (rm 6), .ref (rm 7), .ref (rm 8), .ref (rm 9), .ref (rm 10), .ref (rm 11), .ref (rm 12), .ref (rm 13), .ref (rm 14), .ref (rm 15), .int 0, .int 0, .int 1, .int 110, .int 0, .int 0, .int 0, .int 0, .int 0, .int 0, .int 0, .int 0, .int 0, .int 0, .int 0])), (o, .inl (cO, 1, .inr (.inl fo))), (o2, .inl (cD, 1, .inr (.inr (.inr (.inl fd)))))]) (hS : va_S A s.heap H locs) (hl : lv_has ls 9 [(0, .ref b), (1, .ref x), (2, .ref m7), (3, .ref o), (4, .ref o2), (5, .int 0)])
    (kk : ∀ (H : Heap) (locs : List Loc) (ls : Array Slot), va_S A s.heap H locs → lv_has ls 9 [(0, .ref b), (5, .int 0)] → W p l e room_1 s m #[Value.ref b] below meth c H locs 200 12100 Q (F0 m 3904 ls [])) :
    W p l e room_1 s m #[Value.ref b] below meth c H locs 140 11923 Q (F0 m 2927 ls []) := by
  obtain ⟨a1, ea1⟩ : ∃ z, z = xs (1 : Int32).toNatClampNeg := ⟨_, rfl⟩
  obtain ⟨a2, ea2⟩ : ∃ z, z = xs (2 : Int32).toNatClampNeg := ⟨_, rfl⟩
  obtain ⟨a3, ea3⟩ : ∃ z, z = xs (3 : Int32).toNatClampNeg := ⟨_, rfl⟩
  obtain ⟨a4, ea4⟩ : ∃ z, z = xs (4 : Int32).toNatClampNeg := ⟨_, rfl⟩
  obtain ⟨a5, ea5⟩ : ∃ z, z = xs (5 : Int32).toNatClampNeg := ⟨_, rfl⟩
  obtain ⟨a6, ea6⟩ : ∃ z, z = xs (6 : Int32).toNatClampNeg := ⟨_, rfl⟩
  refine lv_aload_n hx hb dL_law_2927 rfl (lv_at hl 1 rfl) ?_
  refine lv_aload_n hx hb dL_law_2928 rfl (lv_at hl 0 rfl) ?_
  refine lv_iload hx hb dL_law_2929 (lv_at hl 5 rfl) ?_
  refine lv_iconst (v := 1) hx hb dL_law_2931 (by decide) ?_
  refine lv_iadd hx hb dL_law_2932 ?_
  refine lv_topi (fun y1 ey1 => ?_)
  obtain rfl : y1 = 1 := ey1.trans (by decide)
  refine va_sld hx hb hX hbl hbA hS (vp_in_nI (n := 1) (by decide) (by decide)) dL_law_2933 ?_
  rw [← ea1]
  refine lv_aload_n hx hb dL_law_2934 rfl (lv_at hl 3 rfl) ?_
  have hPc := hP.sub (ws' := [(x, .inr (12, [.ref (rx 0), .ref (rx 1), .ref (rx 2), .ref (rx 3), .int 0, .int 0, .int 1, .int 110, .int 0, .int 115, .int 0, .int 0, .int 0, .int 0]))]) [0] rfl
  have hDc := hD.sub (ws' := [(x, .inr (12, [.ref (rx 0), .ref (rx 1), .ref (rx 2), .ref (rx 3), .int 0, .int 0, .int 1, .int 110, .int 0, .int 115, .int 0, .int 0, .int 0, .int 0]))]) [0] (by decide) rfl
  have hKc := hK.sub (tys' := []) [] rfl
  have hFc := va_free (wc := [(x, .inr (12, [.ref (rx 0), .ref (rx 1), .ref (rx 2), .ref (rx 3), .int 0, .int 0, .int 1, .int 110, .int 0, .int 115, .int 0, .int 0, .int 0, .int 0]))]) hD hS hA [0] rfl
  refine va_calli (vx_runSW (As := [.ref x, .int a1, .ref o]) (rest := []) ⟨hx, hb, hml, hown, hts⟩ (c_L_total l hlT D x rx o H.size a1) (vx_cwSW 3 hts gL_law_L_total rfl rfl rfl (by decide +kernel) ⟨Nat.le_of_ble_eq_true rfl, Nat.le_of_ble_eq_true rfl⟩) ⟨fun a U g mk q => ⟨q.1, PX6.blind q.2⟩, fun U hU hW => ⟨rfl, PX6.go hPc hKc hT hS hA hU hW⟩⟩ rfl rfl hl.1 rfl (lv_room (Nat.le_of_ble_eq_true rfl)) dL_law_2935 ⟨Nat.le_of_ble_eq_true rfl, Nat.le_of_ble_eq_true rfl⟩) hS (fun q h1 h2 => absurd h1 (Nat.not_lt.mpr h2)) (fun q h => hA q (Nat.le_trans hS.1 h)) (fun r2 u t H1 locs ht hvm hw hB hz1 hk1 hS => ?_)
  have hP := va_kept0 hP hk1
  generalize H1 = H at hP hS ⊢
  have hP : va_P D vwCl [(x, .inr (12, [.ref (rx 0), .ref (rx 1), .ref (rx 2), .ref (rx 3), .int 0, .int 0, .int 1, .int 110, .int 0, .int 115, .int 0, .int 0, .int 0, .int 0])), (m7, .inr (13, [.ref (rm 0), .ref (rm 1), .ref (rm 2), .ref (rm 3), .ref (rm 4), .ref (rm 5), .ref (rm 6), .ref (rm 7), .ref (rm 8), .ref (rm 9), .ref (rm 10), .ref (rm 11), .ref (rm 12), .ref (rm 13), .ref (rm 14), .ref (rm 15), .int 0, .int 0, .int 1, .int 110, .int 0, .int 0, .int 0, .int 0, .int 0, .int 0, .int 0, .int 0, .int 0, .int 0, .int 0])), (o, .inl (cO, 1, .inr (.inl fo))), (o2, .inl (cD, 1, .inr (.inr (.inr (.inl fd)))))] H := hP
  have hD := hD
  refine W.widen (k := 141) (n := 11929) (Nat.le_of_ble_eq_true rfl) (Nat.le_of_ble_eq_true rfl) ?_
  obtain rfl : r2 = 1 := hw
  refine lv_istore (lv' := [(6, .int 1), (0, .ref b), (1, .ref x), (2, .ref m7), (3, .ref o), (4, .ref o2), (5, .int 0)]) hx hb dL_law_2938 hl (by decide) rfl (fun ls hl => ?_)
  refine lv_aload_n hx hb dL_law_2940 rfl (lv_at hl 3 rfl) ?_
  refine lv_aload_n hx hb dL_law_2941 rfl (lv_at hl 1 rfl) ?_
  refine lv_iload hx hb dL_law_2942 (lv_at hl 6 rfl) ?_
  refine lv_iconst (v := 1) hx hb dL_law_2944 (by decide) ?_
  refine lv_iadd hx hb dL_law_2945 ?_
  refine lv_topi (fun y3 ey3 => ?_)
  obtain rfl : y3 = 1 := ey3.trans (by decide)
  refine va_sld hx hb hX hbl hbA hS (vp_in_nI (n := 1) (by decide) (by decide)) dL_law_2946 ?_
  rw [← ea1]
  have hPc := hP.sub (ws' := [(m7, .inr (13, [.ref (rm 0), .ref (rm 1), .ref (rm 2), .ref (rm 3), .ref (rm 4), .ref (rm 5), .ref (rm 6), .ref (rm 7), .ref (rm 8), .ref (rm 9), .ref (rm 10), .ref (rm 11), .ref (rm 12), .ref (rm 13), .ref (rm 14), .ref (rm 15), .int 0, .int 0, .int 1, .int 110, .int 0, .int 0, .int 0, .int 0, .int 0, .int 0, .int 0, .int 0, .int 0, .int 0, .int 0]))]) [1] rfl
  have hDc := hD.sub (ws' := [(m7, .inr (13, [.ref (rm 0), .ref (rm 1), .ref (rm 2), .ref (rm 3), .ref (rm 4), .ref (rm 5), .ref (rm 6), .ref (rm 7), .ref (rm 8), .ref (rm 9), .ref (rm 10), .ref (rm 11), .ref (rm 12), .ref (rm 13), .ref (rm 14), .ref (rm 15), .int 0, .int 0, .int 1, .int 110, .int 0, .int 0, .int 0, .int 0, .int 0, .int 0, .int 0, .int 0, .int 0, .int 0, .int 0]))]) [1] (by decide) rfl
  have hKc := hK.sub (tys' := []) [] rfl
  have hFc := va_free (wc := [(m7, .inr (13, [.ref (rm 0), .ref (rm 1), .ref (rm 2), .ref (rm 3), .ref (rm 4), .ref (rm 5), .ref (rm 6), .ref (rm 7), .ref (rm 8), .ref (rm 9), .ref (rm 10), .ref (rm 11), .ref (rm 12), .ref (rm 13), .ref (rm 14), .ref (rm 15), .int 0, .int 0, .int 1, .int 110, .int 0, .int 0, .int 0, .int 0, .int 0, .int 0, .int 0, .int 0, .int 0, .int 0, .int 0]))]) hD hS hA [1] rfl
  have hFr : ∀ q : Nat, rg1 m7 H.size q → A q := fun q h => hFc q (va_Arg1 q h)
  refine va_calli (va_runV (As := [.int a1]) (rest := []) ⟨hx, hb, hml, hown, hts⟩ (c_X7_total l D m7 rm H.size a1) (cwV 1 hts gL_law_X7_total rfl rfl rfl (by decide +kernel) ⟨Nat.le_of_ble_eq_true rfl, Nat.le_of_ble_eq_true rfl⟩) ⟨fun a U g mk q => ⟨q.1, PX7.blind q.2⟩, va_recv hK hP (ci := 13) (q0 := 1) rfl rfl, fun U hU hW => ⟨rfl, PX7.go hPc hKc hU hW⟩⟩ rfl rfl hl.1 rfl (lv_room (Nat.le_of_ble_eq_true rfl)) dL_law_2947 ⟨Nat.le_of_ble_eq_true rfl, Nat.le_of_ble_eq_true rfl⟩) hS (fun q _ h => hFr q h) hFr (fun r4 u t H1 locs ht hvm hw hB hz1 hk1 hS => ?_)
  obtain ⟨um, eum⟩ : ∃ z, z = u := ⟨_, rfl⟩
  rw [← eum] at hB hw
  rw [ht] at hB
  have hP1 := hB
  have hD1 : va_D (va_A [(m7, .inr (13, [.ref (rm 0), .ref (rm 1), .ref (rm 2), .ref (rm 3), .ref (rm 4), .ref (rm 5), .ref (rm 6), .ref (rm 7), .ref (rm 8), .ref (rm 9), .ref (rm 10), .ref (rm 11), .ref (rm 12), .ref (rm 13), .ref (rm 14), .ref (rm 15), .int 0, .int 0, .int 1, .int 110, .int 0, .int 0, .int 0, .int 0, .int 0, .int 0, .int 0, .int 0, .int 0, .int 0, .int 0]))] H.size) [(m7, .inr (13, um))] := va_D1 (Or.inl ⟨0, _, rfl⟩)
  have hk1 : ∀ q : Nat, q < H.size → ¬ va_A [(m7, .inr (13, [.ref (rm 0), .ref (rm 1), .ref (rm 2), .ref (rm 3), .ref (rm 4), .ref (rm 5), .ref (rm 6), .ref (rm 7), .ref (rm 8), .ref (rm 9), .ref (rm 10), .ref (rm 11), .ref (rm 12), .ref (rm 13), .ref (rm 14), .ref (rm 15), .int 0, .int 0, .int 1, .int 110, .int 0, .int 0, .int 0, .int 0, .int 0, .int 0, .int 0, .int 0, .int 0, .int 0, .int 0]))] H.size q → H1[q]? = H[q]? := fun q h1 h2 => hk1 q h1 (fun h3 => h2 (va_Arg1 q h3))
  obtain ⟨hP, hD⟩ := va_join (wr := [(x, .inr (12, [.ref (rx 0), .ref (rx 1), .ref (rx 2), .ref (rx 3), .int 0, .int 0, .int 1, .int 110, .int 0, .int 115, .int 0, .int 0, .int 0, .int 0])), (o, .inl (cO, 1, .inr (.inl fo))), (o2, .inl (cD, 1, .inr (.inr (.inr (.inl fd)))))]) (w1 := [(m7, .inr (13, um))]) hP hD [1] [0, 2, 3] rfl rfl (by decide) (by decide) hk1 hFc hP1 hD1
  generalize H1 = H at hP hS ⊢
  have hP : va_P D vwCl [(x, .inr (12, [.ref (rx 0), .ref (rx 1), .ref (rx 2), .ref (rx 3), .int 0, .int 0, .int 1, .int 110, .int 0, .int 115, .int 0, .int 0, .int 0, .int 0])), (o, .inl (cO, 1, .inr (.inl fo))), (o2, .inl (cD, 1, .inr (.inr (.inr (.inl fd))))), (m7, .inr (13, um))] H := hP
  have hD : va_D A [(x, .inr (12, [.ref (rx 0), .ref (rx 1), .ref (rx 2), .ref (rx 3), .int 0, .int 0, .int 1, .int 110, .int 0, .int 115, .int 0, .int 0, .int 0, .int 0])), (o, .inl (cO, 1, .inr (.inl fo))), (o2, .inl (cD, 1, .inr (.inr (.inr (.inl fd))))), (m7, .inr (13, um))] := hD
  refine W.widen (k := 141) (n := 11929) (Nat.le_of_ble_eq_true rfl) (Nat.le_of_ble_eq_true rfl) ?_
  have hu30 := hw
  refine lv_istore (lv' := [(7, .int r4), (6, .int 1), (0, .ref b), (1, .ref x), (2, .ref m7), (3, .ref o), (4, .ref o2), (5, .int 0)]) hx hb dL_law_2950 hl (by decide) rfl (fun ls hl => ?_)
  refine lv_aload_n hx hb dL_law_2952 rfl (lv_at hl 4 rfl) ?_
  have hPc := hP.sub (ws' := [(m7, .inr (13, um))]) [3] rfl
  have hKc := hK.sub (tys' := []) [] rfl
  refine va_calli (va_runV (As := []) (rest := []) ⟨hx, hb, hml, hown, hts⟩ (c_X7_thrown l D m7 um 1 hu30 H.size) (cwV 0 hts gL_law_X7_thrown rfl rfl rfl (by decide +kernel) ⟨Nat.le_of_ble_eq_true rfl, Nat.le_of_ble_eq_true rfl⟩) ⟨fun a U g mk q => ⟨q.1, q.2.1, q.2.2.1, va_K.moved (u := U) (U := U.calling g mk a) (Vm.Alike.refl U.vm) q.2.2.2⟩, va_recv hK hP (ci := 13) (q0 := 3) rfl rfl, fun U hU hW => ⟨rfl, congrArg Array.size hU, by rw [hU]; exact hPc, va_K.moved hW.alike hKc⟩⟩ rfl rfl hl.1 rfl (lv_room (Nat.le_of_ble_eq_true rfl)) dL_law_2953 ⟨Nat.le_of_ble_eq_true rfl, Nat.le_of_ble_eq_true rfl⟩) hS (fun q h1 h2 => absurd h1 (Nat.not_lt.mpr h2)) (fun q h => hA q (Nat.le_trans hS.1 h)) (fun r5 u t H1 locs ht hvm hw hB hz1 hk1 hS => ?_)
  have hP := va_kept0 hP hk1
  generalize H1 = H at hP hS ⊢
  have hP : va_P D vwCl [(x, .inr (12, [.ref (rx 0), .ref (rx 1), .ref (rx 2), .ref (rx 3), .int 0, .int 0, .int 1, .int 110, .int 0, .int 115, .int 0, .int 0, .int 0, .int 0])), (o, .inl (cO, 1, .inr (.inl fo))), (o2, .inl (cD, 1, .inr (.inr (.inr (.inl fd))))), (m7, .inr (13, um))] H := hP
  obtain rfl : r5 = 1 := hw
  refine lv_iload hx hb dL_law_2956 (lv_at hl 1 rfl) ?_
  refine lv_icmp_eq (tgt := 2963) hx hb dL_law_2958 (by decide) (fun _ => ?_) (fun c => by first | exact absurd (by decide) c | exact absurd c (by decide))
  refine lv_iload hx hb dL_law_2963 (lv_at hl 1 rfl) ?_
  refine lv_if_ne (tgt := 2980) hx hb dL_law_2965 (by decide) (fun _ => ?_) (fun c => by first | exact absurd (by decide) c | exact absurd c (by decide))
  refine lv_goto (tgt := 3904) hx hb dL_law_2980 (by decide) ?_
  refine W.widen (k := 200) (n := 12100) (Nat.le_of_ble_eq_true rfl) (Nat.le_of_ble_eq_true rfl) ?_
  exact kk H locs ls hS (lv_sub hl [2, 7] rfl)
