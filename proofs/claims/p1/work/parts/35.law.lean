set_option maxRecDepth 20000 in
theorem ggL_law_L_stableford : GoodIn wsL_law wsL_stableford := goodIn_ca (goodIn_ca (goodIn_ca (goodIn_r _ [1151, 227, 1152, 1153, 1154, 2, 1155, 187, 19, 358, 15, 188, 1156, 138, 139, 140, 299, 300, 301, 302, 237, 238, 284, 1157, 1115, 1116, 47, 1117, 62, 1158, 1159, 1160, 1161, 298, 319, 320, 321, 322, 189, 1560, 1561, 1562, 1563, 1564, 1565, 1566, 1567, 1568, 1569, 1570, 1571, 1572, 1573, 1611, 1612, 1613, 1614, 1605, 1606, 1607, 1608, 1609, 1610, 1637, 1638, 1639, 1640, 1641, 1642] (by decide +kernel) (by decide +kernel)) (goodIn_sub (fun _ h => List.mem_append_left _ (List.mem_append_left _ (List.mem_append_left _ (List.mem_append_left _ (List.mem_append_left _ (List.mem_append_left _ (List.mem_append_left _ (List.mem_append_right _ h)))))))) (by decide +kernel))) (goodIn_sub (fun _ h => List.mem_append_left _ (List.mem_append_left _ (List.mem_append_left _ (List.mem_append_right _ h)))) (by decide +kernel))) (goodIn_sub (fun _ h => List.mem_append_left _ (List.mem_append_left _ (List.mem_append_right _ h))) (by decide +kernel))
set_option maxRecDepth 20000 in
theorem gL_law_L_stableford : GoodIn wsL_law (va_wsS RL 343 yL_stableford wsL_stableford) := goodIn_app (goodIn_of _ (by decide +kernel)) ggL_law_L_stableford
set_option maxRecDepth 20000 in
theorem ggL_law_X7_stableford : GoodIn wsL_law wsX7_stableford := goodIn_ca (goodIn_ca (goodIn_r _ [1165, 206, 88, 80, 1166, 138, 139, 140, 308, 309, 310, 5, 311, 289, 209, 210, 211, 215, 216, 217, 218, 219, 1167, 1168, 1169, 1170, 83, 327, 328, 329, 330, 1574, 1575, 1576, 1577, 1578, 1579, 1580, 1581, 1582, 1583, 1584, 1585, 1586, 1587, 1588, 1589, 1590, 1591, 1592, 1593, 1594, 1595, 1596, 1597, 1598, 1599, 1600, 1601, 1602, 1603, 1604] (by decide +kernel) (by decide +kernel)) (goodIn_sub (fun _ h => List.mem_append_left _ (List.mem_append_left _ (List.mem_append_left _ (List.mem_append_left _ (List.mem_append_left _ (List.mem_append_left _ (List.mem_append_left _ (List.mem_append_right _ h)))))))) (by decide +kernel))) (goodIn_sub (fun _ h => List.mem_append_left _ (List.mem_append_left _ (List.mem_append_right _ h))) (by decide +kernel))
set_option maxRecDepth 20000 in
theorem gL_law_X7_stableford : GoodIn wsL_law (wsV RL 345 RX7 yX7_stableford wsX7_stableford) := goodIn_app (goodIn_of _ (by decide +kernel)) ggL_law_X7_stableford
set_option maxRecDepth 20000 in
theorem ggL_law_L_parPlay : GoodIn wsL_law wsL_parPlay := goodIn_ca (goodIn_ca (goodIn_ca (goodIn_ca (goodIn_r _ [1173, 227, 1174, 1175, 1176, 2, 1177, 187, 19, 358, 15, 188, 299, 300, 301, 302, 237, 238, 284, 1178, 1179, 1180, 1181, 435, 436, 1086, 1087, 1088, 1089, 186, 297, 1157, 1115, 1116, 47, 1117, 62, 1158, 1159, 1160, 1161, 298, 319, 320, 321, 322, 189, 949, 950, 951, 952, 1560, 1561, 1562, 1563, 1564, 1565, 1566, 1567, 1568, 1569, 1570, 1571, 1572, 1573, 1611, 1612, 1613, 1614, 1605, 1606, 1607, 1608, 1609, 1610, 1637, 1638, 1639, 1640, 1641, 1642] (by decide +kernel) (by decide +kernel)) (goodIn_sub (fun _ h => List.mem_append_left _ (List.mem_append_left _ (List.mem_append_left _ (List.mem_append_left _ (List.mem_append_left _ (List.mem_append_left _ (List.mem_append_left _ (List.mem_append_right _ h)))))))) (by decide +kernel))) (goodIn_sub (fun _ h => List.mem_append_left _ (List.mem_append_left _ (List.mem_append_left _ (List.mem_append_right _ h)))) (by decide +kernel))) (goodIn_sub (fun _ h => List.mem_append_left _ (List.mem_append_right _ h)) (by decide +kernel))) (goodIn_sub (fun _ h => List.mem_append_left _ (List.mem_append_left _ (List.mem_append_right _ h))) (by decide +kernel))
set_option maxRecDepth 20000 in
theorem gL_law_L_parPlay : GoodIn wsL_law (va_wsS RL 346 yL_parPlay wsL_parPlay) := goodIn_app (goodIn_of _ (by decide +kernel)) ggL_law_L_parPlay
set_option maxRecDepth 20000 in
theorem ggL_law_X7_parPlay : GoodIn wsL_law wsX7_parPlay := goodIn_ca (goodIn_ca (goodIn_r _ [1185, 206, 88, 80, 308, 309, 310, 5, 311, 289, 209, 210, 211, 215, 216, 217, 218, 219, 1094, 1095, 1096, 1097, 207, 307, 1167, 1168, 1169, 1170, 83, 327, 328, 329, 330, 1186, 950, 951, 952, 1574, 1575, 1576, 1577, 1578, 1579, 1580, 1581, 1582, 1583, 1584, 1585, 1586, 1587, 1588, 1589, 1590, 1591, 1592, 1593, 1594, 1595, 1596, 1597, 1598, 1599, 1600, 1601, 1602, 1603, 1604] (by decide +kernel) (by decide +kernel)) (goodIn_sub (fun _ h => List.mem_append_left _ (List.mem_append_left _ (List.mem_append_left _ (List.mem_append_left _ (List.mem_append_left _ (List.mem_append_left _ (List.mem_append_left _ (List.mem_append_right _ h)))))))) (by decide +kernel))) (goodIn_sub (fun _ h => List.mem_append_left _ (List.mem_append_left _ (List.mem_append_right _ h))) (by decide +kernel))
set_option maxRecDepth 20000 in
theorem gL_law_X7_parPlay : GoodIn wsL_law (wsV RL 348 RX7 yX7_parPlay wsX7_parPlay) := goodIn_app (goodIn_of _ (by decide +kernel)) ggL_law_X7_parPlay
set_option maxRecDepth 20000 in
theorem ggL_law_L_together : GoodIn wsL_law wsL_together := goodIn_ca (goodIn_ca (goodIn_ca (goodIn_ca (goodIn_ca (goodIn_r _ [1189, 227, 1190, 1191, 1192, 2, 1193, 180, 181, 435, 436, 187, 19, 358, 1194, 165, 139, 166, 299, 300, 301, 302, 237, 238, 284, 1157, 1115, 1116, 47, 1117, 62, 1158, 1159, 1160, 1161, 298, 319, 320, 321, 322, 15, 189, 1560, 1561, 1562, 1563, 1564, 1565, 1566, 1567, 1568, 1569, 1570, 1571, 1572, 1573, 1611, 1612, 1613, 1614, 1637, 1638, 1639, 1640, 1641, 1642, 1605, 1606, 1607, 1608, 1609, 1610] (by decide +kernel) (by decide +kernel)) (goodIn_sub (fun _ h => List.mem_append_left _ (List.mem_append_left _ (List.mem_append_left _ (List.mem_append_left _ (List.mem_append_left _ (List.mem_append_left _ (List.mem_append_left _ (List.mem_append_right _ h)))))))) (by decide +kernel))) (goodIn_sub (fun _ h => List.mem_append_left _ (List.mem_append_left _ (List.mem_append_left _ (List.mem_append_left _ (List.mem_append_left _ (List.mem_append_left _ (List.mem_append_right _ h))))))) (by decide +kernel))) (goodIn_sub (fun _ h => List.mem_append_left _ (List.mem_append_right _ h)) (by decide +kernel))) (goodIn_sub (fun _ h => List.mem_append_left _ (List.mem_append_left _ (List.mem_append_left _ (List.mem_append_right _ h)))) (by decide +kernel))) (goodIn_sub (fun _ h => List.mem_append_left _ (List.mem_append_left _ (List.mem_append_right _ h))) (by decide +kernel))
set_option maxRecDepth 20000 in
theorem gL_law_L_together : GoodIn wsL_law (va_wsS RL 349 yL_together wsL_together) := goodIn_app (goodIn_of _ (by decide +kernel)) ggL_law_L_together
set_option maxRecDepth 20000 in
theorem ggL_law_X7_together : GoodIn wsL_law wsX7_together := goodIn_ca (goodIn_ca (goodIn_r _ [1198, 206, 88, 1199, 165, 139, 166, 308, 309, 310, 5, 311, 289, 209, 210, 211, 215, 216, 217, 218, 219, 1167, 1168, 1169, 1170, 83, 327, 328, 329, 330, 80, 1574, 1575, 1576, 1577, 1578, 1579, 1580, 1581, 1582, 1583, 1584, 1585, 1586, 1587, 1588, 1589, 1590, 1591, 1592, 1593, 1594, 1595, 1596, 1597, 1598, 1599, 1600, 1601, 1602, 1603, 1604] (by decide +kernel) (by decide +kernel)) (goodIn_sub (fun _ h => List.mem_append_left _ (List.mem_append_left _ (List.mem_append_left _ (List.mem_append_left _ (List.mem_append_left _ (List.mem_append_left _ (List.mem_append_left _ (List.mem_append_right _ h)))))))) (by decide +kernel))) (goodIn_sub (fun _ h => List.mem_append_left _ (List.mem_append_left _ (List.mem_append_right _ h))) (by decide +kernel))
set_option maxRecDepth 20000 in
theorem gL_law_X7_together : GoodIn wsL_law (wsV RL 351 RX7 yX7_together wsX7_together) := goodIn_app (goodIn_of _ (by decide +kernel)) ggL_law_X7_together
set_option maxRecDepth 20000 in
theorem ggL_law_L_skins : GoodIn wsL_law wsL_skins := goodIn_ca (goodIn_ca (goodIn_ca (goodIn_ca (goodIn_r _ [1202, 227, 1203, 1204, 1205, 2, 1206, 299, 300, 301, 302, 237, 238, 284, 1178, 1179, 1180, 1181, 435, 436, 1086, 1087, 1088, 1089, 186, 297, 1207, 1208, 1209, 1210, 187, 1211, 1212, 1213, 1214, 19, 358, 1157, 1115, 1116, 47, 1117, 62, 1158, 1159, 1160, 1161, 298, 319, 320, 321, 322, 15, 189, 1560, 1561, 1562, 1563, 1564, 1565, 1566, 1567, 1568, 1569, 1570, 1571, 1572, 1573, 1611, 1612, 1613, 1614, 1637, 1638, 1639, 1640, 1641, 1642, 1605, 1606, 1607, 1608, 1609, 1610] (by decide +kernel) (by decide +kernel)) (goodIn_sub (fun _ h => List.mem_append_left _ (List.mem_append_left _ (List.mem_append_left _ (List.mem_append_left _ (List.mem_append_left _ (List.mem_append_left _ (List.mem_append_left _ (List.mem_append_right _ h)))))))) (by decide +kernel))) (goodIn_sub (fun _ h => List.mem_append_left _ (List.mem_append_left _ (List.mem_append_left _ (List.mem_append_right _ h)))) (by decide +kernel))) (goodIn_sub (fun _ h => List.mem_append_left _ (List.mem_append_right _ h)) (by decide +kernel))) (goodIn_sub (fun _ h => List.mem_append_left _ (List.mem_append_left _ (List.mem_append_right _ h))) (by decide +kernel))
set_option maxRecDepth 20000 in
theorem gL_law_L_skins : GoodIn wsL_law (va_wsS RL 352 yL_skins wsL_skins) := goodIn_app (goodIn_of _ (by decide +kernel)) ggL_law_L_skins
set_option maxRecDepth 20000 in
theorem ggL_law_X7_skins : GoodIn wsL_law wsX7_skins := goodIn_ca (goodIn_ca (goodIn_r _ [1218, 206, 289, 88, 1199, 165, 139, 166, 308, 309, 310, 5, 311, 209, 210, 211, 215, 216, 217, 218, 219, 1094, 1095, 1096, 1097, 207, 307, 1167, 1168, 1169, 1170, 83, 327, 328, 329, 330, 80, 1574, 1575, 1576, 1577, 1578, 1579, 1580, 1581, 1582, 1583, 1584, 1585, 1586, 1587, 1588, 1589, 1590, 1591, 1592, 1593, 1594, 1595, 1596, 1597, 1598, 1599, 1600, 1601, 1602, 1603, 1604] (by decide +kernel) (by decide +kernel)) (goodIn_sub (fun _ h => List.mem_append_left _ (List.mem_append_left _ (List.mem_append_left _ (List.mem_append_left _ (List.mem_append_left _ (List.mem_append_left _ (List.mem_append_left _ (List.mem_append_right _ h)))))))) (by decide +kernel))) (goodIn_sub (fun _ h => List.mem_append_left _ (List.mem_append_left _ (List.mem_append_right _ h))) (by decide +kernel))
set_option maxRecDepth 20000 in
theorem gL_law_X7_skins : GoodIn wsL_law (wsV RL 354 RX7 yX7_skins wsX7_skins) := goodIn_app (goodIn_of _ (by decide +kernel)) ggL_law_X7_skins
set_option maxRecDepth 20000 in
theorem ggL_law_L_rank : GoodIn wsL_law wsL_rank := goodIn_ca (goodIn_ca (goodIn_ca (goodIn_r _ [1221, 227, 1222, 1223, 1224, 2, 1225, 299, 300, 301, 302, 237, 238, 284, 1226, 1227, 1228, 1229, 435, 436, 19, 358, 1230, 1231, 1232, 47, 1233, 370, 371, 1234, 1235, 1236, 1237, 187, 1238, 1239, 1240, 1241, 1133, 1134, 1135, 1136, 1114, 1115, 1116, 1117, 62, 949, 950, 951, 952, 1560, 1561, 1562, 1563, 1564, 1565, 1566, 1567, 1568, 1569, 1570, 1571, 1572, 1573, 1611, 1612, 1613, 1614, 1637, 1638, 1639, 1640, 1641, 1642] (by decide +kernel) (by decide +kernel)) (goodIn_sub (fun _ h => List.mem_append_left _ (List.mem_append_left _ (List.mem_append_left _ (List.mem_append_left _ (List.mem_append_left _ (List.mem_append_left _ (List.mem_append_left _ (List.mem_append_right _ h)))))))) (by decide +kernel))) (goodIn_sub (fun _ h => List.mem_append_left _ (List.mem_append_left _ (List.mem_append_left _ (List.mem_append_right _ h)))) (by decide +kernel))) (goodIn_sub (fun _ h => List.mem_append_left _ (List.mem_append_right _ h)) (by decide +kernel))
set_option maxRecDepth 20000 in
theorem gL_law_L_rank : GoodIn wsL_law (va_wsS RL 355 yL_rank wsL_rank) := goodIn_app (goodIn_of _ (by decide +kernel)) ggL_law_L_rank
set_option maxRecDepth 20000 in
theorem ggL_law_X7_rank : GoodIn wsL_law wsX7_rank := goodIn_ca (goodIn_r _ [1245, 308, 309, 310, 5, 311, 289, 209, 210, 211, 215, 216, 217, 218, 219, 1246, 1247, 1248, 1249, 90, 91, 1250, 1251, 1252, 1253, 1145, 1146, 1147, 1148, 206, 88, 1574, 1575, 1576, 1577, 1578, 1579, 1580, 1581, 1582, 1583, 1584, 1585, 1586, 1587, 1588, 1589, 1590, 1591, 1592, 1593, 1594, 1595, 1596, 1597, 1598, 1599, 1600, 1601, 1602, 1603, 1604] (by decide +kernel) (by decide +kernel)) (goodIn_sub (fun _ h => List.mem_append_left _ (List.mem_append_left _ (List.mem_append_left _ (List.mem_append_left _ (List.mem_append_left _ (List.mem_append_left _ (List.mem_append_left _ (List.mem_append_right _ h)))))))) (by decide +kernel))
set_option maxRecDepth 20000 in
theorem gL_law_X7_rank : GoodIn wsL_law (wsV RL 357 RX7 yX7_rank wsX7_rank) := goodIn_app (goodIn_of _ (by decide +kernel)) ggL_law_X7_rank
set_option maxRecDepth 20000 in
theorem ggL_law_L_isAhead : GoodIn wsL_law wsL_isAhead := goodIn_ca (goodIn_ca (goodIn_ca (goodIn_r _ [1256, 227, 1257, 1258, 1259, 2, 1260, 187, 299, 300, 301, 302, 237, 238, 284, 1226, 1227, 1228, 1229, 435, 436, 19, 358, 1230, 1231, 1232, 47, 1233, 370, 371, 1238, 1239, 1240, 1241, 1133, 1134, 1135, 1136, 1114, 1115, 1116, 1117, 62, 949, 950, 951, 952, 1560, 1561, 1562, 1563, 1564, 1565, 1566, 1567, 1568, 1569, 1570, 1571, 1572, 1573, 1611, 1612, 1613, 1614, 1637, 1638, 1639, 1640, 1641, 1642] (by decide +kernel) (by decide +kernel)) (goodIn_sub (fun _ h => List.mem_append_left _ (List.mem_append_left _ (List.mem_append_left _ (List.mem_append_left _ (List.mem_append_left _ (List.mem_append_left _ (List.mem_append_left _ (List.mem_append_right _ h)))))))) (by decide +kernel))) (goodIn_sub (fun _ h => List.mem_append_left _ (List.mem_append_left _ (List.mem_append_left _ (List.mem_append_right _ h)))) (by decide +kernel))) (goodIn_sub (fun _ h => List.mem_append_left _ (List.mem_append_right _ h)) (by decide +kernel))
set_option maxRecDepth 20000 in
theorem gL_law_L_isAhead : GoodIn wsL_law (va_wsS RL 358 yL_isAhead wsL_isAhead) := goodIn_app (goodIn_of _ (by decide +kernel)) ggL_law_L_isAhead
set_option maxRecDepth 20000 in
theorem ggL_law_X7_isAhead : GoodIn wsL_law wsX7_isAhead := goodIn_ca (goodIn_r _ [1264, 22, 206, 308, 309, 310, 5, 311, 289, 209, 210, 211, 215, 216, 217, 218, 219, 1246, 1247, 1248, 1249, 90, 91, 1145, 1146, 1147, 1148, 88, 1574, 1575, 1576, 1577, 1578, 1579, 1580, 1581, 1582, 1583, 1584, 1585, 1586, 1587, 1588, 1589, 1590, 1591, 1592, 1593, 1594, 1595, 1596, 1597, 1598, 1599, 1600, 1601, 1602, 1603, 1604] (by decide +kernel) (by decide +kernel)) (goodIn_sub (fun _ h => List.mem_append_left _ (List.mem_append_left _ (List.mem_append_left _ (List.mem_append_left _ (List.mem_append_left _ (List.mem_append_left _ (List.mem_append_left _ (List.mem_append_right _ h)))))))) (by decide +kernel))
set_option maxRecDepth 20000 in
theorem gL_law_X7_isAhead : GoodIn wsL_law (wsV RL 360 RX7 yX7_isAhead wsX7_isAhead) := goodIn_app (goodIn_of _ (by decide +kernel)) ggL_law_X7_isAhead
set_option maxRecDepth 20000 in
theorem ggL_law_L_cut : GoodIn wsL_law wsL_cut := goodIn_ca (goodIn_ca (goodIn_r _ [1267, 175, 1268, 1269, 1270, 2, 1271, 180, 181, 284, 19, 358, 1230, 1231, 1232, 47, 1233, 370, 371, 1234, 1235, 1236, 1237, 187, 1238, 1239, 1240, 1241, 1133, 1134, 1135, 1136, 1114, 1115, 1116, 1117, 62, 949, 950, 951, 952, 1560, 1561, 1562, 1563, 1564, 1565, 1566, 1567, 1568, 1569, 1570, 1571, 1572, 1573, 1611, 1612, 1613, 1614, 1637, 1638, 1639, 1640, 1641, 1642] (by decide +kernel) (by decide +kernel)) (goodIn_sub (fun _ h => List.mem_append_left _ (List.mem_append_left _ (List.mem_append_left _ (List.mem_append_left _ (List.mem_append_left _ (List.mem_append_left _ (List.mem_append_left _ (List.mem_append_right _ h)))))))) (by decide +kernel))) (goodIn_sub (fun _ h => List.mem_append_left _ (List.mem_append_left _ (List.mem_append_left _ (List.mem_append_left _ (List.mem_append_left _ (List.mem_append_left _ (List.mem_append_right _ h))))))) (by decide +kernel))
set_option maxRecDepth 20000 in
theorem gL_law_L_cut : GoodIn wsL_law (va_wsS RL 361 yL_cut wsL_cut) := goodIn_app (goodIn_of _ (by decide +kernel)) ggL_law_L_cut
set_option maxRecDepth 20000 in
theorem ggL_law_X7_cut : GoodIn wsL_law wsX7_cut := goodIn_ca (goodIn_r _ [1275, 289, 209, 210, 5, 211, 215, 216, 217, 218, 219, 1246, 1247, 1248, 1249, 90, 91, 1250, 1251, 1252, 1253, 1145, 1146, 1147, 1148, 206, 88, 1574, 1575, 1576, 1577, 1578, 1579, 1580, 1581, 1582, 1583, 1584, 1585, 1586, 1587, 1588, 1589, 1590, 1591, 1592, 1593, 1594, 1595, 1596, 1597, 1598, 1599, 1600, 1601, 1602, 1603, 1604] (by decide +kernel) (by decide +kernel)) (goodIn_sub (fun _ h => List.mem_append_left _ (List.mem_append_left _ (List.mem_append_left _ (List.mem_append_left _ (List.mem_append_left _ (List.mem_append_left _ (List.mem_append_left _ (List.mem_append_right _ h)))))))) (by decide +kernel))
set_option maxRecDepth 20000 in
theorem gL_law_X7_cut : GoodIn wsL_law (wsV RL 363 RX7 yX7_cut wsX7_cut) := goodIn_app (goodIn_of _ (by decide +kernel)) ggL_law_X7_cut
set_option maxRecDepth 20000 in
theorem ggL_law_L_conditions : GoodIn wsL_law wsL_conditions := goodIn_ca (goodIn_ca (goodIn_r _ [1278, 175, 1279, 1280, 1281, 2, 1282, 180, 181, 1283, 1560, 1561, 1562, 1563, 1564, 1565, 1566, 1567, 1568, 1569, 1570, 1571, 1572, 1573] (by decide +kernel) (by decide +kernel)) (goodIn_sub (fun _ h => List.mem_append_left _ (List.mem_append_left _ (List.mem_append_left _ (List.mem_append_left _ (List.mem_append_left _ (List.mem_append_left _ (List.mem_append_left _ (List.mem_append_right _ h)))))))) (by decide +kernel))) (goodIn_sub (fun _ h => List.mem_append_left _ (List.mem_append_left _ (List.mem_append_left _ (List.mem_append_left _ (List.mem_append_left _ (List.mem_append_left _ (List.mem_append_right _ h))))))) (by decide +kernel))
set_option maxRecDepth 20000 in
theorem gL_law_L_conditions : GoodIn wsL_law (va_wsS RL 364 yL_conditions wsL_conditions) := goodIn_app (goodIn_of _ (by decide +kernel)) ggL_law_L_conditions
set_option maxRecDepth 20000 in
theorem ggL_law_X7_conditions : GoodIn wsL_law wsX7_conditions := goodIn_r _ [1287, 1288, 209, 210, 5, 211, 215, 216, 217, 218, 219, 1574, 1575, 1576, 1577, 1578, 1579, 1580, 1581, 1582, 1583, 1584, 1585, 1586, 1587, 1588, 1589, 1590, 1591, 1592, 1593, 1594, 1595, 1596, 1597, 1598, 1599, 1600, 1601, 1602, 1603, 1604] (by decide +kernel) (by decide +kernel)
set_option maxRecDepth 20000 in
theorem gL_law_X7_conditions : GoodIn wsL_law (wsV RL 366 RX7 yX7_conditions wsX7_conditions) := goodIn_app (goodIn_of _ (by decide +kernel)) ggL_law_X7_conditions
theorem dL_law_2983 : decode cL_law 2983 = .ok (.aload_n 1, 1) := by decide +kernel
theorem dL_law_2984 : decode cL_law 2984 = .ok (.aload_n 0, 1) := by decide +kernel
theorem dL_law_2985 : decode cL_law 2985 = .ok (.iload 5, 2) := by decide +kernel
theorem dL_law_2987 : decode cL_law 2987 = .ok (.iconst 1, 1) := by decide +kernel
theorem dL_law_2988 : decode cL_law 2988 = .ok (.iadd, 1) := by decide +kernel
theorem dL_law_2989 : decode cL_law 2989 = .ok (.iaload, 1) := by decide +kernel
theorem dL_law_2990 : decode cL_law 2990 = .ok (.aload_n 3, 1) := by decide +kernel
theorem dL_law_2991 : decode cL_law 2991 = .ok (.invokestatic 343, 3) := by decide +kernel
theorem dL_law_2994 : decode cL_law 2994 = .ok (.istore 6, 2) := by decide +kernel
theorem dL_law_2996 : decode cL_law 2996 = .ok (.aload_n 2, 1) := by decide +kernel
theorem dL_law_2997 : decode cL_law 2997 = .ok (.aload_n 0, 1) := by decide +kernel
theorem dL_law_2998 : decode cL_law 2998 = .ok (.iload 5, 2) := by decide +kernel
theorem dL_law_3000 : decode cL_law 3000 = .ok (.iconst 1, 1) := by decide +kernel
theorem dL_law_3001 : decode cL_law 3001 = .ok (.iadd, 1) := by decide +kernel
theorem dL_law_3002 : decode cL_law 3002 = .ok (.iaload, 1) := by decide +kernel
theorem dL_law_3003 : decode cL_law 3003 = .ok (.invokevirtual 345, 3) := by decide +kernel
theorem dL_law_3006 : decode cL_law 3006 = .ok (.istore 7, 2) := by decide +kernel
theorem dL_law_3008 : decode cL_law 3008 = .ok (.aload_n 2, 1) := by decide +kernel
theorem dL_law_3009 : decode cL_law 3009 = .ok (.invokevirtual 211, 3) := by decide +kernel
theorem dL_law_3012 : decode cL_law 3012 = .ok (.iload 6, 2) := by decide +kernel
theorem dL_law_3014 : decode cL_law 3014 = .ok (.if_icmp .eq 5, 3) := by decide +kernel
theorem dL_law_3019 : decode cL_law 3019 = .ok (.iload 6, 2) := by decide +kernel
theorem dL_law_3021 : decode cL_law 3021 = .ok (.ifCond .ne 15, 3) := by decide +kernel
theorem dL_law_3036 : decode cL_law 3036 = .ok (.goto 868, 3) := by decide +kernel
theorem dL_law_3039 : decode cL_law 3039 = .ok (.aload_n 1, 1) := by decide +kernel
theorem dL_law_3040 : decode cL_law 3040 = .ok (.aload_n 0, 1) := by decide +kernel
theorem dL_law_3041 : decode cL_law 3041 = .ok (.iload 5, 2) := by decide +kernel
theorem dL_law_3043 : decode cL_law 3043 = .ok (.iconst 1, 1) := by decide +kernel
theorem dL_law_3044 : decode cL_law 3044 = .ok (.iadd, 1) := by decide +kernel
theorem dL_law_3045 : decode cL_law 3045 = .ok (.iaload, 1) := by decide +kernel
theorem dL_law_3046 : decode cL_law 3046 = .ok (.aload_n 3, 1) := by decide +kernel
theorem dL_law_3047 : decode cL_law 3047 = .ok (.invokestatic 346, 3) := by decide +kernel
theorem dL_law_3050 : decode cL_law 3050 = .ok (.istore 6, 2) := by decide +kernel
theorem dL_law_3052 : decode cL_law 3052 = .ok (.aload_n 2, 1) := by decide +kernel
theorem dL_law_3053 : decode cL_law 3053 = .ok (.aload_n 0, 1) := by decide +kernel
theorem dL_law_3054 : decode cL_law 3054 = .ok (.iload 5, 2) := by decide +kernel
theorem dL_law_3056 : decode cL_law 3056 = .ok (.iconst 1, 1) := by decide +kernel
theorem dL_law_3057 : decode cL_law 3057 = .ok (.iadd, 1) := by decide +kernel
theorem dL_law_3058 : decode cL_law 3058 = .ok (.iaload, 1) := by decide +kernel
theorem dL_law_3059 : decode cL_law 3059 = .ok (.invokevirtual 348, 3) := by decide +kernel
theorem dL_law_3062 : decode cL_law 3062 = .ok (.istore 7, 2) := by decide +kernel
theorem dL_law_3064 : decode cL_law 3064 = .ok (.aload_n 2, 1) := by decide +kernel
theorem dL_law_3065 : decode cL_law 3065 = .ok (.invokevirtual 211, 3) := by decide +kernel
theorem dL_law_3068 : decode cL_law 3068 = .ok (.iload 6, 2) := by decide +kernel
theorem dL_law_3070 : decode cL_law 3070 = .ok (.if_icmp .eq 5, 3) := by decide +kernel
theorem dL_law_3075 : decode cL_law 3075 = .ok (.iload 6, 2) := by decide +kernel
theorem dL_law_3077 : decode cL_law 3077 = .ok (.ifCond .ne 15, 3) := by decide +kernel
theorem dL_law_3092 : decode cL_law 3092 = .ok (.goto 812, 3) := by decide +kernel
theorem dL_law_3095 : decode cL_law 3095 = .ok (.aload_n 1, 1) := by decide +kernel
theorem dL_law_3096 : decode cL_law 3096 = .ok (.aload_n 0, 1) := by decide +kernel
theorem dL_law_3097 : decode cL_law 3097 = .ok (.iload 5, 2) := by decide +kernel
theorem dL_law_3099 : decode cL_law 3099 = .ok (.iconst 1, 1) := by decide +kernel
theorem dL_law_3100 : decode cL_law 3100 = .ok (.iadd, 1) := by decide +kernel
theorem dL_law_3101 : decode cL_law 3101 = .ok (.iaload, 1) := by decide +kernel
theorem dL_law_3102 : decode cL_law 3102 = .ok (.aload_n 0, 1) := by decide +kernel
theorem dL_law_3103 : decode cL_law 3103 = .ok (.iload 5, 2) := by decide +kernel
theorem dL_law_3105 : decode cL_law 3105 = .ok (.iconst 2, 1) := by decide +kernel
theorem dL_law_3106 : decode cL_law 3106 = .ok (.iadd, 1) := by decide +kernel
theorem dL_law_3107 : decode cL_law 3107 = .ok (.iaload, 1) := by decide +kernel
theorem dL_law_3108 : decode cL_law 3108 = .ok (.aload_n 3, 1) := by decide +kernel
theorem dL_law_3109 : decode cL_law 3109 = .ok (.invokestatic 349, 3) := by decide +kernel
theorem dL_law_3112 : decode cL_law 3112 = .ok (.istore 6, 2) := by decide +kernel
theorem dL_law_3114 : decode cL_law 3114 = .ok (.aload_n 2, 1) := by decide +kernel
theorem dL_law_3115 : decode cL_law 3115 = .ok (.aload_n 0, 1) := by decide +kernel
theorem dL_law_3116 : decode cL_law 3116 = .ok (.iload 5, 2) := by decide +kernel
theorem dL_law_3118 : decode cL_law 3118 = .ok (.iconst 1, 1) := by decide +kernel
theorem dL_law_3119 : decode cL_law 3119 = .ok (.iadd, 1) := by decide +kernel
theorem dL_law_3120 : decode cL_law 3120 = .ok (.iaload, 1) := by decide +kernel
theorem dL_law_3121 : decode cL_law 3121 = .ok (.aload_n 0, 1) := by decide +kernel
theorem dL_law_3122 : decode cL_law 3122 = .ok (.iload 5, 2) := by decide +kernel
theorem dL_law_3124 : decode cL_law 3124 = .ok (.iconst 2, 1) := by decide +kernel
theorem dL_law_3125 : decode cL_law 3125 = .ok (.iadd, 1) := by decide +kernel
theorem dL_law_3126 : decode cL_law 3126 = .ok (.iaload, 1) := by decide +kernel
theorem dL_law_3127 : decode cL_law 3127 = .ok (.invokevirtual 351, 3) := by decide +kernel
theorem dL_law_3130 : decode cL_law 3130 = .ok (.istore 7, 2) := by decide +kernel
theorem dL_law_3132 : decode cL_law 3132 = .ok (.aload_n 2, 1) := by decide +kernel
theorem dL_law_3133 : decode cL_law 3133 = .ok (.invokevirtual 211, 3) := by decide +kernel
theorem dL_law_3136 : decode cL_law 3136 = .ok (.iload 6, 2) := by decide +kernel
theorem dL_law_3138 : decode cL_law 3138 = .ok (.if_icmp .eq 5, 3) := by decide +kernel
theorem dL_law_3143 : decode cL_law 3143 = .ok (.iload 6, 2) := by decide +kernel
theorem dL_law_3145 : decode cL_law 3145 = .ok (.ifCond .ne 15, 3) := by decide +kernel
theorem dL_law_3160 : decode cL_law 3160 = .ok (.goto 744, 3) := by decide +kernel
theorem dL_law_3163 : decode cL_law 3163 = .ok (.aload_n 1, 1) := by decide +kernel
theorem dL_law_3164 : decode cL_law 3164 = .ok (.aload_n 0, 1) := by decide +kernel
theorem dL_law_3165 : decode cL_law 3165 = .ok (.iload 5, 2) := by decide +kernel
theorem dL_law_3167 : decode cL_law 3167 = .ok (.iconst 1, 1) := by decide +kernel
theorem dL_law_3168 : decode cL_law 3168 = .ok (.iadd, 1) := by decide +kernel
theorem dL_law_3169 : decode cL_law 3169 = .ok (.iaload, 1) := by decide +kernel
theorem dL_law_3170 : decode cL_law 3170 = .ok (.aload_n 3, 1) := by decide +kernel
theorem dL_law_3171 : decode cL_law 3171 = .ok (.invokestatic 352, 3) := by decide +kernel
theorem dL_law_3174 : decode cL_law 3174 = .ok (.istore 6, 2) := by decide +kernel
theorem dL_law_3176 : decode cL_law 3176 = .ok (.aload_n 2, 1) := by decide +kernel
theorem dL_law_3177 : decode cL_law 3177 = .ok (.aload_n 0, 1) := by decide +kernel
theorem dL_law_3178 : decode cL_law 3178 = .ok (.iload 5, 2) := by decide +kernel
theorem dL_law_3180 : decode cL_law 3180 = .ok (.iconst 1, 1) := by decide +kernel
theorem dL_law_3181 : decode cL_law 3181 = .ok (.iadd, 1) := by decide +kernel
theorem dL_law_3182 : decode cL_law 3182 = .ok (.iaload, 1) := by decide +kernel
theorem dL_law_3183 : decode cL_law 3183 = .ok (.invokevirtual 354, 3) := by decide +kernel
theorem dL_law_3186 : decode cL_law 3186 = .ok (.istore 7, 2) := by decide +kernel
theorem dL_law_3188 : decode cL_law 3188 = .ok (.aload_n 2, 1) := by decide +kernel
theorem dL_law_3189 : decode cL_law 3189 = .ok (.invokevirtual 211, 3) := by decide +kernel
theorem dL_law_3192 : decode cL_law 3192 = .ok (.iload 6, 2) := by decide +kernel
theorem dL_law_3194 : decode cL_law 3194 = .ok (.if_icmp .eq 5, 3) := by decide +kernel
theorem dL_law_3199 : decode cL_law 3199 = .ok (.iload 6, 2) := by decide +kernel
theorem dL_law_3201 : decode cL_law 3201 = .ok (.ifCond .ne 15, 3) := by decide +kernel
theorem dL_law_3216 : decode cL_law 3216 = .ok (.goto 688, 3) := by decide +kernel
theorem dL_law_3219 : decode cL_law 3219 = .ok (.aload_n 1, 1) := by decide +kernel
theorem dL_law_3220 : decode cL_law 3220 = .ok (.aload_n 0, 1) := by decide +kernel
theorem dL_law_3221 : decode cL_law 3221 = .ok (.iload 5, 2) := by decide +kernel
theorem dL_law_3223 : decode cL_law 3223 = .ok (.iconst 1, 1) := by decide +kernel
theorem dL_law_3224 : decode cL_law 3224 = .ok (.iadd, 1) := by decide +kernel
theorem dL_law_3225 : decode cL_law 3225 = .ok (.iaload, 1) := by decide +kernel
theorem dL_law_3226 : decode cL_law 3226 = .ok (.aload_n 3, 1) := by decide +kernel
theorem dL_law_3227 : decode cL_law 3227 = .ok (.invokestatic 355, 3) := by decide +kernel
theorem dL_law_3230 : decode cL_law 3230 = .ok (.istore 6, 2) := by decide +kernel
theorem dL_law_3232 : decode cL_law 3232 = .ok (.aload_n 2, 1) := by decide +kernel
theorem dL_law_3233 : decode cL_law 3233 = .ok (.aload_n 0, 1) := by decide +kernel
theorem dL_law_3234 : decode cL_law 3234 = .ok (.iload 5, 2) := by decide +kernel
theorem dL_law_3236 : decode cL_law 3236 = .ok (.iconst 1, 1) := by decide +kernel
theorem dL_law_3237 : decode cL_law 3237 = .ok (.iadd, 1) := by decide +kernel
theorem dL_law_3238 : decode cL_law 3238 = .ok (.iaload, 1) := by decide +kernel
theorem dL_law_3239 : decode cL_law 3239 = .ok (.invokevirtual 357, 3) := by decide +kernel
theorem dL_law_3242 : decode cL_law 3242 = .ok (.istore 7, 2) := by decide +kernel
theorem dL_law_3244 : decode cL_law 3244 = .ok (.aload_n 2, 1) := by decide +kernel
theorem dL_law_3245 : decode cL_law 3245 = .ok (.invokevirtual 211, 3) := by decide +kernel
theorem dL_law_3248 : decode cL_law 3248 = .ok (.iload 6, 2) := by decide +kernel
theorem dL_law_3250 : decode cL_law 3250 = .ok (.if_icmp .eq 5, 3) := by decide +kernel
theorem dL_law_3255 : decode cL_law 3255 = .ok (.iload 6, 2) := by decide +kernel
theorem dL_law_3257 : decode cL_law 3257 = .ok (.ifCond .ne 15, 3) := by decide +kernel
theorem dL_law_3272 : decode cL_law 3272 = .ok (.goto 632, 3) := by decide +kernel
theorem dL_law_3275 : decode cL_law 3275 = .ok (.aload_n 1, 1) := by decide +kernel
theorem dL_law_3276 : decode cL_law 3276 = .ok (.aload_n 0, 1) := by decide +kernel
theorem dL_law_3277 : decode cL_law 3277 = .ok (.iload 5, 2) := by decide +kernel
theorem dL_law_3279 : decode cL_law 3279 = .ok (.iconst 1, 1) := by decide +kernel
theorem dL_law_3280 : decode cL_law 3280 = .ok (.iadd, 1) := by decide +kernel
theorem dL_law_3281 : decode cL_law 3281 = .ok (.iaload, 1) := by decide +kernel
theorem dL_law_3282 : decode cL_law 3282 = .ok (.aload_n 0, 1) := by decide +kernel
theorem dL_law_3283 : decode cL_law 3283 = .ok (.iload 5, 2) := by decide +kernel
theorem dL_law_3285 : decode cL_law 3285 = .ok (.iconst 2, 1) := by decide +kernel
theorem dL_law_3286 : decode cL_law 3286 = .ok (.iadd, 1) := by decide +kernel
theorem dL_law_3287 : decode cL_law 3287 = .ok (.iaload, 1) := by decide +kernel
theorem dL_law_3288 : decode cL_law 3288 = .ok (.aload_n 3, 1) := by decide +kernel
theorem dL_law_3289 : decode cL_law 3289 = .ok (.invokestatic 358, 3) := by decide +kernel
theorem dL_law_3292 : decode cL_law 3292 = .ok (.istore 6, 2) := by decide +kernel
theorem dL_law_3294 : decode cL_law 3294 = .ok (.aload_n 2, 1) := by decide +kernel
theorem dL_law_3295 : decode cL_law 3295 = .ok (.aload_n 0, 1) := by decide +kernel
theorem dL_law_3296 : decode cL_law 3296 = .ok (.iload 5, 2) := by decide +kernel
theorem dL_law_3298 : decode cL_law 3298 = .ok (.iconst 1, 1) := by decide +kernel
theorem dL_law_3299 : decode cL_law 3299 = .ok (.iadd, 1) := by decide +kernel
theorem dL_law_3300 : decode cL_law 3300 = .ok (.iaload, 1) := by decide +kernel
theorem dL_law_3301 : decode cL_law 3301 = .ok (.aload_n 0, 1) := by decide +kernel
theorem dL_law_3302 : decode cL_law 3302 = .ok (.iload 5, 2) := by decide +kernel
theorem dL_law_3304 : decode cL_law 3304 = .ok (.iconst 2, 1) := by decide +kernel
theorem dL_law_3305 : decode cL_law 3305 = .ok (.iadd, 1) := by decide +kernel
theorem dL_law_3306 : decode cL_law 3306 = .ok (.iaload, 1) := by decide +kernel
theorem dL_law_3307 : decode cL_law 3307 = .ok (.invokevirtual 360, 3) := by decide +kernel
theorem dL_law_3310 : decode cL_law 3310 = .ok (.istore 7, 2) := by decide +kernel
theorem dL_law_3312 : decode cL_law 3312 = .ok (.aload_n 2, 1) := by decide +kernel
theorem dL_law_3313 : decode cL_law 3313 = .ok (.invokevirtual 211, 3) := by decide +kernel
theorem dL_law_3316 : decode cL_law 3316 = .ok (.iload 6, 2) := by decide +kernel
theorem dL_law_3318 : decode cL_law 3318 = .ok (.if_icmp .eq 5, 3) := by decide +kernel
theorem dL_law_3323 : decode cL_law 3323 = .ok (.iload 6, 2) := by decide +kernel
theorem dL_law_3325 : decode cL_law 3325 = .ok (.ifCond .ne 22, 3) := by decide +kernel
theorem dL_law_3347 : decode cL_law 3347 = .ok (.goto 557, 3) := by decide +kernel
theorem dL_law_3350 : decode cL_law 3350 = .ok (.aload_n 1, 1) := by decide +kernel
theorem dL_law_3351 : decode cL_law 3351 = .ok (.aload_n 0, 1) := by decide +kernel
theorem dL_law_3352 : decode cL_law 3352 = .ok (.iload 5, 2) := by decide +kernel
theorem dL_law_3354 : decode cL_law 3354 = .ok (.iconst 1, 1) := by decide +kernel
theorem dL_law_3355 : decode cL_law 3355 = .ok (.iadd, 1) := by decide +kernel
theorem dL_law_3356 : decode cL_law 3356 = .ok (.iaload, 1) := by decide +kernel
theorem dL_law_3357 : decode cL_law 3357 = .ok (.aload_n 3, 1) := by decide +kernel
theorem dL_law_3358 : decode cL_law 3358 = .ok (.invokestatic 361, 3) := by decide +kernel
theorem dL_law_3361 : decode cL_law 3361 = .ok (.istore 6, 2) := by decide +kernel
theorem dL_law_3363 : decode cL_law 3363 = .ok (.aload_n 2, 1) := by decide +kernel
theorem dL_law_3364 : decode cL_law 3364 = .ok (.aload_n 0, 1) := by decide +kernel
theorem dL_law_3365 : decode cL_law 3365 = .ok (.iload 5, 2) := by decide +kernel
theorem dL_law_3367 : decode cL_law 3367 = .ok (.iconst 1, 1) := by decide +kernel
theorem dL_law_3368 : decode cL_law 3368 = .ok (.iadd, 1) := by decide +kernel
theorem dL_law_3369 : decode cL_law 3369 = .ok (.iaload, 1) := by decide +kernel
theorem dL_law_3370 : decode cL_law 3370 = .ok (.invokevirtual 363, 3) := by decide +kernel
theorem dL_law_3373 : decode cL_law 3373 = .ok (.istore 7, 2) := by decide +kernel
theorem dL_law_3375 : decode cL_law 3375 = .ok (.aload_n 2, 1) := by decide +kernel
theorem dL_law_3376 : decode cL_law 3376 = .ok (.invokevirtual 211, 3) := by decide +kernel
theorem dL_law_3379 : decode cL_law 3379 = .ok (.iload 6, 2) := by decide +kernel
theorem dL_law_3381 : decode cL_law 3381 = .ok (.if_icmp .eq 5, 3) := by decide +kernel
theorem dL_law_3386 : decode cL_law 3386 = .ok (.iload 6, 2) := by decide +kernel
theorem dL_law_3388 : decode cL_law 3388 = .ok (.ifCond .ne 15, 3) := by decide +kernel
theorem dL_law_3391 : decode cL_law 3391 = .ok (.aload_n 3, 1) := by decide +kernel
theorem dL_law_3392 : decode cL_law 3392 = .ok (.iconst 0, 1) := by decide +kernel
theorem dL_law_3393 : decode cL_law 3393 = .ok (.laload, 1) := by decide +kernel
theorem dL_law_3394 : decode cL_law 3394 = .ok (.iload 7, 2) := by decide +kernel
theorem dL_law_3396 : decode cL_law 3396 = .ok (.i2l, 1) := by decide +kernel
theorem dL_law_3397 : decode cL_law 3397 = .ok (.lcmp, 1) := by decide +kernel
theorem dL_law_3398 : decode cL_law 3398 = .ok (.ifCond .eq 5, 3) := by decide +kernel
theorem dL_law_3403 : decode cL_law 3403 = .ok (.goto 501, 3) := by decide +kernel
theorem dL_law_3406 : decode cL_law 3406 = .ok (.aload_n 1, 1) := by decide +kernel
theorem dL_law_3407 : decode cL_law 3407 = .ok (.aload_n 0, 1) := by decide +kernel
theorem dL_law_3408 : decode cL_law 3408 = .ok (.iload 5, 2) := by decide +kernel
theorem dL_law_3410 : decode cL_law 3410 = .ok (.iconst 1, 1) := by decide +kernel
theorem dL_law_3411 : decode cL_law 3411 = .ok (.iadd, 1) := by decide +kernel
theorem dL_law_3412 : decode cL_law 3412 = .ok (.iaload, 1) := by decide +kernel
theorem dL_law_3413 : decode cL_law 3413 = .ok (.aload_n 3, 1) := by decide +kernel
theorem dL_law_3414 : decode cL_law 3414 = .ok (.invokestatic 364, 3) := by decide +kernel
theorem dL_law_3417 : decode cL_law 3417 = .ok (.istore 6, 2) := by decide +kernel
theorem dL_law_3419 : decode cL_law 3419 = .ok (.aload_n 2, 1) := by decide +kernel
theorem dL_law_3420 : decode cL_law 3420 = .ok (.aload_n 0, 1) := by decide +kernel
theorem dL_law_3421 : decode cL_law 3421 = .ok (.iload 5, 2) := by decide +kernel
theorem dL_law_3423 : decode cL_law 3423 = .ok (.iconst 1, 1) := by decide +kernel
theorem dL_law_3424 : decode cL_law 3424 = .ok (.iadd, 1) := by decide +kernel
theorem dL_law_3425 : decode cL_law 3425 = .ok (.iaload, 1) := by decide +kernel
theorem dL_law_3426 : decode cL_law 3426 = .ok (.invokevirtual 366, 3) := by decide +kernel
theorem dL_law_3429 : decode cL_law 3429 = .ok (.istore 7, 2) := by decide +kernel
theorem dL_law_3431 : decode cL_law 3431 = .ok (.aload_n 2, 1) := by decide +kernel
theorem dL_law_3432 : decode cL_law 3432 = .ok (.invokevirtual 211, 3) := by decide +kernel
theorem dL_law_3435 : decode cL_law 3435 = .ok (.iload 6, 2) := by decide +kernel
theorem dL_law_3437 : decode cL_law 3437 = .ok (.if_icmp .eq 5, 3) := by decide +kernel
theorem dL_law_3442 : decode cL_law 3442 = .ok (.iload 6, 2) := by decide +kernel
theorem dL_law_3444 : decode cL_law 3444 = .ok (.ifCond .ne 15, 3) := by decide +kernel
theorem dL_law_3447 : decode cL_law 3447 = .ok (.aload_n 3, 1) := by decide +kernel
theorem dL_law_3448 : decode cL_law 3448 = .ok (.iconst 0, 1) := by decide +kernel
theorem dL_law_3449 : decode cL_law 3449 = .ok (.laload, 1) := by decide +kernel
theorem dL_law_3450 : decode cL_law 3450 = .ok (.iload 7, 2) := by decide +kernel
theorem dL_law_3452 : decode cL_law 3452 = .ok (.i2l, 1) := by decide +kernel
theorem dL_law_3453 : decode cL_law 3453 = .ok (.lcmp, 1) := by decide +kernel
theorem dL_law_3454 : decode cL_law 3454 = .ok (.ifCond .eq 5, 3) := by decide +kernel
theorem dL_law_3459 : decode cL_law 3459 = .ok (.goto 445, 3) := by decide +kernel
set_option maxHeartbeats 4000000 in
set_option maxRecDepth 100000 in
theorem law_c40 (l : Launch) (hlT : l.stackTraces = false) {p : Program} {e : Env} {s : State} {m : MethodId} {below : List Frame} {meth : Method} {c : Code} {Q : State → Prop} {D : va_G} {A : Nat → Prop} {b : Nat} {xs : Nat → Int32} {x m7 o o2 : Nat} {rx rm : Nat → Nat} {cO cD : ClassId} {fo : Nat → Int64} {fd : Nat → UInt64} {H : Heap} {locs : List Loc} {ls : Array Slot} (hx : p.tables.exec = Jvm.exec) (hb : c.code = cL_law) (hml : c.maxLocals = 9) (hown : s.vm.findClass RL = some m.cls) (hts : ∀ w ∈ wsL_law, w.before #[Value.ref b] s = true) (hX : va_X b 7 xs s s.heap) (hbl : b < s.heap.size) (hbA : ¬ A b) (hA : ∀ q : Nat, s.heap.size ≤ q → A q) (hT : tf A s s.heap)
    (hK : va_K D vwCl [(cO, .long), (cD, .double)] s) (hP : va_P D vwCl [(x, .inr (12, [.ref (rx 0), .ref (rx 1), .ref (rx 2), .ref (rx 3), .int 0, .int 0, .int 1, .int 110, .int 0, .int 115, .int 0, .int 0, .int 0, .int 0])), (m7, .inr (13, [.ref (rm 0), .ref (rm 1), .ref (rm 2), .ref (rm 3), .ref (rm 4), .ref (rm 5), .ref (rm 6), .ref (rm 7), .ref (rm 8), .ref (rm 9), .ref (rm 10), .ref (rm 11), .ref (rm 12), .ref (rm 13), .ref (rm 14), .ref (rm 15), .int 0, .int 0, .int 1, .int 110, .int 0, .int 0, .int 0, .int 0, .int 0, .int 0, .int 0, .int 0, .int 0, .int 0, .int 0])), (o, .inl (cO, 1, .inr (.inl fo))), (o2, .inl (cD, 1, .inr (.inr (.inr (.inl fd)))))] H) (hD : va_D A [(x, .inr (12, [.ref (rx 0), .ref (rx 1), .ref (rx 2), .ref (rx 3), .int 0, .int 0, .int 1, .int 110, .int 0, .int 115, .int 0, .int 0, .int 0, .int 0])), (m7, .inr (13, [.ref (rm 0), .ref (rm 1), .ref (rm 2), .ref (rm 3), .ref (rm 4), .ref (rm 5), .ref (rm 6), .ref (rm 7), .ref (rm 8), .ref (rm 9), .ref (rm 10), .ref (rm 11), .ref (rm 12), .ref (rm 13), .ref (rm 14), .ref (rm 15), .int 0, .int 0, .int 1, .int 110, .int 0, .int 0, .int 0, .int 0, .int 0, .int 0, .int 0, .int 0, .int 0, .int 0, .int 0])), (o, .inl (cO, 1, .inr (.inl fo))), (o2, .inl (cD, 1, .inr (.inr (.inr (.inl fd)))))]) (hS : va_S A s.heap H locs) (hl : lv_has ls 9 [(0, .ref b), (1, .ref x), (2, .ref m7), (3, .ref o), (4, .ref o2), (5, .int 0)])
    (kk : ∀ (H : Heap) (locs : List Loc) (ls : Array Slot), va_S A s.heap H locs → lv_has ls 9 [(0, .ref b), (5, .int 0)] → W p l e room_1 s m #[Value.ref b] below meth c H locs 200 12100 Q (F0 m 3904 ls [])) :
    W p l e room_1 s m #[Value.ref b] below meth c H locs 140 11923 Q (F0 m 2983 ls []) := by
  obtain ⟨a1, ea1⟩ : ∃ z, z = xs (1 : Int32).toNatClampNeg := ⟨_, rfl⟩
  obtain ⟨a2, ea2⟩ : ∃ z, z = xs (2 : Int32).toNatClampNeg := ⟨_, rfl⟩
  obtain ⟨a3, ea3⟩ : ∃ z, z = xs (3 : Int32).toNatClampNeg := ⟨_, rfl⟩
  obtain ⟨a4, ea4⟩ : ∃ z, z = xs (4 : Int32).toNatClampNeg := ⟨_, rfl⟩
  obtain ⟨a5, ea5⟩ : ∃ z, z = xs (5 : Int32).toNatClampNeg := ⟨_, rfl⟩
  obtain ⟨a6, ea6⟩ : ∃ z, z = xs (6 : Int32).toNatClampNeg := ⟨_, rfl⟩
  refine lv_aload_n hx hb dL_law_2983 rfl (lv_at hl 1 rfl) ?_
  refine lv_aload_n hx hb dL_law_2984 rfl (lv_at hl 0 rfl) ?_
  refine lv_iload hx hb dL_law_2985 (lv_at hl 5 rfl) ?_
  refine lv_iconst (v := 1) hx hb dL_law_2987 (by decide) ?_
  refine lv_iadd hx hb dL_law_2988 ?_
  refine lv_topi (fun y1 ey1 => ?_)
  obtain rfl : y1 = 1 := ey1.trans (by decide)
  refine va_sld hx hb hX hbl hbA hS (vp_in_nI (n := 1) (by decide) (by decide)) dL_law_2989 ?_
  rw [← ea1]
  refine lv_aload_n hx hb dL_law_2990 rfl (lv_at hl 3 rfl) ?_
  have hPc := hP.sub (ws' := [(x, .inr (12, [.ref (rx 0), .ref (rx 1), .ref (rx 2), .ref (rx 3), .int 0, .int 0, .int 1, .int 110, .int 0, .int 115, .int 0, .int 0, .int 0, .int 0]))]) [0] rfl
  have hDc := hD.sub (ws' := [(x, .inr (12, [.ref (rx 0), .ref (rx 1), .ref (rx 2), .ref (rx 3), .int 0, .int 0, .int 1, .int 110, .int 0, .int 115, .int 0, .int 0, .int 0, .int 0]))]) [0] (by decide) rfl
  have hKc := hK.sub (tys' := []) [] rfl
  have hFc := va_free (wc := [(x, .inr (12, [.ref (rx 0), .ref (rx 1), .ref (rx 2), .ref (rx 3), .int 0, .int 0, .int 1, .int 110, .int 0, .int 115, .int 0, .int 0, .int 0, .int 0]))]) hD hS hA [0] rfl
  refine va_calli (vx_runSW (As := [.ref x, .int a1, .ref o]) (rest := []) ⟨hx, hb, hml, hown, hts⟩ (c_L_stableford l hlT D x rx o H.size a1) (vx_cwSW 3 hts gL_law_L_stableford rfl rfl rfl (by decide +kernel) ⟨Nat.le_of_ble_eq_true rfl, Nat.le_of_ble_eq_true rfl⟩) ⟨fun a U g mk q => ⟨q.1, PX6.blind q.2⟩, fun U hU hW => ⟨rfl, PX6.go hPc hKc hT hS hA hU hW⟩⟩ rfl rfl hl.1 rfl (lv_room (Nat.le_of_ble_eq_true rfl)) dL_law_2991 ⟨Nat.le_of_ble_eq_true rfl, Nat.le_of_ble_eq_true rfl⟩) hS (fun q h1 h2 => absurd h1 (Nat.not_lt.mpr h2)) (fun q h => hA q (Nat.le_trans hS.1 h)) (fun r2 u t H1 locs ht hvm hw hB hz1 hk1 hS => ?_)
  have hP := va_kept0 hP hk1
  generalize H1 = H at hP hS ⊢
  have hP : va_P D vwCl [(x, .inr (12, [.ref (rx 0), .ref (rx 1), .ref (rx 2), .ref (rx 3), .int 0, .int 0, .int 1, .int 110, .int 0, .int 115, .int 0, .int 0, .int 0, .int 0])), (m7, .inr (13, [.ref (rm 0), .ref (rm 1), .ref (rm 2), .ref (rm 3), .ref (rm 4), .ref (rm 5), .ref (rm 6), .ref (rm 7), .ref (rm 8), .ref (rm 9), .ref (rm 10), .ref (rm 11), .ref (rm 12), .ref (rm 13), .ref (rm 14), .ref (rm 15), .int 0, .int 0, .int 1, .int 110, .int 0, .int 0, .int 0, .int 0, .int 0, .int 0, .int 0, .int 0, .int 0, .int 0, .int 0])), (o, .inl (cO, 1, .inr (.inl fo))), (o2, .inl (cD, 1, .inr (.inr (.inr (.inl fd)))))] H := hP
  have hD := hD
  refine W.widen (k := 141) (n := 11929) (Nat.le_of_ble_eq_true rfl) (Nat.le_of_ble_eq_true rfl) ?_
  obtain rfl : r2 = 1 := hw
  refine lv_istore (lv' := [(6, .int 1), (0, .ref b), (1, .ref x), (2, .ref m7), (3, .ref o), (4, .ref o2), (5, .int 0)]) hx hb dL_law_2994 hl (by decide) rfl (fun ls hl => ?_)
  refine lv_aload_n hx hb dL_law_2996 rfl (lv_at hl 3 rfl) ?_
  refine lv_aload_n hx hb dL_law_2997 rfl (lv_at hl 1 rfl) ?_
  refine lv_iload hx hb dL_law_2998 (lv_at hl 6 rfl) ?_
  refine lv_iconst (v := 1) hx hb dL_law_3000 (by decide) ?_
  refine lv_iadd hx hb dL_law_3001 ?_
  refine lv_topi (fun y3 ey3 => ?_)
  obtain rfl : y3 = 1 := ey3.trans (by decide)
  refine va_sld hx hb hX hbl hbA hS (vp_in_nI (n := 1) (by decide) (by decide)) dL_law_3002 ?_
  rw [← ea1]
  have hPc := hP.sub (ws' := [(m7, .inr (13, [.ref (rm 0), .ref (rm 1), .ref (rm 2), .ref (rm 3), .ref (rm 4), .ref (rm 5), .ref (rm 6), .ref (rm 7), .ref (rm 8), .ref (rm 9), .ref (rm 10), .ref (rm 11), .ref (rm 12), .ref (rm 13), .ref (rm 14), .ref (rm 15), .int 0, .int 0, .int 1, .int 110, .int 0, .int 0, .int 0, .int 0, .int 0, .int 0, .int 0, .int 0, .int 0, .int 0, .int 0]))]) [1] rfl
  have hDc := hD.sub (ws' := [(m7, .inr (13, [.ref (rm 0), .ref (rm 1), .ref (rm 2), .ref (rm 3), .ref (rm 4), .ref (rm 5), .ref (rm 6), .ref (rm 7), .ref (rm 8), .ref (rm 9), .ref (rm 10), .ref (rm 11), .ref (rm 12), .ref (rm 13), .ref (rm 14), .ref (rm 15), .int 0, .int 0, .int 1, .int 110, .int 0, .int 0, .int 0, .int 0, .int 0, .int 0, .int 0, .int 0, .int 0, .int 0, .int 0]))]) [1] (by decide) rfl
  have hKc := hK.sub (tys' := []) [] rfl
  have hFc := va_free (wc := [(m7, .inr (13, [.ref (rm 0), .ref (rm 1), .ref (rm 2), .ref (rm 3), .ref (rm 4), .ref (rm 5), .ref (rm 6), .ref (rm 7), .ref (rm 8), .ref (rm 9), .ref (rm 10), .ref (rm 11), .ref (rm 12), .ref (rm 13), .ref (rm 14), .ref (rm 15), .int 0, .int 0, .int 1, .int 110, .int 0, .int 0, .int 0, .int 0, .int 0, .int 0, .int 0, .int 0, .int 0, .int 0, .int 0]))]) hD hS hA [1] rfl
  have hFr : ∀ q : Nat, rg1 m7 H.size q → A q := fun q h => hFc q (va_Arg1 q h)
  refine va_calli (va_runV (As := [.int a1]) (rest := []) ⟨hx, hb, hml, hown, hts⟩ (c_X7_stableford l D m7 rm H.size a1) (cwV 1 hts gL_law_X7_stableford rfl rfl rfl (by decide +kernel) ⟨Nat.le_of_ble_eq_true rfl, Nat.le_of_ble_eq_true rfl⟩) ⟨fun a U g mk q => ⟨q.1, PX7.blind q.2⟩, va_recv hK hP (ci := 13) (q0 := 1) rfl rfl, fun U hU hW => ⟨rfl, PX7.go hPc hKc hU hW⟩⟩ rfl rfl hl.1 rfl (lv_room (Nat.le_of_ble_eq_true rfl)) dL_law_3003 ⟨Nat.le_of_ble_eq_true rfl, Nat.le_of_ble_eq_true rfl⟩) hS (fun q _ h => hFr q h) hFr (fun r4 u t H1 locs ht hvm hw hB hz1 hk1 hS => ?_)
  obtain ⟨um, eum⟩ : ∃ z, z = u := ⟨_, rfl⟩
  rw [← eum] at hB hw
  rw [ht] at hB
  have hP1 := hB
  have hD1 : va_D (va_A [(m7, .inr (13, [.ref (rm 0), .ref (rm 1), .ref (rm 2), .ref (rm 3), .ref (rm 4), .ref (rm 5), .ref (rm 6), .ref (rm 7), .ref (rm 8), .ref (rm 9), .ref (rm 10), .ref (rm 11), .ref (rm 12), .ref (rm 13), .ref (rm 14), .ref (rm 15), .int 0, .int 0, .int 1, .int 110, .int 0, .int 0, .int 0, .int 0, .int 0, .int 0, .int 0, .int 0, .int 0, .int 0, .int 0]))] H.size) [(m7, .inr (13, um))] := va_D1 (Or.inl ⟨0, _, rfl⟩)
  have hk1 : ∀ q : Nat, q < H.size → ¬ va_A [(m7, .inr (13, [.ref (rm 0), .ref (rm 1), .ref (rm 2), .ref (rm 3), .ref (rm 4), .ref (rm 5), .ref (rm 6), .ref (rm 7), .ref (rm 8), .ref (rm 9), .ref (rm 10), .ref (rm 11), .ref (rm 12), .ref (rm 13), .ref (rm 14), .ref (rm 15), .int 0, .int 0, .int 1, .int 110, .int 0, .int 0, .int 0, .int 0, .int 0, .int 0, .int 0, .int 0, .int 0, .int 0, .int 0]))] H.size q → H1[q]? = H[q]? := fun q h1 h2 => hk1 q h1 (fun h3 => h2 (va_Arg1 q h3))
  obtain ⟨hP, hD⟩ := va_join (wr := [(x, .inr (12, [.ref (rx 0), .ref (rx 1), .ref (rx 2), .ref (rx 3), .int 0, .int 0, .int 1, .int 110, .int 0, .int 115, .int 0, .int 0, .int 0, .int 0])), (o, .inl (cO, 1, .inr (.inl fo))), (o2, .inl (cD, 1, .inr (.inr (.inr (.inl fd)))))]) (w1 := [(m7, .inr (13, um))]) hP hD [1] [0, 2, 3] rfl rfl (by decide) (by decide) hk1 hFc hP1 hD1
  generalize H1 = H at hP hS ⊢
  have hP : va_P D vwCl [(x, .inr (12, [.ref (rx 0), .ref (rx 1), .ref (rx 2), .ref (rx 3), .int 0, .int 0, .int 1, .int 110, .int 0, .int 115, .int 0, .int 0, .int 0, .int 0])), (o, .inl (cO, 1, .inr (.inl fo))), (o2, .inl (cD, 1, .inr (.inr (.inr (.inl fd))))), (m7, .inr (13, um))] H := hP
  have hD : va_D A [(x, .inr (12, [.ref (rx 0), .ref (rx 1), .ref (rx 2), .ref (rx 3), .int 0, .int 0, .int 1, .int 110, .int 0, .int 115, .int 0, .int 0, .int 0, .int 0])), (o, .inl (cO, 1, .inr (.inl fo))), (o2, .inl (cD, 1, .inr (.inr (.inr (.inl fd))))), (m7, .inr (13, um))] := hD
  refine W.widen (k := 141) (n := 11929) (Nat.le_of_ble_eq_true rfl) (Nat.le_of_ble_eq_true rfl) ?_
  have hu30 := hw
  refine lv_istore (lv' := [(7, .int r4), (6, .int 1), (0, .ref b), (1, .ref x), (2, .ref m7), (3, .ref o), (4, .ref o2), (5, .int 0)]) hx hb dL_law_3006 hl (by decide) rfl (fun ls hl => ?_)
  refine lv_aload_n hx hb dL_law_3008 rfl (lv_at hl 4 rfl) ?_
  have hPc := hP.sub (ws' := [(m7, .inr (13, um))]) [3] rfl
  have hKc := hK.sub (tys' := []) [] rfl
  refine va_calli (va_runV (As := []) (rest := []) ⟨hx, hb, hml, hown, hts⟩ (c_X7_thrown l D m7 um 1 hu30 H.size) (cwV 0 hts gL_law_X7_thrown rfl rfl rfl (by decide +kernel) ⟨Nat.le_of_ble_eq_true rfl, Nat.le_of_ble_eq_true rfl⟩) ⟨fun a U g mk q => ⟨q.1, q.2.1, q.2.2.1, va_K.moved (u := U) (U := U.calling g mk a) (Vm.Alike.refl U.vm) q.2.2.2⟩, va_recv hK hP (ci := 13) (q0 := 3) rfl rfl, fun U hU hW => ⟨rfl, congrArg Array.size hU, by rw [hU]; exact hPc, va_K.moved hW.alike hKc⟩⟩ rfl rfl hl.1 rfl (lv_room (Nat.le_of_ble_eq_true rfl)) dL_law_3009 ⟨Nat.le_of_ble_eq_true rfl, Nat.le_of_ble_eq_true rfl⟩) hS (fun q h1 h2 => absurd h1 (Nat.not_lt.mpr h2)) (fun q h => hA q (Nat.le_trans hS.1 h)) (fun r5 u t H1 locs ht hvm hw hB hz1 hk1 hS => ?_)
  have hP := va_kept0 hP hk1
  generalize H1 = H at hP hS ⊢
  have hP : va_P D vwCl [(x, .inr (12, [.ref (rx 0), .ref (rx 1), .ref (rx 2), .ref (rx 3), .int 0, .int 0, .int 1, .int 110, .int 0, .int 115, .int 0, .int 0, .int 0, .int 0])), (o, .inl (cO, 1, .inr (.inl fo))), (o2, .inl (cD, 1, .inr (.inr (.inr (.inl fd))))), (m7, .inr (13, um))] H := hP
  obtain rfl : r5 = 1 := hw
  refine lv_iload hx hb dL_law_3012 (lv_at hl 1 rfl) ?_
  refine lv_icmp_eq (tgt := 3019) hx hb dL_law_3014 (by decide) (fun _ => ?_) (fun c => by first | exact absurd (by decide) c | exact absurd c (by decide))
  refine lv_iload hx hb dL_law_3019 (lv_at hl 1 rfl) ?_
  refine lv_if_ne (tgt := 3036) hx hb dL_law_3021 (by decide) (fun _ => ?_) (fun c => by first | exact absurd (by decide) c | exact absurd c (by decide))
  refine lv_goto (tgt := 3904) hx hb dL_law_3036 (by decide) ?_
  refine W.widen (k := 200) (n := 12100) (Nat.le_of_ble_eq_true rfl) (Nat.le_of_ble_eq_true rfl) ?_
  exact kk H locs ls hS (lv_sub hl [2, 7] rfl)
set_option maxHeartbeats 4000000 in
set_option maxRecDepth 100000 in
theorem law_c41 (l : Launch) (hlT : l.stackTraces = false) {p : Program} {e : Env} {s : State} {m : MethodId} {below : List Frame} {meth : Method} {c : Code} {Q : State → Prop} {D : va_G} {A : Nat → Prop} {b : Nat} {xs : Nat → Int32} {x m7 o o2 : Nat} {rx rm : Nat → Nat} {cO cD : ClassId} {fo : Nat → Int64} {fd : Nat → UInt64} {H : Heap} {locs : List Loc} {ls : Array Slot} (hx : p.tables.exec = Jvm.exec) (hb : c.code = cL_law) (hml : c.maxLocals = 9) (hown : s.vm.findClass RL = some m.cls) (hts : ∀ w ∈ wsL_law, w.before #[Value.ref b] s = true) (hX : va_X b 7 xs s s.heap) (hbl : b < s.heap.size) (hbA : ¬ A b) (hA : ∀ q : Nat, s.heap.size ≤ q → A q) (hT : tf A s s.heap)
    (hK : va_K D vwCl [(cO, .long), (cD, .double)] s) (hP : va_P D vwCl [(x, .inr (12, [.ref (rx 0), .ref (rx 1), .ref (rx 2), .ref (rx 3), .int 0, .int 0, .int 1, .int 110, .int 0, .int 115, .int 0, .int 0, .int 0, .int 0])), (m7, .inr (13, [.ref (rm 0), .ref (rm 1), .ref (rm 2), .ref (rm 3), .ref (rm 4), .ref (rm 5), .ref (rm 6), .ref (rm 7), .ref (rm 8), .ref (rm 9), .ref (rm 10), .ref (rm 11), .ref (rm 12), .ref (rm 13), .ref (rm 14), .ref (rm 15), .int 0, .int 0, .int 1, .int 110, .int 0, .int 0, .int 0, .int 0, .int 0, .int 0, .int 0, .int 0, .int 0, .int 0, .int 0])), (o, .inl (cO, 1, .inr (.inl fo))), (o2, .inl (cD, 1, .inr (.inr (.inr (.inl fd)))))] H) (hD : va_D A [(x, .inr (12, [.ref (rx 0), .ref (rx 1), .ref (rx 2), .ref (rx 3), .int 0, .int 0, .int 1, .int 110, .int 0, .int 115, .int 0, .int 0, .int 0, .int 0])), (m7, .inr (13, [.ref (rm 0), .ref (rm 1), .ref (rm 2), .ref (rm 3), .ref (rm 4), .ref (rm 5), .ref (rm 6), .ref (rm 7), .ref (rm 8), .ref (rm 9), .ref (rm 10), .ref (rm 11), .ref (rm 12), .ref (rm 13), .ref (rm 14), .ref (rm 15), .int 0, .int 0, .int 1, .int 110, .int 0, .int 0, .int 0, .int 0, .int 0, .int 0, .int 0, .int 0, .int 0, .int 0, .int 0])), (o, .inl (cO, 1, .inr (.inl fo))), (o2, .inl (cD, 1, .inr (.inr (.inr (.inl fd)))))]) (hS : va_S A s.heap H locs) (hl : lv_has ls 9 [(0, .ref b), (1, .ref x), (2, .ref m7), (3, .ref o), (4, .ref o2), (5, .int 0)])
    (kk : ∀ (H : Heap) (locs : List Loc) (ls : Array Slot), va_S A s.heap H locs → lv_has ls 9 [(0, .ref b), (5, .int 0)] → W p l e room_1 s m #[Value.ref b] below meth c H locs 200 12100 Q (F0 m 3904 ls [])) :
    W p l e room_1 s m #[Value.ref b] below meth c H locs 140 11923 Q (F0 m 3039 ls []) := by
  obtain ⟨a1, ea1⟩ : ∃ z, z = xs (1 : Int32).toNatClampNeg := ⟨_, rfl⟩
  obtain ⟨a2, ea2⟩ : ∃ z, z = xs (2 : Int32).toNatClampNeg := ⟨_, rfl⟩
  obtain ⟨a3, ea3⟩ : ∃ z, z = xs (3 : Int32).toNatClampNeg := ⟨_, rfl⟩
  obtain ⟨a4, ea4⟩ : ∃ z, z = xs (4 : Int32).toNatClampNeg := ⟨_, rfl⟩
  obtain ⟨a5, ea5⟩ : ∃ z, z = xs (5 : Int32).toNatClampNeg := ⟨_, rfl⟩
  obtain ⟨a6, ea6⟩ : ∃ z, z = xs (6 : Int32).toNatClampNeg := ⟨_, rfl⟩
  refine lv_aload_n hx hb dL_law_3039 rfl (lv_at hl 1 rfl) ?_
  refine lv_aload_n hx hb dL_law_3040 rfl (lv_at hl 0 rfl) ?_
  refine lv_iload hx hb dL_law_3041 (lv_at hl 5 rfl) ?_
  refine lv_iconst (v := 1) hx hb dL_law_3043 (by decide) ?_
  refine lv_iadd hx hb dL_law_3044 ?_
  refine lv_topi (fun y1 ey1 => ?_)
  obtain rfl : y1 = 1 := ey1.trans (by decide)
  refine va_sld hx hb hX hbl hbA hS (vp_in_nI (n := 1) (by decide) (by decide)) dL_law_3045 ?_
  rw [← ea1]
  refine lv_aload_n hx hb dL_law_3046 rfl (lv_at hl 3 rfl) ?_
  have hPc := hP.sub (ws' := [(x, .inr (12, [.ref (rx 0), .ref (rx 1), .ref (rx 2), .ref (rx 3), .int 0, .int 0, .int 1, .int 110, .int 0, .int 115, .int 0, .int 0, .int 0, .int 0]))]) [0] rfl
  have hDc := hD.sub (ws' := [(x, .inr (12, [.ref (rx 0), .ref (rx 1), .ref (rx 2), .ref (rx 3), .int 0, .int 0, .int 1, .int 110, .int 0, .int 115, .int 0, .int 0, .int 0, .int 0]))]) [0] (by decide) rfl
  have hKc := hK.sub (tys' := []) [] rfl
  have hFc := va_free (wc := [(x, .inr (12, [.ref (rx 0), .ref (rx 1), .ref (rx 2), .ref (rx 3), .int 0, .int 0, .int 1, .int 110, .int 0, .int 115, .int 0, .int 0, .int 0, .int 0]))]) hD hS hA [0] rfl
  refine va_calli (vx_runSW (As := [.ref x, .int a1, .ref o]) (rest := []) ⟨hx, hb, hml, hown, hts⟩ (c_L_parPlay l hlT D x rx o H.size a1) (vx_cwSW 3 hts gL_law_L_parPlay rfl rfl rfl (by decide +kernel) ⟨Nat.le_of_ble_eq_true rfl, Nat.le_of_ble_eq_true rfl⟩) ⟨fun a U g mk q => ⟨q.1, PX6.blind q.2⟩, fun U hU hW => ⟨rfl, PX6.go hPc hKc hT hS hA hU hW⟩⟩ rfl rfl hl.1 rfl (lv_room (Nat.le_of_ble_eq_true rfl)) dL_law_3047 ⟨Nat.le_of_ble_eq_true rfl, Nat.le_of_ble_eq_true rfl⟩) hS (fun q h1 h2 => absurd h1 (Nat.not_lt.mpr h2)) (fun q h => hA q (Nat.le_trans hS.1 h)) (fun r2 u t H1 locs ht hvm hw hB hz1 hk1 hS => ?_)
  have hP := va_kept0 hP hk1
  generalize H1 = H at hP hS ⊢
  have hP : va_P D vwCl [(x, .inr (12, [.ref (rx 0), .ref (rx 1), .ref (rx 2), .ref (rx 3), .int 0, .int 0, .int 1, .int 110, .int 0, .int 115, .int 0, .int 0, .int 0, .int 0])), (m7, .inr (13, [.ref (rm 0), .ref (rm 1), .ref (rm 2), .ref (rm 3), .ref (rm 4), .ref (rm 5), .ref (rm 6), .ref (rm 7), .ref (rm 8), .ref (rm 9), .ref (rm 10), .ref (rm 11), .ref (rm 12), .ref (rm 13), .ref (rm 14), .ref (rm 15), .int 0, .int 0, .int 1, .int 110, .int 0, .int 0, .int 0, .int 0, .int 0, .int 0, .int 0, .int 0, .int 0, .int 0, .int 0])), (o, .inl (cO, 1, .inr (.inl fo))), (o2, .inl (cD, 1, .inr (.inr (.inr (.inl fd)))))] H := hP
  have hD := hD
  refine W.widen (k := 141) (n := 11929) (Nat.le_of_ble_eq_true rfl) (Nat.le_of_ble_eq_true rfl) ?_
  obtain rfl : r2 = 1 := hw
  refine lv_istore (lv' := [(6, .int 1), (0, .ref b), (1, .ref x), (2, .ref m7), (3, .ref o), (4, .ref o2), (5, .int 0)]) hx hb dL_law_3050 hl (by decide) rfl (fun ls hl => ?_)
  refine lv_aload_n hx hb dL_law_3052 rfl (lv_at hl 3 rfl) ?_
  refine lv_aload_n hx hb dL_law_3053 rfl (lv_at hl 1 rfl) ?_
  refine lv_iload hx hb dL_law_3054 (lv_at hl 6 rfl) ?_
  refine lv_iconst (v := 1) hx hb dL_law_3056 (by decide) ?_
  refine lv_iadd hx hb dL_law_3057 ?_
  refine lv_topi (fun y3 ey3 => ?_)
  obtain rfl : y3 = 1 := ey3.trans (by decide)
  refine va_sld hx hb hX hbl hbA hS (vp_in_nI (n := 1) (by decide) (by decide)) dL_law_3058 ?_
  rw [← ea1]
  have hPc := hP.sub (ws' := [(m7, .inr (13, [.ref (rm 0), .ref (rm 1), .ref (rm 2), .ref (rm 3), .ref (rm 4), .ref (rm 5), .ref (rm 6), .ref (rm 7), .ref (rm 8), .ref (rm 9), .ref (rm 10), .ref (rm 11), .ref (rm 12), .ref (rm 13), .ref (rm 14), .ref (rm 15), .int 0, .int 0, .int 1, .int 110, .int 0, .int 0, .int 0, .int 0, .int 0, .int 0, .int 0, .int 0, .int 0, .int 0, .int 0]))]) [1] rfl
  have hDc := hD.sub (ws' := [(m7, .inr (13, [.ref (rm 0), .ref (rm 1), .ref (rm 2), .ref (rm 3), .ref (rm 4), .ref (rm 5), .ref (rm 6), .ref (rm 7), .ref (rm 8), .ref (rm 9), .ref (rm 10), .ref (rm 11), .ref (rm 12), .ref (rm 13), .ref (rm 14), .ref (rm 15), .int 0, .int 0, .int 1, .int 110, .int 0, .int 0, .int 0, .int 0, .int 0, .int 0, .int 0, .int 0, .int 0, .int 0, .int 0]))]) [1] (by decide) rfl
  have hKc := hK.sub (tys' := []) [] rfl
  have hFc := va_free (wc := [(m7, .inr (13, [.ref (rm 0), .ref (rm 1), .ref (rm 2), .ref (rm 3), .ref (rm 4), .ref (rm 5), .ref (rm 6), .ref (rm 7), .ref (rm 8), .ref (rm 9), .ref (rm 10), .ref (rm 11), .ref (rm 12), .ref (rm 13), .ref (rm 14), .ref (rm 15), .int 0, .int 0, .int 1, .int 110, .int 0, .int 0, .int 0, .int 0, .int 0, .int 0, .int 0, .int 0, .int 0, .int 0, .int 0]))]) hD hS hA [1] rfl
  have hFr : ∀ q : Nat, rg1 m7 H.size q → A q := fun q h => hFc q (va_Arg1 q h)
  refine va_calli (va_runV (As := [.int a1]) (rest := []) ⟨hx, hb, hml, hown, hts⟩ (c_X7_parPlay l D m7 rm H.size a1) (cwV 1 hts gL_law_X7_parPlay rfl rfl rfl (by decide +kernel) ⟨Nat.le_of_ble_eq_true rfl, Nat.le_of_ble_eq_true rfl⟩) ⟨fun a U g mk q => ⟨q.1, PX7.blind q.2⟩, va_recv hK hP (ci := 13) (q0 := 1) rfl rfl, fun U hU hW => ⟨rfl, PX7.go hPc hKc hU hW⟩⟩ rfl rfl hl.1 rfl (lv_room (Nat.le_of_ble_eq_true rfl)) dL_law_3059 ⟨Nat.le_of_ble_eq_true rfl, Nat.le_of_ble_eq_true rfl⟩) hS (fun q _ h => hFr q h) hFr (fun r4 u t H1 locs ht hvm hw hB hz1 hk1 hS => ?_)
  obtain ⟨um, eum⟩ : ∃ z, z = u := ⟨_, rfl⟩
  rw [← eum] at hB hw
  rw [ht] at hB
  have hP1 := hB
  have hD1 : va_D (va_A [(m7, .inr (13, [.ref (rm 0), .ref (rm 1), .ref (rm 2), .ref (rm 3), .ref (rm 4), .ref (rm 5), .ref (rm 6), .ref (rm 7), .ref (rm 8), .ref (rm 9), .ref (rm 10), .ref (rm 11), .ref (rm 12), .ref (rm 13), .ref (rm 14), .ref (rm 15), .int 0, .int 0, .int 1, .int 110, .int 0, .int 0, .int 0, .int 0, .int 0, .int 0, .int 0, .int 0, .int 0, .int 0, .int 0]))] H.size) [(m7, .inr (13, um))] := va_D1 (Or.inl ⟨0, _, rfl⟩)
  have hk1 : ∀ q : Nat, q < H.size → ¬ va_A [(m7, .inr (13, [.ref (rm 0), .ref (rm 1), .ref (rm 2), .ref (rm 3), .ref (rm 4), .ref (rm 5), .ref (rm 6), .ref (rm 7), .ref (rm 8), .ref (rm 9), .ref (rm 10), .ref (rm 11), .ref (rm 12), .ref (rm 13), .ref (rm 14), .ref (rm 15), .int 0, .int 0, .int 1, .int 110, .int 0, .int 0, .int 0, .int 0, .int 0, .int 0, .int 0, .int 0, .int 0, .int 0, .int 0]))] H.size q → H1[q]? = H[q]? := fun q h1 h2 => hk1 q h1 (fun h3 => h2 (va_Arg1 q h3))
  obtain ⟨hP, hD⟩ := va_join (wr := [(x, .inr (12, [.ref (rx 0), .ref (rx 1), .ref (rx 2), .ref (rx 3), .int 0, .int 0, .int 1, .int 110, .int 0, .int 115, .int 0, .int 0, .int 0, .int 0])), (o, .inl (cO, 1, .inr (.inl fo))), (o2, .inl (cD, 1, .inr (.inr (.inr (.inl fd)))))]) (w1 := [(m7, .inr (13, um))]) hP hD [1] [0, 2, 3] rfl rfl (by decide) (by decide) hk1 hFc hP1 hD1
  generalize H1 = H at hP hS ⊢
  have hP : va_P D vwCl [(x, .inr (12, [.ref (rx 0), .ref (rx 1), .ref (rx 2), .ref (rx 3), .int 0, .int 0, .int 1, .int 110, .int 0, .int 115, .int 0, .int 0, .int 0, .int 0])), (o, .inl (cO, 1, .inr (.inl fo))), (o2, .inl (cD, 1, .inr (.inr (.inr (.inl fd))))), (m7, .inr (13, um))] H := hP
  have hD : va_D A [(x, .inr (12, [.ref (rx 0), .ref (rx 1), .ref (rx 2), .ref (rx 3), .int 0, .int 0, .int 1, .int 110, .int 0, .int 115, .int 0, .int 0, .int 0, .int 0])), (o, .inl (cO, 1, .inr (.inl fo))), (o2, .inl (cD, 1, .inr (.inr (.inr (.inl fd))))), (m7, .inr (13, um))] := hD
  refine W.widen (k := 141) (n := 11929) (Nat.le_of_ble_eq_true rfl) (Nat.le_of_ble_eq_true rfl) ?_
  have hu30 := hw
  refine lv_istore (lv' := [(7, .int r4), (6, .int 1), (0, .ref b), (1, .ref x), (2, .ref m7), (3, .ref o), (4, .ref o2), (5, .int 0)]) hx hb dL_law_3062 hl (by decide) rfl (fun ls hl => ?_)
  refine lv_aload_n hx hb dL_law_3064 rfl (lv_at hl 4 rfl) ?_
  have hPc := hP.sub (ws' := [(m7, .inr (13, um))]) [3] rfl
  have hKc := hK.sub (tys' := []) [] rfl
  refine va_calli (va_runV (As := []) (rest := []) ⟨hx, hb, hml, hown, hts⟩ (c_X7_thrown l D m7 um 1 hu30 H.size) (cwV 0 hts gL_law_X7_thrown rfl rfl rfl (by decide +kernel) ⟨Nat.le_of_ble_eq_true rfl, Nat.le_of_ble_eq_true rfl⟩) ⟨fun a U g mk q => ⟨q.1, q.2.1, q.2.2.1, va_K.moved (u := U) (U := U.calling g mk a) (Vm.Alike.refl U.vm) q.2.2.2⟩, va_recv hK hP (ci := 13) (q0 := 3) rfl rfl, fun U hU hW => ⟨rfl, congrArg Array.size hU, by rw [hU]; exact hPc, va_K.moved hW.alike hKc⟩⟩ rfl rfl hl.1 rfl (lv_room (Nat.le_of_ble_eq_true rfl)) dL_law_3065 ⟨Nat.le_of_ble_eq_true rfl, Nat.le_of_ble_eq_true rfl⟩) hS (fun q h1 h2 => absurd h1 (Nat.not_lt.mpr h2)) (fun q h => hA q (Nat.le_trans hS.1 h)) (fun r5 u t H1 locs ht hvm hw hB hz1 hk1 hS => ?_)
  have hP := va_kept0 hP hk1
  generalize H1 = H at hP hS ⊢
  have hP : va_P D vwCl [(x, .inr (12, [.ref (rx 0), .ref (rx 1), .ref (rx 2), .ref (rx 3), .int 0, .int 0, .int 1, .int 110, .int 0, .int 115, .int 0, .int 0, .int 0, .int 0])), (o, .inl (cO, 1, .inr (.inl fo))), (o2, .inl (cD, 1, .inr (.inr (.inr (.inl fd))))), (m7, .inr (13, um))] H := hP
  obtain rfl : r5 = 1 := hw
  refine lv_iload hx hb dL_law_3068 (lv_at hl 1 rfl) ?_
  refine lv_icmp_eq (tgt := 3075) hx hb dL_law_3070 (by decide) (fun _ => ?_) (fun c => by first | exact absurd (by decide) c | exact absurd c (by decide))
  refine lv_iload hx hb dL_law_3075 (lv_at hl 1 rfl) ?_
  refine lv_if_ne (tgt := 3092) hx hb dL_law_3077 (by decide) (fun _ => ?_) (fun c => by first | exact absurd (by decide) c | exact absurd c (by decide))
  refine lv_goto (tgt := 3904) hx hb dL_law_3092 (by decide) ?_
  refine W.widen (k := 200) (n := 12100) (Nat.le_of_ble_eq_true rfl) (Nat.le_of_ble_eq_true rfl) ?_
  exact kk H locs ls hS (lv_sub hl [2, 7] rfl)
set_option maxHeartbeats 4000000 in
set_option maxRecDepth 100000 in
theorem law_c42 (l : Launch) (hlT : l.stackTraces = false) {p : Program} {e : Env} {s : State} {m : MethodId} {below : List Frame} {meth : Method} {c : Code} {Q : State → Prop} {D : va_G} {A : Nat → Prop} {b : Nat} {xs : Nat → Int32} {x m7 o o2 : Nat} {rx rm : Nat → Nat} {cO cD : ClassId} {fo : Nat → Int64} {fd : Nat → UInt64} {H : Heap} {locs : List Loc} {ls : Array Slot} (hx : p.tables.exec = Jvm.exec) (hb : c.code = cL_law) (hml : c.maxLocals = 9) (hown : s.vm.findClass RL = some m.cls) (hts : ∀ w ∈ wsL_law, w.before #[Value.ref b] s = true) (hX : va_X b 7 xs s s.heap) (hbl : b < s.heap.size) (hbA : ¬ A b) (hA : ∀ q : Nat, s.heap.size ≤ q → A q) (hT : tf A s s.heap)
    (hK : va_K D vwCl [(cO, .long), (cD, .double)] s) (hP : va_P D vwCl [(x, .inr (12, [.ref (rx 0), .ref (rx 1), .ref (rx 2), .ref (rx 3), .int 0, .int 0, .int 1, .int 110, .int 0, .int 115, .int 0, .int 0, .int 0, .int 0])), (m7, .inr (13, [.ref (rm 0), .ref (rm 1), .ref (rm 2), .ref (rm 3), .ref (rm 4), .ref (rm 5), .ref (rm 6), .ref (rm 7), .ref (rm 8), .ref (rm 9), .ref (rm 10), .ref (rm 11), .ref (rm 12), .ref (rm 13), .ref (rm 14), .ref (rm 15), .int 0, .int 0, .int 1, .int 110, .int 0, .int 0, .int 0, .int 0, .int 0, .int 0, .int 0, .int 0, .int 0, .int 0, .int 0])), (o, .inl (cO, 1, .inr (.inl fo))), (o2, .inl (cD, 1, .inr (.inr (.inr (.inl fd)))))] H) (hD : va_D A [(x, .inr (12, [.ref (rx 0), .ref (rx 1), .ref (rx 2), .ref (rx 3), .int 0, .int 0, .int 1, .int 110, .int 0, .int 115, .int 0, .int 0, .int 0, .int 0])), (m7, .inr (13, [.ref (rm 0), .ref (rm 1), .ref (rm 2), .ref (rm 3), .ref (rm 4), .ref (rm 5), .ref (rm 6), .ref (rm 7), .ref (rm 8), .ref (rm 9), .ref (rm 10), .ref (rm 11), .ref (rm 12), .ref (rm 13), .ref (rm 14), .ref (rm 15), .int 0, .int 0, .int 1, .int 110, .int 0, .int 0, .int 0, .int 0, .int 0, .int 0, .int 0, .int 0, .int 0, .int 0, .int 0])), (o, .inl (cO, 1, .inr (.inl fo))), (o2, .inl (cD, 1, .inr (.inr (.inr (.inl fd)))))]) (hS : va_S A s.heap H locs) (hl : lv_has ls 9 [(0, .ref b), (1, .ref x), (2, .ref m7), (3, .ref o), (4, .ref o2), (5, .int 0)])
    (kk : ∀ (H : Heap) (locs : List Loc) (ls : Array Slot), va_S A s.heap H locs → lv_has ls 9 [(0, .ref b), (5, .int 0)] → W p l e room_1 s m #[Value.ref b] below meth c H locs 200 12100 Q (F0 m 3904 ls [])) :
    W p l e room_1 s m #[Value.ref b] below meth c H locs 140 11923 Q (F0 m 3095 ls []) := by
  obtain ⟨a1, ea1⟩ : ∃ z, z = xs (1 : Int32).toNatClampNeg := ⟨_, rfl⟩
  obtain ⟨a2, ea2⟩ : ∃ z, z = xs (2 : Int32).toNatClampNeg := ⟨_, rfl⟩
  obtain ⟨a3, ea3⟩ : ∃ z, z = xs (3 : Int32).toNatClampNeg := ⟨_, rfl⟩
  obtain ⟨a4, ea4⟩ : ∃ z, z = xs (4 : Int32).toNatClampNeg := ⟨_, rfl⟩
  obtain ⟨a5, ea5⟩ : ∃ z, z = xs (5 : Int32).toNatClampNeg := ⟨_, rfl⟩
  obtain ⟨a6, ea6⟩ : ∃ z, z = xs (6 : Int32).toNatClampNeg := ⟨_, rfl⟩
  refine lv_aload_n hx hb dL_law_3095 rfl (lv_at hl 1 rfl) ?_
  refine lv_aload_n hx hb dL_law_3096 rfl (lv_at hl 0 rfl) ?_
  refine lv_iload hx hb dL_law_3097 (lv_at hl 5 rfl) ?_
  refine lv_iconst (v := 1) hx hb dL_law_3099 (by decide) ?_
  refine lv_iadd hx hb dL_law_3100 ?_
  refine lv_topi (fun y1 ey1 => ?_)
  obtain rfl : y1 = 1 := ey1.trans (by decide)
  refine va_sld hx hb hX hbl hbA hS (vp_in_nI (n := 1) (by decide) (by decide)) dL_law_3101 ?_
  rw [← ea1]
  refine lv_aload_n hx hb dL_law_3102 rfl (lv_at hl 0 rfl) ?_
  refine lv_iload hx hb dL_law_3103 (lv_at hl 5 rfl) ?_
  refine lv_iconst (v := 2) hx hb dL_law_3105 (by decide) ?_
  refine lv_iadd hx hb dL_law_3106 ?_
  refine lv_topi (fun y2 ey2 => ?_)
  obtain rfl : y2 = 2 := ey2.trans (by decide)
  refine va_sld hx hb hX hbl hbA hS (vp_in_nI (n := 2) (by decide) (by decide)) dL_law_3107 ?_
  rw [← ea2]
  refine lv_aload_n hx hb dL_law_3108 rfl (lv_at hl 3 rfl) ?_
  have hPc := hP.sub (ws' := [(x, .inr (12, [.ref (rx 0), .ref (rx 1), .ref (rx 2), .ref (rx 3), .int 0, .int 0, .int 1, .int 110, .int 0, .int 115, .int 0, .int 0, .int 0, .int 0]))]) [0] rfl
  have hDc := hD.sub (ws' := [(x, .inr (12, [.ref (rx 0), .ref (rx 1), .ref (rx 2), .ref (rx 3), .int 0, .int 0, .int 1, .int 110, .int 0, .int 115, .int 0, .int 0, .int 0, .int 0]))]) [0] (by decide) rfl
  have hKc := hK.sub (tys' := []) [] rfl
  have hFc := va_free (wc := [(x, .inr (12, [.ref (rx 0), .ref (rx 1), .ref (rx 2), .ref (rx 3), .int 0, .int 0, .int 1, .int 110, .int 0, .int 115, .int 0, .int 0, .int 0, .int 0]))]) hD hS hA [0] rfl
  refine va_calli (vx_runSW (As := [.ref x, .int a1, .int a2, .ref o]) (rest := []) ⟨hx, hb, hml, hown, hts⟩ (c_L_together l hlT D x rx o H.size a1 a2) (vx_cwSW 4 hts gL_law_L_together rfl rfl rfl (by decide +kernel) ⟨Nat.le_of_ble_eq_true rfl, Nat.le_of_ble_eq_true rfl⟩) ⟨fun a U g mk q => ⟨q.1, PX6.blind q.2⟩, fun U hU hW => ⟨rfl, PX6.go hPc hKc hT hS hA hU hW⟩⟩ rfl rfl hl.1 rfl (lv_room (Nat.le_of_ble_eq_true rfl)) dL_law_3109 ⟨Nat.le_of_ble_eq_true rfl, Nat.le_of_ble_eq_true rfl⟩) hS (fun q h1 h2 => absurd h1 (Nat.not_lt.mpr h2)) (fun q h => hA q (Nat.le_trans hS.1 h)) (fun r3 u t H1 locs ht hvm hw hB hz1 hk1 hS => ?_)
  have hP := va_kept0 hP hk1
  generalize H1 = H at hP hS ⊢
  have hP : va_P D vwCl [(x, .inr (12, [.ref (rx 0), .ref (rx 1), .ref (rx 2), .ref (rx 3), .int 0, .int 0, .int 1, .int 110, .int 0, .int 115, .int 0, .int 0, .int 0, .int 0])), (m7, .inr (13, [.ref (rm 0), .ref (rm 1), .ref (rm 2), .ref (rm 3), .ref (rm 4), .ref (rm 5), .ref (rm 6), .ref (rm 7), .ref (rm 8), .ref (rm 9), .ref (rm 10), .ref (rm 11), .ref (rm 12), .ref (rm 13), .ref (rm 14), .ref (rm 15), .int 0, .int 0, .int 1, .int 110, .int 0, .int 0, .int 0, .int 0, .int 0, .int 0, .int 0, .int 0, .int 0, .int 0, .int 0])), (o, .inl (cO, 1, .inr (.inl fo))), (o2, .inl (cD, 1, .inr (.inr (.inr (.inl fd)))))] H := hP
  have hD := hD
  refine W.widen (k := 141) (n := 11929) (Nat.le_of_ble_eq_true rfl) (Nat.le_of_ble_eq_true rfl) ?_
  obtain rfl : r3 = 1 := hw
  refine lv_istore (lv' := [(6, .int 1), (0, .ref b), (1, .ref x), (2, .ref m7), (3, .ref o), (4, .ref o2), (5, .int 0)]) hx hb dL_law_3112 hl (by decide) rfl (fun ls hl => ?_)
  refine lv_aload_n hx hb dL_law_3114 rfl (lv_at hl 3 rfl) ?_
  refine lv_aload_n hx hb dL_law_3115 rfl (lv_at hl 1 rfl) ?_
  refine lv_iload hx hb dL_law_3116 (lv_at hl 6 rfl) ?_
  refine lv_iconst (v := 1) hx hb dL_law_3118 (by decide) ?_
  refine lv_iadd hx hb dL_law_3119 ?_
  refine lv_topi (fun y4 ey4 => ?_)
  obtain rfl : y4 = 1 := ey4.trans (by decide)
  refine va_sld hx hb hX hbl hbA hS (vp_in_nI (n := 1) (by decide) (by decide)) dL_law_3120 ?_
  rw [← ea1]
  refine lv_aload_n hx hb dL_law_3121 rfl (lv_at hl 1 rfl) ?_
  refine lv_iload hx hb dL_law_3122 (lv_at hl 6 rfl) ?_
  refine lv_iconst (v := 2) hx hb dL_law_3124 (by decide) ?_
  refine lv_iadd hx hb dL_law_3125 ?_
  refine lv_topi (fun y5 ey5 => ?_)
  obtain rfl : y5 = 2 := ey5.trans (by decide)
  refine va_sld hx hb hX hbl hbA hS (vp_in_nI (n := 2) (by decide) (by decide)) dL_law_3126 ?_
  rw [← ea2]
  have hPc := hP.sub (ws' := [(m7, .inr (13, [.ref (rm 0), .ref (rm 1), .ref (rm 2), .ref (rm 3), .ref (rm 4), .ref (rm 5), .ref (rm 6), .ref (rm 7), .ref (rm 8), .ref (rm 9), .ref (rm 10), .ref (rm 11), .ref (rm 12), .ref (rm 13), .ref (rm 14), .ref (rm 15), .int 0, .int 0, .int 1, .int 110, .int 0, .int 0, .int 0, .int 0, .int 0, .int 0, .int 0, .int 0, .int 0, .int 0, .int 0]))]) [1] rfl
  have hDc := hD.sub (ws' := [(m7, .inr (13, [.ref (rm 0), .ref (rm 1), .ref (rm 2), .ref (rm 3), .ref (rm 4), .ref (rm 5), .ref (rm 6), .ref (rm 7), .ref (rm 8), .ref (rm 9), .ref (rm 10), .ref (rm 11), .ref (rm 12), .ref (rm 13), .ref (rm 14), .ref (rm 15), .int 0, .int 0, .int 1, .int 110, .int 0, .int 0, .int 0, .int 0, .int 0, .int 0, .int 0, .int 0, .int 0, .int 0, .int 0]))]) [1] (by decide) rfl
  have hKc := hK.sub (tys' := []) [] rfl
  have hFc := va_free (wc := [(m7, .inr (13, [.ref (rm 0), .ref (rm 1), .ref (rm 2), .ref (rm 3), .ref (rm 4), .ref (rm 5), .ref (rm 6), .ref (rm 7), .ref (rm 8), .ref (rm 9), .ref (rm 10), .ref (rm 11), .ref (rm 12), .ref (rm 13), .ref (rm 14), .ref (rm 15), .int 0, .int 0, .int 1, .int 110, .int 0, .int 0, .int 0, .int 0, .int 0, .int 0, .int 0, .int 0, .int 0, .int 0, .int 0]))]) hD hS hA [1] rfl
  have hFr : ∀ q : Nat, rg1 m7 H.size q → A q := fun q h => hFc q (va_Arg1 q h)
  refine va_calli (va_runV (As := [.int a1, .int a2]) (rest := []) ⟨hx, hb, hml, hown, hts⟩ (c_X7_together l D m7 rm H.size a1 a2) (cwV 2 hts gL_law_X7_together rfl rfl rfl (by decide +kernel) ⟨Nat.le_of_ble_eq_true rfl, Nat.le_of_ble_eq_true rfl⟩) ⟨fun a U g mk q => ⟨q.1, PX7.blind q.2⟩, va_recv hK hP (ci := 13) (q0 := 1) rfl rfl, fun U hU hW => ⟨rfl, PX7.go hPc hKc hU hW⟩⟩ rfl rfl hl.1 rfl (lv_room (Nat.le_of_ble_eq_true rfl)) dL_law_3127 ⟨Nat.le_of_ble_eq_true rfl, Nat.le_of_ble_eq_true rfl⟩) hS (fun q _ h => hFr q h) hFr (fun r6 u t H1 locs ht hvm hw hB hz1 hk1 hS => ?_)
  obtain ⟨um, eum⟩ : ∃ z, z = u := ⟨_, rfl⟩
  rw [← eum] at hB hw
  rw [ht] at hB
  have hP1 := hB
  have hD1 : va_D (va_A [(m7, .inr (13, [.ref (rm 0), .ref (rm 1), .ref (rm 2), .ref (rm 3), .ref (rm 4), .ref (rm 5), .ref (rm 6), .ref (rm 7), .ref (rm 8), .ref (rm 9), .ref (rm 10), .ref (rm 11), .ref (rm 12), .ref (rm 13), .ref (rm 14), .ref (rm 15), .int 0, .int 0, .int 1, .int 110, .int 0, .int 0, .int 0, .int 0, .int 0, .int 0, .int 0, .int 0, .int 0, .int 0, .int 0]))] H.size) [(m7, .inr (13, um))] := va_D1 (Or.inl ⟨0, _, rfl⟩)
  have hk1 : ∀ q : Nat, q < H.size → ¬ va_A [(m7, .inr (13, [.ref (rm 0), .ref (rm 1), .ref (rm 2), .ref (rm 3), .ref (rm 4), .ref (rm 5), .ref (rm 6), .ref (rm 7), .ref (rm 8), .ref (rm 9), .ref (rm 10), .ref (rm 11), .ref (rm 12), .ref (rm 13), .ref (rm 14), .ref (rm 15), .int 0, .int 0, .int 1, .int 110, .int 0, .int 0, .int 0, .int 0, .int 0, .int 0, .int 0, .int 0, .int 0, .int 0, .int 0]))] H.size q → H1[q]? = H[q]? := fun q h1 h2 => hk1 q h1 (fun h3 => h2 (va_Arg1 q h3))
  obtain ⟨hP, hD⟩ := va_join (wr := [(x, .inr (12, [.ref (rx 0), .ref (rx 1), .ref (rx 2), .ref (rx 3), .int 0, .int 0, .int 1, .int 110, .int 0, .int 115, .int 0, .int 0, .int 0, .int 0])), (o, .inl (cO, 1, .inr (.inl fo))), (o2, .inl (cD, 1, .inr (.inr (.inr (.inl fd)))))]) (w1 := [(m7, .inr (13, um))]) hP hD [1] [0, 2, 3] rfl rfl (by decide) (by decide) hk1 hFc hP1 hD1
  generalize H1 = H at hP hS ⊢
  have hP : va_P D vwCl [(x, .inr (12, [.ref (rx 0), .ref (rx 1), .ref (rx 2), .ref (rx 3), .int 0, .int 0, .int 1, .int 110, .int 0, .int 115, .int 0, .int 0, .int 0, .int 0])), (o, .inl (cO, 1, .inr (.inl fo))), (o2, .inl (cD, 1, .inr (.inr (.inr (.inl fd))))), (m7, .inr (13, um))] H := hP
  have hD : va_D A [(x, .inr (12, [.ref (rx 0), .ref (rx 1), .ref (rx 2), .ref (rx 3), .int 0, .int 0, .int 1, .int 110, .int 0, .int 115, .int 0, .int 0, .int 0, .int 0])), (o, .inl (cO, 1, .inr (.inl fo))), (o2, .inl (cD, 1, .inr (.inr (.inr (.inl fd))))), (m7, .inr (13, um))] := hD
  refine W.widen (k := 141) (n := 11929) (Nat.le_of_ble_eq_true rfl) (Nat.le_of_ble_eq_true rfl) ?_
  have hu30 := hw
  refine lv_istore (lv' := [(7, .int r6), (6, .int 1), (0, .ref b), (1, .ref x), (2, .ref m7), (3, .ref o), (4, .ref o2), (5, .int 0)]) hx hb dL_law_3130 hl (by decide) rfl (fun ls hl => ?_)
  refine lv_aload_n hx hb dL_law_3132 rfl (lv_at hl 4 rfl) ?_
  have hPc := hP.sub (ws' := [(m7, .inr (13, um))]) [3] rfl
  have hKc := hK.sub (tys' := []) [] rfl
  refine va_calli (va_runV (As := []) (rest := []) ⟨hx, hb, hml, hown, hts⟩ (c_X7_thrown l D m7 um 1 hu30 H.size) (cwV 0 hts gL_law_X7_thrown rfl rfl rfl (by decide +kernel) ⟨Nat.le_of_ble_eq_true rfl, Nat.le_of_ble_eq_true rfl⟩) ⟨fun a U g mk q => ⟨q.1, q.2.1, q.2.2.1, va_K.moved (u := U) (U := U.calling g mk a) (Vm.Alike.refl U.vm) q.2.2.2⟩, va_recv hK hP (ci := 13) (q0 := 3) rfl rfl, fun U hU hW => ⟨rfl, congrArg Array.size hU, by rw [hU]; exact hPc, va_K.moved hW.alike hKc⟩⟩ rfl rfl hl.1 rfl (lv_room (Nat.le_of_ble_eq_true rfl)) dL_law_3133 ⟨Nat.le_of_ble_eq_true rfl, Nat.le_of_ble_eq_true rfl⟩) hS (fun q h1 h2 => absurd h1 (Nat.not_lt.mpr h2)) (fun q h => hA q (Nat.le_trans hS.1 h)) (fun r7 u t H1 locs ht hvm hw hB hz1 hk1 hS => ?_)
  have hP := va_kept0 hP hk1
  generalize H1 = H at hP hS ⊢
  have hP : va_P D vwCl [(x, .inr (12, [.ref (rx 0), .ref (rx 1), .ref (rx 2), .ref (rx 3), .int 0, .int 0, .int 1, .int 110, .int 0, .int 115, .int 0, .int 0, .int 0, .int 0])), (o, .inl (cO, 1, .inr (.inl fo))), (o2, .inl (cD, 1, .inr (.inr (.inr (.inl fd))))), (m7, .inr (13, um))] H := hP
  obtain rfl : r7 = 1 := hw
  refine lv_iload hx hb dL_law_3136 (lv_at hl 1 rfl) ?_
  refine lv_icmp_eq (tgt := 3143) hx hb dL_law_3138 (by decide) (fun _ => ?_) (fun c => by first | exact absurd (by decide) c | exact absurd c (by decide))
  refine lv_iload hx hb dL_law_3143 (lv_at hl 1 rfl) ?_
  refine lv_if_ne (tgt := 3160) hx hb dL_law_3145 (by decide) (fun _ => ?_) (fun c => by first | exact absurd (by decide) c | exact absurd c (by decide))
  refine lv_goto (tgt := 3904) hx hb dL_law_3160 (by decide) ?_
  refine W.widen (k := 200) (n := 12100) (Nat.le_of_ble_eq_true rfl) (Nat.le_of_ble_eq_true rfl) ?_
  exact kk H locs ls hS (lv_sub hl [2, 7] rfl)
set_option maxHeartbeats 4000000 in
set_option maxRecDepth 100000 in
theorem law_c43 (l : Launch) (hlT : l.stackTraces = false) {p : Program} {e : Env} {s : State} {m : MethodId} {below : List Frame} {meth : Method} {c : Code} {Q : State → Prop} {D : va_G} {A : Nat → Prop} {b : Nat} {xs : Nat → Int32} {x m7 o o2 : Nat} {rx rm : Nat → Nat} {cO cD : ClassId} {fo : Nat → Int64} {fd : Nat → UInt64} {H : Heap} {locs : List Loc} {ls : Array Slot} (hx : p.tables.exec = Jvm.exec) (hb : c.code = cL_law) (hml : c.maxLocals = 9) (hown : s.vm.findClass RL = some m.cls) (hts : ∀ w ∈ wsL_law, w.before #[Value.ref b] s = true) (hX : va_X b 7 xs s s.heap) (hbl : b < s.heap.size) (hbA : ¬ A b) (hA : ∀ q : Nat, s.heap.size ≤ q → A q) (hT : tf A s s.heap)
    (hK : va_K D vwCl [(cO, .long), (cD, .double)] s) (hP : va_P D vwCl [(x, .inr (12, [.ref (rx 0), .ref (rx 1), .ref (rx 2), .ref (rx 3), .int 0, .int 0, .int 1, .int 110, .int 0, .int 115, .int 0, .int 0, .int 0, .int 0])), (m7, .inr (13, [.ref (rm 0), .ref (rm 1), .ref (rm 2), .ref (rm 3), .ref (rm 4), .ref (rm 5), .ref (rm 6), .ref (rm 7), .ref (rm 8), .ref (rm 9), .ref (rm 10), .ref (rm 11), .ref (rm 12), .ref (rm 13), .ref (rm 14), .ref (rm 15), .int 0, .int 0, .int 1, .int 110, .int 0, .int 0, .int 0, .int 0, .int 0, .int 0, .int 0, .int 0, .int 0, .int 0, .int 0])), (o, .inl (cO, 1, .inr (.inl fo))), (o2, .inl (cD, 1, .inr (.inr (.inr (.inl fd)))))] H) (hD : va_D A [(x, .inr (12, [.ref (rx 0), .ref (rx 1), .ref (rx 2), .ref (rx 3), .int 0, .int 0, .int 1, .int 110, .int 0, .int 115, .int 0, .int 0, .int 0, .int 0])), (m7, .inr (13, [.ref (rm 0), .ref (rm 1), .ref (rm 2), .ref (rm 3), .ref (rm 4), .ref (rm 5), .ref (rm 6), .ref (rm 7), .ref (rm 8), .ref (rm 9), .ref (rm 10), .ref (rm 11), .ref (rm 12), .ref (rm 13), .ref (rm 14), .ref (rm 15), .int 0, .int 0, .int 1, .int 110, .int 0, .int 0, .int 0, .int 0, .int 0, .int 0, .int 0, .int 0, .int 0, .int 0, .int 0])), (o, .inl (cO, 1, .inr (.inl fo))), (o2, .inl (cD, 1, .inr (.inr (.inr (.inl fd)))))]) (hS : va_S A s.heap H locs) (hl : lv_has ls 9 [(0, .ref b), (1, .ref x), (2, .ref m7), (3, .ref o), (4, .ref o2), (5, .int 0)])
    (kk : ∀ (H : Heap) (locs : List Loc) (ls : Array Slot), va_S A s.heap H locs → lv_has ls 9 [(0, .ref b), (5, .int 0)] → W p l e room_1 s m #[Value.ref b] below meth c H locs 200 12100 Q (F0 m 3904 ls [])) :
    W p l e room_1 s m #[Value.ref b] below meth c H locs 140 11923 Q (F0 m 3163 ls []) := by
  obtain ⟨a1, ea1⟩ : ∃ z, z = xs (1 : Int32).toNatClampNeg := ⟨_, rfl⟩
  obtain ⟨a2, ea2⟩ : ∃ z, z = xs (2 : Int32).toNatClampNeg := ⟨_, rfl⟩
  obtain ⟨a3, ea3⟩ : ∃ z, z = xs (3 : Int32).toNatClampNeg := ⟨_, rfl⟩
  obtain ⟨a4, ea4⟩ : ∃ z, z = xs (4 : Int32).toNatClampNeg := ⟨_, rfl⟩
  obtain ⟨a5, ea5⟩ : ∃ z, z = xs (5 : Int32).toNatClampNeg := ⟨_, rfl⟩
  obtain ⟨a6, ea6⟩ : ∃ z, z = xs (6 : Int32).toNatClampNeg := ⟨_, rfl⟩
  refine lv_aload_n hx hb dL_law_3163 rfl (lv_at hl 1 rfl) ?_
  refine lv_aload_n hx hb dL_law_3164 rfl (lv_at hl 0 rfl) ?_
  refine lv_iload hx hb dL_law_3165 (lv_at hl 5 rfl) ?_
  refine lv_iconst (v := 1) hx hb dL_law_3167 (by decide) ?_
  refine lv_iadd hx hb dL_law_3168 ?_
  refine lv_topi (fun y1 ey1 => ?_)
  obtain rfl : y1 = 1 := ey1.trans (by decide)
  refine va_sld hx hb hX hbl hbA hS (vp_in_nI (n := 1) (by decide) (by decide)) dL_law_3169 ?_
  rw [← ea1]
  refine lv_aload_n hx hb dL_law_3170 rfl (lv_at hl 3 rfl) ?_
  have hPc := hP.sub (ws' := [(x, .inr (12, [.ref (rx 0), .ref (rx 1), .ref (rx 2), .ref (rx 3), .int 0, .int 0, .int 1, .int 110, .int 0, .int 115, .int 0, .int 0, .int 0, .int 0]))]) [0] rfl
  have hDc := hD.sub (ws' := [(x, .inr (12, [.ref (rx 0), .ref (rx 1), .ref (rx 2), .ref (rx 3), .int 0, .int 0, .int 1, .int 110, .int 0, .int 115, .int 0, .int 0, .int 0, .int 0]))]) [0] (by decide) rfl
  have hKc := hK.sub (tys' := []) [] rfl
  have hFc := va_free (wc := [(x, .inr (12, [.ref (rx 0), .ref (rx 1), .ref (rx 2), .ref (rx 3), .int 0, .int 0, .int 1, .int 110, .int 0, .int 115, .int 0, .int 0, .int 0, .int 0]))]) hD hS hA [0] rfl
  refine va_calli (vx_runSW (As := [.ref x, .int a1, .ref o]) (rest := []) ⟨hx, hb, hml, hown, hts⟩ (c_L_skins l hlT D x rx o H.size a1) (vx_cwSW 3 hts gL_law_L_skins rfl rfl rfl (by decide +kernel) ⟨Nat.le_of_ble_eq_true rfl, Nat.le_of_ble_eq_true rfl⟩) ⟨fun a U g mk q => ⟨q.1, PX6.blind q.2⟩, fun U hU hW => ⟨rfl, PX6.go hPc hKc hT hS hA hU hW⟩⟩ rfl rfl hl.1 rfl (lv_room (Nat.le_of_ble_eq_true rfl)) dL_law_3171 ⟨Nat.le_of_ble_eq_true rfl, Nat.le_of_ble_eq_true rfl⟩) hS (fun q h1 h2 => absurd h1 (Nat.not_lt.mpr h2)) (fun q h => hA q (Nat.le_trans hS.1 h)) (fun r2 u t H1 locs ht hvm hw hB hz1 hk1 hS => ?_)
  have hP := va_kept0 hP hk1
  generalize H1 = H at hP hS ⊢
  have hP : va_P D vwCl [(x, .inr (12, [.ref (rx 0), .ref (rx 1), .ref (rx 2), .ref (rx 3), .int 0, .int 0, .int 1, .int 110, .int 0, .int 115, .int 0, .int 0, .int 0, .int 0])), (m7, .inr (13, [.ref (rm 0), .ref (rm 1), .ref (rm 2), .ref (rm 3), .ref (rm 4), .ref (rm 5), .ref (rm 6), .ref (rm 7), .ref (rm 8), .ref (rm 9), .ref (rm 10), .ref (rm 11), .ref (rm 12), .ref (rm 13), .ref (rm 14), .ref (rm 15), .int 0, .int 0, .int 1, .int 110, .int 0, .int 0, .int 0, .int 0, .int 0, .int 0, .int 0, .int 0, .int 0, .int 0, .int 0])), (o, .inl (cO, 1, .inr (.inl fo))), (o2, .inl (cD, 1, .inr (.inr (.inr (.inl fd)))))] H := hP
  have hD := hD
  refine W.widen (k := 141) (n := 11929) (Nat.le_of_ble_eq_true rfl) (Nat.le_of_ble_eq_true rfl) ?_
  obtain rfl : r2 = 1 := hw
  refine lv_istore (lv' := [(6, .int 1), (0, .ref b), (1, .ref x), (2, .ref m7), (3, .ref o), (4, .ref o2), (5, .int 0)]) hx hb dL_law_3174 hl (by decide) rfl (fun ls hl => ?_)
  refine lv_aload_n hx hb dL_law_3176 rfl (lv_at hl 3 rfl) ?_
  refine lv_aload_n hx hb dL_law_3177 rfl (lv_at hl 1 rfl) ?_
  refine lv_iload hx hb dL_law_3178 (lv_at hl 6 rfl) ?_
  refine lv_iconst (v := 1) hx hb dL_law_3180 (by decide) ?_
  refine lv_iadd hx hb dL_law_3181 ?_
  refine lv_topi (fun y3 ey3 => ?_)
  obtain rfl : y3 = 1 := ey3.trans (by decide)
  refine va_sld hx hb hX hbl hbA hS (vp_in_nI (n := 1) (by decide) (by decide)) dL_law_3182 ?_
  rw [← ea1]
  have hPc := hP.sub (ws' := [(m7, .inr (13, [.ref (rm 0), .ref (rm 1), .ref (rm 2), .ref (rm 3), .ref (rm 4), .ref (rm 5), .ref (rm 6), .ref (rm 7), .ref (rm 8), .ref (rm 9), .ref (rm 10), .ref (rm 11), .ref (rm 12), .ref (rm 13), .ref (rm 14), .ref (rm 15), .int 0, .int 0, .int 1, .int 110, .int 0, .int 0, .int 0, .int 0, .int 0, .int 0, .int 0, .int 0, .int 0, .int 0, .int 0]))]) [1] rfl
  have hDc := hD.sub (ws' := [(m7, .inr (13, [.ref (rm 0), .ref (rm 1), .ref (rm 2), .ref (rm 3), .ref (rm 4), .ref (rm 5), .ref (rm 6), .ref (rm 7), .ref (rm 8), .ref (rm 9), .ref (rm 10), .ref (rm 11), .ref (rm 12), .ref (rm 13), .ref (rm 14), .ref (rm 15), .int 0, .int 0, .int 1, .int 110, .int 0, .int 0, .int 0, .int 0, .int 0, .int 0, .int 0, .int 0, .int 0, .int 0, .int 0]))]) [1] (by decide) rfl
  have hKc := hK.sub (tys' := []) [] rfl
  have hFc := va_free (wc := [(m7, .inr (13, [.ref (rm 0), .ref (rm 1), .ref (rm 2), .ref (rm 3), .ref (rm 4), .ref (rm 5), .ref (rm 6), .ref (rm 7), .ref (rm 8), .ref (rm 9), .ref (rm 10), .ref (rm 11), .ref (rm 12), .ref (rm 13), .ref (rm 14), .ref (rm 15), .int 0, .int 0, .int 1, .int 110, .int 0, .int 0, .int 0, .int 0, .int 0, .int 0, .int 0, .int 0, .int 0, .int 0, .int 0]))]) hD hS hA [1] rfl
  have hFr : ∀ q : Nat, rg1 m7 H.size q → A q := fun q h => hFc q (va_Arg1 q h)
  refine va_calli (va_runV (As := [.int a1]) (rest := []) ⟨hx, hb, hml, hown, hts⟩ (c_X7_skins l D m7 rm H.size a1) (cwV 1 hts gL_law_X7_skins rfl rfl rfl (by decide +kernel) ⟨Nat.le_of_ble_eq_true rfl, Nat.le_of_ble_eq_true rfl⟩) ⟨fun a U g mk q => ⟨q.1, PX7.blind q.2⟩, va_recv hK hP (ci := 13) (q0 := 1) rfl rfl, fun U hU hW => ⟨rfl, PX7.go hPc hKc hU hW⟩⟩ rfl rfl hl.1 rfl (lv_room (Nat.le_of_ble_eq_true rfl)) dL_law_3183 ⟨Nat.le_of_ble_eq_true rfl, Nat.le_of_ble_eq_true rfl⟩) hS (fun q _ h => hFr q h) hFr (fun r4 u t H1 locs ht hvm hw hB hz1 hk1 hS => ?_)
  obtain ⟨um, eum⟩ : ∃ z, z = u := ⟨_, rfl⟩
  rw [← eum] at hB hw
  rw [ht] at hB
  have hP1 := hB
  have hD1 : va_D (va_A [(m7, .inr (13, [.ref (rm 0), .ref (rm 1), .ref (rm 2), .ref (rm 3), .ref (rm 4), .ref (rm 5), .ref (rm 6), .ref (rm 7), .ref (rm 8), .ref (rm 9), .ref (rm 10), .ref (rm 11), .ref (rm 12), .ref (rm 13), .ref (rm 14), .ref (rm 15), .int 0, .int 0, .int 1, .int 110, .int 0, .int 0, .int 0, .int 0, .int 0, .int 0, .int 0, .int 0, .int 0, .int 0, .int 0]))] H.size) [(m7, .inr (13, um))] := va_D1 (Or.inl ⟨0, _, rfl⟩)
  have hk1 : ∀ q : Nat, q < H.size → ¬ va_A [(m7, .inr (13, [.ref (rm 0), .ref (rm 1), .ref (rm 2), .ref (rm 3), .ref (rm 4), .ref (rm 5), .ref (rm 6), .ref (rm 7), .ref (rm 8), .ref (rm 9), .ref (rm 10), .ref (rm 11), .ref (rm 12), .ref (rm 13), .ref (rm 14), .ref (rm 15), .int 0, .int 0, .int 1, .int 110, .int 0, .int 0, .int 0, .int 0, .int 0, .int 0, .int 0, .int 0, .int 0, .int 0, .int 0]))] H.size q → H1[q]? = H[q]? := fun q h1 h2 => hk1 q h1 (fun h3 => h2 (va_Arg1 q h3))
  obtain ⟨hP, hD⟩ := va_join (wr := [(x, .inr (12, [.ref (rx 0), .ref (rx 1), .ref (rx 2), .ref (rx 3), .int 0, .int 0, .int 1, .int 110, .int 0, .int 115, .int 0, .int 0, .int 0, .int 0])), (o, .inl (cO, 1, .inr (.inl fo))), (o2, .inl (cD, 1, .inr (.inr (.inr (.inl fd)))))]) (w1 := [(m7, .inr (13, um))]) hP hD [1] [0, 2, 3] rfl rfl (by decide) (by decide) hk1 hFc hP1 hD1
  generalize H1 = H at hP hS ⊢
  have hP : va_P D vwCl [(x, .inr (12, [.ref (rx 0), .ref (rx 1), .ref (rx 2), .ref (rx 3), .int 0, .int 0, .int 1, .int 110, .int 0, .int 115, .int 0, .int 0, .int 0, .int 0])), (o, .inl (cO, 1, .inr (.inl fo))), (o2, .inl (cD, 1, .inr (.inr (.inr (.inl fd))))), (m7, .inr (13, um))] H := hP
  have hD : va_D A [(x, .inr (12, [.ref (rx 0), .ref (rx 1), .ref (rx 2), .ref (rx 3), .int 0, .int 0, .int 1, .int 110, .int 0, .int 115, .int 0, .int 0, .int 0, .int 0])), (o, .inl (cO, 1, .inr (.inl fo))), (o2, .inl (cD, 1, .inr (.inr (.inr (.inl fd))))), (m7, .inr (13, um))] := hD
  refine W.widen (k := 141) (n := 11929) (Nat.le_of_ble_eq_true rfl) (Nat.le_of_ble_eq_true rfl) ?_
  have hu30 := hw
  refine lv_istore (lv' := [(7, .int r4), (6, .int 1), (0, .ref b), (1, .ref x), (2, .ref m7), (3, .ref o), (4, .ref o2), (5, .int 0)]) hx hb dL_law_3186 hl (by decide) rfl (fun ls hl => ?_)
  refine lv_aload_n hx hb dL_law_3188 rfl (lv_at hl 4 rfl) ?_
  have hPc := hP.sub (ws' := [(m7, .inr (13, um))]) [3] rfl
  have hKc := hK.sub (tys' := []) [] rfl
  refine va_calli (va_runV (As := []) (rest := []) ⟨hx, hb, hml, hown, hts⟩ (c_X7_thrown l D m7 um 1 hu30 H.size) (cwV 0 hts gL_law_X7_thrown rfl rfl rfl (by decide +kernel) ⟨Nat.le_of_ble_eq_true rfl, Nat.le_of_ble_eq_true rfl⟩) ⟨fun a U g mk q => ⟨q.1, q.2.1, q.2.2.1, va_K.moved (u := U) (U := U.calling g mk a) (Vm.Alike.refl U.vm) q.2.2.2⟩, va_recv hK hP (ci := 13) (q0 := 3) rfl rfl, fun U hU hW => ⟨rfl, congrArg Array.size hU, by rw [hU]; exact hPc, va_K.moved hW.alike hKc⟩⟩ rfl rfl hl.1 rfl (lv_room (Nat.le_of_ble_eq_true rfl)) dL_law_3189 ⟨Nat.le_of_ble_eq_true rfl, Nat.le_of_ble_eq_true rfl⟩) hS (fun q h1 h2 => absurd h1 (Nat.not_lt.mpr h2)) (fun q h => hA q (Nat.le_trans hS.1 h)) (fun r5 u t H1 locs ht hvm hw hB hz1 hk1 hS => ?_)
  have hP := va_kept0 hP hk1
  generalize H1 = H at hP hS ⊢
  have hP : va_P D vwCl [(x, .inr (12, [.ref (rx 0), .ref (rx 1), .ref (rx 2), .ref (rx 3), .int 0, .int 0, .int 1, .int 110, .int 0, .int 115, .int 0, .int 0, .int 0, .int 0])), (o, .inl (cO, 1, .inr (.inl fo))), (o2, .inl (cD, 1, .inr (.inr (.inr (.inl fd))))), (m7, .inr (13, um))] H := hP
  obtain rfl : r5 = 1 := hw
  refine lv_iload hx hb dL_law_3192 (lv_at hl 1 rfl) ?_
  refine lv_icmp_eq (tgt := 3199) hx hb dL_law_3194 (by decide) (fun _ => ?_) (fun c => by first | exact absurd (by decide) c | exact absurd c (by decide))
  refine lv_iload hx hb dL_law_3199 (lv_at hl 1 rfl) ?_
  refine lv_if_ne (tgt := 3216) hx hb dL_law_3201 (by decide) (fun _ => ?_) (fun c => by first | exact absurd (by decide) c | exact absurd c (by decide))
  refine lv_goto (tgt := 3904) hx hb dL_law_3216 (by decide) ?_
  refine W.widen (k := 200) (n := 12100) (Nat.le_of_ble_eq_true rfl) (Nat.le_of_ble_eq_true rfl) ?_
  exact kk H locs ls hS (lv_sub hl [2, 7] rfl)
set_option maxHeartbeats 4000000 in
set_option maxRecDepth 100000 in
theorem law_c44 (l : Launch) (hlT : l.stackTraces = false) {p : Program} {e : Env} {s : State} {m : MethodId} {below : List Frame} {meth : Method} {c : Code} {Q : State → Prop} {D : va_G} {A : Nat → Prop} {b : Nat} {xs : Nat → Int32} {x m7 o o2 : Nat} {rx rm : Nat → Nat} {cO cD : ClassId} {fo : Nat → Int64} {fd : Nat → UInt64} {H : Heap} {locs : List Loc} {ls : Array Slot} (hx : p.tables.exec = Jvm.exec) (hb : c.code = cL_law) (hml : c.maxLocals = 9) (hown : s.vm.findClass RL = some m.cls) (hts : ∀ w ∈ wsL_law, w.before #[Value.ref b] s = true) (hX : va_X b 7 xs s s.heap) (hbl : b < s.heap.size) (hbA : ¬ A b) (hA : ∀ q : Nat, s.heap.size ≤ q → A q) (hT : tf A s s.heap)
    (hK : va_K D vwCl [(cO, .long), (cD, .double)] s) (hP : va_P D vwCl [(x, .inr (12, [.ref (rx 0), .ref (rx 1), .ref (rx 2), .ref (rx 3), .int 0, .int 0, .int 1, .int 110, .int 0, .int 115, .int 0, .int 0, .int 0, .int 0])), (m7, .inr (13, [.ref (rm 0), .ref (rm 1), .ref (rm 2), .ref (rm 3), .ref (rm 4), .ref (rm 5), .ref (rm 6), .ref (rm 7), .ref (rm 8), .ref (rm 9), .ref (rm 10), .ref (rm 11), .ref (rm 12), .ref (rm 13), .ref (rm 14), .ref (rm 15), .int 0, .int 0, .int 1, .int 110, .int 0, .int 0, .int 0, .int 0, .int 0, .int 0, .int 0, .int 0, .int 0, .int 0, .int 0])), (o, .inl (cO, 1, .inr (.inl fo))), (o2, .inl (cD, 1, .inr (.inr (.inr (.inl fd)))))] H) (hD : va_D A [(x, .inr (12, [.ref (rx 0), .ref (rx 1), .ref (rx 2), .ref (rx 3), .int 0, .int 0, .int 1, .int 110, .int 0, .int 115, .int 0, .int 0, .int 0, .int 0])), (m7, .inr (13, [.ref (rm 0), .ref (rm 1), .ref (rm 2), .ref (rm 3), .ref (rm 4), .ref (rm 5), .ref (rm 6), .ref (rm 7), .ref (rm 8), .ref (rm 9), .ref (rm 10), .ref (rm 11), .ref (rm 12), .ref (rm 13), .ref (rm 14), .ref (rm 15), .int 0, .int 0, .int 1, .int 110, .int 0, .int 0, .int 0, .int 0, .int 0, .int 0, .int 0, .int 0, .int 0, .int 0, .int 0])), (o, .inl (cO, 1, .inr (.inl fo))), (o2, .inl (cD, 1, .inr (.inr (.inr (.inl fd)))))]) (hS : va_S A s.heap H locs) (hl : lv_has ls 9 [(0, .ref b), (1, .ref x), (2, .ref m7), (3, .ref o), (4, .ref o2), (5, .int 0)])
    (kk : ∀ (H : Heap) (locs : List Loc) (ls : Array Slot), va_S A s.heap H locs → lv_has ls 9 [(0, .ref b), (5, .int 0)] → W p l e room_1 s m #[Value.ref b] below meth c H locs 200 12100 Q (F0 m 3904 ls [])) :
    W p l e room_1 s m #[Value.ref b] below meth c H locs 140 11923 Q (F0 m 3219 ls []) := by
  obtain ⟨a1, ea1⟩ : ∃ z, z = xs (1 : Int32).toNatClampNeg := ⟨_, rfl⟩
  obtain ⟨a2, ea2⟩ : ∃ z, z = xs (2 : Int32).toNatClampNeg := ⟨_, rfl⟩
  obtain ⟨a3, ea3⟩ : ∃ z, z = xs (3 : Int32).toNatClampNeg := ⟨_, rfl⟩
  obtain ⟨a4, ea4⟩ : ∃ z, z = xs (4 : Int32).toNatClampNeg := ⟨_, rfl⟩
  obtain ⟨a5, ea5⟩ : ∃ z, z = xs (5 : Int32).toNatClampNeg := ⟨_, rfl⟩
  obtain ⟨a6, ea6⟩ : ∃ z, z = xs (6 : Int32).toNatClampNeg := ⟨_, rfl⟩
  refine lv_aload_n hx hb dL_law_3219 rfl (lv_at hl 1 rfl) ?_
  refine lv_aload_n hx hb dL_law_3220 rfl (lv_at hl 0 rfl) ?_
  refine lv_iload hx hb dL_law_3221 (lv_at hl 5 rfl) ?_
  refine lv_iconst (v := 1) hx hb dL_law_3223 (by decide) ?_
  refine lv_iadd hx hb dL_law_3224 ?_
  refine lv_topi (fun y1 ey1 => ?_)
  obtain rfl : y1 = 1 := ey1.trans (by decide)
  refine va_sld hx hb hX hbl hbA hS (vp_in_nI (n := 1) (by decide) (by decide)) dL_law_3225 ?_
  rw [← ea1]
  refine lv_aload_n hx hb dL_law_3226 rfl (lv_at hl 3 rfl) ?_
  have hPc := hP.sub (ws' := [(x, .inr (12, [.ref (rx 0), .ref (rx 1), .ref (rx 2), .ref (rx 3), .int 0, .int 0, .int 1, .int 110, .int 0, .int 115, .int 0, .int 0, .int 0, .int 0]))]) [0] rfl
  have hDc := hD.sub (ws' := [(x, .inr (12, [.ref (rx 0), .ref (rx 1), .ref (rx 2), .ref (rx 3), .int 0, .int 0, .int 1, .int 110, .int 0, .int 115, .int 0, .int 0, .int 0, .int 0]))]) [0] (by decide) rfl
  have hKc := hK.sub (tys' := []) [] rfl
  have hFc := va_free (wc := [(x, .inr (12, [.ref (rx 0), .ref (rx 1), .ref (rx 2), .ref (rx 3), .int 0, .int 0, .int 1, .int 110, .int 0, .int 115, .int 0, .int 0, .int 0, .int 0]))]) hD hS hA [0] rfl
  refine va_calli (vx_runSW (As := [.ref x, .int a1, .ref o]) (rest := []) ⟨hx, hb, hml, hown, hts⟩ (c_L_rank l hlT D x rx o H.size a1) (vx_cwSW 3 hts gL_law_L_rank rfl rfl rfl (by decide +kernel) ⟨Nat.le_of_ble_eq_true rfl, Nat.le_of_ble_eq_true rfl⟩) ⟨fun a U g mk q => ⟨q.1, PX6.blind q.2⟩, fun U hU hW => ⟨rfl, PX6.go hPc hKc hT hS hA hU hW⟩⟩ rfl rfl hl.1 rfl (lv_room (Nat.le_of_ble_eq_true rfl)) dL_law_3227 ⟨Nat.le_of_ble_eq_true rfl, Nat.le_of_ble_eq_true rfl⟩) hS (fun q h1 h2 => absurd h1 (Nat.not_lt.mpr h2)) (fun q h => hA q (Nat.le_trans hS.1 h)) (fun r2 u t H1 locs ht hvm hw hB hz1 hk1 hS => ?_)
  have hP := va_kept0 hP hk1
  generalize H1 = H at hP hS ⊢
  have hP : va_P D vwCl [(x, .inr (12, [.ref (rx 0), .ref (rx 1), .ref (rx 2), .ref (rx 3), .int 0, .int 0, .int 1, .int 110, .int 0, .int 115, .int 0, .int 0, .int 0, .int 0])), (m7, .inr (13, [.ref (rm 0), .ref (rm 1), .ref (rm 2), .ref (rm 3), .ref (rm 4), .ref (rm 5), .ref (rm 6), .ref (rm 7), .ref (rm 8), .ref (rm 9), .ref (rm 10), .ref (rm 11), .ref (rm 12), .ref (rm 13), .ref (rm 14), .ref (rm 15), .int 0, .int 0, .int 1, .int 110, .int 0, .int 0, .int 0, .int 0, .int 0, .int 0, .int 0, .int 0, .int 0, .int 0, .int 0])), (o, .inl (cO, 1, .inr (.inl fo))), (o2, .inl (cD, 1, .inr (.inr (.inr (.inl fd)))))] H := hP
  have hD := hD
  refine W.widen (k := 141) (n := 11929) (Nat.le_of_ble_eq_true rfl) (Nat.le_of_ble_eq_true rfl) ?_
  obtain rfl : r2 = 1 := hw
  refine lv_istore (lv' := [(6, .int 1), (0, .ref b), (1, .ref x), (2, .ref m7), (3, .ref o), (4, .ref o2), (5, .int 0)]) hx hb dL_law_3230 hl (by decide) rfl (fun ls hl => ?_)
  refine lv_aload_n hx hb dL_law_3232 rfl (lv_at hl 3 rfl) ?_
  refine lv_aload_n hx hb dL_law_3233 rfl (lv_at hl 1 rfl) ?_
  refine lv_iload hx hb dL_law_3234 (lv_at hl 6 rfl) ?_
  refine lv_iconst (v := 1) hx hb dL_law_3236 (by decide) ?_
  refine lv_iadd hx hb dL_law_3237 ?_
  refine lv_topi (fun y3 ey3 => ?_)
  obtain rfl : y3 = 1 := ey3.trans (by decide)
  refine va_sld hx hb hX hbl hbA hS (vp_in_nI (n := 1) (by decide) (by decide)) dL_law_3238 ?_
  rw [← ea1]
  have hPc := hP.sub (ws' := [(m7, .inr (13, [.ref (rm 0), .ref (rm 1), .ref (rm 2), .ref (rm 3), .ref (rm 4), .ref (rm 5), .ref (rm 6), .ref (rm 7), .ref (rm 8), .ref (rm 9), .ref (rm 10), .ref (rm 11), .ref (rm 12), .ref (rm 13), .ref (rm 14), .ref (rm 15), .int 0, .int 0, .int 1, .int 110, .int 0, .int 0, .int 0, .int 0, .int 0, .int 0, .int 0, .int 0, .int 0, .int 0, .int 0]))]) [1] rfl
  have hDc := hD.sub (ws' := [(m7, .inr (13, [.ref (rm 0), .ref (rm 1), .ref (rm 2), .ref (rm 3), .ref (rm 4), .ref (rm 5), .ref (rm 6), .ref (rm 7), .ref (rm 8), .ref (rm 9), .ref (rm 10), .ref (rm 11), .ref (rm 12), .ref (rm 13), .ref (rm 14), .ref (rm 15), .int 0, .int 0, .int 1, .int 110, .int 0, .int 0, .int 0, .int 0, .int 0, .int 0, .int 0, .int 0, .int 0, .int 0, .int 0]))]) [1] (by decide) rfl
  have hKc := hK.sub (tys' := []) [] rfl
  have hFc := va_free (wc := [(m7, .inr (13, [.ref (rm 0), .ref (rm 1), .ref (rm 2), .ref (rm 3), .ref (rm 4), .ref (rm 5), .ref (rm 6), .ref (rm 7), .ref (rm 8), .ref (rm 9), .ref (rm 10), .ref (rm 11), .ref (rm 12), .ref (rm 13), .ref (rm 14), .ref (rm 15), .int 0, .int 0, .int 1, .int 110, .int 0, .int 0, .int 0, .int 0, .int 0, .int 0, .int 0, .int 0, .int 0, .int 0, .int 0]))]) hD hS hA [1] rfl
  have hFr : ∀ q : Nat, rg1 m7 H.size q → A q := fun q h => hFc q (va_Arg1 q h)
  refine va_calli (va_runV (As := [.int a1]) (rest := []) ⟨hx, hb, hml, hown, hts⟩ (c_X7_rank l D m7 rm H.size a1) (cwV 1 hts gL_law_X7_rank rfl rfl rfl (by decide +kernel) ⟨Nat.le_of_ble_eq_true rfl, Nat.le_of_ble_eq_true rfl⟩) ⟨fun a U g mk q => ⟨q.1, PX7.blind q.2⟩, va_recv hK hP (ci := 13) (q0 := 1) rfl rfl, fun U hU hW => ⟨rfl, PX7.go hPc hKc hU hW⟩⟩ rfl rfl hl.1 rfl (lv_room (Nat.le_of_ble_eq_true rfl)) dL_law_3239 ⟨Nat.le_of_ble_eq_true rfl, Nat.le_of_ble_eq_true rfl⟩) hS (fun q _ h => hFr q h) hFr (fun r4 u t H1 locs ht hvm hw hB hz1 hk1 hS => ?_)
  obtain ⟨um, eum⟩ : ∃ z, z = u := ⟨_, rfl⟩
  rw [← eum] at hB hw
  rw [ht] at hB
  have hP1 := hB
  have hD1 : va_D (va_A [(m7, .inr (13, [.ref (rm 0), .ref (rm 1), .ref (rm 2), .ref (rm 3), .ref (rm 4), .ref (rm 5), .ref (rm 6), .ref (rm 7), .ref (rm 8), .ref (rm 9), .ref (rm 10), .ref (rm 11), .ref (rm 12), .ref (rm 13), .ref (rm 14), .ref (rm 15), .int 0, .int 0, .int 1, .int 110, .int 0, .int 0, .int 0, .int 0, .int 0, .int 0, .int 0, .int 0, .int 0, .int 0, .int 0]))] H.size) [(m7, .inr (13, um))] := va_D1 (Or.inl ⟨0, _, rfl⟩)
  have hk1 : ∀ q : Nat, q < H.size → ¬ va_A [(m7, .inr (13, [.ref (rm 0), .ref (rm 1), .ref (rm 2), .ref (rm 3), .ref (rm 4), .ref (rm 5), .ref (rm 6), .ref (rm 7), .ref (rm 8), .ref (rm 9), .ref (rm 10), .ref (rm 11), .ref (rm 12), .ref (rm 13), .ref (rm 14), .ref (rm 15), .int 0, .int 0, .int 1, .int 110, .int 0, .int 0, .int 0, .int 0, .int 0, .int 0, .int 0, .int 0, .int 0, .int 0, .int 0]))] H.size q → H1[q]? = H[q]? := fun q h1 h2 => hk1 q h1 (fun h3 => h2 (va_Arg1 q h3))
  obtain ⟨hP, hD⟩ := va_join (wr := [(x, .inr (12, [.ref (rx 0), .ref (rx 1), .ref (rx 2), .ref (rx 3), .int 0, .int 0, .int 1, .int 110, .int 0, .int 115, .int 0, .int 0, .int 0, .int 0])), (o, .inl (cO, 1, .inr (.inl fo))), (o2, .inl (cD, 1, .inr (.inr (.inr (.inl fd)))))]) (w1 := [(m7, .inr (13, um))]) hP hD [1] [0, 2, 3] rfl rfl (by decide) (by decide) hk1 hFc hP1 hD1
  generalize H1 = H at hP hS ⊢
  have hP : va_P D vwCl [(x, .inr (12, [.ref (rx 0), .ref (rx 1), .ref (rx 2), .ref (rx 3), .int 0, .int 0, .int 1, .int 110, .int 0, .int 115, .int 0, .int 0, .int 0, .int 0])), (o, .inl (cO, 1, .inr (.inl fo))), (o2, .inl (cD, 1, .inr (.inr (.inr (.inl fd))))), (m7, .inr (13, um))] H := hP
  have hD : va_D A [(x, .inr (12, [.ref (rx 0), .ref (rx 1), .ref (rx 2), .ref (rx 3), .int 0, .int 0, .int 1, .int 110, .int 0, .int 115, .int 0, .int 0, .int 0, .int 0])), (o, .inl (cO, 1, .inr (.inl fo))), (o2, .inl (cD, 1, .inr (.inr (.inr (.inl fd))))), (m7, .inr (13, um))] := hD
  refine W.widen (k := 141) (n := 11929) (Nat.le_of_ble_eq_true rfl) (Nat.le_of_ble_eq_true rfl) ?_
  have hu30 := hw
  refine lv_istore (lv' := [(7, .int r4), (6, .int 1), (0, .ref b), (1, .ref x), (2, .ref m7), (3, .ref o), (4, .ref o2), (5, .int 0)]) hx hb dL_law_3242 hl (by decide) rfl (fun ls hl => ?_)
  refine lv_aload_n hx hb dL_law_3244 rfl (lv_at hl 4 rfl) ?_
  have hPc := hP.sub (ws' := [(m7, .inr (13, um))]) [3] rfl
  have hKc := hK.sub (tys' := []) [] rfl
  refine va_calli (va_runV (As := []) (rest := []) ⟨hx, hb, hml, hown, hts⟩ (c_X7_thrown l D m7 um 1 hu30 H.size) (cwV 0 hts gL_law_X7_thrown rfl rfl rfl (by decide +kernel) ⟨Nat.le_of_ble_eq_true rfl, Nat.le_of_ble_eq_true rfl⟩) ⟨fun a U g mk q => ⟨q.1, q.2.1, q.2.2.1, va_K.moved (u := U) (U := U.calling g mk a) (Vm.Alike.refl U.vm) q.2.2.2⟩, va_recv hK hP (ci := 13) (q0 := 3) rfl rfl, fun U hU hW => ⟨rfl, congrArg Array.size hU, by rw [hU]; exact hPc, va_K.moved hW.alike hKc⟩⟩ rfl rfl hl.1 rfl (lv_room (Nat.le_of_ble_eq_true rfl)) dL_law_3245 ⟨Nat.le_of_ble_eq_true rfl, Nat.le_of_ble_eq_true rfl⟩) hS (fun q h1 h2 => absurd h1 (Nat.not_lt.mpr h2)) (fun q h => hA q (Nat.le_trans hS.1 h)) (fun r5 u t H1 locs ht hvm hw hB hz1 hk1 hS => ?_)
  have hP := va_kept0 hP hk1
  generalize H1 = H at hP hS ⊢
  have hP : va_P D vwCl [(x, .inr (12, [.ref (rx 0), .ref (rx 1), .ref (rx 2), .ref (rx 3), .int 0, .int 0, .int 1, .int 110, .int 0, .int 115, .int 0, .int 0, .int 0, .int 0])), (o, .inl (cO, 1, .inr (.inl fo))), (o2, .inl (cD, 1, .inr (.inr (.inr (.inl fd))))), (m7, .inr (13, um))] H := hP
  obtain rfl : r5 = 1 := hw
  refine lv_iload hx hb dL_law_3248 (lv_at hl 1 rfl) ?_
  refine lv_icmp_eq (tgt := 3255) hx hb dL_law_3250 (by decide) (fun _ => ?_) (fun c => by first | exact absurd (by decide) c | exact absurd c (by decide))
  refine lv_iload hx hb dL_law_3255 (lv_at hl 1 rfl) ?_
  refine lv_if_ne (tgt := 3272) hx hb dL_law_3257 (by decide) (fun _ => ?_) (fun c => by first | exact absurd (by decide) c | exact absurd c (by decide))
  refine lv_goto (tgt := 3904) hx hb dL_law_3272 (by decide) ?_
  refine W.widen (k := 200) (n := 12100) (Nat.le_of_ble_eq_true rfl) (Nat.le_of_ble_eq_true rfl) ?_
  exact kk H locs ls hS (lv_sub hl [2, 7] rfl)
set_option maxHeartbeats 4000000 in
set_option maxRecDepth 100000 in
theorem law_c45 (l : Launch) (hlT : l.stackTraces = false) {p : Program} {e : Env} {s : State} {m : MethodId} {below : List Frame} {meth : Method} {c : Code} {Q : State → Prop} {D : va_G} {A : Nat → Prop} {b : Nat} {xs : Nat → Int32} {x m7 o o2 : Nat} {rx rm : Nat → Nat} {cO cD : ClassId} {fo : Nat → Int64} {fd : Nat → UInt64} {H : Heap} {locs : List Loc} {ls : Array Slot} (hx : p.tables.exec = Jvm.exec) (hb : c.code = cL_law) (hml : c.maxLocals = 9) (hown : s.vm.findClass RL = some m.cls) (hts : ∀ w ∈ wsL_law, w.before #[Value.ref b] s = true) (hX : va_X b 7 xs s s.heap) (hbl : b < s.heap.size) (hbA : ¬ A b) (hA : ∀ q : Nat, s.heap.size ≤ q → A q) (hT : tf A s s.heap)
    (hK : va_K D vwCl [(cO, .long), (cD, .double)] s) (hP : va_P D vwCl [(x, .inr (12, [.ref (rx 0), .ref (rx 1), .ref (rx 2), .ref (rx 3), .int 0, .int 0, .int 1, .int 110, .int 0, .int 115, .int 0, .int 0, .int 0, .int 0])), (m7, .inr (13, [.ref (rm 0), .ref (rm 1), .ref (rm 2), .ref (rm 3), .ref (rm 4), .ref (rm 5), .ref (rm 6), .ref (rm 7), .ref (rm 8), .ref (rm 9), .ref (rm 10), .ref (rm 11), .ref (rm 12), .ref (rm 13), .ref (rm 14), .ref (rm 15), .int 0, .int 0, .int 1, .int 110, .int 0, .int 0, .int 0, .int 0, .int 0, .int 0, .int 0, .int 0, .int 0, .int 0, .int 0])), (o, .inl (cO, 1, .inr (.inl fo))), (o2, .inl (cD, 1, .inr (.inr (.inr (.inl fd)))))] H) (hD : va_D A [(x, .inr (12, [.ref (rx 0), .ref (rx 1), .ref (rx 2), .ref (rx 3), .int 0, .int 0, .int 1, .int 110, .int 0, .int 115, .int 0, .int 0, .int 0, .int 0])), (m7, .inr (13, [.ref (rm 0), .ref (rm 1), .ref (rm 2), .ref (rm 3), .ref (rm 4), .ref (rm 5), .ref (rm 6), .ref (rm 7), .ref (rm 8), .ref (rm 9), .ref (rm 10), .ref (rm 11), .ref (rm 12), .ref (rm 13), .ref (rm 14), .ref (rm 15), .int 0, .int 0, .int 1, .int 110, .int 0, .int 0, .int 0, .int 0, .int 0, .int 0, .int 0, .int 0, .int 0, .int 0, .int 0])), (o, .inl (cO, 1, .inr (.inl fo))), (o2, .inl (cD, 1, .inr (.inr (.inr (.inl fd)))))]) (hS : va_S A s.heap H locs) (hl : lv_has ls 9 [(0, .ref b), (1, .ref x), (2, .ref m7), (3, .ref o), (4, .ref o2), (5, .int 0)])
    (kk : ∀ (H : Heap) (locs : List Loc) (ls : Array Slot), va_S A s.heap H locs → lv_has ls 9 [(0, .ref b), (5, .int 0)] → W p l e room_1 s m #[Value.ref b] below meth c H locs 200 12100 Q (F0 m 3904 ls [])) :
    W p l e room_1 s m #[Value.ref b] below meth c H locs 140 11923 Q (F0 m 3275 ls []) := by
  obtain ⟨a1, ea1⟩ : ∃ z, z = xs (1 : Int32).toNatClampNeg := ⟨_, rfl⟩
  obtain ⟨a2, ea2⟩ : ∃ z, z = xs (2 : Int32).toNatClampNeg := ⟨_, rfl⟩
  obtain ⟨a3, ea3⟩ : ∃ z, z = xs (3 : Int32).toNatClampNeg := ⟨_, rfl⟩
  obtain ⟨a4, ea4⟩ : ∃ z, z = xs (4 : Int32).toNatClampNeg := ⟨_, rfl⟩
  obtain ⟨a5, ea5⟩ : ∃ z, z = xs (5 : Int32).toNatClampNeg := ⟨_, rfl⟩
  obtain ⟨a6, ea6⟩ : ∃ z, z = xs (6 : Int32).toNatClampNeg := ⟨_, rfl⟩
  refine lv_aload_n hx hb dL_law_3275 rfl (lv_at hl 1 rfl) ?_
  refine lv_aload_n hx hb dL_law_3276 rfl (lv_at hl 0 rfl) ?_
  refine lv_iload hx hb dL_law_3277 (lv_at hl 5 rfl) ?_
  refine lv_iconst (v := 1) hx hb dL_law_3279 (by decide) ?_
  refine lv_iadd hx hb dL_law_3280 ?_
  refine lv_topi (fun y1 ey1 => ?_)
  obtain rfl : y1 = 1 := ey1.trans (by decide)
  refine va_sld hx hb hX hbl hbA hS (vp_in_nI (n := 1) (by decide) (by decide)) dL_law_3281 ?_
  rw [← ea1]
  refine lv_aload_n hx hb dL_law_3282 rfl (lv_at hl 0 rfl) ?_
  refine lv_iload hx hb dL_law_3283 (lv_at hl 5 rfl) ?_
  refine lv_iconst (v := 2) hx hb dL_law_3285 (by decide) ?_
  refine lv_iadd hx hb dL_law_3286 ?_
  refine lv_topi (fun y2 ey2 => ?_)
  obtain rfl : y2 = 2 := ey2.trans (by decide)
  refine va_sld hx hb hX hbl hbA hS (vp_in_nI (n := 2) (by decide) (by decide)) dL_law_3287 ?_
  rw [← ea2]
  refine lv_aload_n hx hb dL_law_3288 rfl (lv_at hl 3 rfl) ?_
  have hPc := hP.sub (ws' := [(x, .inr (12, [.ref (rx 0), .ref (rx 1), .ref (rx 2), .ref (rx 3), .int 0, .int 0, .int 1, .int 110, .int 0, .int 115, .int 0, .int 0, .int 0, .int 0]))]) [0] rfl
  have hDc := hD.sub (ws' := [(x, .inr (12, [.ref (rx 0), .ref (rx 1), .ref (rx 2), .ref (rx 3), .int 0, .int 0, .int 1, .int 110, .int 0, .int 115, .int 0, .int 0, .int 0, .int 0]))]) [0] (by decide) rfl
  have hKc := hK.sub (tys' := []) [] rfl
  have hFc := va_free (wc := [(x, .inr (12, [.ref (rx 0), .ref (rx 1), .ref (rx 2), .ref (rx 3), .int 0, .int 0, .int 1, .int 110, .int 0, .int 115, .int 0, .int 0, .int 0, .int 0]))]) hD hS hA [0] rfl
  refine va_calli (vx_runSW (As := [.ref x, .int a1, .int a2, .ref o]) (rest := []) ⟨hx, hb, hml, hown, hts⟩ (c_L_isAhead l hlT D x rx o H.size a1 a2) (vx_cwSW 4 hts gL_law_L_isAhead rfl rfl rfl (by decide +kernel) ⟨Nat.le_of_ble_eq_true rfl, Nat.le_of_ble_eq_true rfl⟩) ⟨fun a U g mk q => ⟨q.1, PX6.blind q.2⟩, fun U hU hW => ⟨rfl, PX6.go hPc hKc hT hS hA hU hW⟩⟩ rfl rfl hl.1 rfl (lv_room (Nat.le_of_ble_eq_true rfl)) dL_law_3289 ⟨Nat.le_of_ble_eq_true rfl, Nat.le_of_ble_eq_true rfl⟩) hS (fun q h1 h2 => absurd h1 (Nat.not_lt.mpr h2)) (fun q h => hA q (Nat.le_trans hS.1 h)) (fun r3 u t H1 locs ht hvm hw hB hz1 hk1 hS => ?_)
  have hP := va_kept0 hP hk1
  generalize H1 = H at hP hS ⊢
  have hP : va_P D vwCl [(x, .inr (12, [.ref (rx 0), .ref (rx 1), .ref (rx 2), .ref (rx 3), .int 0, .int 0, .int 1, .int 110, .int 0, .int 115, .int 0, .int 0, .int 0, .int 0])), (m7, .inr (13, [.ref (rm 0), .ref (rm 1), .ref (rm 2), .ref (rm 3), .ref (rm 4), .ref (rm 5), .ref (rm 6), .ref (rm 7), .ref (rm 8), .ref (rm 9), .ref (rm 10), .ref (rm 11), .ref (rm 12), .ref (rm 13), .ref (rm 14), .ref (rm 15), .int 0, .int 0, .int 1, .int 110, .int 0, .int 0, .int 0, .int 0, .int 0, .int 0, .int 0, .int 0, .int 0, .int 0, .int 0])), (o, .inl (cO, 1, .inr (.inl fo))), (o2, .inl (cD, 1, .inr (.inr (.inr (.inl fd)))))] H := hP
  have hD := hD
  refine W.widen (k := 141) (n := 11929) (Nat.le_of_ble_eq_true rfl) (Nat.le_of_ble_eq_true rfl) ?_
  obtain rfl : r3 = 1 := hw
  refine lv_istore (lv' := [(6, .int 1), (0, .ref b), (1, .ref x), (2, .ref m7), (3, .ref o), (4, .ref o2), (5, .int 0)]) hx hb dL_law_3292 hl (by decide) rfl (fun ls hl => ?_)
  refine lv_aload_n hx hb dL_law_3294 rfl (lv_at hl 3 rfl) ?_
  refine lv_aload_n hx hb dL_law_3295 rfl (lv_at hl 1 rfl) ?_
  refine lv_iload hx hb dL_law_3296 (lv_at hl 6 rfl) ?_
  refine lv_iconst (v := 1) hx hb dL_law_3298 (by decide) ?_
  refine lv_iadd hx hb dL_law_3299 ?_
  refine lv_topi (fun y4 ey4 => ?_)
  obtain rfl : y4 = 1 := ey4.trans (by decide)
  refine va_sld hx hb hX hbl hbA hS (vp_in_nI (n := 1) (by decide) (by decide)) dL_law_3300 ?_
  rw [← ea1]
  refine lv_aload_n hx hb dL_law_3301 rfl (lv_at hl 1 rfl) ?_
  refine lv_iload hx hb dL_law_3302 (lv_at hl 6 rfl) ?_
  refine lv_iconst (v := 2) hx hb dL_law_3304 (by decide) ?_
  refine lv_iadd hx hb dL_law_3305 ?_
  refine lv_topi (fun y5 ey5 => ?_)
  obtain rfl : y5 = 2 := ey5.trans (by decide)
  refine va_sld hx hb hX hbl hbA hS (vp_in_nI (n := 2) (by decide) (by decide)) dL_law_3306 ?_
  rw [← ea2]
  have hPc := hP.sub (ws' := [(m7, .inr (13, [.ref (rm 0), .ref (rm 1), .ref (rm 2), .ref (rm 3), .ref (rm 4), .ref (rm 5), .ref (rm 6), .ref (rm 7), .ref (rm 8), .ref (rm 9), .ref (rm 10), .ref (rm 11), .ref (rm 12), .ref (rm 13), .ref (rm 14), .ref (rm 15), .int 0, .int 0, .int 1, .int 110, .int 0, .int 0, .int 0, .int 0, .int 0, .int 0, .int 0, .int 0, .int 0, .int 0, .int 0]))]) [1] rfl
  have hDc := hD.sub (ws' := [(m7, .inr (13, [.ref (rm 0), .ref (rm 1), .ref (rm 2), .ref (rm 3), .ref (rm 4), .ref (rm 5), .ref (rm 6), .ref (rm 7), .ref (rm 8), .ref (rm 9), .ref (rm 10), .ref (rm 11), .ref (rm 12), .ref (rm 13), .ref (rm 14), .ref (rm 15), .int 0, .int 0, .int 1, .int 110, .int 0, .int 0, .int 0, .int 0, .int 0, .int 0, .int 0, .int 0, .int 0, .int 0, .int 0]))]) [1] (by decide) rfl
  have hKc := hK.sub (tys' := []) [] rfl
  have hFc := va_free (wc := [(m7, .inr (13, [.ref (rm 0), .ref (rm 1), .ref (rm 2), .ref (rm 3), .ref (rm 4), .ref (rm 5), .ref (rm 6), .ref (rm 7), .ref (rm 8), .ref (rm 9), .ref (rm 10), .ref (rm 11), .ref (rm 12), .ref (rm 13), .ref (rm 14), .ref (rm 15), .int 0, .int 0, .int 1, .int 110, .int 0, .int 0, .int 0, .int 0, .int 0, .int 0, .int 0, .int 0, .int 0, .int 0, .int 0]))]) hD hS hA [1] rfl
  have hFr : ∀ q : Nat, rg1 m7 H.size q → A q := fun q h => hFc q (va_Arg1 q h)
  refine va_calli (va_runV (As := [.int a1, .int a2]) (rest := []) ⟨hx, hb, hml, hown, hts⟩ (c_X7_isAhead l D m7 rm H.size a1 a2) (cwV 2 hts gL_law_X7_isAhead rfl rfl rfl (by decide +kernel) ⟨Nat.le_of_ble_eq_true rfl, Nat.le_of_ble_eq_true rfl⟩) ⟨fun a U g mk q => ⟨q.1, PX7.blind q.2⟩, va_recv hK hP (ci := 13) (q0 := 1) rfl rfl, fun U hU hW => ⟨rfl, PX7.go hPc hKc hU hW⟩⟩ rfl rfl hl.1 rfl (lv_room (Nat.le_of_ble_eq_true rfl)) dL_law_3307 ⟨Nat.le_of_ble_eq_true rfl, Nat.le_of_ble_eq_true rfl⟩) hS (fun q _ h => hFr q h) hFr (fun r6 u t H1 locs ht hvm hw hB hz1 hk1 hS => ?_)
  obtain ⟨um, eum⟩ : ∃ z, z = u := ⟨_, rfl⟩
  rw [← eum] at hB hw
  rw [ht] at hB
  have hP1 := hB
  have hD1 : va_D (va_A [(m7, .inr (13, [.ref (rm 0), .ref (rm 1), .ref (rm 2), .ref (rm 3), .ref (rm 4), .ref (rm 5), .ref (rm 6), .ref (rm 7), .ref (rm 8), .ref (rm 9), .ref (rm 10), .ref (rm 11), .ref (rm 12), .ref (rm 13), .ref (rm 14), .ref (rm 15), .int 0, .int 0, .int 1, .int 110, .int 0, .int 0, .int 0, .int 0, .int 0, .int 0, .int 0, .int 0, .int 0, .int 0, .int 0]))] H.size) [(m7, .inr (13, um))] := va_D1 (Or.inl ⟨0, _, rfl⟩)
  have hk1 : ∀ q : Nat, q < H.size → ¬ va_A [(m7, .inr (13, [.ref (rm 0), .ref (rm 1), .ref (rm 2), .ref (rm 3), .ref (rm 4), .ref (rm 5), .ref (rm 6), .ref (rm 7), .ref (rm 8), .ref (rm 9), .ref (rm 10), .ref (rm 11), .ref (rm 12), .ref (rm 13), .ref (rm 14), .ref (rm 15), .int 0, .int 0, .int 1, .int 110, .int 0, .int 0, .int 0, .int 0, .int 0, .int 0, .int 0, .int 0, .int 0, .int 0, .int 0]))] H.size q → H1[q]? = H[q]? := fun q h1 h2 => hk1 q h1 (fun h3 => h2 (va_Arg1 q h3))
  obtain ⟨hP, hD⟩ := va_join (wr := [(x, .inr (12, [.ref (rx 0), .ref (rx 1), .ref (rx 2), .ref (rx 3), .int 0, .int 0, .int 1, .int 110, .int 0, .int 115, .int 0, .int 0, .int 0, .int 0])), (o, .inl (cO, 1, .inr (.inl fo))), (o2, .inl (cD, 1, .inr (.inr (.inr (.inl fd)))))]) (w1 := [(m7, .inr (13, um))]) hP hD [1] [0, 2, 3] rfl rfl (by decide) (by decide) hk1 hFc hP1 hD1
  generalize H1 = H at hP hS ⊢
  have hP : va_P D vwCl [(x, .inr (12, [.ref (rx 0), .ref (rx 1), .ref (rx 2), .ref (rx 3), .int 0, .int 0, .int 1, .int 110, .int 0, .int 115, .int 0, .int 0, .int 0, .int 0])), (o, .inl (cO, 1, .inr (.inl fo))), (o2, .inl (cD, 1, .inr (.inr (.inr (.inl fd))))), (m7, .inr (13, um))] H := hP
  have hD : va_D A [(x, .inr (12, [.ref (rx 0), .ref (rx 1), .ref (rx 2), .ref (rx 3), .int 0, .int 0, .int 1, .int 110, .int 0, .int 115, .int 0, .int 0, .int 0, .int 0])), (o, .inl (cO, 1, .inr (.inl fo))), (o2, .inl (cD, 1, .inr (.inr (.inr (.inl fd))))), (m7, .inr (13, um))] := hD
  refine W.widen (k := 141) (n := 11929) (Nat.le_of_ble_eq_true rfl) (Nat.le_of_ble_eq_true rfl) ?_
  have hu30 := hw
  refine lv_istore (lv' := [(7, .int r6), (6, .int 1), (0, .ref b), (1, .ref x), (2, .ref m7), (3, .ref o), (4, .ref o2), (5, .int 0)]) hx hb dL_law_3310 hl (by decide) rfl (fun ls hl => ?_)
  refine lv_aload_n hx hb dL_law_3312 rfl (lv_at hl 4 rfl) ?_
  have hPc := hP.sub (ws' := [(m7, .inr (13, um))]) [3] rfl
  have hKc := hK.sub (tys' := []) [] rfl
  refine va_calli (va_runV (As := []) (rest := []) ⟨hx, hb, hml, hown, hts⟩ (c_X7_thrown l D m7 um 1 hu30 H.size) (cwV 0 hts gL_law_X7_thrown rfl rfl rfl (by decide +kernel) ⟨Nat.le_of_ble_eq_true rfl, Nat.le_of_ble_eq_true rfl⟩) ⟨fun a U g mk q => ⟨q.1, q.2.1, q.2.2.1, va_K.moved (u := U) (U := U.calling g mk a) (Vm.Alike.refl U.vm) q.2.2.2⟩, va_recv hK hP (ci := 13) (q0 := 3) rfl rfl, fun U hU hW => ⟨rfl, congrArg Array.size hU, by rw [hU]; exact hPc, va_K.moved hW.alike hKc⟩⟩ rfl rfl hl.1 rfl (lv_room (Nat.le_of_ble_eq_true rfl)) dL_law_3313 ⟨Nat.le_of_ble_eq_true rfl, Nat.le_of_ble_eq_true rfl⟩) hS (fun q h1 h2 => absurd h1 (Nat.not_lt.mpr h2)) (fun q h => hA q (Nat.le_trans hS.1 h)) (fun r7 u t H1 locs ht hvm hw hB hz1 hk1 hS => ?_)
  have hP := va_kept0 hP hk1
  generalize H1 = H at hP hS ⊢
  have hP : va_P D vwCl [(x, .inr (12, [.ref (rx 0), .ref (rx 1), .ref (rx 2), .ref (rx 3), .int 0, .int 0, .int 1, .int 110, .int 0, .int 115, .int 0, .int 0, .int 0, .int 0])), (o, .inl (cO, 1, .inr (.inl fo))), (o2, .inl (cD, 1, .inr (.inr (.inr (.inl fd))))), (m7, .inr (13, um))] H := hP
  obtain rfl : r7 = 1 := hw
  refine lv_iload hx hb dL_law_3316 (lv_at hl 1 rfl) ?_
  refine lv_icmp_eq (tgt := 3323) hx hb dL_law_3318 (by decide) (fun _ => ?_) (fun c => by first | exact absurd (by decide) c | exact absurd c (by decide))
  refine lv_iload hx hb dL_law_3323 (lv_at hl 1 rfl) ?_
  refine lv_if_ne (tgt := 3347) hx hb dL_law_3325 (by decide) (fun _ => ?_) (fun c => by first | exact absurd (by decide) c | exact absurd c (by decide))
  refine lv_goto (tgt := 3904) hx hb dL_law_3347 (by decide) ?_
  refine W.widen (k := 200) (n := 12100) (Nat.le_of_ble_eq_true rfl) (Nat.le_of_ble_eq_true rfl) ?_
  exact kk H locs ls hS (lv_sub hl [2, 7] rfl)
set_option maxHeartbeats 4000000 in
set_option maxRecDepth 100000 in
theorem law_c46 (l : Launch) (hlT : l.stackTraces = false) {p : Program} {e : Env} {s : State} {m : MethodId} {below : List Frame} {meth : Method} {c : Code} {Q : State → Prop} {D : va_G} {A : Nat → Prop} {b : Nat} {xs : Nat → Int32} {x m7 o o2 : Nat} {rx rm : Nat → Nat} {cO cD : ClassId} {fo : Nat → Int64} {fd : Nat → UInt64} {H : Heap} {locs : List Loc} {ls : Array Slot} (hx : p.tables.exec = Jvm.exec) (hb : c.code = cL_law) (hml : c.maxLocals = 9) (hown : s.vm.findClass RL = some m.cls) (hts : ∀ w ∈ wsL_law, w.before #[Value.ref b] s = true) (hX : va_X b 7 xs s s.heap) (hbl : b < s.heap.size) (hbA : ¬ A b) (hA : ∀ q : Nat, s.heap.size ≤ q → A q) (hT : tf A s s.heap)
    (hK : va_K D vwCl [(cO, .long), (cD, .double)] s) (hP : va_P D vwCl [(x, .inr (12, [.ref (rx 0), .ref (rx 1), .ref (rx 2), .ref (rx 3), .int 0, .int 0, .int 1, .int 110, .int 0, .int 115, .int 0, .int 0, .int 0, .int 0])), (m7, .inr (13, [.ref (rm 0), .ref (rm 1), .ref (rm 2), .ref (rm 3), .ref (rm 4), .ref (rm 5), .ref (rm 6), .ref (rm 7), .ref (rm 8), .ref (rm 9), .ref (rm 10), .ref (rm 11), .ref (rm 12), .ref (rm 13), .ref (rm 14), .ref (rm 15), .int 0, .int 0, .int 1, .int 110, .int 0, .int 0, .int 0, .int 0, .int 0, .int 0, .int 0, .int 0, .int 0, .int 0, .int 0])), (o, .inl (cO, 1, .inr (.inl fo))), (o2, .inl (cD, 1, .inr (.inr (.inr (.inl fd)))))] H) (hD : va_D A [(x, .inr (12, [.ref (rx 0), .ref (rx 1), .ref (rx 2), .ref (rx 3), .int 0, .int 0, .int 1, .int 110, .int 0, .int 115, .int 0, .int 0, .int 0, .int 0])), (m7, .inr (13, [.ref (rm 0), .ref (rm 1), .ref (rm 2), .ref (rm 3), .ref (rm 4), .ref (rm 5), .ref (rm 6), .ref (rm 7), .ref (rm 8), .ref (rm 9), .ref (rm 10), .ref (rm 11), .ref (rm 12), .ref (rm 13), .ref (rm 14), .ref (rm 15), .int 0, .int 0, .int 1, .int 110, .int 0, .int 0, .int 0, .int 0, .int 0, .int 0, .int 0, .int 0, .int 0, .int 0, .int 0])), (o, .inl (cO, 1, .inr (.inl fo))), (o2, .inl (cD, 1, .inr (.inr (.inr (.inl fd)))))]) (hS : va_S A s.heap H locs) (hl : lv_has ls 9 [(0, .ref b), (1, .ref x), (2, .ref m7), (3, .ref o), (4, .ref o2), (5, .int 0)])
    (kk : ∀ (H : Heap) (locs : List Loc) (ls : Array Slot), va_S A s.heap H locs → lv_has ls 9 [(0, .ref b), (5, .int 0)] → W p l e room_1 s m #[Value.ref b] below meth c H locs 200 12100 Q (F0 m 3904 ls [])) :
    W p l e room_1 s m #[Value.ref b] below meth c H locs 140 11923 Q (F0 m 3350 ls []) := by
  obtain ⟨a1, ea1⟩ : ∃ z, z = xs (1 : Int32).toNatClampNeg := ⟨_, rfl⟩
  obtain ⟨a2, ea2⟩ : ∃ z, z = xs (2 : Int32).toNatClampNeg := ⟨_, rfl⟩
  obtain ⟨a3, ea3⟩ : ∃ z, z = xs (3 : Int32).toNatClampNeg := ⟨_, rfl⟩
  obtain ⟨a4, ea4⟩ : ∃ z, z = xs (4 : Int32).toNatClampNeg := ⟨_, rfl⟩
  obtain ⟨a5, ea5⟩ : ∃ z, z = xs (5 : Int32).toNatClampNeg := ⟨_, rfl⟩
  obtain ⟨a6, ea6⟩ : ∃ z, z = xs (6 : Int32).toNatClampNeg := ⟨_, rfl⟩
  refine lv_aload_n hx hb dL_law_3350 rfl (lv_at hl 1 rfl) ?_
  refine lv_aload_n hx hb dL_law_3351 rfl (lv_at hl 0 rfl) ?_
  refine lv_iload hx hb dL_law_3352 (lv_at hl 5 rfl) ?_
  refine lv_iconst (v := 1) hx hb dL_law_3354 (by decide) ?_
  refine lv_iadd hx hb dL_law_3355 ?_
  refine lv_topi (fun y1 ey1 => ?_)
  obtain rfl : y1 = 1 := ey1.trans (by decide)
  refine va_sld hx hb hX hbl hbA hS (vp_in_nI (n := 1) (by decide) (by decide)) dL_law_3356 ?_
  rw [← ea1]
  refine lv_aload_n hx hb dL_law_3357 rfl (lv_at hl 3 rfl) ?_
  have hPc := hP.sub (ws' := [(x, .inr (12, [.ref (rx 0), .ref (rx 1), .ref (rx 2), .ref (rx 3), .int 0, .int 0, .int 1, .int 110, .int 0, .int 115, .int 0, .int 0, .int 0, .int 0])), (o, .inl (cO, 1, .inr (.inl fo)))]) [0, 2] rfl
  have hDc := hD.sub (ws' := [(x, .inr (12, [.ref (rx 0), .ref (rx 1), .ref (rx 2), .ref (rx 3), .int 0, .int 0, .int 1, .int 110, .int 0, .int 115, .int 0, .int 0, .int 0, .int 0])), (o, .inl (cO, 1, .inr (.inl fo)))]) [0, 2] (by decide) rfl
  have hKc := hK.sub (tys' := [(cO, .long)]) [0] rfl
  have hFc := va_free (wc := [(x, .inr (12, [.ref (rx 0), .ref (rx 1), .ref (rx 2), .ref (rx 3), .int 0, .int 0, .int 1, .int 110, .int 0, .int 115, .int 0, .int 0, .int 0, .int 0])), (o, .inl (cO, 1, .inr (.inl fo)))]) hD hS hA [0, 2] rfl
  refine va_calli (vx_runSW (As := [.ref x, .int a1, .ref o]) (rest := []) ⟨hx, hb, hml, hown, hts⟩ (c_L_cut l hlT D x rx o cO fo H.size a1) (vx_cwSW 3 hts gL_law_L_cut rfl rfl rfl (by decide +kernel) ⟨Nat.le_of_ble_eq_true rfl, Nat.le_of_ble_eq_true rfl⟩) ⟨fun a U g mk q => ⟨q.1, q.2.1, q.2.2.1, va_K.moved (u := U) (U := U.calling g mk a) (Vm.Alike.refl U.vm) q.2.2.2.1, q.2.2.2.2.1, q.2.2.2.2.2.blind⟩, fun U hU hW => ⟨rfl, congrArg Array.size hU, by rw [hU]; exact hPc, va_K.moved hW.alike hKc, hDc.weaken (fun _ _ _ _ => trivial), hT.go hS hW hU (fun q hq => hA q (Nat.le_trans hS.1 hq))⟩⟩ rfl rfl hl.1 rfl (lv_room (Nat.le_of_ble_eq_true rfl)) dL_law_3358 ⟨Nat.le_of_ble_eq_true rfl, Nat.le_of_ble_eq_true rfl⟩) hS (fun q _ h => hFc q h) hFc (fun r2 u t H1 locs ht hvm hw hB hz1 hk1 hS => ?_)
  obtain ⟨uo, euo⟩ : ∃ z, z = u := ⟨_, rfl⟩
  rw [← euo] at hB hw
  rw [ht] at hB
  have hP1 := hB
  have hD1 : va_D (va_A [(x, .inr (12, [.ref (rx 0), .ref (rx 1), .ref (rx 2), .ref (rx 3), .int 0, .int 0, .int 1, .int 110, .int 0, .int 115, .int 0, .int 0, .int 0, .int 0])), (o, .inl (cO, 1, .inr (.inl fo)))] H.size) [(o, .inl (cO, 1, .inr (.inl uo)))] := va_D1 (Or.inl ⟨1, _, rfl⟩)
  obtain ⟨hP, hD⟩ := va_join (wr := [(m7, .inr (13, [.ref (rm 0), .ref (rm 1), .ref (rm 2), .ref (rm 3), .ref (rm 4), .ref (rm 5), .ref (rm 6), .ref (rm 7), .ref (rm 8), .ref (rm 9), .ref (rm 10), .ref (rm 11), .ref (rm 12), .ref (rm 13), .ref (rm 14), .ref (rm 15), .int 0, .int 0, .int 1, .int 110, .int 0, .int 0, .int 0, .int 0, .int 0, .int 0, .int 0, .int 0, .int 0, .int 0, .int 0])), (o2, .inl (cD, 1, .inr (.inr (.inr (.inl fd)))))]) (w1 := [(o, .inl (cO, 1, .inr (.inl uo)))]) hP hD [0, 2] [1, 3] rfl rfl (by decide) (by decide) hk1 hFc hP1 hD1
  generalize H1 = H at hP hS ⊢
  have hP : va_P D vwCl [(m7, .inr (13, [.ref (rm 0), .ref (rm 1), .ref (rm 2), .ref (rm 3), .ref (rm 4), .ref (rm 5), .ref (rm 6), .ref (rm 7), .ref (rm 8), .ref (rm 9), .ref (rm 10), .ref (rm 11), .ref (rm 12), .ref (rm 13), .ref (rm 14), .ref (rm 15), .int 0, .int 0, .int 1, .int 110, .int 0, .int 0, .int 0, .int 0, .int 0, .int 0, .int 0, .int 0, .int 0, .int 0, .int 0])), (o2, .inl (cD, 1, .inr (.inr (.inr (.inl fd))))), (o, .inl (cO, 1, .inr (.inl uo)))] H := hP
  have hD : va_D A [(m7, .inr (13, [.ref (rm 0), .ref (rm 1), .ref (rm 2), .ref (rm 3), .ref (rm 4), .ref (rm 5), .ref (rm 6), .ref (rm 7), .ref (rm 8), .ref (rm 9), .ref (rm 10), .ref (rm 11), .ref (rm 12), .ref (rm 13), .ref (rm 14), .ref (rm 15), .int 0, .int 0, .int 1, .int 110, .int 0, .int 0, .int 0, .int 0, .int 0, .int 0, .int 0, .int 0, .int 0, .int 0, .int 0])), (o2, .inl (cD, 1, .inr (.inr (.inr (.inl fd))))), (o, .inl (cO, 1, .inr (.inl uo)))] := hD
  refine W.widen (k := 141) (n := 11929) (Nat.le_of_ble_eq_true rfl) (Nat.le_of_ble_eq_true rfl) ?_
  rcases hw with ⟨hr, hu, hq⟩ | ⟨hr, hq⟩
  · skip
    obtain rfl : r2 = 0 := hr
    refine lv_istore (lv' := [(6, .int 0), (0, .ref b), (1, .ref x), (2, .ref m7), (3, .ref o), (4, .ref o2), (5, .int 0)]) hx hb dL_law_3361 hl (by decide) rfl (fun ls hl => ?_)
    refine lv_aload_n hx hb dL_law_3363 rfl (lv_at hl 3 rfl) ?_
    refine lv_aload_n hx hb dL_law_3364 rfl (lv_at hl 1 rfl) ?_
    refine lv_iload hx hb dL_law_3365 (lv_at hl 6 rfl) ?_
    refine lv_iconst (v := 1) hx hb dL_law_3367 (by decide) ?_
    refine lv_iadd hx hb dL_law_3368 ?_
    refine lv_topi (fun y3 ey3 => ?_)
    obtain rfl : y3 = 1 := ey3.trans (by decide)
    refine va_sld hx hb hX hbl hbA hS (vp_in_nI (n := 1) (by decide) (by decide)) dL_law_3369 ?_
    rw [← ea1]
    have hPc := hP.sub (ws' := [(m7, .inr (13, [.ref (rm 0), .ref (rm 1), .ref (rm 2), .ref (rm 3), .ref (rm 4), .ref (rm 5), .ref (rm 6), .ref (rm 7), .ref (rm 8), .ref (rm 9), .ref (rm 10), .ref (rm 11), .ref (rm 12), .ref (rm 13), .ref (rm 14), .ref (rm 15), .int 0, .int 0, .int 1, .int 110, .int 0, .int 0, .int 0, .int 0, .int 0, .int 0, .int 0, .int 0, .int 0, .int 0, .int 0]))]) [0] rfl
    have hDc := hD.sub (ws' := [(m7, .inr (13, [.ref (rm 0), .ref (rm 1), .ref (rm 2), .ref (rm 3), .ref (rm 4), .ref (rm 5), .ref (rm 6), .ref (rm 7), .ref (rm 8), .ref (rm 9), .ref (rm 10), .ref (rm 11), .ref (rm 12), .ref (rm 13), .ref (rm 14), .ref (rm 15), .int 0, .int 0, .int 1, .int 110, .int 0, .int 0, .int 0, .int 0, .int 0, .int 0, .int 0, .int 0, .int 0, .int 0, .int 0]))]) [0] (by decide) rfl
    have hKc := hK.sub (tys' := []) [] rfl
    have hFc := va_free (wc := [(m7, .inr (13, [.ref (rm 0), .ref (rm 1), .ref (rm 2), .ref (rm 3), .ref (rm 4), .ref (rm 5), .ref (rm 6), .ref (rm 7), .ref (rm 8), .ref (rm 9), .ref (rm 10), .ref (rm 11), .ref (rm 12), .ref (rm 13), .ref (rm 14), .ref (rm 15), .int 0, .int 0, .int 1, .int 110, .int 0, .int 0, .int 0, .int 0, .int 0, .int 0, .int 0, .int 0, .int 0, .int 0, .int 0]))]) hD hS hA [0] rfl
    have hFr : ∀ q : Nat, rg1 m7 H.size q → A q := fun q h => hFc q (va_Arg1 q h)
    refine va_calli (va_runV (As := [.int a1]) (rest := []) ⟨hx, hb, hml, hown, hts⟩ (c_X7_cut l D m7 rm H.size a1) (cwV 1 hts gL_law_X7_cut rfl rfl rfl (by decide +kernel) ⟨Nat.le_of_ble_eq_true rfl, Nat.le_of_ble_eq_true rfl⟩) ⟨fun a U g mk q => ⟨q.1, PX7.blind q.2⟩, va_recv hK hP (ci := 13) (q0 := 0) rfl rfl, fun U hU hW => ⟨rfl, PX7.go hPc hKc hU hW⟩⟩ rfl rfl hl.1 rfl (lv_room (Nat.le_of_ble_eq_true rfl)) dL_law_3370 ⟨Nat.le_of_ble_eq_true rfl, Nat.le_of_ble_eq_true rfl⟩) hS (fun q _ h => hFr q h) hFr (fun r4 u t H1 locs ht hvm hw hB hz1 hk1 hS => ?_)
    obtain ⟨um, eum⟩ : ∃ z, z = u := ⟨_, rfl⟩
    rw [← eum] at hB hw
    rw [ht] at hB
    have hP1 := hB
    have hD1 : va_D (va_A [(m7, .inr (13, [.ref (rm 0), .ref (rm 1), .ref (rm 2), .ref (rm 3), .ref (rm 4), .ref (rm 5), .ref (rm 6), .ref (rm 7), .ref (rm 8), .ref (rm 9), .ref (rm 10), .ref (rm 11), .ref (rm 12), .ref (rm 13), .ref (rm 14), .ref (rm 15), .int 0, .int 0, .int 1, .int 110, .int 0, .int 0, .int 0, .int 0, .int 0, .int 0, .int 0, .int 0, .int 0, .int 0, .int 0]))] H.size) [(m7, .inr (13, um))] := va_D1 (Or.inl ⟨0, _, rfl⟩)
    have hk1 : ∀ q : Nat, q < H.size → ¬ va_A [(m7, .inr (13, [.ref (rm 0), .ref (rm 1), .ref (rm 2), .ref (rm 3), .ref (rm 4), .ref (rm 5), .ref (rm 6), .ref (rm 7), .ref (rm 8), .ref (rm 9), .ref (rm 10), .ref (rm 11), .ref (rm 12), .ref (rm 13), .ref (rm 14), .ref (rm 15), .int 0, .int 0, .int 1, .int 110, .int 0, .int 0, .int 0, .int 0, .int 0, .int 0, .int 0, .int 0, .int 0, .int 0, .int 0]))] H.size q → H1[q]? = H[q]? := fun q h1 h2 => hk1 q h1 (fun h3 => h2 (va_Arg1 q h3))
    obtain ⟨hP, hD⟩ := va_join (wr := [(o2, .inl (cD, 1, .inr (.inr (.inr (.inl fd))))), (o, .inl (cO, 1, .inr (.inl uo)))]) (w1 := [(m7, .inr (13, um))]) hP hD [0] [1, 2] rfl rfl (by decide) (by decide) hk1 hFc hP1 hD1
    generalize H1 = H at hP hS ⊢
    have hP : va_P D vwCl [(o2, .inl (cD, 1, .inr (.inr (.inr (.inl fd))))), (o, .inl (cO, 1, .inr (.inl uo))), (m7, .inr (13, um))] H := hP
    have hD : va_D A [(o2, .inl (cD, 1, .inr (.inr (.inr (.inl fd))))), (o, .inl (cO, 1, .inr (.inl uo))), (m7, .inr (13, um))] := hD
    refine W.widen (k := 141) (n := 11929) (Nat.le_of_ble_eq_true rfl) (Nat.le_of_ble_eq_true rfl) ?_
    obtain ⟨_, hr, hu30⟩ := hw.resolve_right (fun z => by first | exact z.1 hq | exact hq z.1)
    obtain rfl : r4 = 0 := hr
    refine lv_istore (lv' := [(7, .int 0), (6, .int 0), (0, .ref b), (1, .ref x), (2, .ref m7), (3, .ref o), (4, .ref o2), (5, .int 0)]) hx hb dL_law_3373 hl (by decide) rfl (fun ls hl => ?_)
    refine lv_aload_n hx hb dL_law_3375 rfl (lv_at hl 4 rfl) ?_
    have hPc := hP.sub (ws' := [(m7, .inr (13, um))]) [2] rfl
    have hKc := hK.sub (tys' := []) [] rfl
    refine va_calli (va_runV (As := []) (rest := []) ⟨hx, hb, hml, hown, hts⟩ (c_X7_thrown l D m7 um 0 hu30 H.size) (cwV 0 hts gL_law_X7_thrown rfl rfl rfl (by decide +kernel) ⟨Nat.le_of_ble_eq_true rfl, Nat.le_of_ble_eq_true rfl⟩) ⟨fun a U g mk q => ⟨q.1, q.2.1, q.2.2.1, va_K.moved (u := U) (U := U.calling g mk a) (Vm.Alike.refl U.vm) q.2.2.2⟩, va_recv hK hP (ci := 13) (q0 := 2) rfl rfl, fun U hU hW => ⟨rfl, congrArg Array.size hU, by rw [hU]; exact hPc, va_K.moved hW.alike hKc⟩⟩ rfl rfl hl.1 rfl (lv_room (Nat.le_of_ble_eq_true rfl)) dL_law_3376 ⟨Nat.le_of_ble_eq_true rfl, Nat.le_of_ble_eq_true rfl⟩) hS (fun q h1 h2 => absurd h1 (Nat.not_lt.mpr h2)) (fun q h => hA q (Nat.le_trans hS.1 h)) (fun r5 u t H1 locs ht hvm hw hB hz1 hk1 hS => ?_)
    have hP := va_kept0 hP hk1
    generalize H1 = H at hP hS ⊢
    have hP : va_P D vwCl [(o2, .inl (cD, 1, .inr (.inr (.inr (.inl fd))))), (o, .inl (cO, 1, .inr (.inl uo))), (m7, .inr (13, um))] H := hP
    obtain rfl : r5 = 0 := hw
    refine lv_iload hx hb dL_law_3379 (lv_at hl 1 rfl) ?_
    refine lv_icmp_eq (tgt := 3386) hx hb dL_law_3381 (by decide) (fun _ => ?_) (fun c => by first | exact absurd (by decide) c | exact absurd c (by decide))
    refine lv_iload hx hb dL_law_3386 (lv_at hl 1 rfl) ?_
    refine lv_if_ne (tgt := 3403) hx hb dL_law_3388 (by decide) (fun c => by first | exact absurd c (by decide) | exact absurd (by decide) c) (fun _ => ?_)
    refine lv_aload_n hx hb dL_law_3391 rfl (lv_at hl 5 rfl) ?_
    refine lv_iconst (v := 0) hx hb dL_law_3392 (by decide) ?_
    refine va_lald hx hb hK hP 1 0 rfl rfl (vp_in_nI (n := 0) (by decide) (by decide)) dL_law_3393 ?_
    refine lv_iload hx hb dL_law_3394 (lv_at hl 0 rfl) ?_
    refine lv_i2l hx hb dL_law_3396 rfl ?_
    refine W.lcmp hx hb dL_law_3397 ?_
    rw [show lg_cmp (uo (0 : Int32).toNatClampNeg) ((0 : Int32).toInt64) = 0 from by rw [show (0 : Int32).toNatClampNeg = 0 from by decide, hu]; decide]
    refine lv_if_eq (tgt := 3403) hx hb dL_law_3398 (by decide) (fun _ => ?_) (fun c => by first | exact absurd (by decide) c | exact absurd c (by decide))
    refine lv_goto (tgt := 3904) hx hb dL_law_3403 (by decide) ?_
    refine W.widen (k := 200) (n := 12100) (Nat.le_of_ble_eq_true rfl) (Nat.le_of_ble_eq_true rfl) ?_
    exact kk H locs ls hS (lv_sub hl [2, 7] rfl)
  · skip
    obtain rfl : r2 = 1 := hr
    refine lv_istore (lv' := [(6, .int 1), (0, .ref b), (1, .ref x), (2, .ref m7), (3, .ref o), (4, .ref o2), (5, .int 0)]) hx hb dL_law_3361 hl (by decide) rfl (fun ls hl => ?_)
    refine lv_aload_n hx hb dL_law_3363 rfl (lv_at hl 3 rfl) ?_
    refine lv_aload_n hx hb dL_law_3364 rfl (lv_at hl 1 rfl) ?_
    refine lv_iload hx hb dL_law_3365 (lv_at hl 6 rfl) ?_
    refine lv_iconst (v := 1) hx hb dL_law_3367 (by decide) ?_
    refine lv_iadd hx hb dL_law_3368 ?_
    refine lv_topi (fun y9 ey9 => ?_)
    obtain rfl : y9 = 1 := ey9.trans (by decide)
    refine va_sld hx hb hX hbl hbA hS (vp_in_nI (n := 1) (by decide) (by decide)) dL_law_3369 ?_
    rw [← ea1]
    have hPc := hP.sub (ws' := [(m7, .inr (13, [.ref (rm 0), .ref (rm 1), .ref (rm 2), .ref (rm 3), .ref (rm 4), .ref (rm 5), .ref (rm 6), .ref (rm 7), .ref (rm 8), .ref (rm 9), .ref (rm 10), .ref (rm 11), .ref (rm 12), .ref (rm 13), .ref (rm 14), .ref (rm 15), .int 0, .int 0, .int 1, .int 110, .int 0, .int 0, .int 0, .int 0, .int 0, .int 0, .int 0, .int 0, .int 0, .int 0, .int 0]))]) [0] rfl
    have hDc := hD.sub (ws' := [(m7, .inr (13, [.ref (rm 0), .ref (rm 1), .ref (rm 2), .ref (rm 3), .ref (rm 4), .ref (rm 5), .ref (rm 6), .ref (rm 7), .ref (rm 8), .ref (rm 9), .ref (rm 10), .ref (rm 11), .ref (rm 12), .ref (rm 13), .ref (rm 14), .ref (rm 15), .int 0, .int 0, .int 1, .int 110, .int 0, .int 0, .int 0, .int 0, .int 0, .int 0, .int 0, .int 0, .int 0, .int 0, .int 0]))]) [0] (by decide) rfl
    have hKc := hK.sub (tys' := []) [] rfl
    have hFc := va_free (wc := [(m7, .inr (13, [.ref (rm 0), .ref (rm 1), .ref (rm 2), .ref (rm 3), .ref (rm 4), .ref (rm 5), .ref (rm 6), .ref (rm 7), .ref (rm 8), .ref (rm 9), .ref (rm 10), .ref (rm 11), .ref (rm 12), .ref (rm 13), .ref (rm 14), .ref (rm 15), .int 0, .int 0, .int 1, .int 110, .int 0, .int 0, .int 0, .int 0, .int 0, .int 0, .int 0, .int 0, .int 0, .int 0, .int 0]))]) hD hS hA [0] rfl
    have hFr : ∀ q : Nat, rg1 m7 H.size q → A q := fun q h => hFc q (va_Arg1 q h)
    refine va_calli (va_runV (As := [.int a1]) (rest := []) ⟨hx, hb, hml, hown, hts⟩ (c_X7_cut l D m7 rm H.size a1) (cwV 1 hts gL_law_X7_cut rfl rfl rfl (by decide +kernel) ⟨Nat.le_of_ble_eq_true rfl, Nat.le_of_ble_eq_true rfl⟩) ⟨fun a U g mk q => ⟨q.1, PX7.blind q.2⟩, va_recv hK hP (ci := 13) (q0 := 0) rfl rfl, fun U hU hW => ⟨rfl, PX7.go hPc hKc hU hW⟩⟩ rfl rfl hl.1 rfl (lv_room (Nat.le_of_ble_eq_true rfl)) dL_law_3370 ⟨Nat.le_of_ble_eq_true rfl, Nat.le_of_ble_eq_true rfl⟩) hS (fun q _ h => hFr q h) hFr (fun r10 u t H1 locs ht hvm hw hB hz1 hk1 hS => ?_)
    obtain ⟨um, eum⟩ : ∃ z, z = u := ⟨_, rfl⟩
    rw [← eum] at hB hw
    rw [ht] at hB
    have hP1 := hB
    have hD1 : va_D (va_A [(m7, .inr (13, [.ref (rm 0), .ref (rm 1), .ref (rm 2), .ref (rm 3), .ref (rm 4), .ref (rm 5), .ref (rm 6), .ref (rm 7), .ref (rm 8), .ref (rm 9), .ref (rm 10), .ref (rm 11), .ref (rm 12), .ref (rm 13), .ref (rm 14), .ref (rm 15), .int 0, .int 0, .int 1, .int 110, .int 0, .int 0, .int 0, .int 0, .int 0, .int 0, .int 0, .int 0, .int 0, .int 0, .int 0]))] H.size) [(m7, .inr (13, um))] := va_D1 (Or.inl ⟨0, _, rfl⟩)
    have hk1 : ∀ q : Nat, q < H.size → ¬ va_A [(m7, .inr (13, [.ref (rm 0), .ref (rm 1), .ref (rm 2), .ref (rm 3), .ref (rm 4), .ref (rm 5), .ref (rm 6), .ref (rm 7), .ref (rm 8), .ref (rm 9), .ref (rm 10), .ref (rm 11), .ref (rm 12), .ref (rm 13), .ref (rm 14), .ref (rm 15), .int 0, .int 0, .int 1, .int 110, .int 0, .int 0, .int 0, .int 0, .int 0, .int 0, .int 0, .int 0, .int 0, .int 0, .int 0]))] H.size q → H1[q]? = H[q]? := fun q h1 h2 => hk1 q h1 (fun h3 => h2 (va_Arg1 q h3))
    obtain ⟨hP, hD⟩ := va_join (wr := [(o2, .inl (cD, 1, .inr (.inr (.inr (.inl fd))))), (o, .inl (cO, 1, .inr (.inl uo)))]) (w1 := [(m7, .inr (13, um))]) hP hD [0] [1, 2] rfl rfl (by decide) (by decide) hk1 hFc hP1 hD1
    generalize H1 = H at hP hS ⊢
    have hP : va_P D vwCl [(o2, .inl (cD, 1, .inr (.inr (.inr (.inl fd))))), (o, .inl (cO, 1, .inr (.inl uo))), (m7, .inr (13, um))] H := hP
    have hD : va_D A [(o2, .inl (cD, 1, .inr (.inr (.inr (.inl fd))))), (o, .inl (cO, 1, .inr (.inl uo))), (m7, .inr (13, um))] := hD
    refine W.widen (k := 141) (n := 11929) (Nat.le_of_ble_eq_true rfl) (Nat.le_of_ble_eq_true rfl) ?_
    obtain ⟨_, hu30⟩ := hw.resolve_left (fun z => by first | exact hq z.1 | exact z.1 hq)
    refine lv_istore (lv' := [(7, .int r10), (6, .int 1), (0, .ref b), (1, .ref x), (2, .ref m7), (3, .ref o), (4, .ref o2), (5, .int 0)]) hx hb dL_law_3373 hl (by decide) rfl (fun ls hl => ?_)
    refine lv_aload_n hx hb dL_law_3375 rfl (lv_at hl 4 rfl) ?_
    have hPc := hP.sub (ws' := [(m7, .inr (13, um))]) [2] rfl
    have hKc := hK.sub (tys' := []) [] rfl
    refine va_calli (va_runV (As := []) (rest := []) ⟨hx, hb, hml, hown, hts⟩ (c_X7_thrown l D m7 um 1 hu30 H.size) (cwV 0 hts gL_law_X7_thrown rfl rfl rfl (by decide +kernel) ⟨Nat.le_of_ble_eq_true rfl, Nat.le_of_ble_eq_true rfl⟩) ⟨fun a U g mk q => ⟨q.1, q.2.1, q.2.2.1, va_K.moved (u := U) (U := U.calling g mk a) (Vm.Alike.refl U.vm) q.2.2.2⟩, va_recv hK hP (ci := 13) (q0 := 2) rfl rfl, fun U hU hW => ⟨rfl, congrArg Array.size hU, by rw [hU]; exact hPc, va_K.moved hW.alike hKc⟩⟩ rfl rfl hl.1 rfl (lv_room (Nat.le_of_ble_eq_true rfl)) dL_law_3376 ⟨Nat.le_of_ble_eq_true rfl, Nat.le_of_ble_eq_true rfl⟩) hS (fun q h1 h2 => absurd h1 (Nat.not_lt.mpr h2)) (fun q h => hA q (Nat.le_trans hS.1 h)) (fun r11 u t H1 locs ht hvm hw hB hz1 hk1 hS => ?_)
    have hP := va_kept0 hP hk1
    generalize H1 = H at hP hS ⊢
    have hP : va_P D vwCl [(o2, .inl (cD, 1, .inr (.inr (.inr (.inl fd))))), (o, .inl (cO, 1, .inr (.inl uo))), (m7, .inr (13, um))] H := hP
    obtain rfl : r11 = 1 := hw
    refine lv_iload hx hb dL_law_3379 (lv_at hl 1 rfl) ?_
    refine lv_icmp_eq (tgt := 3386) hx hb dL_law_3381 (by decide) (fun _ => ?_) (fun c => by first | exact absurd (by decide) c | exact absurd c (by decide))
    refine lv_iload hx hb dL_law_3386 (lv_at hl 1 rfl) ?_
    refine lv_if_ne (tgt := 3403) hx hb dL_law_3388 (by decide) (fun _ => ?_) (fun c => by first | exact absurd (by decide) c | exact absurd c (by decide))
    refine lv_goto (tgt := 3904) hx hb dL_law_3403 (by decide) ?_
    refine W.widen (k := 200) (n := 12100) (Nat.le_of_ble_eq_true rfl) (Nat.le_of_ble_eq_true rfl) ?_
    exact kk H locs ls hS (lv_sub hl [2, 7] rfl)
set_option maxHeartbeats 4000000 in
set_option maxRecDepth 100000 in
theorem law_c47 (l : Launch) (hlT : l.stackTraces = false) {p : Program} {e : Env} {s : State} {m : MethodId} {below : List Frame} {meth : Method} {c : Code} {Q : State → Prop} {D : va_G} {A : Nat → Prop} {b : Nat} {xs : Nat → Int32} {x m7 o o2 : Nat} {rx rm : Nat → Nat} {cO cD : ClassId} {fo : Nat → Int64} {fd : Nat → UInt64} {H : Heap} {locs : List Loc} {ls : Array Slot} (hx : p.tables.exec = Jvm.exec) (hb : c.code = cL_law) (hml : c.maxLocals = 9) (hown : s.vm.findClass RL = some m.cls) (hts : ∀ w ∈ wsL_law, w.before #[Value.ref b] s = true) (hX : va_X b 7 xs s s.heap) (hbl : b < s.heap.size) (hbA : ¬ A b) (hA : ∀ q : Nat, s.heap.size ≤ q → A q) (hT : tf A s s.heap)
    (hK : va_K D vwCl [(cO, .long), (cD, .double)] s) (hP : va_P D vwCl [(x, .inr (12, [.ref (rx 0), .ref (rx 1), .ref (rx 2), .ref (rx 3), .int 0, .int 0, .int 1, .int 110, .int 0, .int 115, .int 0, .int 0, .int 0, .int 0])), (m7, .inr (13, [.ref (rm 0), .ref (rm 1), .ref (rm 2), .ref (rm 3), .ref (rm 4), .ref (rm 5), .ref (rm 6), .ref (rm 7), .ref (rm 8), .ref (rm 9), .ref (rm 10), .ref (rm 11), .ref (rm 12), .ref (rm 13), .ref (rm 14), .ref (rm 15), .int 0, .int 0, .int 1, .int 110, .int 0, .int 0, .int 0, .int 0, .int 0, .int 0, .int 0, .int 0, .int 0, .int 0, .int 0])), (o, .inl (cO, 1, .inr (.inl fo))), (o2, .inl (cD, 1, .inr (.inr (.inr (.inl fd)))))] H) (hD : va_D A [(x, .inr (12, [.ref (rx 0), .ref (rx 1), .ref (rx 2), .ref (rx 3), .int 0, .int 0, .int 1, .int 110, .int 0, .int 115, .int 0, .int 0, .int 0, .int 0])), (m7, .inr (13, [.ref (rm 0), .ref (rm 1), .ref (rm 2), .ref (rm 3), .ref (rm 4), .ref (rm 5), .ref (rm 6), .ref (rm 7), .ref (rm 8), .ref (rm 9), .ref (rm 10), .ref (rm 11), .ref (rm 12), .ref (rm 13), .ref (rm 14), .ref (rm 15), .int 0, .int 0, .int 1, .int 110, .int 0, .int 0, .int 0, .int 0, .int 0, .int 0, .int 0, .int 0, .int 0, .int 0, .int 0])), (o, .inl (cO, 1, .inr (.inl fo))), (o2, .inl (cD, 1, .inr (.inr (.inr (.inl fd)))))]) (hS : va_S A s.heap H locs) (hl : lv_has ls 9 [(0, .ref b), (1, .ref x), (2, .ref m7), (3, .ref o), (4, .ref o2), (5, .int 0)])
    (kk : ∀ (H : Heap) (locs : List Loc) (ls : Array Slot), va_S A s.heap H locs → lv_has ls 9 [(0, .ref b), (5, .int 0)] → W p l e room_1 s m #[Value.ref b] below meth c H locs 200 12100 Q (F0 m 3904 ls [])) :
    W p l e room_1 s m #[Value.ref b] below meth c H locs 140 11923 Q (F0 m 3406 ls []) := by
  obtain ⟨a1, ea1⟩ : ∃ z, z = xs (1 : Int32).toNatClampNeg := ⟨_, rfl⟩
  obtain ⟨a2, ea2⟩ : ∃ z, z = xs (2 : Int32).toNatClampNeg := ⟨_, rfl⟩
  obtain ⟨a3, ea3⟩ : ∃ z, z = xs (3 : Int32).toNatClampNeg := ⟨_, rfl⟩
  obtain ⟨a4, ea4⟩ : ∃ z, z = xs (4 : Int32).toNatClampNeg := ⟨_, rfl⟩
  obtain ⟨a5, ea5⟩ : ∃ z, z = xs (5 : Int32).toNatClampNeg := ⟨_, rfl⟩
  obtain ⟨a6, ea6⟩ : ∃ z, z = xs (6 : Int32).toNatClampNeg := ⟨_, rfl⟩
  refine lv_aload_n hx hb dL_law_3406 rfl (lv_at hl 1 rfl) ?_
  refine lv_aload_n hx hb dL_law_3407 rfl (lv_at hl 0 rfl) ?_
  refine lv_iload hx hb dL_law_3408 (lv_at hl 5 rfl) ?_
  refine lv_iconst (v := 1) hx hb dL_law_3410 (by decide) ?_
  refine lv_iadd hx hb dL_law_3411 ?_
  refine lv_topi (fun y1 ey1 => ?_)
  obtain rfl : y1 = 1 := ey1.trans (by decide)
  refine va_sld hx hb hX hbl hbA hS (vp_in_nI (n := 1) (by decide) (by decide)) dL_law_3412 ?_
  rw [← ea1]
  refine lv_aload_n hx hb dL_law_3413 rfl (lv_at hl 3 rfl) ?_
  have hPc := hP.sub (ws' := [(x, .inr (12, [.ref (rx 0), .ref (rx 1), .ref (rx 2), .ref (rx 3), .int 0, .int 0, .int 1, .int 110, .int 0, .int 115, .int 0, .int 0, .int 0, .int 0])), (o, .inl (cO, 1, .inr (.inl fo)))]) [0, 2] rfl
  have hDc := hD.sub (ws' := [(x, .inr (12, [.ref (rx 0), .ref (rx 1), .ref (rx 2), .ref (rx 3), .int 0, .int 0, .int 1, .int 110, .int 0, .int 115, .int 0, .int 0, .int 0, .int 0])), (o, .inl (cO, 1, .inr (.inl fo)))]) [0, 2] (by decide) rfl
  have hKc := hK.sub (tys' := [(cO, .long)]) [0] rfl
  have hFc := va_free (wc := [(x, .inr (12, [.ref (rx 0), .ref (rx 1), .ref (rx 2), .ref (rx 3), .int 0, .int 0, .int 1, .int 110, .int 0, .int 115, .int 0, .int 0, .int 0, .int 0])), (o, .inl (cO, 1, .inr (.inl fo)))]) hD hS hA [0, 2] rfl
  refine va_calli (vx_runSW (As := [.ref x, .int a1, .ref o]) (rest := []) ⟨hx, hb, hml, hown, hts⟩ (c_L_conditions l hlT D x rx o cO fo H.size a1) (vx_cwSW 3 hts gL_law_L_conditions rfl rfl rfl (by decide +kernel) ⟨Nat.le_of_ble_eq_true rfl, Nat.le_of_ble_eq_true rfl⟩) ⟨fun a U g mk q => ⟨q.1, q.2.1, q.2.2.1, va_K.moved (u := U) (U := U.calling g mk a) (Vm.Alike.refl U.vm) q.2.2.2.1, q.2.2.2.2.1, q.2.2.2.2.2.blind⟩, fun U hU hW => ⟨rfl, congrArg Array.size hU, by rw [hU]; exact hPc, va_K.moved hW.alike hKc, hDc.weaken (fun _ _ _ _ => trivial), hT.go hS hW hU (fun q hq => hA q (Nat.le_trans hS.1 hq))⟩⟩ rfl rfl hl.1 rfl (lv_room (Nat.le_of_ble_eq_true rfl)) dL_law_3414 ⟨Nat.le_of_ble_eq_true rfl, Nat.le_of_ble_eq_true rfl⟩) hS (fun q _ h => hFc q h) hFc (fun r2 u t H1 locs ht hvm hw hB hz1 hk1 hS => ?_)
  obtain ⟨uo, euo⟩ : ∃ z, z = u := ⟨_, rfl⟩
  rw [← euo] at hB hw
  rw [ht] at hB
  have hP1 := hB
  have hD1 : va_D (va_A [(x, .inr (12, [.ref (rx 0), .ref (rx 1), .ref (rx 2), .ref (rx 3), .int 0, .int 0, .int 1, .int 110, .int 0, .int 115, .int 0, .int 0, .int 0, .int 0])), (o, .inl (cO, 1, .inr (.inl fo)))] H.size) [(o, .inl (cO, 1, .inr (.inl uo)))] := va_D1 (Or.inl ⟨1, _, rfl⟩)
  obtain ⟨hP, hD⟩ := va_join (wr := [(m7, .inr (13, [.ref (rm 0), .ref (rm 1), .ref (rm 2), .ref (rm 3), .ref (rm 4), .ref (rm 5), .ref (rm 6), .ref (rm 7), .ref (rm 8), .ref (rm 9), .ref (rm 10), .ref (rm 11), .ref (rm 12), .ref (rm 13), .ref (rm 14), .ref (rm 15), .int 0, .int 0, .int 1, .int 110, .int 0, .int 0, .int 0, .int 0, .int 0, .int 0, .int 0, .int 0, .int 0, .int 0, .int 0])), (o2, .inl (cD, 1, .inr (.inr (.inr (.inl fd)))))]) (w1 := [(o, .inl (cO, 1, .inr (.inl uo)))]) hP hD [0, 2] [1, 3] rfl rfl (by decide) (by decide) hk1 hFc hP1 hD1
  generalize H1 = H at hP hS ⊢
  have hP : va_P D vwCl [(m7, .inr (13, [.ref (rm 0), .ref (rm 1), .ref (rm 2), .ref (rm 3), .ref (rm 4), .ref (rm 5), .ref (rm 6), .ref (rm 7), .ref (rm 8), .ref (rm 9), .ref (rm 10), .ref (rm 11), .ref (rm 12), .ref (rm 13), .ref (rm 14), .ref (rm 15), .int 0, .int 0, .int 1, .int 110, .int 0, .int 0, .int 0, .int 0, .int 0, .int 0, .int 0, .int 0, .int 0, .int 0, .int 0])), (o2, .inl (cD, 1, .inr (.inr (.inr (.inl fd))))), (o, .inl (cO, 1, .inr (.inl uo)))] H := hP
  have hD : va_D A [(m7, .inr (13, [.ref (rm 0), .ref (rm 1), .ref (rm 2), .ref (rm 3), .ref (rm 4), .ref (rm 5), .ref (rm 6), .ref (rm 7), .ref (rm 8), .ref (rm 9), .ref (rm 10), .ref (rm 11), .ref (rm 12), .ref (rm 13), .ref (rm 14), .ref (rm 15), .int 0, .int 0, .int 1, .int 110, .int 0, .int 0, .int 0, .int 0, .int 0, .int 0, .int 0, .int 0, .int 0, .int 0, .int 0])), (o2, .inl (cD, 1, .inr (.inr (.inr (.inl fd))))), (o, .inl (cO, 1, .inr (.inl uo)))] := hD
  refine W.widen (k := 141) (n := 11929) (Nat.le_of_ble_eq_true rfl) (Nat.le_of_ble_eq_true rfl) ?_
  rcases hw with ⟨hr, hu, hq⟩ | ⟨hr, hq⟩
  · skip
    obtain rfl : r2 = 0 := hr
    refine lv_istore (lv' := [(6, .int 0), (0, .ref b), (1, .ref x), (2, .ref m7), (3, .ref o), (4, .ref o2), (5, .int 0)]) hx hb dL_law_3417 hl (by decide) rfl (fun ls hl => ?_)
    refine lv_aload_n hx hb dL_law_3419 rfl (lv_at hl 3 rfl) ?_
    refine lv_aload_n hx hb dL_law_3420 rfl (lv_at hl 1 rfl) ?_
    refine lv_iload hx hb dL_law_3421 (lv_at hl 6 rfl) ?_
    refine lv_iconst (v := 1) hx hb dL_law_3423 (by decide) ?_
    refine lv_iadd hx hb dL_law_3424 ?_
    refine lv_topi (fun y3 ey3 => ?_)
    obtain rfl : y3 = 1 := ey3.trans (by decide)
    refine va_sld hx hb hX hbl hbA hS (vp_in_nI (n := 1) (by decide) (by decide)) dL_law_3425 ?_
    rw [← ea1]
    have hPc := hP.sub (ws' := [(m7, .inr (13, [.ref (rm 0), .ref (rm 1), .ref (rm 2), .ref (rm 3), .ref (rm 4), .ref (rm 5), .ref (rm 6), .ref (rm 7), .ref (rm 8), .ref (rm 9), .ref (rm 10), .ref (rm 11), .ref (rm 12), .ref (rm 13), .ref (rm 14), .ref (rm 15), .int 0, .int 0, .int 1, .int 110, .int 0, .int 0, .int 0, .int 0, .int 0, .int 0, .int 0, .int 0, .int 0, .int 0, .int 0]))]) [0] rfl
    have hDc := hD.sub (ws' := [(m7, .inr (13, [.ref (rm 0), .ref (rm 1), .ref (rm 2), .ref (rm 3), .ref (rm 4), .ref (rm 5), .ref (rm 6), .ref (rm 7), .ref (rm 8), .ref (rm 9), .ref (rm 10), .ref (rm 11), .ref (rm 12), .ref (rm 13), .ref (rm 14), .ref (rm 15), .int 0, .int 0, .int 1, .int 110, .int 0, .int 0, .int 0, .int 0, .int 0, .int 0, .int 0, .int 0, .int 0, .int 0, .int 0]))]) [0] (by decide) rfl
    have hKc := hK.sub (tys' := []) [] rfl
    have hFc := va_free (wc := [(m7, .inr (13, [.ref (rm 0), .ref (rm 1), .ref (rm 2), .ref (rm 3), .ref (rm 4), .ref (rm 5), .ref (rm 6), .ref (rm 7), .ref (rm 8), .ref (rm 9), .ref (rm 10), .ref (rm 11), .ref (rm 12), .ref (rm 13), .ref (rm 14), .ref (rm 15), .int 0, .int 0, .int 1, .int 110, .int 0, .int 0, .int 0, .int 0, .int 0, .int 0, .int 0, .int 0, .int 0, .int 0, .int 0]))]) hD hS hA [0] rfl
    have hFr : ∀ q : Nat, rg1 m7 H.size q → A q := fun q h => hFc q (va_Arg1 q h)
    refine va_calli (va_runV (As := [.int a1]) (rest := []) ⟨hx, hb, hml, hown, hts⟩ (c_X7_conditions l D m7 rm H.size a1) (cwV 1 hts gL_law_X7_conditions rfl rfl rfl (by decide +kernel) ⟨Nat.le_of_ble_eq_true rfl, Nat.le_of_ble_eq_true rfl⟩) ⟨fun a U g mk q => ⟨q.1, PX7.blind q.2⟩, va_recv hK hP (ci := 13) (q0 := 0) rfl rfl, fun U hU hW => ⟨rfl, PX7.go hPc hKc hU hW⟩⟩ rfl rfl hl.1 rfl (lv_room (Nat.le_of_ble_eq_true rfl)) dL_law_3426 ⟨Nat.le_of_ble_eq_true rfl, Nat.le_of_ble_eq_true rfl⟩) hS (fun q _ h => hFr q h) hFr (fun r4 u t H1 locs ht hvm hw hB hz1 hk1 hS => ?_)
    obtain ⟨um, eum⟩ : ∃ z, z = u := ⟨_, rfl⟩
    rw [← eum] at hB hw
    rw [ht] at hB
    have hP1 := hB
    have hD1 : va_D (va_A [(m7, .inr (13, [.ref (rm 0), .ref (rm 1), .ref (rm 2), .ref (rm 3), .ref (rm 4), .ref (rm 5), .ref (rm 6), .ref (rm 7), .ref (rm 8), .ref (rm 9), .ref (rm 10), .ref (rm 11), .ref (rm 12), .ref (rm 13), .ref (rm 14), .ref (rm 15), .int 0, .int 0, .int 1, .int 110, .int 0, .int 0, .int 0, .int 0, .int 0, .int 0, .int 0, .int 0, .int 0, .int 0, .int 0]))] H.size) [(m7, .inr (13, um))] := va_D1 (Or.inl ⟨0, _, rfl⟩)
    have hk1 : ∀ q : Nat, q < H.size → ¬ va_A [(m7, .inr (13, [.ref (rm 0), .ref (rm 1), .ref (rm 2), .ref (rm 3), .ref (rm 4), .ref (rm 5), .ref (rm 6), .ref (rm 7), .ref (rm 8), .ref (rm 9), .ref (rm 10), .ref (rm 11), .ref (rm 12), .ref (rm 13), .ref (rm 14), .ref (rm 15), .int 0, .int 0, .int 1, .int 110, .int 0, .int 0, .int 0, .int 0, .int 0, .int 0, .int 0, .int 0, .int 0, .int 0, .int 0]))] H.size q → H1[q]? = H[q]? := fun q h1 h2 => hk1 q h1 (fun h3 => h2 (va_Arg1 q h3))
    obtain ⟨hP, hD⟩ := va_join (wr := [(o2, .inl (cD, 1, .inr (.inr (.inr (.inl fd))))), (o, .inl (cO, 1, .inr (.inl uo)))]) (w1 := [(m7, .inr (13, um))]) hP hD [0] [1, 2] rfl rfl (by decide) (by decide) hk1 hFc hP1 hD1
    generalize H1 = H at hP hS ⊢
    have hP : va_P D vwCl [(o2, .inl (cD, 1, .inr (.inr (.inr (.inl fd))))), (o, .inl (cO, 1, .inr (.inl uo))), (m7, .inr (13, um))] H := hP
    have hD : va_D A [(o2, .inl (cD, 1, .inr (.inr (.inr (.inl fd))))), (o, .inl (cO, 1, .inr (.inl uo))), (m7, .inr (13, um))] := hD
    refine W.widen (k := 141) (n := 11929) (Nat.le_of_ble_eq_true rfl) (Nat.le_of_ble_eq_true rfl) ?_
    obtain ⟨_, hr, hu30⟩ := hw.resolve_right (fun z => by first | exact z.1 hq | exact hq z.1)
    obtain rfl : r4 = 0 := hr
    refine lv_istore (lv' := [(7, .int 0), (6, .int 0), (0, .ref b), (1, .ref x), (2, .ref m7), (3, .ref o), (4, .ref o2), (5, .int 0)]) hx hb dL_law_3429 hl (by decide) rfl (fun ls hl => ?_)
    refine lv_aload_n hx hb dL_law_3431 rfl (lv_at hl 4 rfl) ?_
    have hPc := hP.sub (ws' := [(m7, .inr (13, um))]) [2] rfl
    have hKc := hK.sub (tys' := []) [] rfl
    refine va_calli (va_runV (As := []) (rest := []) ⟨hx, hb, hml, hown, hts⟩ (c_X7_thrown l D m7 um 0 hu30 H.size) (cwV 0 hts gL_law_X7_thrown rfl rfl rfl (by decide +kernel) ⟨Nat.le_of_ble_eq_true rfl, Nat.le_of_ble_eq_true rfl⟩) ⟨fun a U g mk q => ⟨q.1, q.2.1, q.2.2.1, va_K.moved (u := U) (U := U.calling g mk a) (Vm.Alike.refl U.vm) q.2.2.2⟩, va_recv hK hP (ci := 13) (q0 := 2) rfl rfl, fun U hU hW => ⟨rfl, congrArg Array.size hU, by rw [hU]; exact hPc, va_K.moved hW.alike hKc⟩⟩ rfl rfl hl.1 rfl (lv_room (Nat.le_of_ble_eq_true rfl)) dL_law_3432 ⟨Nat.le_of_ble_eq_true rfl, Nat.le_of_ble_eq_true rfl⟩) hS (fun q h1 h2 => absurd h1 (Nat.not_lt.mpr h2)) (fun q h => hA q (Nat.le_trans hS.1 h)) (fun r5 u t H1 locs ht hvm hw hB hz1 hk1 hS => ?_)
    have hP := va_kept0 hP hk1
    generalize H1 = H at hP hS ⊢
    have hP : va_P D vwCl [(o2, .inl (cD, 1, .inr (.inr (.inr (.inl fd))))), (o, .inl (cO, 1, .inr (.inl uo))), (m7, .inr (13, um))] H := hP
    obtain rfl : r5 = 0 := hw
    refine lv_iload hx hb dL_law_3435 (lv_at hl 1 rfl) ?_
    refine lv_icmp_eq (tgt := 3442) hx hb dL_law_3437 (by decide) (fun _ => ?_) (fun c => by first | exact absurd (by decide) c | exact absurd c (by decide))
    refine lv_iload hx hb dL_law_3442 (lv_at hl 1 rfl) ?_
    refine lv_if_ne (tgt := 3459) hx hb dL_law_3444 (by decide) (fun c => by first | exact absurd c (by decide) | exact absurd (by decide) c) (fun _ => ?_)
    refine lv_aload_n hx hb dL_law_3447 rfl (lv_at hl 5 rfl) ?_
    refine lv_iconst (v := 0) hx hb dL_law_3448 (by decide) ?_
    refine va_lald hx hb hK hP 1 0 rfl rfl (vp_in_nI (n := 0) (by decide) (by decide)) dL_law_3449 ?_
    refine lv_iload hx hb dL_law_3450 (lv_at hl 0 rfl) ?_
    refine lv_i2l hx hb dL_law_3452 rfl ?_
    refine W.lcmp hx hb dL_law_3453 ?_
    rw [show lg_cmp (uo (0 : Int32).toNatClampNeg) ((0 : Int32).toInt64) = 0 from by rw [show (0 : Int32).toNatClampNeg = 0 from by decide, hu]; decide]
    refine lv_if_eq (tgt := 3459) hx hb dL_law_3454 (by decide) (fun _ => ?_) (fun c => by first | exact absurd (by decide) c | exact absurd c (by decide))
    refine lv_goto (tgt := 3904) hx hb dL_law_3459 (by decide) ?_
    refine W.widen (k := 200) (n := 12100) (Nat.le_of_ble_eq_true rfl) (Nat.le_of_ble_eq_true rfl) ?_
    exact kk H locs ls hS (lv_sub hl [2, 7] rfl)
  · skip
    obtain rfl : r2 = 1 := hr
    refine lv_istore (lv' := [(6, .int 1), (0, .ref b), (1, .ref x), (2, .ref m7), (3, .ref o), (4, .ref o2), (5, .int 0)]) hx hb dL_law_3417 hl (by decide) rfl (fun ls hl => ?_)
    refine lv_aload_n hx hb dL_law_3419 rfl (lv_at hl 3 rfl) ?_
    refine lv_aload_n hx hb dL_law_3420 rfl (lv_at hl 1 rfl) ?_
    refine lv_iload hx hb dL_law_3421 (lv_at hl 6 rfl) ?_
    refine lv_iconst (v := 1) hx hb dL_law_3423 (by decide) ?_
    refine lv_iadd hx hb dL_law_3424 ?_
    refine lv_topi (fun y9 ey9 => ?_)
    obtain rfl : y9 = 1 := ey9.trans (by decide)
    refine va_sld hx hb hX hbl hbA hS (vp_in_nI (n := 1) (by decide) (by decide)) dL_law_3425 ?_
    rw [← ea1]
    have hPc := hP.sub (ws' := [(m7, .inr (13, [.ref (rm 0), .ref (rm 1), .ref (rm 2), .ref (rm 3), .ref (rm 4), .ref (rm 5), .ref (rm 6), .ref (rm 7), .ref (rm 8), .ref (rm 9), .ref (rm 10), .ref (rm 11), .ref (rm 12), .ref (rm 13), .ref (rm 14), .ref (rm 15), .int 0, .int 0, .int 1, .int 110, .int 0, .int 0, .int 0, .int 0, .int 0, .int 0, .int 0, .int 0, .int 0, .int 0, .int 0]))]) [0] rfl
    have hDc := hD.sub (ws' := [(m7, .inr (13, [.ref (rm 0), .ref (rm 1), .ref (rm 2), .ref (rm 3), .ref (rm 4), .ref (rm 5), .ref (rm 6), .ref (rm 7), .ref (rm 8), .ref (rm 9), .ref (rm 10), .ref (rm 11), .ref (rm 12), .ref (rm 13), .ref (rm 14), .ref (rm 15), .int 0, .int 0, .int 1, .int 110, .int 0, .int 0, .int 0, .int 0, .int 0, .int 0, .int 0, .int 0, .int 0, .int 0, .int 0]))]) [0] (by decide) rfl
    have hKc := hK.sub (tys' := []) [] rfl
    have hFc := va_free (wc := [(m7, .inr (13, [.ref (rm 0), .ref (rm 1), .ref (rm 2), .ref (rm 3), .ref (rm 4), .ref (rm 5), .ref (rm 6), .ref (rm 7), .ref (rm 8), .ref (rm 9), .ref (rm 10), .ref (rm 11), .ref (rm 12), .ref (rm 13), .ref (rm 14), .ref (rm 15), .int 0, .int 0, .int 1, .int 110, .int 0, .int 0, .int 0, .int 0, .int 0, .int 0, .int 0, .int 0, .int 0, .int 0, .int 0]))]) hD hS hA [0] rfl
    have hFr : ∀ q : Nat, rg1 m7 H.size q → A q := fun q h => hFc q (va_Arg1 q h)
    refine va_calli (va_runV (As := [.int a1]) (rest := []) ⟨hx, hb, hml, hown, hts⟩ (c_X7_conditions l D m7 rm H.size a1) (cwV 1 hts gL_law_X7_conditions rfl rfl rfl (by decide +kernel) ⟨Nat.le_of_ble_eq_true rfl, Nat.le_of_ble_eq_true rfl⟩) ⟨fun a U g mk q => ⟨q.1, PX7.blind q.2⟩, va_recv hK hP (ci := 13) (q0 := 0) rfl rfl, fun U hU hW => ⟨rfl, PX7.go hPc hKc hU hW⟩⟩ rfl rfl hl.1 rfl (lv_room (Nat.le_of_ble_eq_true rfl)) dL_law_3426 ⟨Nat.le_of_ble_eq_true rfl, Nat.le_of_ble_eq_true rfl⟩) hS (fun q _ h => hFr q h) hFr (fun r10 u t H1 locs ht hvm hw hB hz1 hk1 hS => ?_)
    obtain ⟨um, eum⟩ : ∃ z, z = u := ⟨_, rfl⟩
    rw [← eum] at hB hw
    rw [ht] at hB
    have hP1 := hB
    have hD1 : va_D (va_A [(m7, .inr (13, [.ref (rm 0), .ref (rm 1), .ref (rm 2), .ref (rm 3), .ref (rm 4), .ref (rm 5), .ref (rm 6), .ref (rm 7), .ref (rm 8), .ref (rm 9), .ref (rm 10), .ref (rm 11), .ref (rm 12), .ref (rm 13), .ref (rm 14), .ref (rm 15), .int 0, .int 0, .int 1, .int 110, .int 0, .int 0, .int 0, .int 0, .int 0, .int 0, .int 0, .int 0, .int 0, .int 0, .int 0]))] H.size) [(m7, .inr (13, um))] := va_D1 (Or.inl ⟨0, _, rfl⟩)
    have hk1 : ∀ q : Nat, q < H.size → ¬ va_A [(m7, .inr (13, [.ref (rm 0), .ref (rm 1), .ref (rm 2), .ref (rm 3), .ref (rm 4), .ref (rm 5), .ref (rm 6), .ref (rm 7), .ref (rm 8), .ref (rm 9), .ref (rm 10), .ref (rm 11), .ref (rm 12), .ref (rm 13), .ref (rm 14), .ref (rm 15), .int 0, .int 0, .int 1, .int 110, .int 0, .int 0, .int 0, .int 0, .int 0, .int 0, .int 0, .int 0, .int 0, .int 0, .int 0]))] H.size q → H1[q]? = H[q]? := fun q h1 h2 => hk1 q h1 (fun h3 => h2 (va_Arg1 q h3))
    obtain ⟨hP, hD⟩ := va_join (wr := [(o2, .inl (cD, 1, .inr (.inr (.inr (.inl fd))))), (o, .inl (cO, 1, .inr (.inl uo)))]) (w1 := [(m7, .inr (13, um))]) hP hD [0] [1, 2] rfl rfl (by decide) (by decide) hk1 hFc hP1 hD1
    generalize H1 = H at hP hS ⊢
    have hP : va_P D vwCl [(o2, .inl (cD, 1, .inr (.inr (.inr (.inl fd))))), (o, .inl (cO, 1, .inr (.inl uo))), (m7, .inr (13, um))] H := hP
    have hD : va_D A [(o2, .inl (cD, 1, .inr (.inr (.inr (.inl fd))))), (o, .inl (cO, 1, .inr (.inl uo))), (m7, .inr (13, um))] := hD
    refine W.widen (k := 141) (n := 11929) (Nat.le_of_ble_eq_true rfl) (Nat.le_of_ble_eq_true rfl) ?_
    obtain ⟨_, hu30⟩ := hw.resolve_left (fun z => by first | exact hq z.1 | exact z.1 hq)
    refine lv_istore (lv' := [(7, .int r10), (6, .int 1), (0, .ref b), (1, .ref x), (2, .ref m7), (3, .ref o), (4, .ref o2), (5, .int 0)]) hx hb dL_law_3429 hl (by decide) rfl (fun ls hl => ?_)
    refine lv_aload_n hx hb dL_law_3431 rfl (lv_at hl 4 rfl) ?_
    have hPc := hP.sub (ws' := [(m7, .inr (13, um))]) [2] rfl
    have hKc := hK.sub (tys' := []) [] rfl
    refine va_calli (va_runV (As := []) (rest := []) ⟨hx, hb, hml, hown, hts⟩ (c_X7_thrown l D m7 um 1 hu30 H.size) (cwV 0 hts gL_law_X7_thrown rfl rfl rfl (by decide +kernel) ⟨Nat.le_of_ble_eq_true rfl, Nat.le_of_ble_eq_true rfl⟩) ⟨fun a U g mk q => ⟨q.1, q.2.1, q.2.2.1, va_K.moved (u := U) (U := U.calling g mk a) (Vm.Alike.refl U.vm) q.2.2.2⟩, va_recv hK hP (ci := 13) (q0 := 2) rfl rfl, fun U hU hW => ⟨rfl, congrArg Array.size hU, by rw [hU]; exact hPc, va_K.moved hW.alike hKc⟩⟩ rfl rfl hl.1 rfl (lv_room (Nat.le_of_ble_eq_true rfl)) dL_law_3432 ⟨Nat.le_of_ble_eq_true rfl, Nat.le_of_ble_eq_true rfl⟩) hS (fun q h1 h2 => absurd h1 (Nat.not_lt.mpr h2)) (fun q h => hA q (Nat.le_trans hS.1 h)) (fun r11 u t H1 locs ht hvm hw hB hz1 hk1 hS => ?_)
    have hP := va_kept0 hP hk1
    generalize H1 = H at hP hS ⊢
    have hP : va_P D vwCl [(o2, .inl (cD, 1, .inr (.inr (.inr (.inl fd))))), (o, .inl (cO, 1, .inr (.inl uo))), (m7, .inr (13, um))] H := hP
    obtain rfl : r11 = 1 := hw
    refine lv_iload hx hb dL_law_3435 (lv_at hl 1 rfl) ?_
    refine lv_icmp_eq (tgt := 3442) hx hb dL_law_3437 (by decide) (fun _ => ?_) (fun c => by first | exact absurd (by decide) c | exact absurd c (by decide))
    refine lv_iload hx hb dL_law_3442 (lv_at hl 1 rfl) ?_
    refine lv_if_ne (tgt := 3459) hx hb dL_law_3444 (by decide) (fun _ => ?_) (fun c => by first | exact absurd (by decide) c | exact absurd c (by decide))
    refine lv_goto (tgt := 3904) hx hb dL_law_3459 (by decide) ?_
    refine W.widen (k := 200) (n := 12100) (Nat.le_of_ble_eq_true rfl) (Nat.le_of_ble_eq_true rfl) ?_
    exact kk H locs ls hS (lv_sub hl [2, 7] rfl)
