set_option maxRecDepth 20000 in
theorem ggL_law_L_pickUp : GoodIn wsL_law wsL_pickUp := goodIn_ca (goodIn_ca (goodIn_ca (goodIn_ca (goodIn_r _ [858, 227, 859, 860, 861, 2, 862, 184, 185, 19, 378, 27, 495, 441, 299, 300, 301, 302, 237, 238, 284, 420, 421, 422, 423, 182, 183, 297, 453, 454, 455, 43, 456, 388, 863, 864, 865, 866, 1560, 1561, 1562, 1563, 1564, 1565, 1566, 1567, 1568, 1569, 1570, 1571, 1572, 1573, 1611, 1612, 1613, 1614, 1615, 1616, 1617, 1618, 1619, 1620, 1621, 1622, 1623, 1624, 1625, 1626, 1627, 1628, 1629, 1630, 1631, 1632, 1633, 1634, 1635, 1636] (by decide +kernel) (by decide +kernel)) (goodIn_sub (fun _ h => List.mem_append_left _ (List.mem_append_left _ (List.mem_append_left _ (List.mem_append_left _ (List.mem_append_left _ (List.mem_append_left _ (List.mem_append_left _ (List.mem_append_right _ h)))))))) (by decide +kernel))) (goodIn_sub (fun _ h => List.mem_append_left _ (List.mem_append_left _ (List.mem_append_left _ (List.mem_append_left _ (List.mem_append_right _ h))))) (by decide +kernel))) (goodIn_sub (fun _ h => List.mem_append_left _ (List.mem_append_left _ (List.mem_append_left _ (List.mem_append_right _ h)))) (by decide +kernel))) (goodIn_sub (fun _ h => List.mem_append_left _ (List.mem_append_left _ (List.mem_append_left _ (List.mem_append_left _ (List.mem_append_left _ (List.mem_append_right _ h)))))) (by decide +kernel))
set_option maxRecDepth 20000 in
theorem gL_law_L_pickUp : GoodIn wsL_law (va_wsS RL 293 yL_pickUp wsL_pickUp) := goodIn_app (goodIn_of _ (by decide +kernel)) ggL_law_L_pickUp
set_option maxRecDepth 20000 in
theorem ggL_law_X7_pickUp : GoodIn wsL_law wsX7_pickUp := goodIn_ca (goodIn_r _ [870, 307, 412, 84, 308, 309, 310, 5, 311, 289, 209, 210, 211, 215, 216, 217, 218, 219, 465, 466, 467, 468, 461, 462, 463, 464, 1574, 1575, 1576, 1577, 1578, 1579, 1580, 1581, 1582, 1583, 1584, 1585, 1586, 1587, 1588, 1589, 1590, 1591, 1592, 1593, 1594, 1595, 1596, 1597, 1598, 1599, 1600, 1601, 1602, 1603, 1604] (by decide +kernel) (by decide +kernel)) (goodIn_sub (fun _ h => List.mem_append_left _ (List.mem_append_left _ (List.mem_append_left _ (List.mem_append_left _ (List.mem_append_left _ (List.mem_append_left _ (List.mem_append_left _ (List.mem_append_right _ h)))))))) (by decide +kernel))
set_option maxRecDepth 20000 in
theorem gL_law_X7_pickUp : GoodIn wsL_law (wsV RL 295 RX7 yX7_pickUp wsX7_pickUp) := goodIn_app (goodIn_of _ (by decide +kernel)) ggL_law_X7_pickUp
set_option maxRecDepth 20000 in
theorem ggL_law_L_suspend : GoodIn wsL_law wsL_suspend := goodIn_ca (goodIn_ca (goodIn_r _ [873, 279, 874, 875, 876, 2, 877, 357, 420, 421, 422, 423, 182, 183, 297, 1560, 1561, 1562, 1563, 1564, 1565, 1566, 1567, 1568, 1569, 1570, 1571, 1572, 1573] (by decide +kernel) (by decide +kernel)) (goodIn_sub (fun _ h => List.mem_append_left _ (List.mem_append_left _ (List.mem_append_left _ (List.mem_append_left _ (List.mem_append_left _ (List.mem_append_left _ (List.mem_append_left _ (List.mem_append_right _ h)))))))) (by decide +kernel))) (goodIn_sub (fun _ h => List.mem_append_left _ (List.mem_append_left _ (List.mem_append_left _ (List.mem_append_left _ (List.mem_append_left _ (List.mem_append_right _ h)))))) (by decide +kernel))
set_option maxRecDepth 20000 in
theorem gL_law_L_suspend : GoodIn wsL_law (va_wsS RL 296 yL_suspend wsL_suspend) := goodIn_app (goodIn_of _ (by decide +kernel)) ggL_law_L_suspend
set_option maxRecDepth 20000 in
theorem ggL_law_X7_suspend : GoodIn wsL_law wsX7_suspend := goodIn_r _ [881, 307, 403, 215, 216, 217, 5, 218, 219, 1574, 1575, 1576, 1577, 1578, 1579, 1580, 1581, 1582, 1583, 1584, 1585, 1586, 1587, 1588, 1589, 1590, 1591, 1592, 1593, 1594, 1595, 1596, 1597, 1598, 1599, 1600, 1601, 1602, 1603, 1604] (by decide +kernel) (by decide +kernel)
set_option maxRecDepth 20000 in
theorem gL_law_X7_suspend : GoodIn wsL_law (wsV RL 299 RX7 yX7_suspend wsX7_suspend) := goodIn_app (goodIn_of _ (by decide +kernel)) ggL_law_X7_suspend
set_option maxRecDepth 20000 in
theorem ggL_law_L_cancel : GoodIn wsL_law wsL_cancel := goodIn_ca (goodIn_ca (goodIn_ca (goodIn_ca (goodIn_r _ [884, 227, 885, 886, 887, 2, 888, 184, 185, 27, 495, 19, 378, 526, 441, 299, 300, 301, 302, 237, 238, 284, 420, 421, 422, 423, 182, 183, 297, 518, 519, 520, 521, 30, 527, 528, 529, 43, 530, 388, 389, 390, 391, 392, 393, 394, 395, 531, 396, 397, 532, 533, 534, 535, 536, 1560, 1561, 1562, 1563, 1564, 1565, 1566, 1567, 1568, 1569, 1570, 1571, 1572, 1573, 1615, 1616, 1617, 1618, 1619, 1620, 1611, 1612, 1613, 1614, 1621, 1622, 1623, 1624, 1625, 1626, 1627, 1628, 1629, 1630, 1631, 1632, 1633, 1634, 1635, 1636] (by decide +kernel) (by decide +kernel)) (goodIn_sub (fun _ h => List.mem_append_left _ (List.mem_append_left _ (List.mem_append_left _ (List.mem_append_left _ (List.mem_append_left _ (List.mem_append_left _ (List.mem_append_left _ (List.mem_append_right _ h)))))))) (by decide +kernel))) (goodIn_sub (fun _ h => List.mem_append_left _ (List.mem_append_left _ (List.mem_append_left _ (List.mem_append_left _ (List.mem_append_right _ h))))) (by decide +kernel))) (goodIn_sub (fun _ h => List.mem_append_left _ (List.mem_append_left _ (List.mem_append_left _ (List.mem_append_right _ h)))) (by decide +kernel))) (goodIn_sub (fun _ h => List.mem_append_left _ (List.mem_append_left _ (List.mem_append_left _ (List.mem_append_left _ (List.mem_append_left _ (List.mem_append_right _ h)))))) (by decide +kernel))
set_option maxRecDepth 20000 in
theorem gL_law_L_cancel : GoodIn wsL_law (va_wsS RL 300 yL_cancel wsL_cancel) := goodIn_app (goodIn_of _ (by decide +kernel)) ggL_law_L_cancel
set_option maxRecDepth 20000 in
theorem ggL_law_X7_cancel : GoodIn wsL_law wsX7_cancel := goodIn_ca (goodIn_r _ [892, 307, 402, 412, 85, 84, 208, 168, 169, 170, 308, 309, 310, 5, 311, 289, 209, 210, 211, 215, 216, 217, 218, 219, 1574, 1575, 1576, 1577, 1578, 1579, 1580, 1581, 1582, 1583, 1584, 1585, 1586, 1587, 1588, 1589, 1590, 1591, 1592, 1593, 1594, 1595, 1596, 1597, 1598, 1599, 1600, 1601, 1602, 1603, 1604] (by decide +kernel) (by decide +kernel)) (goodIn_sub (fun _ h => List.mem_append_left _ (List.mem_append_left _ (List.mem_append_left _ (List.mem_append_left _ (List.mem_append_left _ (List.mem_append_left _ (List.mem_append_left _ (List.mem_append_right _ h)))))))) (by decide +kernel))
set_option maxRecDepth 20000 in
theorem gL_law_X7_cancel : GoodIn wsL_law (wsV RL 302 RX7 yX7_cancel wsX7_cancel) := goodIn_app (goodIn_of _ (by decide +kernel)) ggL_law_X7_cancel
set_option maxRecDepth 20000 in
theorem ggL_law_L_concede : GoodIn wsL_law wsL_concede := goodIn_ca (goodIn_ca (goodIn_ca (goodIn_ca (goodIn_ca (goodIn_r _ [895, 227, 896, 897, 898, 2, 899, 180, 181, 184, 185, 19, 378, 441, 27, 900, 901, 902, 299, 300, 301, 302, 237, 238, 284, 420, 421, 422, 423, 182, 183, 297, 518, 519, 520, 521, 30, 903, 904, 905, 906, 907, 908, 909, 495, 665, 910, 911, 912, 913, 453, 454, 455, 43, 456, 388, 914, 915, 916, 26, 917, 383, 363, 364, 1560, 1561, 1562, 1563, 1564, 1565, 1566, 1567, 1568, 1569, 1570, 1571, 1572, 1573, 1611, 1612, 1613, 1614, 1621, 1622, 1623, 1624, 1625, 1626, 1627, 1628, 1629, 1630, 1631, 1632, 1633, 1634, 1635, 1636, 1615, 1616, 1617, 1618, 1619, 1620] (by decide +kernel) (by decide +kernel)) (goodIn_sub (fun _ h => List.mem_append_left _ (List.mem_append_left _ (List.mem_append_left _ (List.mem_append_left _ (List.mem_append_left _ (List.mem_append_left _ (List.mem_append_left _ (List.mem_append_right _ h)))))))) (by decide +kernel))) (goodIn_sub (fun _ h => List.mem_append_left _ (List.mem_append_left _ (List.mem_append_left _ (List.mem_append_left _ (List.mem_append_left _ (List.mem_append_left _ (List.mem_append_right _ h))))))) (by decide +kernel))) (goodIn_sub (fun _ h => List.mem_append_left _ (List.mem_append_left _ (List.mem_append_left _ (List.mem_append_left _ (List.mem_append_right _ h))))) (by decide +kernel))) (goodIn_sub (fun _ h => List.mem_append_left _ (List.mem_append_left _ (List.mem_append_left _ (List.mem_append_right _ h)))) (by decide +kernel))) (goodIn_sub (fun _ h => List.mem_append_left _ (List.mem_append_left _ (List.mem_append_left _ (List.mem_append_left _ (List.mem_append_left _ (List.mem_append_right _ h)))))) (by decide +kernel))
set_option maxRecDepth 20000 in
theorem gL_law_L_concede : GoodIn wsL_law (va_wsS RL 303 yL_concede wsL_concede) := goodIn_app (goodIn_of _ (by decide +kernel)) ggL_law_L_concede
set_option maxRecDepth 20000 in
theorem ggL_law_X7_concede : GoodIn wsL_law wsX7_concede := goodIn_ca (goodIn_r _ [921, 307, 402, 84, 411, 412, 100, 405, 404, 308, 309, 310, 5, 311, 289, 209, 210, 211, 215, 216, 217, 218, 219, 465, 466, 467, 468, 922, 923, 924, 925, 206, 1574, 1575, 1576, 1577, 1578, 1579, 1580, 1581, 1582, 1583, 1584, 1585, 1586, 1587, 1588, 1589, 1590, 1591, 1592, 1593, 1594, 1595, 1596, 1597, 1598, 1599, 1600, 1601, 1602, 1603, 1604] (by decide +kernel) (by decide +kernel)) (goodIn_sub (fun _ h => List.mem_append_left _ (List.mem_append_left _ (List.mem_append_left _ (List.mem_append_left _ (List.mem_append_left _ (List.mem_append_left _ (List.mem_append_left _ (List.mem_append_right _ h)))))))) (by decide +kernel))
set_option maxRecDepth 20000 in
theorem gL_law_X7_concede : GoodIn wsL_law (wsV RL 306 RX7 yX7_concede wsX7_concede) := goodIn_app (goodIn_of _ (by decide +kernel)) ggL_law_X7_concede
set_option maxRecDepth 20000 in
theorem ggL_law_L_nextHole : GoodIn wsL_law wsL_nextHole := goodIn_ca (goodIn_ca (goodIn_ca (goodIn_ca (goodIn_r _ [928, 279, 929, 930, 931, 2, 932, 184, 185, 284, 19, 358, 377, 378, 27, 187, 297, 420, 421, 422, 423, 182, 183, 863, 864, 865, 866, 453, 454, 455, 43, 456, 388, 933, 934, 935, 47, 936, 937, 60, 61, 938, 62, 939, 371, 940, 676, 677, 678, 393, 394, 518, 519, 520, 521, 30, 941, 942, 943, 944, 945, 946, 947, 948, 949, 950, 951, 952, 953, 954, 955, 956, 298, 319, 320, 321, 322, 15, 189, 914, 915, 916, 26, 917, 383, 363, 364, 957, 958, 959, 960, 23, 961, 962, 963, 964, 373, 374, 375, 376, 191, 379, 380, 381, 382, 74, 384, 385, 386, 387, 389, 390, 391, 392, 395, 396, 397, 1560, 1561, 1562, 1563, 1564, 1565, 1566, 1567, 1568, 1569, 1570, 1571, 1572, 1573, 1611, 1612, 1613, 1614, 1621, 1622, 1623, 1624, 1625, 1626, 1627, 1628, 1629, 1630, 1631, 1632, 1633, 1634, 1635, 1636, 1637, 1638, 1639, 1640, 1641, 1642, 1605, 1606, 1607, 1608, 1609, 1610, 1615, 1616, 1617, 1618, 1619, 1620] (by decide +kernel) (by decide +kernel)) (goodIn_sub (fun _ h => List.mem_append_left _ (List.mem_append_left _ (List.mem_append_left _ (List.mem_append_left _ (List.mem_append_left _ (List.mem_append_left _ (List.mem_append_left _ (List.mem_append_right _ h)))))))) (by decide +kernel))) (goodIn_sub (fun _ h => List.mem_append_left _ (List.mem_append_left _ (List.mem_append_left _ (List.mem_append_left _ (List.mem_append_right _ h))))) (by decide +kernel))) (goodIn_sub (fun _ h => List.mem_append_left _ (List.mem_append_left _ (List.mem_append_left _ (List.mem_append_left _ (List.mem_append_left _ (List.mem_append_right _ h)))))) (by decide +kernel))) (goodIn_sub (fun _ h => List.mem_append_left _ (List.mem_append_left _ (List.mem_append_right _ h))) (by decide +kernel))
set_option maxRecDepth 20000 in
theorem gL_law_L_nextHole : GoodIn wsL_law (va_wsS RL 307 yL_nextHole wsL_nextHole) := goodIn_app (goodIn_of _ (by decide +kernel)) ggL_law_L_nextHole
set_option maxRecDepth 20000 in
theorem ggL_law_X7_nextHole : GoodIn wsL_law wsX7_nextHole := goodIn_ca (goodIn_ca (goodIn_r _ [968, 307, 289, 86, 405, 84, 87, 88, 91, 402, 411, 100, 93, 406, 206, 215, 216, 217, 5, 218, 219, 461, 462, 463, 464, 465, 466, 467, 468, 683, 684, 685, 969, 970, 971, 972, 83, 716, 717, 139, 718, 327, 328, 329, 330, 80, 973, 974, 975, 976, 407, 408, 409, 410, 412, 1574, 1575, 1576, 1577, 1578, 1579, 1580, 1581, 1582, 1583, 1584, 1585, 1586, 1587, 1588, 1589, 1590, 1591, 1592, 1593, 1594, 1595, 1596, 1597, 1598, 1599, 1600, 1601, 1602, 1603, 1604] (by decide +kernel) (by decide +kernel)) (goodIn_sub (fun _ h => List.mem_append_left _ (List.mem_append_left _ (List.mem_append_left _ (List.mem_append_left _ (List.mem_append_left _ (List.mem_append_left _ (List.mem_append_left _ (List.mem_append_right _ h)))))))) (by decide +kernel))) (goodIn_sub (fun _ h => List.mem_append_left _ (List.mem_append_left _ (List.mem_append_right _ h))) (by decide +kernel))
set_option maxRecDepth 20000 in
theorem gL_law_X7_nextHole : GoodIn wsL_law (wsV RL 309 RX7 yX7_nextHole wsX7_nextHole) := goodIn_app (goodIn_of _ (by decide +kernel)) ggL_law_X7_nextHole
set_option maxRecDepth 20000 in
theorem ggL_law_L_state : GoodIn wsL_law wsL_state := goodIn_ca (goodIn_ca (goodIn_ca (goodIn_r _ [979, 227, 980, 981, 982, 2, 983, 19, 378, 441, 299, 300, 301, 302, 237, 238, 284, 420, 421, 422, 423, 182, 183, 297, 1560, 1561, 1562, 1563, 1564, 1565, 1566, 1567, 1568, 1569, 1570, 1571, 1572, 1573, 1611, 1612, 1613, 1614, 1621, 1622, 1623, 1624, 1625, 1626, 1627, 1628, 1629, 1630, 1631, 1632, 1633, 1634, 1635, 1636] (by decide +kernel) (by decide +kernel)) (goodIn_sub (fun _ h => List.mem_append_left _ (List.mem_append_left _ (List.mem_append_left _ (List.mem_append_left _ (List.mem_append_left _ (List.mem_append_left _ (List.mem_append_left _ (List.mem_append_right _ h)))))))) (by decide +kernel))) (goodIn_sub (fun _ h => List.mem_append_left _ (List.mem_append_left _ (List.mem_append_left _ (List.mem_append_right _ h)))) (by decide +kernel))) (goodIn_sub (fun _ h => List.mem_append_left _ (List.mem_append_left _ (List.mem_append_left _ (List.mem_append_left _ (List.mem_append_left _ (List.mem_append_right _ h)))))) (by decide +kernel))
set_option maxRecDepth 20000 in
theorem gL_law_L_state : GoodIn wsL_law (va_wsS RL 310 yL_state wsL_state) := goodIn_app (goodIn_of _ (by decide +kernel)) ggL_law_L_state
set_option maxRecDepth 20000 in
theorem ggL_law_X7_state : GoodIn wsL_law wsX7_state := goodIn_ca (goodIn_r _ [987, 84, 988, 989, 990, 5, 991, 307, 308, 309, 310, 311, 289, 209, 210, 211, 215, 216, 217, 218, 219, 1574, 1575, 1576, 1577, 1578, 1579, 1580, 1581, 1582, 1583, 1584, 1585, 1586, 1587, 1588, 1589, 1590, 1591, 1592, 1593, 1594, 1595, 1596, 1597, 1598, 1599, 1600, 1601, 1602, 1603, 1604] (by decide +kernel) (by decide +kernel)) (goodIn_sub (fun _ h => List.mem_append_left _ (List.mem_append_left _ (List.mem_append_left _ (List.mem_append_left _ (List.mem_append_left _ (List.mem_append_left _ (List.mem_append_left _ (List.mem_append_right _ h)))))))) (by decide +kernel))
set_option maxRecDepth 20000 in
theorem gL_law_X7_state : GoodIn wsL_law (wsV RL 312 RX7 yX7_state wsX7_state) := goodIn_app (goodIn_of _ (by decide +kernel)) ggL_law_X7_state
set_option maxRecDepth 20000 in
theorem ggL_law_L_lie : GoodIn wsL_law wsL_lie := goodIn_ca (goodIn_ca (goodIn_ca (goodIn_ca (goodIn_r _ [994, 227, 995, 996, 997, 2, 998, 435, 436, 19, 378, 497, 299, 300, 301, 302, 237, 238, 284, 420, 421, 422, 423, 182, 183, 297, 508, 447, 448, 43, 449, 388, 1560, 1561, 1562, 1563, 1564, 1565, 1566, 1567, 1568, 1569, 1570, 1571, 1572, 1573, 1611, 1612, 1613, 1614, 1621, 1622, 1623, 1624, 1625, 1626, 1627, 1628, 1629, 1630, 1631, 1632, 1633, 1634, 1635, 1636] (by decide +kernel) (by decide +kernel)) (goodIn_sub (fun _ h => List.mem_append_left _ (List.mem_append_left _ (List.mem_append_left _ (List.mem_append_left _ (List.mem_append_left _ (List.mem_append_left _ (List.mem_append_left _ (List.mem_append_right _ h)))))))) (by decide +kernel))) (goodIn_sub (fun _ h => List.mem_append_left _ (List.mem_append_right _ h)) (by decide +kernel))) (goodIn_sub (fun _ h => List.mem_append_left _ (List.mem_append_left _ (List.mem_append_left _ (List.mem_append_right _ h)))) (by decide +kernel))) (goodIn_sub (fun _ h => List.mem_append_left _ (List.mem_append_left _ (List.mem_append_left _ (List.mem_append_left _ (List.mem_append_left _ (List.mem_append_right _ h)))))) (by decide +kernel))
set_option maxRecDepth 20000 in
theorem gL_law_L_lie : GoodIn wsL_law (va_wsS RL 313 yL_lie wsL_lie) := goodIn_app (goodIn_of _ (by decide +kernel)) ggL_law_L_lie
set_option maxRecDepth 20000 in
theorem ggL_law_X7_lie : GoodIn wsL_law wsX7_lie := goodIn_ca (goodIn_r _ [1002, 84, 988, 989, 990, 5, 991, 307, 308, 309, 310, 311, 289, 209, 210, 211, 215, 216, 217, 218, 219, 1574, 1575, 1576, 1577, 1578, 1579, 1580, 1581, 1582, 1583, 1584, 1585, 1586, 1587, 1588, 1589, 1590, 1591, 1592, 1593, 1594, 1595, 1596, 1597, 1598, 1599, 1600, 1601, 1602, 1603, 1604] (by decide +kernel) (by decide +kernel)) (goodIn_sub (fun _ h => List.mem_append_left _ (List.mem_append_left _ (List.mem_append_left _ (List.mem_append_left _ (List.mem_append_left _ (List.mem_append_left _ (List.mem_append_left _ (List.mem_append_right _ h)))))))) (by decide +kernel))
set_option maxRecDepth 20000 in
theorem gL_law_X7_lie : GoodIn wsL_law (wsV RL 315 RX7 yX7_lie wsX7_lie) := goodIn_app (goodIn_of _ (by decide +kernel)) ggL_law_X7_lie
set_option maxRecDepth 20000 in
theorem ggL_law_L_strokes : GoodIn wsL_law wsL_strokes := goodIn_ca (goodIn_ca (goodIn_ca (goodIn_r _ [1005, 227, 1006, 1007, 1008, 2, 1009, 19, 378, 665, 299, 300, 301, 302, 237, 238, 284, 420, 421, 422, 423, 182, 183, 297, 1560, 1561, 1562, 1563, 1564, 1565, 1566, 1567, 1568, 1569, 1570, 1571, 1572, 1573, 1611, 1612, 1613, 1614, 1621, 1622, 1623, 1624, 1625, 1626, 1627, 1628, 1629, 1630, 1631, 1632, 1633, 1634, 1635, 1636] (by decide +kernel) (by decide +kernel)) (goodIn_sub (fun _ h => List.mem_append_left _ (List.mem_append_left _ (List.mem_append_left _ (List.mem_append_left _ (List.mem_append_left _ (List.mem_append_left _ (List.mem_append_left _ (List.mem_append_right _ h)))))))) (by decide +kernel))) (goodIn_sub (fun _ h => List.mem_append_left _ (List.mem_append_left _ (List.mem_append_left _ (List.mem_append_right _ h)))) (by decide +kernel))) (goodIn_sub (fun _ h => List.mem_append_left _ (List.mem_append_left _ (List.mem_append_left _ (List.mem_append_left _ (List.mem_append_left _ (List.mem_append_right _ h)))))) (by decide +kernel))
set_option maxRecDepth 20000 in
theorem gL_law_L_strokes : GoodIn wsL_law (va_wsS RL 316 yL_strokes wsL_strokes) := goodIn_app (goodIn_of _ (by decide +kernel)) ggL_law_L_strokes
set_option maxRecDepth 20000 in
theorem ggL_law_X7_strokes : GoodIn wsL_law wsX7_strokes := goodIn_ca (goodIn_r _ [1013, 84, 988, 989, 990, 5, 991, 307, 308, 309, 310, 311, 289, 209, 210, 211, 215, 216, 217, 218, 219, 1574, 1575, 1576, 1577, 1578, 1579, 1580, 1581, 1582, 1583, 1584, 1585, 1586, 1587, 1588, 1589, 1590, 1591, 1592, 1593, 1594, 1595, 1596, 1597, 1598, 1599, 1600, 1601, 1602, 1603, 1604] (by decide +kernel) (by decide +kernel)) (goodIn_sub (fun _ h => List.mem_append_left _ (List.mem_append_left _ (List.mem_append_left _ (List.mem_append_left _ (List.mem_append_left _ (List.mem_append_left _ (List.mem_append_left _ (List.mem_append_right _ h)))))))) (by decide +kernel))
set_option maxRecDepth 20000 in
theorem gL_law_X7_strokes : GoodIn wsL_law (wsV RL 318 RX7 yX7_strokes wsX7_strokes) := goodIn_app (goodIn_of _ (by decide +kernel)) ggL_law_X7_strokes
theorem dL_law_1994 : decode cL_law 1994 = .ok (.aload_n 1, 1) := by decide +kernel
theorem dL_law_1995 : decode cL_law 1995 = .ok (.aload_n 0, 1) := by decide +kernel
theorem dL_law_1996 : decode cL_law 1996 = .ok (.iload 5, 2) := by decide +kernel
theorem dL_law_1998 : decode cL_law 1998 = .ok (.iconst 1, 1) := by decide +kernel
theorem dL_law_1999 : decode cL_law 1999 = .ok (.iadd, 1) := by decide +kernel
theorem dL_law_2000 : decode cL_law 2000 = .ok (.iaload, 1) := by decide +kernel
theorem dL_law_2001 : decode cL_law 2001 = .ok (.aload_n 3, 1) := by decide +kernel
theorem dL_law_2002 : decode cL_law 2002 = .ok (.invokestatic 293, 3) := by decide +kernel
theorem dL_law_2005 : decode cL_law 2005 = .ok (.istore 6, 2) := by decide +kernel
theorem dL_law_2007 : decode cL_law 2007 = .ok (.aload_n 2, 1) := by decide +kernel
theorem dL_law_2008 : decode cL_law 2008 = .ok (.aload_n 0, 1) := by decide +kernel
theorem dL_law_2009 : decode cL_law 2009 = .ok (.iload 5, 2) := by decide +kernel
theorem dL_law_2011 : decode cL_law 2011 = .ok (.iconst 1, 1) := by decide +kernel
theorem dL_law_2012 : decode cL_law 2012 = .ok (.iadd, 1) := by decide +kernel
theorem dL_law_2013 : decode cL_law 2013 = .ok (.iaload, 1) := by decide +kernel
theorem dL_law_2014 : decode cL_law 2014 = .ok (.invokevirtual 295, 3) := by decide +kernel
theorem dL_law_2017 : decode cL_law 2017 = .ok (.istore 7, 2) := by decide +kernel
theorem dL_law_2019 : decode cL_law 2019 = .ok (.aload_n 2, 1) := by decide +kernel
theorem dL_law_2020 : decode cL_law 2020 = .ok (.invokevirtual 211, 3) := by decide +kernel
theorem dL_law_2023 : decode cL_law 2023 = .ok (.iload 6, 2) := by decide +kernel
theorem dL_law_2025 : decode cL_law 2025 = .ok (.if_icmp .eq 5, 3) := by decide +kernel
theorem dL_law_2030 : decode cL_law 2030 = .ok (.iload 6, 2) := by decide +kernel
theorem dL_law_2032 : decode cL_law 2032 = .ok (.ifCond .ne 15, 3) := by decide +kernel
theorem dL_law_2047 : decode cL_law 2047 = .ok (.goto 1857, 3) := by decide +kernel
theorem dL_law_2050 : decode cL_law 2050 = .ok (.aload_n 1, 1) := by decide +kernel
theorem dL_law_2051 : decode cL_law 2051 = .ok (.aload_n 0, 1) := by decide +kernel
theorem dL_law_2052 : decode cL_law 2052 = .ok (.iload 5, 2) := by decide +kernel
theorem dL_law_2054 : decode cL_law 2054 = .ok (.iconst 1, 1) := by decide +kernel
theorem dL_law_2055 : decode cL_law 2055 = .ok (.iadd, 1) := by decide +kernel
theorem dL_law_2056 : decode cL_law 2056 = .ok (.iaload, 1) := by decide +kernel
theorem dL_law_2057 : decode cL_law 2057 = .ok (.ifCond .eq 7, 3) := by decide +kernel
theorem dL_law_2060 : decode cL_law 2060 = .ok (.iconst 1, 1) := by decide +kernel
theorem dL_law_2061 : decode cL_law 2061 = .ok (.goto 4, 3) := by decide +kernel
theorem dL_law_2064 : decode cL_law 2064 = .ok (.iconst 0, 1) := by decide +kernel
theorem dL_law_2065 : decode cL_law 2065 = .ok (.aload_n 3, 1) := by decide +kernel
theorem dL_law_2066 : decode cL_law 2066 = .ok (.invokestatic 296, 3) := by decide +kernel
theorem dL_law_2069 : decode cL_law 2069 = .ok (.istore 6, 2) := by decide +kernel
theorem dL_law_2071 : decode cL_law 2071 = .ok (.aload_n 2, 1) := by decide +kernel
theorem dL_law_2072 : decode cL_law 2072 = .ok (.aload_n 0, 1) := by decide +kernel
theorem dL_law_2073 : decode cL_law 2073 = .ok (.iload 5, 2) := by decide +kernel
theorem dL_law_2075 : decode cL_law 2075 = .ok (.iconst 1, 1) := by decide +kernel
theorem dL_law_2076 : decode cL_law 2076 = .ok (.iadd, 1) := by decide +kernel
theorem dL_law_2077 : decode cL_law 2077 = .ok (.iaload, 1) := by decide +kernel
theorem dL_law_2078 : decode cL_law 2078 = .ok (.ifCond .eq 7, 3) := by decide +kernel
theorem dL_law_2081 : decode cL_law 2081 = .ok (.iconst 1, 1) := by decide +kernel
theorem dL_law_2082 : decode cL_law 2082 = .ok (.goto 4, 3) := by decide +kernel
theorem dL_law_2085 : decode cL_law 2085 = .ok (.iconst 0, 1) := by decide +kernel
theorem dL_law_2086 : decode cL_law 2086 = .ok (.invokevirtual 299, 3) := by decide +kernel
theorem dL_law_2089 : decode cL_law 2089 = .ok (.istore 7, 2) := by decide +kernel
theorem dL_law_2091 : decode cL_law 2091 = .ok (.aload_n 2, 1) := by decide +kernel
theorem dL_law_2092 : decode cL_law 2092 = .ok (.invokevirtual 211, 3) := by decide +kernel
theorem dL_law_2095 : decode cL_law 2095 = .ok (.iload 6, 2) := by decide +kernel
theorem dL_law_2097 : decode cL_law 2097 = .ok (.if_icmp .eq 5, 3) := by decide +kernel
theorem dL_law_2102 : decode cL_law 2102 = .ok (.iload 6, 2) := by decide +kernel
theorem dL_law_2104 : decode cL_law 2104 = .ok (.ifCond .ne 22, 3) := by decide +kernel
theorem dL_law_2126 : decode cL_law 2126 = .ok (.goto 1778, 3) := by decide +kernel
theorem dL_law_2129 : decode cL_law 2129 = .ok (.aload_n 1, 1) := by decide +kernel
theorem dL_law_2130 : decode cL_law 2130 = .ok (.aload_n 0, 1) := by decide +kernel
theorem dL_law_2131 : decode cL_law 2131 = .ok (.iload 5, 2) := by decide +kernel
theorem dL_law_2133 : decode cL_law 2133 = .ok (.iconst 1, 1) := by decide +kernel
theorem dL_law_2134 : decode cL_law 2134 = .ok (.iadd, 1) := by decide +kernel
theorem dL_law_2135 : decode cL_law 2135 = .ok (.iaload, 1) := by decide +kernel
theorem dL_law_2136 : decode cL_law 2136 = .ok (.aload_n 3, 1) := by decide +kernel
theorem dL_law_2137 : decode cL_law 2137 = .ok (.invokestatic 300, 3) := by decide +kernel
theorem dL_law_2140 : decode cL_law 2140 = .ok (.istore 6, 2) := by decide +kernel
theorem dL_law_2142 : decode cL_law 2142 = .ok (.aload_n 2, 1) := by decide +kernel
theorem dL_law_2143 : decode cL_law 2143 = .ok (.aload_n 0, 1) := by decide +kernel
theorem dL_law_2144 : decode cL_law 2144 = .ok (.iload 5, 2) := by decide +kernel
theorem dL_law_2146 : decode cL_law 2146 = .ok (.iconst 1, 1) := by decide +kernel
theorem dL_law_2147 : decode cL_law 2147 = .ok (.iadd, 1) := by decide +kernel
theorem dL_law_2148 : decode cL_law 2148 = .ok (.iaload, 1) := by decide +kernel
theorem dL_law_2149 : decode cL_law 2149 = .ok (.invokevirtual 302, 3) := by decide +kernel
theorem dL_law_2152 : decode cL_law 2152 = .ok (.istore 7, 2) := by decide +kernel
theorem dL_law_2154 : decode cL_law 2154 = .ok (.aload_n 2, 1) := by decide +kernel
theorem dL_law_2155 : decode cL_law 2155 = .ok (.invokevirtual 211, 3) := by decide +kernel
theorem dL_law_2158 : decode cL_law 2158 = .ok (.iload 6, 2) := by decide +kernel
theorem dL_law_2160 : decode cL_law 2160 = .ok (.if_icmp .eq 5, 3) := by decide +kernel
theorem dL_law_2165 : decode cL_law 2165 = .ok (.iload 6, 2) := by decide +kernel
theorem dL_law_2167 : decode cL_law 2167 = .ok (.ifCond .ne 22, 3) := by decide +kernel
theorem dL_law_2189 : decode cL_law 2189 = .ok (.goto 1715, 3) := by decide +kernel
theorem dL_law_2192 : decode cL_law 2192 = .ok (.aload_n 1, 1) := by decide +kernel
theorem dL_law_2193 : decode cL_law 2193 = .ok (.aload_n 0, 1) := by decide +kernel
theorem dL_law_2194 : decode cL_law 2194 = .ok (.iload 5, 2) := by decide +kernel
theorem dL_law_2196 : decode cL_law 2196 = .ok (.iconst 1, 1) := by decide +kernel
theorem dL_law_2197 : decode cL_law 2197 = .ok (.iadd, 1) := by decide +kernel
theorem dL_law_2198 : decode cL_law 2198 = .ok (.iaload, 1) := by decide +kernel
theorem dL_law_2199 : decode cL_law 2199 = .ok (.aload_n 0, 1) := by decide +kernel
theorem dL_law_2200 : decode cL_law 2200 = .ok (.iload 5, 2) := by decide +kernel
theorem dL_law_2202 : decode cL_law 2202 = .ok (.iconst 2, 1) := by decide +kernel
theorem dL_law_2203 : decode cL_law 2203 = .ok (.iadd, 1) := by decide +kernel
theorem dL_law_2204 : decode cL_law 2204 = .ok (.iaload, 1) := by decide +kernel
theorem dL_law_2205 : decode cL_law 2205 = .ok (.i2c, 1) := by decide +kernel
theorem dL_law_2206 : decode cL_law 2206 = .ok (.aload_n 3, 1) := by decide +kernel
theorem dL_law_2207 : decode cL_law 2207 = .ok (.invokestatic 303, 3) := by decide +kernel
theorem dL_law_2210 : decode cL_law 2210 = .ok (.istore 6, 2) := by decide +kernel
theorem dL_law_2212 : decode cL_law 2212 = .ok (.aload_n 2, 1) := by decide +kernel
theorem dL_law_2213 : decode cL_law 2213 = .ok (.aload_n 0, 1) := by decide +kernel
theorem dL_law_2214 : decode cL_law 2214 = .ok (.iload 5, 2) := by decide +kernel
theorem dL_law_2216 : decode cL_law 2216 = .ok (.iconst 1, 1) := by decide +kernel
theorem dL_law_2217 : decode cL_law 2217 = .ok (.iadd, 1) := by decide +kernel
theorem dL_law_2218 : decode cL_law 2218 = .ok (.iaload, 1) := by decide +kernel
theorem dL_law_2219 : decode cL_law 2219 = .ok (.aload_n 0, 1) := by decide +kernel
theorem dL_law_2220 : decode cL_law 2220 = .ok (.iload 5, 2) := by decide +kernel
theorem dL_law_2222 : decode cL_law 2222 = .ok (.iconst 2, 1) := by decide +kernel
theorem dL_law_2223 : decode cL_law 2223 = .ok (.iadd, 1) := by decide +kernel
theorem dL_law_2224 : decode cL_law 2224 = .ok (.iaload, 1) := by decide +kernel
theorem dL_law_2225 : decode cL_law 2225 = .ok (.i2c, 1) := by decide +kernel
theorem dL_law_2226 : decode cL_law 2226 = .ok (.invokevirtual 306, 3) := by decide +kernel
theorem dL_law_2229 : decode cL_law 2229 = .ok (.istore 7, 2) := by decide +kernel
theorem dL_law_2231 : decode cL_law 2231 = .ok (.aload_n 2, 1) := by decide +kernel
theorem dL_law_2232 : decode cL_law 2232 = .ok (.invokevirtual 211, 3) := by decide +kernel
theorem dL_law_2235 : decode cL_law 2235 = .ok (.iload 6, 2) := by decide +kernel
theorem dL_law_2237 : decode cL_law 2237 = .ok (.if_icmp .eq 5, 3) := by decide +kernel
theorem dL_law_2242 : decode cL_law 2242 = .ok (.iload 6, 2) := by decide +kernel
theorem dL_law_2244 : decode cL_law 2244 = .ok (.ifCond .ne 15, 3) := by decide +kernel
theorem dL_law_2259 : decode cL_law 2259 = .ok (.goto 1645, 3) := by decide +kernel
theorem dL_law_2262 : decode cL_law 2262 = .ok (.aload_n 1, 1) := by decide +kernel
theorem dL_law_2263 : decode cL_law 2263 = .ok (.aload_n 3, 1) := by decide +kernel
theorem dL_law_2264 : decode cL_law 2264 = .ok (.invokestatic 307, 3) := by decide +kernel
theorem dL_law_2267 : decode cL_law 2267 = .ok (.istore 6, 2) := by decide +kernel
theorem dL_law_2269 : decode cL_law 2269 = .ok (.aload_n 2, 1) := by decide +kernel
theorem dL_law_2270 : decode cL_law 2270 = .ok (.invokevirtual 309, 3) := by decide +kernel
theorem dL_law_2273 : decode cL_law 2273 = .ok (.istore 7, 2) := by decide +kernel
theorem dL_law_2275 : decode cL_law 2275 = .ok (.aload_n 2, 1) := by decide +kernel
theorem dL_law_2276 : decode cL_law 2276 = .ok (.invokevirtual 211, 3) := by decide +kernel
theorem dL_law_2279 : decode cL_law 2279 = .ok (.iload 6, 2) := by decide +kernel
theorem dL_law_2281 : decode cL_law 2281 = .ok (.if_icmp .eq 5, 3) := by decide +kernel
theorem dL_law_2286 : decode cL_law 2286 = .ok (.iload 6, 2) := by decide +kernel
theorem dL_law_2288 : decode cL_law 2288 = .ok (.ifCond .ne 15, 3) := by decide +kernel
theorem dL_law_2303 : decode cL_law 2303 = .ok (.goto 1601, 3) := by decide +kernel
theorem dL_law_2306 : decode cL_law 2306 = .ok (.aload_n 1, 1) := by decide +kernel
theorem dL_law_2307 : decode cL_law 2307 = .ok (.aload_n 0, 1) := by decide +kernel
theorem dL_law_2308 : decode cL_law 2308 = .ok (.iload 5, 2) := by decide +kernel
theorem dL_law_2310 : decode cL_law 2310 = .ok (.iconst 1, 1) := by decide +kernel
theorem dL_law_2311 : decode cL_law 2311 = .ok (.iadd, 1) := by decide +kernel
theorem dL_law_2312 : decode cL_law 2312 = .ok (.iaload, 1) := by decide +kernel
theorem dL_law_2313 : decode cL_law 2313 = .ok (.aload_n 3, 1) := by decide +kernel
theorem dL_law_2314 : decode cL_law 2314 = .ok (.invokestatic 310, 3) := by decide +kernel
theorem dL_law_2317 : decode cL_law 2317 = .ok (.istore 6, 2) := by decide +kernel
theorem dL_law_2319 : decode cL_law 2319 = .ok (.aload_n 2, 1) := by decide +kernel
theorem dL_law_2320 : decode cL_law 2320 = .ok (.aload_n 0, 1) := by decide +kernel
theorem dL_law_2321 : decode cL_law 2321 = .ok (.iload 5, 2) := by decide +kernel
theorem dL_law_2323 : decode cL_law 2323 = .ok (.iconst 1, 1) := by decide +kernel
theorem dL_law_2324 : decode cL_law 2324 = .ok (.iadd, 1) := by decide +kernel
theorem dL_law_2325 : decode cL_law 2325 = .ok (.iaload, 1) := by decide +kernel
theorem dL_law_2326 : decode cL_law 2326 = .ok (.invokevirtual 312, 3) := by decide +kernel
theorem dL_law_2329 : decode cL_law 2329 = .ok (.istore 7, 2) := by decide +kernel
theorem dL_law_2331 : decode cL_law 2331 = .ok (.aload_n 2, 1) := by decide +kernel
theorem dL_law_2332 : decode cL_law 2332 = .ok (.invokevirtual 211, 3) := by decide +kernel
theorem dL_law_2335 : decode cL_law 2335 = .ok (.iload 6, 2) := by decide +kernel
theorem dL_law_2337 : decode cL_law 2337 = .ok (.if_icmp .eq 5, 3) := by decide +kernel
theorem dL_law_2342 : decode cL_law 2342 = .ok (.iload 6, 2) := by decide +kernel
theorem dL_law_2344 : decode cL_law 2344 = .ok (.ifCond .ne 15, 3) := by decide +kernel
theorem dL_law_2359 : decode cL_law 2359 = .ok (.goto 1545, 3) := by decide +kernel
theorem dL_law_2362 : decode cL_law 2362 = .ok (.aload_n 1, 1) := by decide +kernel
theorem dL_law_2363 : decode cL_law 2363 = .ok (.aload_n 0, 1) := by decide +kernel
theorem dL_law_2364 : decode cL_law 2364 = .ok (.iload 5, 2) := by decide +kernel
theorem dL_law_2366 : decode cL_law 2366 = .ok (.iconst 1, 1) := by decide +kernel
theorem dL_law_2367 : decode cL_law 2367 = .ok (.iadd, 1) := by decide +kernel
theorem dL_law_2368 : decode cL_law 2368 = .ok (.iaload, 1) := by decide +kernel
theorem dL_law_2369 : decode cL_law 2369 = .ok (.aload_n 0, 1) := by decide +kernel
theorem dL_law_2370 : decode cL_law 2370 = .ok (.iload 5, 2) := by decide +kernel
theorem dL_law_2372 : decode cL_law 2372 = .ok (.iconst 2, 1) := by decide +kernel
theorem dL_law_2373 : decode cL_law 2373 = .ok (.iadd, 1) := by decide +kernel
theorem dL_law_2374 : decode cL_law 2374 = .ok (.iaload, 1) := by decide +kernel
theorem dL_law_2375 : decode cL_law 2375 = .ok (.ifCond .eq 7, 3) := by decide +kernel
theorem dL_law_2378 : decode cL_law 2378 = .ok (.iconst 1, 1) := by decide +kernel
theorem dL_law_2379 : decode cL_law 2379 = .ok (.goto 4, 3) := by decide +kernel
theorem dL_law_2382 : decode cL_law 2382 = .ok (.iconst 0, 1) := by decide +kernel
theorem dL_law_2383 : decode cL_law 2383 = .ok (.aload_n 3, 1) := by decide +kernel
theorem dL_law_2384 : decode cL_law 2384 = .ok (.invokestatic 313, 3) := by decide +kernel
theorem dL_law_2387 : decode cL_law 2387 = .ok (.istore 6, 2) := by decide +kernel
theorem dL_law_2389 : decode cL_law 2389 = .ok (.aload_n 2, 1) := by decide +kernel
theorem dL_law_2390 : decode cL_law 2390 = .ok (.aload_n 0, 1) := by decide +kernel
theorem dL_law_2391 : decode cL_law 2391 = .ok (.iload 5, 2) := by decide +kernel
theorem dL_law_2393 : decode cL_law 2393 = .ok (.iconst 1, 1) := by decide +kernel
theorem dL_law_2394 : decode cL_law 2394 = .ok (.iadd, 1) := by decide +kernel
theorem dL_law_2395 : decode cL_law 2395 = .ok (.iaload, 1) := by decide +kernel
theorem dL_law_2396 : decode cL_law 2396 = .ok (.aload_n 0, 1) := by decide +kernel
theorem dL_law_2397 : decode cL_law 2397 = .ok (.iload 5, 2) := by decide +kernel
theorem dL_law_2399 : decode cL_law 2399 = .ok (.iconst 2, 1) := by decide +kernel
theorem dL_law_2400 : decode cL_law 2400 = .ok (.iadd, 1) := by decide +kernel
theorem dL_law_2401 : decode cL_law 2401 = .ok (.iaload, 1) := by decide +kernel
theorem dL_law_2402 : decode cL_law 2402 = .ok (.ifCond .eq 7, 3) := by decide +kernel
theorem dL_law_2405 : decode cL_law 2405 = .ok (.iconst 1, 1) := by decide +kernel
theorem dL_law_2406 : decode cL_law 2406 = .ok (.goto 4, 3) := by decide +kernel
theorem dL_law_2409 : decode cL_law 2409 = .ok (.iconst 0, 1) := by decide +kernel
theorem dL_law_2410 : decode cL_law 2410 = .ok (.invokevirtual 315, 3) := by decide +kernel
theorem dL_law_2413 : decode cL_law 2413 = .ok (.istore 7, 2) := by decide +kernel
theorem dL_law_2415 : decode cL_law 2415 = .ok (.aload_n 2, 1) := by decide +kernel
theorem dL_law_2416 : decode cL_law 2416 = .ok (.invokevirtual 211, 3) := by decide +kernel
theorem dL_law_2419 : decode cL_law 2419 = .ok (.iload 6, 2) := by decide +kernel
theorem dL_law_2421 : decode cL_law 2421 = .ok (.if_icmp .eq 5, 3) := by decide +kernel
theorem dL_law_2426 : decode cL_law 2426 = .ok (.iload 6, 2) := by decide +kernel
theorem dL_law_2428 : decode cL_law 2428 = .ok (.ifCond .ne 15, 3) := by decide +kernel
theorem dL_law_2443 : decode cL_law 2443 = .ok (.goto 1461, 3) := by decide +kernel
theorem dL_law_2446 : decode cL_law 2446 = .ok (.aload_n 1, 1) := by decide +kernel
theorem dL_law_2447 : decode cL_law 2447 = .ok (.aload_n 0, 1) := by decide +kernel
theorem dL_law_2448 : decode cL_law 2448 = .ok (.iload 5, 2) := by decide +kernel
theorem dL_law_2450 : decode cL_law 2450 = .ok (.iconst 1, 1) := by decide +kernel
theorem dL_law_2451 : decode cL_law 2451 = .ok (.iadd, 1) := by decide +kernel
theorem dL_law_2452 : decode cL_law 2452 = .ok (.iaload, 1) := by decide +kernel
theorem dL_law_2453 : decode cL_law 2453 = .ok (.aload_n 3, 1) := by decide +kernel
theorem dL_law_2454 : decode cL_law 2454 = .ok (.invokestatic 316, 3) := by decide +kernel
theorem dL_law_2457 : decode cL_law 2457 = .ok (.istore 6, 2) := by decide +kernel
theorem dL_law_2459 : decode cL_law 2459 = .ok (.aload_n 2, 1) := by decide +kernel
theorem dL_law_2460 : decode cL_law 2460 = .ok (.aload_n 0, 1) := by decide +kernel
theorem dL_law_2461 : decode cL_law 2461 = .ok (.iload 5, 2) := by decide +kernel
theorem dL_law_2463 : decode cL_law 2463 = .ok (.iconst 1, 1) := by decide +kernel
theorem dL_law_2464 : decode cL_law 2464 = .ok (.iadd, 1) := by decide +kernel
theorem dL_law_2465 : decode cL_law 2465 = .ok (.iaload, 1) := by decide +kernel
theorem dL_law_2466 : decode cL_law 2466 = .ok (.invokevirtual 318, 3) := by decide +kernel
theorem dL_law_2469 : decode cL_law 2469 = .ok (.istore 7, 2) := by decide +kernel
theorem dL_law_2471 : decode cL_law 2471 = .ok (.aload_n 2, 1) := by decide +kernel
theorem dL_law_2472 : decode cL_law 2472 = .ok (.invokevirtual 211, 3) := by decide +kernel
theorem dL_law_2475 : decode cL_law 2475 = .ok (.iload 6, 2) := by decide +kernel
theorem dL_law_2477 : decode cL_law 2477 = .ok (.if_icmp .eq 5, 3) := by decide +kernel
theorem dL_law_2482 : decode cL_law 2482 = .ok (.iload 6, 2) := by decide +kernel
theorem dL_law_2484 : decode cL_law 2484 = .ok (.ifCond .ne 15, 3) := by decide +kernel
theorem dL_law_2499 : decode cL_law 2499 = .ok (.goto 1405, 3) := by decide +kernel
set_option maxHeartbeats 4000000 in
set_option maxRecDepth 100000 in
theorem law_c24 (l : Launch) (hlT : l.stackTraces = false) {p : Program} {e : Env} {s : State} {m : MethodId} {below : List Frame} {meth : Method} {c : Code} {Q : State → Prop} {D : va_G} {A : Nat → Prop} {b : Nat} {xs : Nat → Int32} {x m7 o o2 : Nat} {rx rm : Nat → Nat} {cO cD : ClassId} {fo : Nat → Int64} {fd : Nat → UInt64} {H : Heap} {locs : List Loc} {ls : Array Slot} (hx : p.tables.exec = Jvm.exec) (hb : c.code = cL_law) (hml : c.maxLocals = 9) (hown : s.vm.findClass RL = some m.cls) (hts : ∀ w ∈ wsL_law, w.before #[Value.ref b] s = true) (hX : va_X b 7 xs s s.heap) (hbl : b < s.heap.size) (hbA : ¬ A b) (hA : ∀ q : Nat, s.heap.size ≤ q → A q) (hT : tf A s s.heap)
    (hK : va_K D vwCl [(cO, .long), (cD, .double)] s) (hP : va_P D vwCl [(x, .inr (12, [.ref (rx 0), .ref (rx 1), .ref (rx 2), .ref (rx 3), .int 0, .int 0, .int 1, .int 110, .int 0, .int 115, .int 0, .int 0, .int 0, .int 0])), (m7, .inr (13, [.ref (rm 0), .ref (rm 1), .ref (rm 2), .ref (rm 3), .ref (rm 4), .ref (rm 5), .ref (rm 6), .ref (rm 7), .ref (rm 8), .ref (rm 9), .ref (rm 10), .ref (rm 11), .ref (rm 12), .ref (rm 13), .ref (rm 14), .ref (rm 15), .int 0, .int 0, .int 1, .int 110, .int 0, .int 0, .int 0, .int 0, .int 0, .int 0, .int 0, .int 0, .int 0, .int 0, .int 0])), (o, .inl (cO, 1, .inr (.inl fo))), (o2, .inl (cD, 1, .inr (.inr (.inr (.inl fd)))))] H) (hD : va_D A [(x, .inr (12, [.ref (rx 0), .ref (rx 1), .ref (rx 2), .ref (rx 3), .int 0, .int 0, .int 1, .int 110, .int 0, .int 115, .int 0, .int 0, .int 0, .int 0])), (m7, .inr (13, [.ref (rm 0), .ref (rm 1), .ref (rm 2), .ref (rm 3), .ref (rm 4), .ref (rm 5), .ref (rm 6), .ref (rm 7), .ref (rm 8), .ref (rm 9), .ref (rm 10), .ref (rm 11), .ref (rm 12), .ref (rm 13), .ref (rm 14), .ref (rm 15), .int 0, .int 0, .int 1, .int 110, .int 0, .int 0, .int 0, .int 0, .int 0, .int 0, .int 0, .int 0, .int 0, .int 0, .int 0])), (o, .inl (cO, 1, .inr (.inl fo))), (o2, .inl (cD, 1, .inr (.inr (.inr (.inl fd)))))]) (hS : va_S A s.heap H locs) (hl : lv_has ls 9 [(0, .ref b), (1, .ref x), (2, .ref m7), (3, .ref o), (4, .ref o2), (5, .int 0)])
    (kk : ∀ (H : Heap) (locs : List Loc) (ls : Array Slot), va_S A s.heap H locs → lv_has ls 9 [(0, .ref b), (5, .int 0)] → W p l e room_1 s m #[Value.ref b] below meth c H locs 200 12100 Q (F0 m 3904 ls [])) :
    W p l e room_1 s m #[Value.ref b] below meth c H locs 140 11923 Q (F0 m 1994 ls []) := by
  obtain ⟨a1, ea1⟩ : ∃ z, z = xs (1 : Int32).toNatClampNeg := ⟨_, rfl⟩
  obtain ⟨a2, ea2⟩ : ∃ z, z = xs (2 : Int32).toNatClampNeg := ⟨_, rfl⟩
  obtain ⟨a3, ea3⟩ : ∃ z, z = xs (3 : Int32).toNatClampNeg := ⟨_, rfl⟩
  obtain ⟨a4, ea4⟩ : ∃ z, z = xs (4 : Int32).toNatClampNeg := ⟨_, rfl⟩
  obtain ⟨a5, ea5⟩ : ∃ z, z = xs (5 : Int32).toNatClampNeg := ⟨_, rfl⟩
  obtain ⟨a6, ea6⟩ : ∃ z, z = xs (6 : Int32).toNatClampNeg := ⟨_, rfl⟩
  refine lv_aload_n hx hb dL_law_1994 rfl (lv_at hl 1 rfl) ?_
  refine lv_aload_n hx hb dL_law_1995 rfl (lv_at hl 0 rfl) ?_
  refine lv_iload hx hb dL_law_1996 (lv_at hl 5 rfl) ?_
  refine lv_iconst (v := 1) hx hb dL_law_1998 (by decide) ?_
  refine lv_iadd hx hb dL_law_1999 ?_
  refine lv_topi (fun y1 ey1 => ?_)
  obtain rfl : y1 = 1 := ey1.trans (by decide)
  refine va_sld hx hb hX hbl hbA hS (vp_in_nI (n := 1) (by decide) (by decide)) dL_law_2000 ?_
  rw [← ea1]
  refine lv_aload_n hx hb dL_law_2001 rfl (lv_at hl 3 rfl) ?_
  have hPc := hP.sub (ws' := [(x, .inr (12, [.ref (rx 0), .ref (rx 1), .ref (rx 2), .ref (rx 3), .int 0, .int 0, .int 1, .int 110, .int 0, .int 115, .int 0, .int 0, .int 0, .int 0]))]) [0] rfl
  have hDc := hD.sub (ws' := [(x, .inr (12, [.ref (rx 0), .ref (rx 1), .ref (rx 2), .ref (rx 3), .int 0, .int 0, .int 1, .int 110, .int 0, .int 115, .int 0, .int 0, .int 0, .int 0]))]) [0] (by decide) rfl
  have hKc := hK.sub (tys' := []) [] rfl
  have hFc := va_free (wc := [(x, .inr (12, [.ref (rx 0), .ref (rx 1), .ref (rx 2), .ref (rx 3), .int 0, .int 0, .int 1, .int 110, .int 0, .int 115, .int 0, .int 0, .int 0, .int 0]))]) hD hS hA [0] rfl
  refine va_calli (vx_runSW (As := [.ref x, .int a1, .ref o]) (rest := []) ⟨hx, hb, hml, hown, hts⟩ (c_L_pickUp l hlT D x rx o H.size a1) (vx_cwSW 3 hts gL_law_L_pickUp rfl rfl rfl (by decide +kernel) ⟨Nat.le_of_ble_eq_true rfl, Nat.le_of_ble_eq_true rfl⟩) ⟨fun a U g mk q => ⟨q.1, PX6.blind q.2⟩, fun U hU hW => ⟨rfl, PX6.go hPc hKc hT hS hA hU hW⟩⟩ rfl rfl hl.1 rfl (lv_room (Nat.le_of_ble_eq_true rfl)) dL_law_2002 ⟨Nat.le_of_ble_eq_true rfl, Nat.le_of_ble_eq_true rfl⟩) hS (fun q h1 h2 => absurd h1 (Nat.not_lt.mpr h2)) (fun q h => hA q (Nat.le_trans hS.1 h)) (fun r2 u t H1 locs ht hvm hw hB hz1 hk1 hS => ?_)
  have hP := va_kept0 hP hk1
  generalize H1 = H at hP hS ⊢
  have hP : va_P D vwCl [(x, .inr (12, [.ref (rx 0), .ref (rx 1), .ref (rx 2), .ref (rx 3), .int 0, .int 0, .int 1, .int 110, .int 0, .int 115, .int 0, .int 0, .int 0, .int 0])), (m7, .inr (13, [.ref (rm 0), .ref (rm 1), .ref (rm 2), .ref (rm 3), .ref (rm 4), .ref (rm 5), .ref (rm 6), .ref (rm 7), .ref (rm 8), .ref (rm 9), .ref (rm 10), .ref (rm 11), .ref (rm 12), .ref (rm 13), .ref (rm 14), .ref (rm 15), .int 0, .int 0, .int 1, .int 110, .int 0, .int 0, .int 0, .int 0, .int 0, .int 0, .int 0, .int 0, .int 0, .int 0, .int 0])), (o, .inl (cO, 1, .inr (.inl fo))), (o2, .inl (cD, 1, .inr (.inr (.inr (.inl fd)))))] H := hP
  have hD := hD
  refine W.widen (k := 141) (n := 11929) (Nat.le_of_ble_eq_true rfl) (Nat.le_of_ble_eq_true rfl) ?_
  obtain rfl : r2 = 1 := hw
  refine lv_istore (lv' := [(6, .int 1), (0, .ref b), (1, .ref x), (2, .ref m7), (3, .ref o), (4, .ref o2), (5, .int 0)]) hx hb dL_law_2005 hl (by decide) rfl (fun ls hl => ?_)
  refine lv_aload_n hx hb dL_law_2007 rfl (lv_at hl 3 rfl) ?_
  refine lv_aload_n hx hb dL_law_2008 rfl (lv_at hl 1 rfl) ?_
  refine lv_iload hx hb dL_law_2009 (lv_at hl 6 rfl) ?_
  refine lv_iconst (v := 1) hx hb dL_law_2011 (by decide) ?_
  refine lv_iadd hx hb dL_law_2012 ?_
  refine lv_topi (fun y3 ey3 => ?_)
  obtain rfl : y3 = 1 := ey3.trans (by decide)
  refine va_sld hx hb hX hbl hbA hS (vp_in_nI (n := 1) (by decide) (by decide)) dL_law_2013 ?_
  rw [← ea1]
  have hPc := hP.sub (ws' := [(m7, .inr (13, [.ref (rm 0), .ref (rm 1), .ref (rm 2), .ref (rm 3), .ref (rm 4), .ref (rm 5), .ref (rm 6), .ref (rm 7), .ref (rm 8), .ref (rm 9), .ref (rm 10), .ref (rm 11), .ref (rm 12), .ref (rm 13), .ref (rm 14), .ref (rm 15), .int 0, .int 0, .int 1, .int 110, .int 0, .int 0, .int 0, .int 0, .int 0, .int 0, .int 0, .int 0, .int 0, .int 0, .int 0]))]) [1] rfl
  have hDc := hD.sub (ws' := [(m7, .inr (13, [.ref (rm 0), .ref (rm 1), .ref (rm 2), .ref (rm 3), .ref (rm 4), .ref (rm 5), .ref (rm 6), .ref (rm 7), .ref (rm 8), .ref (rm 9), .ref (rm 10), .ref (rm 11), .ref (rm 12), .ref (rm 13), .ref (rm 14), .ref (rm 15), .int 0, .int 0, .int 1, .int 110, .int 0, .int 0, .int 0, .int 0, .int 0, .int 0, .int 0, .int 0, .int 0, .int 0, .int 0]))]) [1] (by decide) rfl
  have hKc := hK.sub (tys' := []) [] rfl
  have hFc := va_free (wc := [(m7, .inr (13, [.ref (rm 0), .ref (rm 1), .ref (rm 2), .ref (rm 3), .ref (rm 4), .ref (rm 5), .ref (rm 6), .ref (rm 7), .ref (rm 8), .ref (rm 9), .ref (rm 10), .ref (rm 11), .ref (rm 12), .ref (rm 13), .ref (rm 14), .ref (rm 15), .int 0, .int 0, .int 1, .int 110, .int 0, .int 0, .int 0, .int 0, .int 0, .int 0, .int 0, .int 0, .int 0, .int 0, .int 0]))]) hD hS hA [1] rfl
  have hFr : ∀ q : Nat, rg1 m7 H.size q → A q := fun q h => hFc q (va_Arg1 q h)
  refine va_calli (va_runV (As := [.int a1]) (rest := []) ⟨hx, hb, hml, hown, hts⟩ (c_X7_pickUp l D m7 rm H.size a1) (cwV 1 hts gL_law_X7_pickUp rfl rfl rfl (by decide +kernel) ⟨Nat.le_of_ble_eq_true rfl, Nat.le_of_ble_eq_true rfl⟩) ⟨fun a U g mk q => ⟨q.1, PX7.blind q.2⟩, va_recv hK hP (ci := 13) (q0 := 1) rfl rfl, fun U hU hW => ⟨rfl, PX7.go hPc hKc hU hW⟩⟩ rfl rfl hl.1 rfl (lv_room (Nat.le_of_ble_eq_true rfl)) dL_law_2014 ⟨Nat.le_of_ble_eq_true rfl, Nat.le_of_ble_eq_true rfl⟩) hS (fun q _ h => hFr q h) hFr (fun r4 u t H1 locs ht hvm hw hB hz1 hk1 hS => ?_)
  obtain ⟨um, eum⟩ : ∃ z, z = u := ⟨_, rfl⟩
  rw [← eum] at hB hw
  rw [ht] at hB
  have hP1 := hB
  have hD1 : va_D (va_A [(m7, .inr (13, [.ref (rm 0), .ref (rm 1), .ref (rm 2), .ref (rm 3), .ref (rm 4), .ref (rm 5), .ref (rm 6), .ref (rm 7), .ref (rm 8), .ref (rm 9), .ref (rm 10), .ref (rm 11), .ref (rm 12), .ref (rm 13), .ref (rm 14), .ref (rm 15), .int 0, .int 0, .int 1, .int 110, .int 0, .int 0, .int 0, .int 0, .int 0, .int 0, .int 0, .int 0, .int 0, .int 0, .int 0]))] H.size) [(m7, .inr (13, um))] := va_D1 (Or.inl ⟨0, _, rfl⟩)
  have hk1 : ∀ q : Nat, q < H.size → ¬ va_A [(m7, .inr (13, [.ref (rm 0), .ref (rm 1), .ref (rm 2), .ref (rm 3), .ref (rm 4), .ref (rm 5), .ref (rm 6), .ref (rm 7), .ref (rm 8), .ref (rm 9), .ref (rm 10), .ref (rm 11), .ref (rm 12), .ref (rm 13), .ref (rm 14), .ref (rm 15), .int 0, .int 0, .int 1, .int 110, .int 0, .int 0, .int 0, .int 0, .int 0, .int 0, .int 0, .int 0, .int 0, .int 0, .int 0]))] H.size q → H1[q]? = H[q]? := fun q h1 h2 => hk1 q h1 (fun h3 => h2 (va_Arg1 q h3))
  obtain ⟨hP, hD⟩ := va_join (wr := [(x, .inr (12, [.ref (rx 0), .ref (rx 1), .ref (rx 2), .ref (rx 3), .int 0, .int 0, .int 1, .int 110, .int 0, .int 115, .int 0, .int 0, .int 0, .int 0])), (o, .inl (cO, 1, .inr (.inl fo))), (o2, .inl (cD, 1, .inr (.inr (.inr (.inl fd)))))]) (w1 := [(m7, .inr (13, um))]) hP hD [1] [0, 2, 3] rfl rfl (by decide) (by decide) hk1 hFc hP1 hD1
  generalize H1 = H at hP hS ⊢
  have hP : va_P D vwCl [(x, .inr (12, [.ref (rx 0), .ref (rx 1), .ref (rx 2), .ref (rx 3), .int 0, .int 0, .int 1, .int 110, .int 0, .int 115, .int 0, .int 0, .int 0, .int 0])), (o, .inl (cO, 1, .inr (.inl fo))), (o2, .inl (cD, 1, .inr (.inr (.inr (.inl fd))))), (m7, .inr (13, um))] H := hP
  have hD : va_D A [(x, .inr (12, [.ref (rx 0), .ref (rx 1), .ref (rx 2), .ref (rx 3), .int 0, .int 0, .int 1, .int 110, .int 0, .int 115, .int 0, .int 0, .int 0, .int 0])), (o, .inl (cO, 1, .inr (.inl fo))), (o2, .inl (cD, 1, .inr (.inr (.inr (.inl fd))))), (m7, .inr (13, um))] := hD
  refine W.widen (k := 141) (n := 11929) (Nat.le_of_ble_eq_true rfl) (Nat.le_of_ble_eq_true rfl) ?_
  have hu30 := hw
  refine lv_istore (lv' := [(7, .int r4), (6, .int 1), (0, .ref b), (1, .ref x), (2, .ref m7), (3, .ref o), (4, .ref o2), (5, .int 0)]) hx hb dL_law_2017 hl (by decide) rfl (fun ls hl => ?_)
  refine lv_aload_n hx hb dL_law_2019 rfl (lv_at hl 4 rfl) ?_
  have hPc := hP.sub (ws' := [(m7, .inr (13, um))]) [3] rfl
  have hKc := hK.sub (tys' := []) [] rfl
  refine va_calli (va_runV (As := []) (rest := []) ⟨hx, hb, hml, hown, hts⟩ (c_X7_thrown l D m7 um 1 hu30 H.size) (cwV 0 hts gL_law_X7_thrown rfl rfl rfl (by decide +kernel) ⟨Nat.le_of_ble_eq_true rfl, Nat.le_of_ble_eq_true rfl⟩) ⟨fun a U g mk q => ⟨q.1, q.2.1, q.2.2.1, va_K.moved (u := U) (U := U.calling g mk a) (Vm.Alike.refl U.vm) q.2.2.2⟩, va_recv hK hP (ci := 13) (q0 := 3) rfl rfl, fun U hU hW => ⟨rfl, congrArg Array.size hU, by rw [hU]; exact hPc, va_K.moved hW.alike hKc⟩⟩ rfl rfl hl.1 rfl (lv_room (Nat.le_of_ble_eq_true rfl)) dL_law_2020 ⟨Nat.le_of_ble_eq_true rfl, Nat.le_of_ble_eq_true rfl⟩) hS (fun q h1 h2 => absurd h1 (Nat.not_lt.mpr h2)) (fun q h => hA q (Nat.le_trans hS.1 h)) (fun r5 u t H1 locs ht hvm hw hB hz1 hk1 hS => ?_)
  have hP := va_kept0 hP hk1
  generalize H1 = H at hP hS ⊢
  have hP : va_P D vwCl [(x, .inr (12, [.ref (rx 0), .ref (rx 1), .ref (rx 2), .ref (rx 3), .int 0, .int 0, .int 1, .int 110, .int 0, .int 115, .int 0, .int 0, .int 0, .int 0])), (o, .inl (cO, 1, .inr (.inl fo))), (o2, .inl (cD, 1, .inr (.inr (.inr (.inl fd))))), (m7, .inr (13, um))] H := hP
  obtain rfl : r5 = 1 := hw
  refine lv_iload hx hb dL_law_2023 (lv_at hl 1 rfl) ?_
  refine lv_icmp_eq (tgt := 2030) hx hb dL_law_2025 (by decide) (fun _ => ?_) (fun c => by first | exact absurd (by decide) c | exact absurd c (by decide))
  refine lv_iload hx hb dL_law_2030 (lv_at hl 1 rfl) ?_
  refine lv_if_ne (tgt := 2047) hx hb dL_law_2032 (by decide) (fun _ => ?_) (fun c => by first | exact absurd (by decide) c | exact absurd c (by decide))
  refine lv_goto (tgt := 3904) hx hb dL_law_2047 (by decide) ?_
  refine W.widen (k := 200) (n := 12100) (Nat.le_of_ble_eq_true rfl) (Nat.le_of_ble_eq_true rfl) ?_
  exact kk H locs ls hS (lv_sub hl [2, 7] rfl)
set_option maxHeartbeats 4000000 in
set_option maxRecDepth 100000 in
theorem law_c25 (l : Launch) (hlT : l.stackTraces = false) {p : Program} {e : Env} {s : State} {m : MethodId} {below : List Frame} {meth : Method} {c : Code} {Q : State → Prop} {D : va_G} {A : Nat → Prop} {b : Nat} {xs : Nat → Int32} {x m7 o o2 : Nat} {rx rm : Nat → Nat} {cO cD : ClassId} {fo : Nat → Int64} {fd : Nat → UInt64} {H : Heap} {locs : List Loc} {ls : Array Slot} (hx : p.tables.exec = Jvm.exec) (hb : c.code = cL_law) (hml : c.maxLocals = 9) (hown : s.vm.findClass RL = some m.cls) (hts : ∀ w ∈ wsL_law, w.before #[Value.ref b] s = true) (hX : va_X b 7 xs s s.heap) (hbl : b < s.heap.size) (hbA : ¬ A b) (hA : ∀ q : Nat, s.heap.size ≤ q → A q) (hT : tf A s s.heap)
    (hK : va_K D vwCl [(cO, .long), (cD, .double)] s) (hP : va_P D vwCl [(x, .inr (12, [.ref (rx 0), .ref (rx 1), .ref (rx 2), .ref (rx 3), .int 0, .int 0, .int 1, .int 110, .int 0, .int 115, .int 0, .int 0, .int 0, .int 0])), (m7, .inr (13, [.ref (rm 0), .ref (rm 1), .ref (rm 2), .ref (rm 3), .ref (rm 4), .ref (rm 5), .ref (rm 6), .ref (rm 7), .ref (rm 8), .ref (rm 9), .ref (rm 10), .ref (rm 11), .ref (rm 12), .ref (rm 13), .ref (rm 14), .ref (rm 15), .int 0, .int 0, .int 1, .int 110, .int 0, .int 0, .int 0, .int 0, .int 0, .int 0, .int 0, .int 0, .int 0, .int 0, .int 0])), (o, .inl (cO, 1, .inr (.inl fo))), (o2, .inl (cD, 1, .inr (.inr (.inr (.inl fd)))))] H) (hD : va_D A [(x, .inr (12, [.ref (rx 0), .ref (rx 1), .ref (rx 2), .ref (rx 3), .int 0, .int 0, .int 1, .int 110, .int 0, .int 115, .int 0, .int 0, .int 0, .int 0])), (m7, .inr (13, [.ref (rm 0), .ref (rm 1), .ref (rm 2), .ref (rm 3), .ref (rm 4), .ref (rm 5), .ref (rm 6), .ref (rm 7), .ref (rm 8), .ref (rm 9), .ref (rm 10), .ref (rm 11), .ref (rm 12), .ref (rm 13), .ref (rm 14), .ref (rm 15), .int 0, .int 0, .int 1, .int 110, .int 0, .int 0, .int 0, .int 0, .int 0, .int 0, .int 0, .int 0, .int 0, .int 0, .int 0])), (o, .inl (cO, 1, .inr (.inl fo))), (o2, .inl (cD, 1, .inr (.inr (.inr (.inl fd)))))]) (hS : va_S A s.heap H locs) (hl : lv_has ls 9 [(0, .ref b), (1, .ref x), (2, .ref m7), (3, .ref o), (4, .ref o2), (5, .int 0)])
    (kk : ∀ (H : Heap) (locs : List Loc) (ls : Array Slot), va_S A s.heap H locs → lv_has ls 9 [(0, .ref b), (5, .int 0)] → W p l e room_1 s m #[Value.ref b] below meth c H locs 200 12100 Q (F0 m 3904 ls [])) :
    W p l e room_1 s m #[Value.ref b] below meth c H locs 140 11923 Q (F0 m 2050 ls []) := by
  obtain ⟨a1, ea1⟩ : ∃ z, z = xs (1 : Int32).toNatClampNeg := ⟨_, rfl⟩
  obtain ⟨a2, ea2⟩ : ∃ z, z = xs (2 : Int32).toNatClampNeg := ⟨_, rfl⟩
  obtain ⟨a3, ea3⟩ : ∃ z, z = xs (3 : Int32).toNatClampNeg := ⟨_, rfl⟩
  obtain ⟨a4, ea4⟩ : ∃ z, z = xs (4 : Int32).toNatClampNeg := ⟨_, rfl⟩
  obtain ⟨a5, ea5⟩ : ∃ z, z = xs (5 : Int32).toNatClampNeg := ⟨_, rfl⟩
  obtain ⟨a6, ea6⟩ : ∃ z, z = xs (6 : Int32).toNatClampNeg := ⟨_, rfl⟩
  refine lv_aload_n hx hb dL_law_2050 rfl (lv_at hl 1 rfl) ?_
  refine lv_aload_n hx hb dL_law_2051 rfl (lv_at hl 0 rfl) ?_
  refine lv_iload hx hb dL_law_2052 (lv_at hl 5 rfl) ?_
  refine lv_iconst (v := 1) hx hb dL_law_2054 (by decide) ?_
  refine lv_iadd hx hb dL_law_2055 ?_
  refine lv_topi (fun y1 ey1 => ?_)
  obtain rfl : y1 = 1 := ey1.trans (by decide)
  refine va_sld hx hb hX hbl hbA hS (vp_in_nI (n := 1) (by decide) (by decide)) dL_law_2056 ?_
  rw [← ea1]
  refine lv_if_eq (tgt := 2064) hx hb dL_law_2057 (by decide) (fun c_2 => ?_) (fun c_2 => ?_)
  · skip
    refine lv_iconst (v := 0) hx hb dL_law_2064 (by decide) ?_
    refine lv_aload_n hx hb dL_law_2065 rfl (lv_at hl 3 rfl) ?_
    have hPc := hP.sub (ws' := [(x, .inr (12, [.ref (rx 0), .ref (rx 1), .ref (rx 2), .ref (rx 3), .int 0, .int 0, .int 1, .int 110, .int 0, .int 115, .int 0, .int 0, .int 0, .int 0]))]) [0] rfl
    have hDc := hD.sub (ws' := [(x, .inr (12, [.ref (rx 0), .ref (rx 1), .ref (rx 2), .ref (rx 3), .int 0, .int 0, .int 1, .int 110, .int 0, .int 115, .int 0, .int 0, .int 0, .int 0]))]) [0] (by decide) rfl
    have hKc := hK.sub (tys' := []) [] rfl
    have hFc := va_free (wc := [(x, .inr (12, [.ref (rx 0), .ref (rx 1), .ref (rx 2), .ref (rx 3), .int 0, .int 0, .int 1, .int 110, .int 0, .int 115, .int 0, .int 0, .int 0, .int 0]))]) hD hS hA [0] rfl
    refine va_calli (vx_runSW (As := [.ref x, .int 0, .ref o]) (rest := []) ⟨hx, hb, hml, hown, hts⟩ (c_L_suspend l hlT D x rx o H.size 0) (vx_cwSW 3 hts gL_law_L_suspend rfl rfl rfl (by decide +kernel) ⟨Nat.le_of_ble_eq_true rfl, Nat.le_of_ble_eq_true rfl⟩) ⟨fun a U g mk q => ⟨q.1, PX6.blind q.2⟩, fun U hU hW => ⟨rfl, PX6.go hPc hKc hT hS hA hU hW⟩⟩ rfl rfl hl.1 rfl (lv_room (Nat.le_of_ble_eq_true rfl)) dL_law_2066 ⟨Nat.le_of_ble_eq_true rfl, Nat.le_of_ble_eq_true rfl⟩) hS (fun q h1 h2 => absurd h1 (Nat.not_lt.mpr h2)) (fun q h => hA q (Nat.le_trans hS.1 h)) (fun r3 u t H1 locs ht hvm hw hB hz1 hk1 hS => ?_)
    have hP := va_kept0 hP hk1
    generalize H1 = H at hP hS ⊢
    have hP : va_P D vwCl [(x, .inr (12, [.ref (rx 0), .ref (rx 1), .ref (rx 2), .ref (rx 3), .int 0, .int 0, .int 1, .int 110, .int 0, .int 115, .int 0, .int 0, .int 0, .int 0])), (m7, .inr (13, [.ref (rm 0), .ref (rm 1), .ref (rm 2), .ref (rm 3), .ref (rm 4), .ref (rm 5), .ref (rm 6), .ref (rm 7), .ref (rm 8), .ref (rm 9), .ref (rm 10), .ref (rm 11), .ref (rm 12), .ref (rm 13), .ref (rm 14), .ref (rm 15), .int 0, .int 0, .int 1, .int 110, .int 0, .int 0, .int 0, .int 0, .int 0, .int 0, .int 0, .int 0, .int 0, .int 0, .int 0])), (o, .inl (cO, 1, .inr (.inl fo))), (o2, .inl (cD, 1, .inr (.inr (.inr (.inl fd)))))] H := hP
    have hD := hD
    refine W.widen (k := 141) (n := 11929) (Nat.le_of_ble_eq_true rfl) (Nat.le_of_ble_eq_true rfl) ?_
    obtain rfl : r3 = 1 := hw
    refine lv_istore (lv' := [(6, .int 1), (0, .ref b), (1, .ref x), (2, .ref m7), (3, .ref o), (4, .ref o2), (5, .int 0)]) hx hb dL_law_2069 hl (by decide) rfl (fun ls hl => ?_)
    refine lv_aload_n hx hb dL_law_2071 rfl (lv_at hl 3 rfl) ?_
    refine lv_aload_n hx hb dL_law_2072 rfl (lv_at hl 1 rfl) ?_
    refine lv_iload hx hb dL_law_2073 (lv_at hl 6 rfl) ?_
    refine lv_iconst (v := 1) hx hb dL_law_2075 (by decide) ?_
    refine lv_iadd hx hb dL_law_2076 ?_
    refine lv_topi (fun y4 ey4 => ?_)
    obtain rfl : y4 = 1 := ey4.trans (by decide)
    refine va_sld hx hb hX hbl hbA hS (vp_in_nI (n := 1) (by decide) (by decide)) dL_law_2077 ?_
    rw [← ea1]
    refine lv_if_eq (tgt := 2085) hx hb dL_law_2078 (by decide) (fun _ => ?_) (fun c => by first | exact absurd c_2 c | exact absurd c c_2)
    refine lv_iconst (v := 0) hx hb dL_law_2085 (by decide) ?_
    have hPc := hP.sub (ws' := [(m7, .inr (13, [.ref (rm 0), .ref (rm 1), .ref (rm 2), .ref (rm 3), .ref (rm 4), .ref (rm 5), .ref (rm 6), .ref (rm 7), .ref (rm 8), .ref (rm 9), .ref (rm 10), .ref (rm 11), .ref (rm 12), .ref (rm 13), .ref (rm 14), .ref (rm 15), .int 0, .int 0, .int 1, .int 110, .int 0, .int 0, .int 0, .int 0, .int 0, .int 0, .int 0, .int 0, .int 0, .int 0, .int 0]))]) [1] rfl
    have hDc := hD.sub (ws' := [(m7, .inr (13, [.ref (rm 0), .ref (rm 1), .ref (rm 2), .ref (rm 3), .ref (rm 4), .ref (rm 5), .ref (rm 6), .ref (rm 7), .ref (rm 8), .ref (rm 9), .ref (rm 10), .ref (rm 11), .ref (rm 12), .ref (rm 13), .ref (rm 14), .ref (rm 15), .int 0, .int 0, .int 1, .int 110, .int 0, .int 0, .int 0, .int 0, .int 0, .int 0, .int 0, .int 0, .int 0, .int 0, .int 0]))]) [1] (by decide) rfl
    have hKc := hK.sub (tys' := []) [] rfl
    have hFc := va_free (wc := [(m7, .inr (13, [.ref (rm 0), .ref (rm 1), .ref (rm 2), .ref (rm 3), .ref (rm 4), .ref (rm 5), .ref (rm 6), .ref (rm 7), .ref (rm 8), .ref (rm 9), .ref (rm 10), .ref (rm 11), .ref (rm 12), .ref (rm 13), .ref (rm 14), .ref (rm 15), .int 0, .int 0, .int 1, .int 110, .int 0, .int 0, .int 0, .int 0, .int 0, .int 0, .int 0, .int 0, .int 0, .int 0, .int 0]))]) hD hS hA [1] rfl
    have hFr : ∀ q : Nat, rg1 m7 H.size q → A q := fun q h => hFc q (va_Arg1 q h)
    refine va_calli (va_runV (As := [.int 0]) (rest := []) ⟨hx, hb, hml, hown, hts⟩ (c_X7_suspend l D m7 rm H.size 0) (cwV 1 hts gL_law_X7_suspend rfl rfl rfl (by decide +kernel) ⟨Nat.le_of_ble_eq_true rfl, Nat.le_of_ble_eq_true rfl⟩) ⟨fun a U g mk q => ⟨q.1, PX7.blind q.2⟩, va_recv hK hP (ci := 13) (q0 := 1) rfl rfl, fun U hU hW => ⟨rfl, PX7.go hPc hKc hU hW⟩⟩ rfl rfl hl.1 rfl (lv_room (Nat.le_of_ble_eq_true rfl)) dL_law_2086 ⟨Nat.le_of_ble_eq_true rfl, Nat.le_of_ble_eq_true rfl⟩) hS (fun q _ h => hFr q h) hFr (fun r6 u t H1 locs ht hvm hw hB hz1 hk1 hS => ?_)
    obtain ⟨um, eum⟩ : ∃ z, z = u := ⟨_, rfl⟩
    rw [← eum] at hB hw
    rw [ht] at hB
    have hP1 := hB
    have hD1 : va_D (va_A [(m7, .inr (13, [.ref (rm 0), .ref (rm 1), .ref (rm 2), .ref (rm 3), .ref (rm 4), .ref (rm 5), .ref (rm 6), .ref (rm 7), .ref (rm 8), .ref (rm 9), .ref (rm 10), .ref (rm 11), .ref (rm 12), .ref (rm 13), .ref (rm 14), .ref (rm 15), .int 0, .int 0, .int 1, .int 110, .int 0, .int 0, .int 0, .int 0, .int 0, .int 0, .int 0, .int 0, .int 0, .int 0, .int 0]))] H.size) [(m7, .inr (13, um))] := va_D1 (Or.inl ⟨0, _, rfl⟩)
    have hk1 : ∀ q : Nat, q < H.size → ¬ va_A [(m7, .inr (13, [.ref (rm 0), .ref (rm 1), .ref (rm 2), .ref (rm 3), .ref (rm 4), .ref (rm 5), .ref (rm 6), .ref (rm 7), .ref (rm 8), .ref (rm 9), .ref (rm 10), .ref (rm 11), .ref (rm 12), .ref (rm 13), .ref (rm 14), .ref (rm 15), .int 0, .int 0, .int 1, .int 110, .int 0, .int 0, .int 0, .int 0, .int 0, .int 0, .int 0, .int 0, .int 0, .int 0, .int 0]))] H.size q → H1[q]? = H[q]? := fun q h1 h2 => hk1 q h1 (fun h3 => h2 (va_Arg1 q h3))
    obtain ⟨hP, hD⟩ := va_join (wr := [(x, .inr (12, [.ref (rx 0), .ref (rx 1), .ref (rx 2), .ref (rx 3), .int 0, .int 0, .int 1, .int 110, .int 0, .int 115, .int 0, .int 0, .int 0, .int 0])), (o, .inl (cO, 1, .inr (.inl fo))), (o2, .inl (cD, 1, .inr (.inr (.inr (.inl fd)))))]) (w1 := [(m7, .inr (13, um))]) hP hD [1] [0, 2, 3] rfl rfl (by decide) (by decide) hk1 hFc hP1 hD1
    generalize H1 = H at hP hS ⊢
    have hP : va_P D vwCl [(x, .inr (12, [.ref (rx 0), .ref (rx 1), .ref (rx 2), .ref (rx 3), .int 0, .int 0, .int 1, .int 110, .int 0, .int 115, .int 0, .int 0, .int 0, .int 0])), (o, .inl (cO, 1, .inr (.inl fo))), (o2, .inl (cD, 1, .inr (.inr (.inr (.inl fd))))), (m7, .inr (13, um))] H := hP
    have hD : va_D A [(x, .inr (12, [.ref (rx 0), .ref (rx 1), .ref (rx 2), .ref (rx 3), .int 0, .int 0, .int 1, .int 110, .int 0, .int 115, .int 0, .int 0, .int 0, .int 0])), (o, .inl (cO, 1, .inr (.inl fo))), (o2, .inl (cD, 1, .inr (.inr (.inr (.inl fd))))), (m7, .inr (13, um))] := hD
    refine W.widen (k := 141) (n := 11929) (Nat.le_of_ble_eq_true rfl) (Nat.le_of_ble_eq_true rfl) ?_
    have hu30 := hw
    refine lv_istore (lv' := [(7, .int r6), (6, .int 1), (0, .ref b), (1, .ref x), (2, .ref m7), (3, .ref o), (4, .ref o2), (5, .int 0)]) hx hb dL_law_2089 hl (by decide) rfl (fun ls hl => ?_)
    refine lv_aload_n hx hb dL_law_2091 rfl (lv_at hl 4 rfl) ?_
    have hPc := hP.sub (ws' := [(m7, .inr (13, um))]) [3] rfl
    have hKc := hK.sub (tys' := []) [] rfl
    refine va_calli (va_runV (As := []) (rest := []) ⟨hx, hb, hml, hown, hts⟩ (c_X7_thrown l D m7 um 1 hu30 H.size) (cwV 0 hts gL_law_X7_thrown rfl rfl rfl (by decide +kernel) ⟨Nat.le_of_ble_eq_true rfl, Nat.le_of_ble_eq_true rfl⟩) ⟨fun a U g mk q => ⟨q.1, q.2.1, q.2.2.1, va_K.moved (u := U) (U := U.calling g mk a) (Vm.Alike.refl U.vm) q.2.2.2⟩, va_recv hK hP (ci := 13) (q0 := 3) rfl rfl, fun U hU hW => ⟨rfl, congrArg Array.size hU, by rw [hU]; exact hPc, va_K.moved hW.alike hKc⟩⟩ rfl rfl hl.1 rfl (lv_room (Nat.le_of_ble_eq_true rfl)) dL_law_2092 ⟨Nat.le_of_ble_eq_true rfl, Nat.le_of_ble_eq_true rfl⟩) hS (fun q h1 h2 => absurd h1 (Nat.not_lt.mpr h2)) (fun q h => hA q (Nat.le_trans hS.1 h)) (fun r7 u t H1 locs ht hvm hw hB hz1 hk1 hS => ?_)
    have hP := va_kept0 hP hk1
    generalize H1 = H at hP hS ⊢
    have hP : va_P D vwCl [(x, .inr (12, [.ref (rx 0), .ref (rx 1), .ref (rx 2), .ref (rx 3), .int 0, .int 0, .int 1, .int 110, .int 0, .int 115, .int 0, .int 0, .int 0, .int 0])), (o, .inl (cO, 1, .inr (.inl fo))), (o2, .inl (cD, 1, .inr (.inr (.inr (.inl fd))))), (m7, .inr (13, um))] H := hP
    obtain rfl : r7 = 1 := hw
    refine lv_iload hx hb dL_law_2095 (lv_at hl 1 rfl) ?_
    refine lv_icmp_eq (tgt := 2102) hx hb dL_law_2097 (by decide) (fun _ => ?_) (fun c => by first | exact absurd (by decide) c | exact absurd c (by decide))
    refine lv_iload hx hb dL_law_2102 (lv_at hl 1 rfl) ?_
    refine lv_if_ne (tgt := 2126) hx hb dL_law_2104 (by decide) (fun _ => ?_) (fun c => by first | exact absurd (by decide) c | exact absurd c (by decide))
    refine lv_goto (tgt := 3904) hx hb dL_law_2126 (by decide) ?_
    refine W.widen (k := 200) (n := 12100) (Nat.le_of_ble_eq_true rfl) (Nat.le_of_ble_eq_true rfl) ?_
    exact kk H locs ls hS (lv_sub hl [2, 7] rfl)
  · skip
    refine lv_iconst (v := 1) hx hb dL_law_2060 (by decide) ?_
    refine lv_goto (tgt := 2065) hx hb dL_law_2061 (by decide) ?_
    refine lv_aload_n hx hb dL_law_2065 rfl (lv_at hl 3 rfl) ?_
    have hPc := hP.sub (ws' := [(x, .inr (12, [.ref (rx 0), .ref (rx 1), .ref (rx 2), .ref (rx 3), .int 0, .int 0, .int 1, .int 110, .int 0, .int 115, .int 0, .int 0, .int 0, .int 0]))]) [0] rfl
    have hDc := hD.sub (ws' := [(x, .inr (12, [.ref (rx 0), .ref (rx 1), .ref (rx 2), .ref (rx 3), .int 0, .int 0, .int 1, .int 110, .int 0, .int 115, .int 0, .int 0, .int 0, .int 0]))]) [0] (by decide) rfl
    have hKc := hK.sub (tys' := []) [] rfl
    have hFc := va_free (wc := [(x, .inr (12, [.ref (rx 0), .ref (rx 1), .ref (rx 2), .ref (rx 3), .int 0, .int 0, .int 1, .int 110, .int 0, .int 115, .int 0, .int 0, .int 0, .int 0]))]) hD hS hA [0] rfl
    refine va_calli (vx_runSW (As := [.ref x, .int 1, .ref o]) (rest := []) ⟨hx, hb, hml, hown, hts⟩ (c_L_suspend l hlT D x rx o H.size 1) (vx_cwSW 3 hts gL_law_L_suspend rfl rfl rfl (by decide +kernel) ⟨Nat.le_of_ble_eq_true rfl, Nat.le_of_ble_eq_true rfl⟩) ⟨fun a U g mk q => ⟨q.1, PX6.blind q.2⟩, fun U hU hW => ⟨rfl, PX6.go hPc hKc hT hS hA hU hW⟩⟩ rfl rfl hl.1 rfl (lv_room (Nat.le_of_ble_eq_true rfl)) dL_law_2066 ⟨Nat.le_of_ble_eq_true rfl, Nat.le_of_ble_eq_true rfl⟩) hS (fun q h1 h2 => absurd h1 (Nat.not_lt.mpr h2)) (fun q h => hA q (Nat.le_trans hS.1 h)) (fun r10 u t H1 locs ht hvm hw hB hz1 hk1 hS => ?_)
    have hP := va_kept0 hP hk1
    generalize H1 = H at hP hS ⊢
    have hP : va_P D vwCl [(x, .inr (12, [.ref (rx 0), .ref (rx 1), .ref (rx 2), .ref (rx 3), .int 0, .int 0, .int 1, .int 110, .int 0, .int 115, .int 0, .int 0, .int 0, .int 0])), (m7, .inr (13, [.ref (rm 0), .ref (rm 1), .ref (rm 2), .ref (rm 3), .ref (rm 4), .ref (rm 5), .ref (rm 6), .ref (rm 7), .ref (rm 8), .ref (rm 9), .ref (rm 10), .ref (rm 11), .ref (rm 12), .ref (rm 13), .ref (rm 14), .ref (rm 15), .int 0, .int 0, .int 1, .int 110, .int 0, .int 0, .int 0, .int 0, .int 0, .int 0, .int 0, .int 0, .int 0, .int 0, .int 0])), (o, .inl (cO, 1, .inr (.inl fo))), (o2, .inl (cD, 1, .inr (.inr (.inr (.inl fd)))))] H := hP
    have hD := hD
    refine W.widen (k := 141) (n := 11929) (Nat.le_of_ble_eq_true rfl) (Nat.le_of_ble_eq_true rfl) ?_
    obtain rfl : r10 = 1 := hw
    refine lv_istore (lv' := [(6, .int 1), (0, .ref b), (1, .ref x), (2, .ref m7), (3, .ref o), (4, .ref o2), (5, .int 0)]) hx hb dL_law_2069 hl (by decide) rfl (fun ls hl => ?_)
    refine lv_aload_n hx hb dL_law_2071 rfl (lv_at hl 3 rfl) ?_
    refine lv_aload_n hx hb dL_law_2072 rfl (lv_at hl 1 rfl) ?_
    refine lv_iload hx hb dL_law_2073 (lv_at hl 6 rfl) ?_
    refine lv_iconst (v := 1) hx hb dL_law_2075 (by decide) ?_
    refine lv_iadd hx hb dL_law_2076 ?_
    refine lv_topi (fun y11 ey11 => ?_)
    obtain rfl : y11 = 1 := ey11.trans (by decide)
    refine va_sld hx hb hX hbl hbA hS (vp_in_nI (n := 1) (by decide) (by decide)) dL_law_2077 ?_
    rw [← ea1]
    refine lv_if_eq (tgt := 2085) hx hb dL_law_2078 (by decide) (fun c => by first | exact absurd c_2 c | exact absurd c c_2) (fun _ => ?_)
    refine lv_iconst (v := 1) hx hb dL_law_2081 (by decide) ?_
    refine lv_goto (tgt := 2086) hx hb dL_law_2082 (by decide) ?_
    have hPc := hP.sub (ws' := [(m7, .inr (13, [.ref (rm 0), .ref (rm 1), .ref (rm 2), .ref (rm 3), .ref (rm 4), .ref (rm 5), .ref (rm 6), .ref (rm 7), .ref (rm 8), .ref (rm 9), .ref (rm 10), .ref (rm 11), .ref (rm 12), .ref (rm 13), .ref (rm 14), .ref (rm 15), .int 0, .int 0, .int 1, .int 110, .int 0, .int 0, .int 0, .int 0, .int 0, .int 0, .int 0, .int 0, .int 0, .int 0, .int 0]))]) [1] rfl
    have hDc := hD.sub (ws' := [(m7, .inr (13, [.ref (rm 0), .ref (rm 1), .ref (rm 2), .ref (rm 3), .ref (rm 4), .ref (rm 5), .ref (rm 6), .ref (rm 7), .ref (rm 8), .ref (rm 9), .ref (rm 10), .ref (rm 11), .ref (rm 12), .ref (rm 13), .ref (rm 14), .ref (rm 15), .int 0, .int 0, .int 1, .int 110, .int 0, .int 0, .int 0, .int 0, .int 0, .int 0, .int 0, .int 0, .int 0, .int 0, .int 0]))]) [1] (by decide) rfl
    have hKc := hK.sub (tys' := []) [] rfl
    have hFc := va_free (wc := [(m7, .inr (13, [.ref (rm 0), .ref (rm 1), .ref (rm 2), .ref (rm 3), .ref (rm 4), .ref (rm 5), .ref (rm 6), .ref (rm 7), .ref (rm 8), .ref (rm 9), .ref (rm 10), .ref (rm 11), .ref (rm 12), .ref (rm 13), .ref (rm 14), .ref (rm 15), .int 0, .int 0, .int 1, .int 110, .int 0, .int 0, .int 0, .int 0, .int 0, .int 0, .int 0, .int 0, .int 0, .int 0, .int 0]))]) hD hS hA [1] rfl
    have hFr : ∀ q : Nat, rg1 m7 H.size q → A q := fun q h => hFc q (va_Arg1 q h)
    refine va_calli (va_runV (As := [.int 1]) (rest := []) ⟨hx, hb, hml, hown, hts⟩ (c_X7_suspend l D m7 rm H.size 1) (cwV 1 hts gL_law_X7_suspend rfl rfl rfl (by decide +kernel) ⟨Nat.le_of_ble_eq_true rfl, Nat.le_of_ble_eq_true rfl⟩) ⟨fun a U g mk q => ⟨q.1, PX7.blind q.2⟩, va_recv hK hP (ci := 13) (q0 := 1) rfl rfl, fun U hU hW => ⟨rfl, PX7.go hPc hKc hU hW⟩⟩ rfl rfl hl.1 rfl (lv_room (Nat.le_of_ble_eq_true rfl)) dL_law_2086 ⟨Nat.le_of_ble_eq_true rfl, Nat.le_of_ble_eq_true rfl⟩) hS (fun q _ h => hFr q h) hFr (fun r13 u t H1 locs ht hvm hw hB hz1 hk1 hS => ?_)
    obtain ⟨um, eum⟩ : ∃ z, z = u := ⟨_, rfl⟩
    rw [← eum] at hB hw
    rw [ht] at hB
    have hP1 := hB
    have hD1 : va_D (va_A [(m7, .inr (13, [.ref (rm 0), .ref (rm 1), .ref (rm 2), .ref (rm 3), .ref (rm 4), .ref (rm 5), .ref (rm 6), .ref (rm 7), .ref (rm 8), .ref (rm 9), .ref (rm 10), .ref (rm 11), .ref (rm 12), .ref (rm 13), .ref (rm 14), .ref (rm 15), .int 0, .int 0, .int 1, .int 110, .int 0, .int 0, .int 0, .int 0, .int 0, .int 0, .int 0, .int 0, .int 0, .int 0, .int 0]))] H.size) [(m7, .inr (13, um))] := va_D1 (Or.inl ⟨0, _, rfl⟩)
    have hk1 : ∀ q : Nat, q < H.size → ¬ va_A [(m7, .inr (13, [.ref (rm 0), .ref (rm 1), .ref (rm 2), .ref (rm 3), .ref (rm 4), .ref (rm 5), .ref (rm 6), .ref (rm 7), .ref (rm 8), .ref (rm 9), .ref (rm 10), .ref (rm 11), .ref (rm 12), .ref (rm 13), .ref (rm 14), .ref (rm 15), .int 0, .int 0, .int 1, .int 110, .int 0, .int 0, .int 0, .int 0, .int 0, .int 0, .int 0, .int 0, .int 0, .int 0, .int 0]))] H.size q → H1[q]? = H[q]? := fun q h1 h2 => hk1 q h1 (fun h3 => h2 (va_Arg1 q h3))
    obtain ⟨hP, hD⟩ := va_join (wr := [(x, .inr (12, [.ref (rx 0), .ref (rx 1), .ref (rx 2), .ref (rx 3), .int 0, .int 0, .int 1, .int 110, .int 0, .int 115, .int 0, .int 0, .int 0, .int 0])), (o, .inl (cO, 1, .inr (.inl fo))), (o2, .inl (cD, 1, .inr (.inr (.inr (.inl fd)))))]) (w1 := [(m7, .inr (13, um))]) hP hD [1] [0, 2, 3] rfl rfl (by decide) (by decide) hk1 hFc hP1 hD1
    generalize H1 = H at hP hS ⊢
    have hP : va_P D vwCl [(x, .inr (12, [.ref (rx 0), .ref (rx 1), .ref (rx 2), .ref (rx 3), .int 0, .int 0, .int 1, .int 110, .int 0, .int 115, .int 0, .int 0, .int 0, .int 0])), (o, .inl (cO, 1, .inr (.inl fo))), (o2, .inl (cD, 1, .inr (.inr (.inr (.inl fd))))), (m7, .inr (13, um))] H := hP
    have hD : va_D A [(x, .inr (12, [.ref (rx 0), .ref (rx 1), .ref (rx 2), .ref (rx 3), .int 0, .int 0, .int 1, .int 110, .int 0, .int 115, .int 0, .int 0, .int 0, .int 0])), (o, .inl (cO, 1, .inr (.inl fo))), (o2, .inl (cD, 1, .inr (.inr (.inr (.inl fd))))), (m7, .inr (13, um))] := hD
    refine W.widen (k := 141) (n := 11929) (Nat.le_of_ble_eq_true rfl) (Nat.le_of_ble_eq_true rfl) ?_
    have hu30 := hw
    refine lv_istore (lv' := [(7, .int r13), (6, .int 1), (0, .ref b), (1, .ref x), (2, .ref m7), (3, .ref o), (4, .ref o2), (5, .int 0)]) hx hb dL_law_2089 hl (by decide) rfl (fun ls hl => ?_)
    refine lv_aload_n hx hb dL_law_2091 rfl (lv_at hl 4 rfl) ?_
    have hPc := hP.sub (ws' := [(m7, .inr (13, um))]) [3] rfl
    have hKc := hK.sub (tys' := []) [] rfl
    refine va_calli (va_runV (As := []) (rest := []) ⟨hx, hb, hml, hown, hts⟩ (c_X7_thrown l D m7 um 1 hu30 H.size) (cwV 0 hts gL_law_X7_thrown rfl rfl rfl (by decide +kernel) ⟨Nat.le_of_ble_eq_true rfl, Nat.le_of_ble_eq_true rfl⟩) ⟨fun a U g mk q => ⟨q.1, q.2.1, q.2.2.1, va_K.moved (u := U) (U := U.calling g mk a) (Vm.Alike.refl U.vm) q.2.2.2⟩, va_recv hK hP (ci := 13) (q0 := 3) rfl rfl, fun U hU hW => ⟨rfl, congrArg Array.size hU, by rw [hU]; exact hPc, va_K.moved hW.alike hKc⟩⟩ rfl rfl hl.1 rfl (lv_room (Nat.le_of_ble_eq_true rfl)) dL_law_2092 ⟨Nat.le_of_ble_eq_true rfl, Nat.le_of_ble_eq_true rfl⟩) hS (fun q h1 h2 => absurd h1 (Nat.not_lt.mpr h2)) (fun q h => hA q (Nat.le_trans hS.1 h)) (fun r14 u t H1 locs ht hvm hw hB hz1 hk1 hS => ?_)
    have hP := va_kept0 hP hk1
    generalize H1 = H at hP hS ⊢
    have hP : va_P D vwCl [(x, .inr (12, [.ref (rx 0), .ref (rx 1), .ref (rx 2), .ref (rx 3), .int 0, .int 0, .int 1, .int 110, .int 0, .int 115, .int 0, .int 0, .int 0, .int 0])), (o, .inl (cO, 1, .inr (.inl fo))), (o2, .inl (cD, 1, .inr (.inr (.inr (.inl fd))))), (m7, .inr (13, um))] H := hP
    obtain rfl : r14 = 1 := hw
    refine lv_iload hx hb dL_law_2095 (lv_at hl 1 rfl) ?_
    refine lv_icmp_eq (tgt := 2102) hx hb dL_law_2097 (by decide) (fun _ => ?_) (fun c => by first | exact absurd (by decide) c | exact absurd c (by decide))
    refine lv_iload hx hb dL_law_2102 (lv_at hl 1 rfl) ?_
    refine lv_if_ne (tgt := 2126) hx hb dL_law_2104 (by decide) (fun _ => ?_) (fun c => by first | exact absurd (by decide) c | exact absurd c (by decide))
    refine lv_goto (tgt := 3904) hx hb dL_law_2126 (by decide) ?_
    refine W.widen (k := 200) (n := 12100) (Nat.le_of_ble_eq_true rfl) (Nat.le_of_ble_eq_true rfl) ?_
    exact kk H locs ls hS (lv_sub hl [2, 7] rfl)
set_option maxHeartbeats 4000000 in
set_option maxRecDepth 100000 in
theorem law_c26 (l : Launch) (hlT : l.stackTraces = false) {p : Program} {e : Env} {s : State} {m : MethodId} {below : List Frame} {meth : Method} {c : Code} {Q : State → Prop} {D : va_G} {A : Nat → Prop} {b : Nat} {xs : Nat → Int32} {x m7 o o2 : Nat} {rx rm : Nat → Nat} {cO cD : ClassId} {fo : Nat → Int64} {fd : Nat → UInt64} {H : Heap} {locs : List Loc} {ls : Array Slot} (hx : p.tables.exec = Jvm.exec) (hb : c.code = cL_law) (hml : c.maxLocals = 9) (hown : s.vm.findClass RL = some m.cls) (hts : ∀ w ∈ wsL_law, w.before #[Value.ref b] s = true) (hX : va_X b 7 xs s s.heap) (hbl : b < s.heap.size) (hbA : ¬ A b) (hA : ∀ q : Nat, s.heap.size ≤ q → A q) (hT : tf A s s.heap)
    (hK : va_K D vwCl [(cO, .long), (cD, .double)] s) (hP : va_P D vwCl [(x, .inr (12, [.ref (rx 0), .ref (rx 1), .ref (rx 2), .ref (rx 3), .int 0, .int 0, .int 1, .int 110, .int 0, .int 115, .int 0, .int 0, .int 0, .int 0])), (m7, .inr (13, [.ref (rm 0), .ref (rm 1), .ref (rm 2), .ref (rm 3), .ref (rm 4), .ref (rm 5), .ref (rm 6), .ref (rm 7), .ref (rm 8), .ref (rm 9), .ref (rm 10), .ref (rm 11), .ref (rm 12), .ref (rm 13), .ref (rm 14), .ref (rm 15), .int 0, .int 0, .int 1, .int 110, .int 0, .int 0, .int 0, .int 0, .int 0, .int 0, .int 0, .int 0, .int 0, .int 0, .int 0])), (o, .inl (cO, 1, .inr (.inl fo))), (o2, .inl (cD, 1, .inr (.inr (.inr (.inl fd)))))] H) (hD : va_D A [(x, .inr (12, [.ref (rx 0), .ref (rx 1), .ref (rx 2), .ref (rx 3), .int 0, .int 0, .int 1, .int 110, .int 0, .int 115, .int 0, .int 0, .int 0, .int 0])), (m7, .inr (13, [.ref (rm 0), .ref (rm 1), .ref (rm 2), .ref (rm 3), .ref (rm 4), .ref (rm 5), .ref (rm 6), .ref (rm 7), .ref (rm 8), .ref (rm 9), .ref (rm 10), .ref (rm 11), .ref (rm 12), .ref (rm 13), .ref (rm 14), .ref (rm 15), .int 0, .int 0, .int 1, .int 110, .int 0, .int 0, .int 0, .int 0, .int 0, .int 0, .int 0, .int 0, .int 0, .int 0, .int 0])), (o, .inl (cO, 1, .inr (.inl fo))), (o2, .inl (cD, 1, .inr (.inr (.inr (.inl fd)))))]) (hS : va_S A s.heap H locs) (hl : lv_has ls 9 [(0, .ref b), (1, .ref x), (2, .ref m7), (3, .ref o), (4, .ref o2), (5, .int 0)])
    (kk : ∀ (H : Heap) (locs : List Loc) (ls : Array Slot), va_S A s.heap H locs → lv_has ls 9 [(0, .ref b), (5, .int 0)] → W p l e room_1 s m #[Value.ref b] below meth c H locs 200 12100 Q (F0 m 3904 ls [])) :
    W p l e room_1 s m #[Value.ref b] below meth c H locs 140 11923 Q (F0 m 2129 ls []) := by
  obtain ⟨a1, ea1⟩ : ∃ z, z = xs (1 : Int32).toNatClampNeg := ⟨_, rfl⟩
  obtain ⟨a2, ea2⟩ : ∃ z, z = xs (2 : Int32).toNatClampNeg := ⟨_, rfl⟩
  obtain ⟨a3, ea3⟩ : ∃ z, z = xs (3 : Int32).toNatClampNeg := ⟨_, rfl⟩
  obtain ⟨a4, ea4⟩ : ∃ z, z = xs (4 : Int32).toNatClampNeg := ⟨_, rfl⟩
  obtain ⟨a5, ea5⟩ : ∃ z, z = xs (5 : Int32).toNatClampNeg := ⟨_, rfl⟩
  obtain ⟨a6, ea6⟩ : ∃ z, z = xs (6 : Int32).toNatClampNeg := ⟨_, rfl⟩
  refine lv_aload_n hx hb dL_law_2129 rfl (lv_at hl 1 rfl) ?_
  refine lv_aload_n hx hb dL_law_2130 rfl (lv_at hl 0 rfl) ?_
  refine lv_iload hx hb dL_law_2131 (lv_at hl 5 rfl) ?_
  refine lv_iconst (v := 1) hx hb dL_law_2133 (by decide) ?_
  refine lv_iadd hx hb dL_law_2134 ?_
  refine lv_topi (fun y1 ey1 => ?_)
  obtain rfl : y1 = 1 := ey1.trans (by decide)
  refine va_sld hx hb hX hbl hbA hS (vp_in_nI (n := 1) (by decide) (by decide)) dL_law_2135 ?_
  rw [← ea1]
  refine lv_aload_n hx hb dL_law_2136 rfl (lv_at hl 3 rfl) ?_
  have hPc := hP.sub (ws' := [(x, .inr (12, [.ref (rx 0), .ref (rx 1), .ref (rx 2), .ref (rx 3), .int 0, .int 0, .int 1, .int 110, .int 0, .int 115, .int 0, .int 0, .int 0, .int 0]))]) [0] rfl
  have hDc := hD.sub (ws' := [(x, .inr (12, [.ref (rx 0), .ref (rx 1), .ref (rx 2), .ref (rx 3), .int 0, .int 0, .int 1, .int 110, .int 0, .int 115, .int 0, .int 0, .int 0, .int 0]))]) [0] (by decide) rfl
  have hKc := hK.sub (tys' := []) [] rfl
  have hFc := va_free (wc := [(x, .inr (12, [.ref (rx 0), .ref (rx 1), .ref (rx 2), .ref (rx 3), .int 0, .int 0, .int 1, .int 110, .int 0, .int 115, .int 0, .int 0, .int 0, .int 0]))]) hD hS hA [0] rfl
  refine va_calli (vx_runSW (As := [.ref x, .int a1, .ref o]) (rest := []) ⟨hx, hb, hml, hown, hts⟩ (c_L_cancel l hlT D x rx o H.size a1) (vx_cwSW 3 hts gL_law_L_cancel rfl rfl rfl (by decide +kernel) ⟨Nat.le_of_ble_eq_true rfl, Nat.le_of_ble_eq_true rfl⟩) ⟨fun a U g mk q => ⟨q.1, PX6.blind q.2⟩, fun U hU hW => ⟨rfl, PX6.go hPc hKc hT hS hA hU hW⟩⟩ rfl rfl hl.1 rfl (lv_room (Nat.le_of_ble_eq_true rfl)) dL_law_2137 ⟨Nat.le_of_ble_eq_true rfl, Nat.le_of_ble_eq_true rfl⟩) hS (fun q h1 h2 => absurd h1 (Nat.not_lt.mpr h2)) (fun q h => hA q (Nat.le_trans hS.1 h)) (fun r2 u t H1 locs ht hvm hw hB hz1 hk1 hS => ?_)
  have hP := va_kept0 hP hk1
  generalize H1 = H at hP hS ⊢
  have hP : va_P D vwCl [(x, .inr (12, [.ref (rx 0), .ref (rx 1), .ref (rx 2), .ref (rx 3), .int 0, .int 0, .int 1, .int 110, .int 0, .int 115, .int 0, .int 0, .int 0, .int 0])), (m7, .inr (13, [.ref (rm 0), .ref (rm 1), .ref (rm 2), .ref (rm 3), .ref (rm 4), .ref (rm 5), .ref (rm 6), .ref (rm 7), .ref (rm 8), .ref (rm 9), .ref (rm 10), .ref (rm 11), .ref (rm 12), .ref (rm 13), .ref (rm 14), .ref (rm 15), .int 0, .int 0, .int 1, .int 110, .int 0, .int 0, .int 0, .int 0, .int 0, .int 0, .int 0, .int 0, .int 0, .int 0, .int 0])), (o, .inl (cO, 1, .inr (.inl fo))), (o2, .inl (cD, 1, .inr (.inr (.inr (.inl fd)))))] H := hP
  have hD := hD
  refine W.widen (k := 141) (n := 11929) (Nat.le_of_ble_eq_true rfl) (Nat.le_of_ble_eq_true rfl) ?_
  obtain rfl : r2 = 1 := hw
  refine lv_istore (lv' := [(6, .int 1), (0, .ref b), (1, .ref x), (2, .ref m7), (3, .ref o), (4, .ref o2), (5, .int 0)]) hx hb dL_law_2140 hl (by decide) rfl (fun ls hl => ?_)
  refine lv_aload_n hx hb dL_law_2142 rfl (lv_at hl 3 rfl) ?_
  refine lv_aload_n hx hb dL_law_2143 rfl (lv_at hl 1 rfl) ?_
  refine lv_iload hx hb dL_law_2144 (lv_at hl 6 rfl) ?_
  refine lv_iconst (v := 1) hx hb dL_law_2146 (by decide) ?_
  refine lv_iadd hx hb dL_law_2147 ?_
  refine lv_topi (fun y3 ey3 => ?_)
  obtain rfl : y3 = 1 := ey3.trans (by decide)
  refine va_sld hx hb hX hbl hbA hS (vp_in_nI (n := 1) (by decide) (by decide)) dL_law_2148 ?_
  rw [← ea1]
  have hPc := hP.sub (ws' := [(m7, .inr (13, [.ref (rm 0), .ref (rm 1), .ref (rm 2), .ref (rm 3), .ref (rm 4), .ref (rm 5), .ref (rm 6), .ref (rm 7), .ref (rm 8), .ref (rm 9), .ref (rm 10), .ref (rm 11), .ref (rm 12), .ref (rm 13), .ref (rm 14), .ref (rm 15), .int 0, .int 0, .int 1, .int 110, .int 0, .int 0, .int 0, .int 0, .int 0, .int 0, .int 0, .int 0, .int 0, .int 0, .int 0]))]) [1] rfl
  have hDc := hD.sub (ws' := [(m7, .inr (13, [.ref (rm 0), .ref (rm 1), .ref (rm 2), .ref (rm 3), .ref (rm 4), .ref (rm 5), .ref (rm 6), .ref (rm 7), .ref (rm 8), .ref (rm 9), .ref (rm 10), .ref (rm 11), .ref (rm 12), .ref (rm 13), .ref (rm 14), .ref (rm 15), .int 0, .int 0, .int 1, .int 110, .int 0, .int 0, .int 0, .int 0, .int 0, .int 0, .int 0, .int 0, .int 0, .int 0, .int 0]))]) [1] (by decide) rfl
  have hKc := hK.sub (tys' := []) [] rfl
  have hFc := va_free (wc := [(m7, .inr (13, [.ref (rm 0), .ref (rm 1), .ref (rm 2), .ref (rm 3), .ref (rm 4), .ref (rm 5), .ref (rm 6), .ref (rm 7), .ref (rm 8), .ref (rm 9), .ref (rm 10), .ref (rm 11), .ref (rm 12), .ref (rm 13), .ref (rm 14), .ref (rm 15), .int 0, .int 0, .int 1, .int 110, .int 0, .int 0, .int 0, .int 0, .int 0, .int 0, .int 0, .int 0, .int 0, .int 0, .int 0]))]) hD hS hA [1] rfl
  have hFr : ∀ q : Nat, rg1 m7 H.size q → A q := fun q h => hFc q (va_Arg1 q h)
  refine va_calli (va_runV (As := [.int a1]) (rest := []) ⟨hx, hb, hml, hown, hts⟩ (c_X7_cancel l D m7 rm H.size a1) (cwV 1 hts gL_law_X7_cancel rfl rfl rfl (by decide +kernel) ⟨Nat.le_of_ble_eq_true rfl, Nat.le_of_ble_eq_true rfl⟩) ⟨fun a U g mk q => ⟨q.1, PX7.blind q.2⟩, va_recv hK hP (ci := 13) (q0 := 1) rfl rfl, fun U hU hW => ⟨rfl, PX7.go hPc hKc hU hW⟩⟩ rfl rfl hl.1 rfl (lv_room (Nat.le_of_ble_eq_true rfl)) dL_law_2149 ⟨Nat.le_of_ble_eq_true rfl, Nat.le_of_ble_eq_true rfl⟩) hS (fun q _ h => hFr q h) hFr (fun r4 u t H1 locs ht hvm hw hB hz1 hk1 hS => ?_)
  obtain ⟨um, eum⟩ : ∃ z, z = u := ⟨_, rfl⟩
  rw [← eum] at hB hw
  rw [ht] at hB
  have hP1 := hB
  have hD1 : va_D (va_A [(m7, .inr (13, [.ref (rm 0), .ref (rm 1), .ref (rm 2), .ref (rm 3), .ref (rm 4), .ref (rm 5), .ref (rm 6), .ref (rm 7), .ref (rm 8), .ref (rm 9), .ref (rm 10), .ref (rm 11), .ref (rm 12), .ref (rm 13), .ref (rm 14), .ref (rm 15), .int 0, .int 0, .int 1, .int 110, .int 0, .int 0, .int 0, .int 0, .int 0, .int 0, .int 0, .int 0, .int 0, .int 0, .int 0]))] H.size) [(m7, .inr (13, um))] := va_D1 (Or.inl ⟨0, _, rfl⟩)
  have hk1 : ∀ q : Nat, q < H.size → ¬ va_A [(m7, .inr (13, [.ref (rm 0), .ref (rm 1), .ref (rm 2), .ref (rm 3), .ref (rm 4), .ref (rm 5), .ref (rm 6), .ref (rm 7), .ref (rm 8), .ref (rm 9), .ref (rm 10), .ref (rm 11), .ref (rm 12), .ref (rm 13), .ref (rm 14), .ref (rm 15), .int 0, .int 0, .int 1, .int 110, .int 0, .int 0, .int 0, .int 0, .int 0, .int 0, .int 0, .int 0, .int 0, .int 0, .int 0]))] H.size q → H1[q]? = H[q]? := fun q h1 h2 => hk1 q h1 (fun h3 => h2 (va_Arg1 q h3))
  obtain ⟨hP, hD⟩ := va_join (wr := [(x, .inr (12, [.ref (rx 0), .ref (rx 1), .ref (rx 2), .ref (rx 3), .int 0, .int 0, .int 1, .int 110, .int 0, .int 115, .int 0, .int 0, .int 0, .int 0])), (o, .inl (cO, 1, .inr (.inl fo))), (o2, .inl (cD, 1, .inr (.inr (.inr (.inl fd)))))]) (w1 := [(m7, .inr (13, um))]) hP hD [1] [0, 2, 3] rfl rfl (by decide) (by decide) hk1 hFc hP1 hD1
  generalize H1 = H at hP hS ⊢
  have hP : va_P D vwCl [(x, .inr (12, [.ref (rx 0), .ref (rx 1), .ref (rx 2), .ref (rx 3), .int 0, .int 0, .int 1, .int 110, .int 0, .int 115, .int 0, .int 0, .int 0, .int 0])), (o, .inl (cO, 1, .inr (.inl fo))), (o2, .inl (cD, 1, .inr (.inr (.inr (.inl fd))))), (m7, .inr (13, um))] H := hP
  have hD : va_D A [(x, .inr (12, [.ref (rx 0), .ref (rx 1), .ref (rx 2), .ref (rx 3), .int 0, .int 0, .int 1, .int 110, .int 0, .int 115, .int 0, .int 0, .int 0, .int 0])), (o, .inl (cO, 1, .inr (.inl fo))), (o2, .inl (cD, 1, .inr (.inr (.inr (.inl fd))))), (m7, .inr (13, um))] := hD
  refine W.widen (k := 141) (n := 11929) (Nat.le_of_ble_eq_true rfl) (Nat.le_of_ble_eq_true rfl) ?_
  have hu30 := hw
  refine lv_istore (lv' := [(7, .int r4), (6, .int 1), (0, .ref b), (1, .ref x), (2, .ref m7), (3, .ref o), (4, .ref o2), (5, .int 0)]) hx hb dL_law_2152 hl (by decide) rfl (fun ls hl => ?_)
  refine lv_aload_n hx hb dL_law_2154 rfl (lv_at hl 4 rfl) ?_
  have hPc := hP.sub (ws' := [(m7, .inr (13, um))]) [3] rfl
  have hKc := hK.sub (tys' := []) [] rfl
  refine va_calli (va_runV (As := []) (rest := []) ⟨hx, hb, hml, hown, hts⟩ (c_X7_thrown l D m7 um 1 hu30 H.size) (cwV 0 hts gL_law_X7_thrown rfl rfl rfl (by decide +kernel) ⟨Nat.le_of_ble_eq_true rfl, Nat.le_of_ble_eq_true rfl⟩) ⟨fun a U g mk q => ⟨q.1, q.2.1, q.2.2.1, va_K.moved (u := U) (U := U.calling g mk a) (Vm.Alike.refl U.vm) q.2.2.2⟩, va_recv hK hP (ci := 13) (q0 := 3) rfl rfl, fun U hU hW => ⟨rfl, congrArg Array.size hU, by rw [hU]; exact hPc, va_K.moved hW.alike hKc⟩⟩ rfl rfl hl.1 rfl (lv_room (Nat.le_of_ble_eq_true rfl)) dL_law_2155 ⟨Nat.le_of_ble_eq_true rfl, Nat.le_of_ble_eq_true rfl⟩) hS (fun q h1 h2 => absurd h1 (Nat.not_lt.mpr h2)) (fun q h => hA q (Nat.le_trans hS.1 h)) (fun r5 u t H1 locs ht hvm hw hB hz1 hk1 hS => ?_)
  have hP := va_kept0 hP hk1
  generalize H1 = H at hP hS ⊢
  have hP : va_P D vwCl [(x, .inr (12, [.ref (rx 0), .ref (rx 1), .ref (rx 2), .ref (rx 3), .int 0, .int 0, .int 1, .int 110, .int 0, .int 115, .int 0, .int 0, .int 0, .int 0])), (o, .inl (cO, 1, .inr (.inl fo))), (o2, .inl (cD, 1, .inr (.inr (.inr (.inl fd))))), (m7, .inr (13, um))] H := hP
  obtain rfl : r5 = 1 := hw
  refine lv_iload hx hb dL_law_2158 (lv_at hl 1 rfl) ?_
  refine lv_icmp_eq (tgt := 2165) hx hb dL_law_2160 (by decide) (fun _ => ?_) (fun c => by first | exact absurd (by decide) c | exact absurd c (by decide))
  refine lv_iload hx hb dL_law_2165 (lv_at hl 1 rfl) ?_
  refine lv_if_ne (tgt := 2189) hx hb dL_law_2167 (by decide) (fun _ => ?_) (fun c => by first | exact absurd (by decide) c | exact absurd c (by decide))
  refine lv_goto (tgt := 3904) hx hb dL_law_2189 (by decide) ?_
  refine W.widen (k := 200) (n := 12100) (Nat.le_of_ble_eq_true rfl) (Nat.le_of_ble_eq_true rfl) ?_
  exact kk H locs ls hS (lv_sub hl [2, 7] rfl)
set_option maxHeartbeats 4000000 in
set_option maxRecDepth 100000 in
theorem law_c27 (l : Launch) (hlT : l.stackTraces = false) {p : Program} {e : Env} {s : State} {m : MethodId} {below : List Frame} {meth : Method} {c : Code} {Q : State → Prop} {D : va_G} {A : Nat → Prop} {b : Nat} {xs : Nat → Int32} {x m7 o o2 : Nat} {rx rm : Nat → Nat} {cO cD : ClassId} {fo : Nat → Int64} {fd : Nat → UInt64} {H : Heap} {locs : List Loc} {ls : Array Slot} (hx : p.tables.exec = Jvm.exec) (hb : c.code = cL_law) (hml : c.maxLocals = 9) (hown : s.vm.findClass RL = some m.cls) (hts : ∀ w ∈ wsL_law, w.before #[Value.ref b] s = true) (hX : va_X b 7 xs s s.heap) (hbl : b < s.heap.size) (hbA : ¬ A b) (hA : ∀ q : Nat, s.heap.size ≤ q → A q) (hT : tf A s s.heap)
    (hK : va_K D vwCl [(cO, .long), (cD, .double)] s) (hP : va_P D vwCl [(x, .inr (12, [.ref (rx 0), .ref (rx 1), .ref (rx 2), .ref (rx 3), .int 0, .int 0, .int 1, .int 110, .int 0, .int 115, .int 0, .int 0, .int 0, .int 0])), (m7, .inr (13, [.ref (rm 0), .ref (rm 1), .ref (rm 2), .ref (rm 3), .ref (rm 4), .ref (rm 5), .ref (rm 6), .ref (rm 7), .ref (rm 8), .ref (rm 9), .ref (rm 10), .ref (rm 11), .ref (rm 12), .ref (rm 13), .ref (rm 14), .ref (rm 15), .int 0, .int 0, .int 1, .int 110, .int 0, .int 0, .int 0, .int 0, .int 0, .int 0, .int 0, .int 0, .int 0, .int 0, .int 0])), (o, .inl (cO, 1, .inr (.inl fo))), (o2, .inl (cD, 1, .inr (.inr (.inr (.inl fd)))))] H) (hD : va_D A [(x, .inr (12, [.ref (rx 0), .ref (rx 1), .ref (rx 2), .ref (rx 3), .int 0, .int 0, .int 1, .int 110, .int 0, .int 115, .int 0, .int 0, .int 0, .int 0])), (m7, .inr (13, [.ref (rm 0), .ref (rm 1), .ref (rm 2), .ref (rm 3), .ref (rm 4), .ref (rm 5), .ref (rm 6), .ref (rm 7), .ref (rm 8), .ref (rm 9), .ref (rm 10), .ref (rm 11), .ref (rm 12), .ref (rm 13), .ref (rm 14), .ref (rm 15), .int 0, .int 0, .int 1, .int 110, .int 0, .int 0, .int 0, .int 0, .int 0, .int 0, .int 0, .int 0, .int 0, .int 0, .int 0])), (o, .inl (cO, 1, .inr (.inl fo))), (o2, .inl (cD, 1, .inr (.inr (.inr (.inl fd)))))]) (hS : va_S A s.heap H locs) (hl : lv_has ls 9 [(0, .ref b), (1, .ref x), (2, .ref m7), (3, .ref o), (4, .ref o2), (5, .int 0)])
    (kk : ∀ (H : Heap) (locs : List Loc) (ls : Array Slot), va_S A s.heap H locs → lv_has ls 9 [(0, .ref b), (5, .int 0)] → W p l e room_1 s m #[Value.ref b] below meth c H locs 200 12100 Q (F0 m 3904 ls [])) :
    W p l e room_1 s m #[Value.ref b] below meth c H locs 140 11923 Q (F0 m 2192 ls []) := by
  obtain ⟨a1, ea1⟩ : ∃ z, z = xs (1 : Int32).toNatClampNeg := ⟨_, rfl⟩
  obtain ⟨a2, ea2⟩ : ∃ z, z = xs (2 : Int32).toNatClampNeg := ⟨_, rfl⟩
  obtain ⟨a3, ea3⟩ : ∃ z, z = xs (3 : Int32).toNatClampNeg := ⟨_, rfl⟩
  obtain ⟨a4, ea4⟩ : ∃ z, z = xs (4 : Int32).toNatClampNeg := ⟨_, rfl⟩
  obtain ⟨a5, ea5⟩ : ∃ z, z = xs (5 : Int32).toNatClampNeg := ⟨_, rfl⟩
  obtain ⟨a6, ea6⟩ : ∃ z, z = xs (6 : Int32).toNatClampNeg := ⟨_, rfl⟩
  refine lv_aload_n hx hb dL_law_2192 rfl (lv_at hl 1 rfl) ?_
  refine lv_aload_n hx hb dL_law_2193 rfl (lv_at hl 0 rfl) ?_
  refine lv_iload hx hb dL_law_2194 (lv_at hl 5 rfl) ?_
  refine lv_iconst (v := 1) hx hb dL_law_2196 (by decide) ?_
  refine lv_iadd hx hb dL_law_2197 ?_
  refine lv_topi (fun y1 ey1 => ?_)
  obtain rfl : y1 = 1 := ey1.trans (by decide)
  refine va_sld hx hb hX hbl hbA hS (vp_in_nI (n := 1) (by decide) (by decide)) dL_law_2198 ?_
  rw [← ea1]
  refine lv_aload_n hx hb dL_law_2199 rfl (lv_at hl 0 rfl) ?_
  refine lv_iload hx hb dL_law_2200 (lv_at hl 5 rfl) ?_
  refine lv_iconst (v := 2) hx hb dL_law_2202 (by decide) ?_
  refine lv_iadd hx hb dL_law_2203 ?_
  refine lv_topi (fun y2 ey2 => ?_)
  obtain rfl : y2 = 2 := ey2.trans (by decide)
  refine va_sld hx hb hX hbl hbA hS (vp_in_nI (n := 2) (by decide) (by decide)) dL_law_2204 ?_
  rw [← ea2]
  refine lv_i2c hx hb dL_law_2205 rfl ?_
  refine lv_aload_n hx hb dL_law_2206 rfl (lv_at hl 3 rfl) ?_
  have hPc := hP.sub (ws' := [(x, .inr (12, [.ref (rx 0), .ref (rx 1), .ref (rx 2), .ref (rx 3), .int 0, .int 0, .int 1, .int 110, .int 0, .int 115, .int 0, .int 0, .int 0, .int 0]))]) [0] rfl
  have hDc := hD.sub (ws' := [(x, .inr (12, [.ref (rx 0), .ref (rx 1), .ref (rx 2), .ref (rx 3), .int 0, .int 0, .int 1, .int 110, .int 0, .int 115, .int 0, .int 0, .int 0, .int 0]))]) [0] (by decide) rfl
  have hKc := hK.sub (tys' := []) [] rfl
  have hFc := va_free (wc := [(x, .inr (12, [.ref (rx 0), .ref (rx 1), .ref (rx 2), .ref (rx 3), .int 0, .int 0, .int 1, .int 110, .int 0, .int 115, .int 0, .int 0, .int 0, .int 0]))]) hD hS hA [0] rfl
  refine va_calli (vx_runSW (As := [.ref x, .int a1, .int ((a2.toUInt32 % 65536).toInt32), .ref o]) (rest := []) ⟨hx, hb, hml, hown, hts⟩ (c_L_concede l hlT D x rx o H.size a1 ((a2.toUInt32 % 65536).toInt32)) (vx_cwSW 4 hts gL_law_L_concede rfl rfl rfl (by decide +kernel) ⟨Nat.le_of_ble_eq_true rfl, Nat.le_of_ble_eq_true rfl⟩) ⟨fun a U g mk q => ⟨q.1, PX6.blind q.2⟩, fun U hU hW => ⟨rfl, PX6.go hPc hKc hT hS hA hU hW⟩⟩ rfl rfl hl.1 rfl (lv_room (Nat.le_of_ble_eq_true rfl)) dL_law_2207 ⟨Nat.le_of_ble_eq_true rfl, Nat.le_of_ble_eq_true rfl⟩) hS (fun q h1 h2 => absurd h1 (Nat.not_lt.mpr h2)) (fun q h => hA q (Nat.le_trans hS.1 h)) (fun r4 u t H1 locs ht hvm hw hB hz1 hk1 hS => ?_)
  have hP := va_kept0 hP hk1
  generalize H1 = H at hP hS ⊢
  have hP : va_P D vwCl [(x, .inr (12, [.ref (rx 0), .ref (rx 1), .ref (rx 2), .ref (rx 3), .int 0, .int 0, .int 1, .int 110, .int 0, .int 115, .int 0, .int 0, .int 0, .int 0])), (m7, .inr (13, [.ref (rm 0), .ref (rm 1), .ref (rm 2), .ref (rm 3), .ref (rm 4), .ref (rm 5), .ref (rm 6), .ref (rm 7), .ref (rm 8), .ref (rm 9), .ref (rm 10), .ref (rm 11), .ref (rm 12), .ref (rm 13), .ref (rm 14), .ref (rm 15), .int 0, .int 0, .int 1, .int 110, .int 0, .int 0, .int 0, .int 0, .int 0, .int 0, .int 0, .int 0, .int 0, .int 0, .int 0])), (o, .inl (cO, 1, .inr (.inl fo))), (o2, .inl (cD, 1, .inr (.inr (.inr (.inl fd)))))] H := hP
  have hD := hD
  refine W.widen (k := 141) (n := 11929) (Nat.le_of_ble_eq_true rfl) (Nat.le_of_ble_eq_true rfl) ?_
  obtain rfl : r4 = 1 := hw
  refine lv_istore (lv' := [(6, .int 1), (0, .ref b), (1, .ref x), (2, .ref m7), (3, .ref o), (4, .ref o2), (5, .int 0)]) hx hb dL_law_2210 hl (by decide) rfl (fun ls hl => ?_)
  refine lv_aload_n hx hb dL_law_2212 rfl (lv_at hl 3 rfl) ?_
  refine lv_aload_n hx hb dL_law_2213 rfl (lv_at hl 1 rfl) ?_
  refine lv_iload hx hb dL_law_2214 (lv_at hl 6 rfl) ?_
  refine lv_iconst (v := 1) hx hb dL_law_2216 (by decide) ?_
  refine lv_iadd hx hb dL_law_2217 ?_
  refine lv_topi (fun y5 ey5 => ?_)
  obtain rfl : y5 = 1 := ey5.trans (by decide)
  refine va_sld hx hb hX hbl hbA hS (vp_in_nI (n := 1) (by decide) (by decide)) dL_law_2218 ?_
  rw [← ea1]
  refine lv_aload_n hx hb dL_law_2219 rfl (lv_at hl 1 rfl) ?_
  refine lv_iload hx hb dL_law_2220 (lv_at hl 6 rfl) ?_
  refine lv_iconst (v := 2) hx hb dL_law_2222 (by decide) ?_
  refine lv_iadd hx hb dL_law_2223 ?_
  refine lv_topi (fun y6 ey6 => ?_)
  obtain rfl : y6 = 2 := ey6.trans (by decide)
  refine va_sld hx hb hX hbl hbA hS (vp_in_nI (n := 2) (by decide) (by decide)) dL_law_2224 ?_
  rw [← ea2]
  refine lv_i2c hx hb dL_law_2225 rfl ?_
  have hPc := hP.sub (ws' := [(m7, .inr (13, [.ref (rm 0), .ref (rm 1), .ref (rm 2), .ref (rm 3), .ref (rm 4), .ref (rm 5), .ref (rm 6), .ref (rm 7), .ref (rm 8), .ref (rm 9), .ref (rm 10), .ref (rm 11), .ref (rm 12), .ref (rm 13), .ref (rm 14), .ref (rm 15), .int 0, .int 0, .int 1, .int 110, .int 0, .int 0, .int 0, .int 0, .int 0, .int 0, .int 0, .int 0, .int 0, .int 0, .int 0]))]) [1] rfl
  have hDc := hD.sub (ws' := [(m7, .inr (13, [.ref (rm 0), .ref (rm 1), .ref (rm 2), .ref (rm 3), .ref (rm 4), .ref (rm 5), .ref (rm 6), .ref (rm 7), .ref (rm 8), .ref (rm 9), .ref (rm 10), .ref (rm 11), .ref (rm 12), .ref (rm 13), .ref (rm 14), .ref (rm 15), .int 0, .int 0, .int 1, .int 110, .int 0, .int 0, .int 0, .int 0, .int 0, .int 0, .int 0, .int 0, .int 0, .int 0, .int 0]))]) [1] (by decide) rfl
  have hKc := hK.sub (tys' := []) [] rfl
  have hFc := va_free (wc := [(m7, .inr (13, [.ref (rm 0), .ref (rm 1), .ref (rm 2), .ref (rm 3), .ref (rm 4), .ref (rm 5), .ref (rm 6), .ref (rm 7), .ref (rm 8), .ref (rm 9), .ref (rm 10), .ref (rm 11), .ref (rm 12), .ref (rm 13), .ref (rm 14), .ref (rm 15), .int 0, .int 0, .int 1, .int 110, .int 0, .int 0, .int 0, .int 0, .int 0, .int 0, .int 0, .int 0, .int 0, .int 0, .int 0]))]) hD hS hA [1] rfl
  have hFr : ∀ q : Nat, rg1 m7 H.size q → A q := fun q h => hFc q (va_Arg1 q h)
  refine va_calli (va_runV (As := [.int a1, .int ((a2.toUInt32 % 65536).toInt32)]) (rest := []) ⟨hx, hb, hml, hown, hts⟩ (c_X7_concede l D m7 rm H.size a1 ((a2.toUInt32 % 65536).toInt32)) (cwV 2 hts gL_law_X7_concede rfl rfl rfl (by decide +kernel) ⟨Nat.le_of_ble_eq_true rfl, Nat.le_of_ble_eq_true rfl⟩) ⟨fun a U g mk q => ⟨q.1, PX7.blind q.2⟩, va_recv hK hP (ci := 13) (q0 := 1) rfl rfl, fun U hU hW => ⟨rfl, PX7.go hPc hKc hU hW⟩⟩ rfl rfl hl.1 rfl (lv_room (Nat.le_of_ble_eq_true rfl)) dL_law_2226 ⟨Nat.le_of_ble_eq_true rfl, Nat.le_of_ble_eq_true rfl⟩) hS (fun q _ h => hFr q h) hFr (fun r8 u t H1 locs ht hvm hw hB hz1 hk1 hS => ?_)
  obtain ⟨um, eum⟩ : ∃ z, z = u := ⟨_, rfl⟩
  rw [← eum] at hB hw
  rw [ht] at hB
  have hP1 := hB
  have hD1 : va_D (va_A [(m7, .inr (13, [.ref (rm 0), .ref (rm 1), .ref (rm 2), .ref (rm 3), .ref (rm 4), .ref (rm 5), .ref (rm 6), .ref (rm 7), .ref (rm 8), .ref (rm 9), .ref (rm 10), .ref (rm 11), .ref (rm 12), .ref (rm 13), .ref (rm 14), .ref (rm 15), .int 0, .int 0, .int 1, .int 110, .int 0, .int 0, .int 0, .int 0, .int 0, .int 0, .int 0, .int 0, .int 0, .int 0, .int 0]))] H.size) [(m7, .inr (13, um))] := va_D1 (Or.inl ⟨0, _, rfl⟩)
  have hk1 : ∀ q : Nat, q < H.size → ¬ va_A [(m7, .inr (13, [.ref (rm 0), .ref (rm 1), .ref (rm 2), .ref (rm 3), .ref (rm 4), .ref (rm 5), .ref (rm 6), .ref (rm 7), .ref (rm 8), .ref (rm 9), .ref (rm 10), .ref (rm 11), .ref (rm 12), .ref (rm 13), .ref (rm 14), .ref (rm 15), .int 0, .int 0, .int 1, .int 110, .int 0, .int 0, .int 0, .int 0, .int 0, .int 0, .int 0, .int 0, .int 0, .int 0, .int 0]))] H.size q → H1[q]? = H[q]? := fun q h1 h2 => hk1 q h1 (fun h3 => h2 (va_Arg1 q h3))
  obtain ⟨hP, hD⟩ := va_join (wr := [(x, .inr (12, [.ref (rx 0), .ref (rx 1), .ref (rx 2), .ref (rx 3), .int 0, .int 0, .int 1, .int 110, .int 0, .int 115, .int 0, .int 0, .int 0, .int 0])), (o, .inl (cO, 1, .inr (.inl fo))), (o2, .inl (cD, 1, .inr (.inr (.inr (.inl fd)))))]) (w1 := [(m7, .inr (13, um))]) hP hD [1] [0, 2, 3] rfl rfl (by decide) (by decide) hk1 hFc hP1 hD1
  generalize H1 = H at hP hS ⊢
  have hP : va_P D vwCl [(x, .inr (12, [.ref (rx 0), .ref (rx 1), .ref (rx 2), .ref (rx 3), .int 0, .int 0, .int 1, .int 110, .int 0, .int 115, .int 0, .int 0, .int 0, .int 0])), (o, .inl (cO, 1, .inr (.inl fo))), (o2, .inl (cD, 1, .inr (.inr (.inr (.inl fd))))), (m7, .inr (13, um))] H := hP
  have hD : va_D A [(x, .inr (12, [.ref (rx 0), .ref (rx 1), .ref (rx 2), .ref (rx 3), .int 0, .int 0, .int 1, .int 110, .int 0, .int 115, .int 0, .int 0, .int 0, .int 0])), (o, .inl (cO, 1, .inr (.inl fo))), (o2, .inl (cD, 1, .inr (.inr (.inr (.inl fd))))), (m7, .inr (13, um))] := hD
  refine W.widen (k := 141) (n := 11929) (Nat.le_of_ble_eq_true rfl) (Nat.le_of_ble_eq_true rfl) ?_
  have hu30 := hw
  refine lv_istore (lv' := [(7, .int r8), (6, .int 1), (0, .ref b), (1, .ref x), (2, .ref m7), (3, .ref o), (4, .ref o2), (5, .int 0)]) hx hb dL_law_2229 hl (by decide) rfl (fun ls hl => ?_)
  refine lv_aload_n hx hb dL_law_2231 rfl (lv_at hl 4 rfl) ?_
  have hPc := hP.sub (ws' := [(m7, .inr (13, um))]) [3] rfl
  have hKc := hK.sub (tys' := []) [] rfl
  refine va_calli (va_runV (As := []) (rest := []) ⟨hx, hb, hml, hown, hts⟩ (c_X7_thrown l D m7 um 1 hu30 H.size) (cwV 0 hts gL_law_X7_thrown rfl rfl rfl (by decide +kernel) ⟨Nat.le_of_ble_eq_true rfl, Nat.le_of_ble_eq_true rfl⟩) ⟨fun a U g mk q => ⟨q.1, q.2.1, q.2.2.1, va_K.moved (u := U) (U := U.calling g mk a) (Vm.Alike.refl U.vm) q.2.2.2⟩, va_recv hK hP (ci := 13) (q0 := 3) rfl rfl, fun U hU hW => ⟨rfl, congrArg Array.size hU, by rw [hU]; exact hPc, va_K.moved hW.alike hKc⟩⟩ rfl rfl hl.1 rfl (lv_room (Nat.le_of_ble_eq_true rfl)) dL_law_2232 ⟨Nat.le_of_ble_eq_true rfl, Nat.le_of_ble_eq_true rfl⟩) hS (fun q h1 h2 => absurd h1 (Nat.not_lt.mpr h2)) (fun q h => hA q (Nat.le_trans hS.1 h)) (fun r9 u t H1 locs ht hvm hw hB hz1 hk1 hS => ?_)
  have hP := va_kept0 hP hk1
  generalize H1 = H at hP hS ⊢
  have hP : va_P D vwCl [(x, .inr (12, [.ref (rx 0), .ref (rx 1), .ref (rx 2), .ref (rx 3), .int 0, .int 0, .int 1, .int 110, .int 0, .int 115, .int 0, .int 0, .int 0, .int 0])), (o, .inl (cO, 1, .inr (.inl fo))), (o2, .inl (cD, 1, .inr (.inr (.inr (.inl fd))))), (m7, .inr (13, um))] H := hP
  obtain rfl : r9 = 1 := hw
  refine lv_iload hx hb dL_law_2235 (lv_at hl 1 rfl) ?_
  refine lv_icmp_eq (tgt := 2242) hx hb dL_law_2237 (by decide) (fun _ => ?_) (fun c => by first | exact absurd (by decide) c | exact absurd c (by decide))
  refine lv_iload hx hb dL_law_2242 (lv_at hl 1 rfl) ?_
  refine lv_if_ne (tgt := 2259) hx hb dL_law_2244 (by decide) (fun _ => ?_) (fun c => by first | exact absurd (by decide) c | exact absurd c (by decide))
  refine lv_goto (tgt := 3904) hx hb dL_law_2259 (by decide) ?_
  refine W.widen (k := 200) (n := 12100) (Nat.le_of_ble_eq_true rfl) (Nat.le_of_ble_eq_true rfl) ?_
  exact kk H locs ls hS (lv_sub hl [2, 7] rfl)
set_option maxHeartbeats 4000000 in
set_option maxRecDepth 100000 in
theorem law_c28 (l : Launch) (hlT : l.stackTraces = false) {p : Program} {e : Env} {s : State} {m : MethodId} {below : List Frame} {meth : Method} {c : Code} {Q : State → Prop} {D : va_G} {A : Nat → Prop} {b : Nat} {xs : Nat → Int32} {x m7 o o2 : Nat} {rx rm : Nat → Nat} {cO cD : ClassId} {fo : Nat → Int64} {fd : Nat → UInt64} {H : Heap} {locs : List Loc} {ls : Array Slot} (hx : p.tables.exec = Jvm.exec) (hb : c.code = cL_law) (hml : c.maxLocals = 9) (hown : s.vm.findClass RL = some m.cls) (hts : ∀ w ∈ wsL_law, w.before #[Value.ref b] s = true) (hX : va_X b 7 xs s s.heap) (hbl : b < s.heap.size) (hbA : ¬ A b) (hA : ∀ q : Nat, s.heap.size ≤ q → A q) (hT : tf A s s.heap)
    (hK : va_K D vwCl [(cO, .long), (cD, .double)] s) (hP : va_P D vwCl [(x, .inr (12, [.ref (rx 0), .ref (rx 1), .ref (rx 2), .ref (rx 3), .int 0, .int 0, .int 1, .int 110, .int 0, .int 115, .int 0, .int 0, .int 0, .int 0])), (m7, .inr (13, [.ref (rm 0), .ref (rm 1), .ref (rm 2), .ref (rm 3), .ref (rm 4), .ref (rm 5), .ref (rm 6), .ref (rm 7), .ref (rm 8), .ref (rm 9), .ref (rm 10), .ref (rm 11), .ref (rm 12), .ref (rm 13), .ref (rm 14), .ref (rm 15), .int 0, .int 0, .int 1, .int 110, .int 0, .int 0, .int 0, .int 0, .int 0, .int 0, .int 0, .int 0, .int 0, .int 0, .int 0])), (o, .inl (cO, 1, .inr (.inl fo))), (o2, .inl (cD, 1, .inr (.inr (.inr (.inl fd)))))] H) (hD : va_D A [(x, .inr (12, [.ref (rx 0), .ref (rx 1), .ref (rx 2), .ref (rx 3), .int 0, .int 0, .int 1, .int 110, .int 0, .int 115, .int 0, .int 0, .int 0, .int 0])), (m7, .inr (13, [.ref (rm 0), .ref (rm 1), .ref (rm 2), .ref (rm 3), .ref (rm 4), .ref (rm 5), .ref (rm 6), .ref (rm 7), .ref (rm 8), .ref (rm 9), .ref (rm 10), .ref (rm 11), .ref (rm 12), .ref (rm 13), .ref (rm 14), .ref (rm 15), .int 0, .int 0, .int 1, .int 110, .int 0, .int 0, .int 0, .int 0, .int 0, .int 0, .int 0, .int 0, .int 0, .int 0, .int 0])), (o, .inl (cO, 1, .inr (.inl fo))), (o2, .inl (cD, 1, .inr (.inr (.inr (.inl fd)))))]) (hS : va_S A s.heap H locs) (hl : lv_has ls 9 [(0, .ref b), (1, .ref x), (2, .ref m7), (3, .ref o), (4, .ref o2), (5, .int 0)])
    (kk : ∀ (H : Heap) (locs : List Loc) (ls : Array Slot), va_S A s.heap H locs → lv_has ls 9 [(0, .ref b), (5, .int 0)] → W p l e room_1 s m #[Value.ref b] below meth c H locs 200 12100 Q (F0 m 3904 ls [])) :
    W p l e room_1 s m #[Value.ref b] below meth c H locs 140 11923 Q (F0 m 2262 ls []) := by
  obtain ⟨a1, ea1⟩ : ∃ z, z = xs (1 : Int32).toNatClampNeg := ⟨_, rfl⟩
  obtain ⟨a2, ea2⟩ : ∃ z, z = xs (2 : Int32).toNatClampNeg := ⟨_, rfl⟩
  obtain ⟨a3, ea3⟩ : ∃ z, z = xs (3 : Int32).toNatClampNeg := ⟨_, rfl⟩
  obtain ⟨a4, ea4⟩ : ∃ z, z = xs (4 : Int32).toNatClampNeg := ⟨_, rfl⟩
  obtain ⟨a5, ea5⟩ : ∃ z, z = xs (5 : Int32).toNatClampNeg := ⟨_, rfl⟩
  obtain ⟨a6, ea6⟩ : ∃ z, z = xs (6 : Int32).toNatClampNeg := ⟨_, rfl⟩
  refine lv_aload_n hx hb dL_law_2262 rfl (lv_at hl 1 rfl) ?_
  refine lv_aload_n hx hb dL_law_2263 rfl (lv_at hl 3 rfl) ?_
  have hPc := hP.sub (ws' := [(x, .inr (12, [.ref (rx 0), .ref (rx 1), .ref (rx 2), .ref (rx 3), .int 0, .int 0, .int 1, .int 110, .int 0, .int 115, .int 0, .int 0, .int 0, .int 0]))]) [0] rfl
  have hDc := hD.sub (ws' := [(x, .inr (12, [.ref (rx 0), .ref (rx 1), .ref (rx 2), .ref (rx 3), .int 0, .int 0, .int 1, .int 110, .int 0, .int 115, .int 0, .int 0, .int 0, .int 0]))]) [0] (by decide) rfl
  have hKc := hK.sub (tys' := []) [] rfl
  have hFc := va_free (wc := [(x, .inr (12, [.ref (rx 0), .ref (rx 1), .ref (rx 2), .ref (rx 3), .int 0, .int 0, .int 1, .int 110, .int 0, .int 115, .int 0, .int 0, .int 0, .int 0]))]) hD hS hA [0] rfl
  refine va_calli (vx_runSW (As := [.ref x, .ref o]) (rest := []) ⟨hx, hb, hml, hown, hts⟩ (c_L_nextHole l hlT D x rx o H.size) (vx_cwSW 2 hts gL_law_L_nextHole rfl rfl rfl (by decide +kernel) ⟨Nat.le_of_ble_eq_true rfl, Nat.le_of_ble_eq_true rfl⟩) ⟨fun a U g mk q => ⟨q.1, PX6.blind q.2⟩, fun U hU hW => ⟨rfl, PX6.go hPc hKc hT hS hA hU hW⟩⟩ rfl rfl hl.1 rfl (lv_room (Nat.le_of_ble_eq_true rfl)) dL_law_2264 ⟨Nat.le_of_ble_eq_true rfl, Nat.le_of_ble_eq_true rfl⟩) hS (fun q h1 h2 => absurd h1 (Nat.not_lt.mpr h2)) (fun q h => hA q (Nat.le_trans hS.1 h)) (fun r1 u t H1 locs ht hvm hw hB hz1 hk1 hS => ?_)
  have hP := va_kept0 hP hk1
  generalize H1 = H at hP hS ⊢
  have hP : va_P D vwCl [(x, .inr (12, [.ref (rx 0), .ref (rx 1), .ref (rx 2), .ref (rx 3), .int 0, .int 0, .int 1, .int 110, .int 0, .int 115, .int 0, .int 0, .int 0, .int 0])), (m7, .inr (13, [.ref (rm 0), .ref (rm 1), .ref (rm 2), .ref (rm 3), .ref (rm 4), .ref (rm 5), .ref (rm 6), .ref (rm 7), .ref (rm 8), .ref (rm 9), .ref (rm 10), .ref (rm 11), .ref (rm 12), .ref (rm 13), .ref (rm 14), .ref (rm 15), .int 0, .int 0, .int 1, .int 110, .int 0, .int 0, .int 0, .int 0, .int 0, .int 0, .int 0, .int 0, .int 0, .int 0, .int 0])), (o, .inl (cO, 1, .inr (.inl fo))), (o2, .inl (cD, 1, .inr (.inr (.inr (.inl fd)))))] H := hP
  have hD := hD
  refine W.widen (k := 141) (n := 11929) (Nat.le_of_ble_eq_true rfl) (Nat.le_of_ble_eq_true rfl) ?_
  obtain rfl : r1 = 1 := hw
  refine lv_istore (lv' := [(6, .int 1), (0, .ref b), (1, .ref x), (2, .ref m7), (3, .ref o), (4, .ref o2), (5, .int 0)]) hx hb dL_law_2267 hl (by decide) rfl (fun ls hl => ?_)
  refine lv_aload_n hx hb dL_law_2269 rfl (lv_at hl 3 rfl) ?_
  have hPc := hP.sub (ws' := [(m7, .inr (13, [.ref (rm 0), .ref (rm 1), .ref (rm 2), .ref (rm 3), .ref (rm 4), .ref (rm 5), .ref (rm 6), .ref (rm 7), .ref (rm 8), .ref (rm 9), .ref (rm 10), .ref (rm 11), .ref (rm 12), .ref (rm 13), .ref (rm 14), .ref (rm 15), .int 0, .int 0, .int 1, .int 110, .int 0, .int 0, .int 0, .int 0, .int 0, .int 0, .int 0, .int 0, .int 0, .int 0, .int 0]))]) [1] rfl
  have hDc := hD.sub (ws' := [(m7, .inr (13, [.ref (rm 0), .ref (rm 1), .ref (rm 2), .ref (rm 3), .ref (rm 4), .ref (rm 5), .ref (rm 6), .ref (rm 7), .ref (rm 8), .ref (rm 9), .ref (rm 10), .ref (rm 11), .ref (rm 12), .ref (rm 13), .ref (rm 14), .ref (rm 15), .int 0, .int 0, .int 1, .int 110, .int 0, .int 0, .int 0, .int 0, .int 0, .int 0, .int 0, .int 0, .int 0, .int 0, .int 0]))]) [1] (by decide) rfl
  have hKc := hK.sub (tys' := []) [] rfl
  have hFc := va_free (wc := [(m7, .inr (13, [.ref (rm 0), .ref (rm 1), .ref (rm 2), .ref (rm 3), .ref (rm 4), .ref (rm 5), .ref (rm 6), .ref (rm 7), .ref (rm 8), .ref (rm 9), .ref (rm 10), .ref (rm 11), .ref (rm 12), .ref (rm 13), .ref (rm 14), .ref (rm 15), .int 0, .int 0, .int 1, .int 110, .int 0, .int 0, .int 0, .int 0, .int 0, .int 0, .int 0, .int 0, .int 0, .int 0, .int 0]))]) hD hS hA [1] rfl
  have hFr : ∀ q : Nat, rg1 m7 H.size q → A q := fun q h => hFc q (va_Arg1 q h)
  refine va_calli (va_runV (As := []) (rest := []) ⟨hx, hb, hml, hown, hts⟩ (c_X7_nextHole l D m7 rm H.size) (cwV 0 hts gL_law_X7_nextHole rfl rfl rfl (by decide +kernel) ⟨Nat.le_of_ble_eq_true rfl, Nat.le_of_ble_eq_true rfl⟩) ⟨fun a U g mk q => ⟨q.1, PX7.blind q.2⟩, va_recv hK hP (ci := 13) (q0 := 1) rfl rfl, fun U hU hW => ⟨rfl, PX7.go hPc hKc hU hW⟩⟩ rfl rfl hl.1 rfl (lv_room (Nat.le_of_ble_eq_true rfl)) dL_law_2270 ⟨Nat.le_of_ble_eq_true rfl, Nat.le_of_ble_eq_true rfl⟩) hS (fun q _ h => hFr q h) hFr (fun r2 u t H1 locs ht hvm hw hB hz1 hk1 hS => ?_)
  obtain ⟨um, eum⟩ : ∃ z, z = u := ⟨_, rfl⟩
  rw [← eum] at hB hw
  rw [ht] at hB
  have hP1 := hB
  have hD1 : va_D (va_A [(m7, .inr (13, [.ref (rm 0), .ref (rm 1), .ref (rm 2), .ref (rm 3), .ref (rm 4), .ref (rm 5), .ref (rm 6), .ref (rm 7), .ref (rm 8), .ref (rm 9), .ref (rm 10), .ref (rm 11), .ref (rm 12), .ref (rm 13), .ref (rm 14), .ref (rm 15), .int 0, .int 0, .int 1, .int 110, .int 0, .int 0, .int 0, .int 0, .int 0, .int 0, .int 0, .int 0, .int 0, .int 0, .int 0]))] H.size) [(m7, .inr (13, um))] := va_D1 (Or.inl ⟨0, _, rfl⟩)
  have hk1 : ∀ q : Nat, q < H.size → ¬ va_A [(m7, .inr (13, [.ref (rm 0), .ref (rm 1), .ref (rm 2), .ref (rm 3), .ref (rm 4), .ref (rm 5), .ref (rm 6), .ref (rm 7), .ref (rm 8), .ref (rm 9), .ref (rm 10), .ref (rm 11), .ref (rm 12), .ref (rm 13), .ref (rm 14), .ref (rm 15), .int 0, .int 0, .int 1, .int 110, .int 0, .int 0, .int 0, .int 0, .int 0, .int 0, .int 0, .int 0, .int 0, .int 0, .int 0]))] H.size q → H1[q]? = H[q]? := fun q h1 h2 => hk1 q h1 (fun h3 => h2 (va_Arg1 q h3))
  obtain ⟨hP, hD⟩ := va_join (wr := [(x, .inr (12, [.ref (rx 0), .ref (rx 1), .ref (rx 2), .ref (rx 3), .int 0, .int 0, .int 1, .int 110, .int 0, .int 115, .int 0, .int 0, .int 0, .int 0])), (o, .inl (cO, 1, .inr (.inl fo))), (o2, .inl (cD, 1, .inr (.inr (.inr (.inl fd)))))]) (w1 := [(m7, .inr (13, um))]) hP hD [1] [0, 2, 3] rfl rfl (by decide) (by decide) hk1 hFc hP1 hD1
  generalize H1 = H at hP hS ⊢
  have hP : va_P D vwCl [(x, .inr (12, [.ref (rx 0), .ref (rx 1), .ref (rx 2), .ref (rx 3), .int 0, .int 0, .int 1, .int 110, .int 0, .int 115, .int 0, .int 0, .int 0, .int 0])), (o, .inl (cO, 1, .inr (.inl fo))), (o2, .inl (cD, 1, .inr (.inr (.inr (.inl fd))))), (m7, .inr (13, um))] H := hP
  have hD : va_D A [(x, .inr (12, [.ref (rx 0), .ref (rx 1), .ref (rx 2), .ref (rx 3), .int 0, .int 0, .int 1, .int 110, .int 0, .int 115, .int 0, .int 0, .int 0, .int 0])), (o, .inl (cO, 1, .inr (.inl fo))), (o2, .inl (cD, 1, .inr (.inr (.inr (.inl fd))))), (m7, .inr (13, um))] := hD
  refine W.widen (k := 141) (n := 11929) (Nat.le_of_ble_eq_true rfl) (Nat.le_of_ble_eq_true rfl) ?_
  have hu30 := hw
  refine lv_istore (lv' := [(7, .int r2), (6, .int 1), (0, .ref b), (1, .ref x), (2, .ref m7), (3, .ref o), (4, .ref o2), (5, .int 0)]) hx hb dL_law_2273 hl (by decide) rfl (fun ls hl => ?_)
  refine lv_aload_n hx hb dL_law_2275 rfl (lv_at hl 4 rfl) ?_
  have hPc := hP.sub (ws' := [(m7, .inr (13, um))]) [3] rfl
  have hKc := hK.sub (tys' := []) [] rfl
  refine va_calli (va_runV (As := []) (rest := []) ⟨hx, hb, hml, hown, hts⟩ (c_X7_thrown l D m7 um 1 hu30 H.size) (cwV 0 hts gL_law_X7_thrown rfl rfl rfl (by decide +kernel) ⟨Nat.le_of_ble_eq_true rfl, Nat.le_of_ble_eq_true rfl⟩) ⟨fun a U g mk q => ⟨q.1, q.2.1, q.2.2.1, va_K.moved (u := U) (U := U.calling g mk a) (Vm.Alike.refl U.vm) q.2.2.2⟩, va_recv hK hP (ci := 13) (q0 := 3) rfl rfl, fun U hU hW => ⟨rfl, congrArg Array.size hU, by rw [hU]; exact hPc, va_K.moved hW.alike hKc⟩⟩ rfl rfl hl.1 rfl (lv_room (Nat.le_of_ble_eq_true rfl)) dL_law_2276 ⟨Nat.le_of_ble_eq_true rfl, Nat.le_of_ble_eq_true rfl⟩) hS (fun q h1 h2 => absurd h1 (Nat.not_lt.mpr h2)) (fun q h => hA q (Nat.le_trans hS.1 h)) (fun r3 u t H1 locs ht hvm hw hB hz1 hk1 hS => ?_)
  have hP := va_kept0 hP hk1
  generalize H1 = H at hP hS ⊢
  have hP : va_P D vwCl [(x, .inr (12, [.ref (rx 0), .ref (rx 1), .ref (rx 2), .ref (rx 3), .int 0, .int 0, .int 1, .int 110, .int 0, .int 115, .int 0, .int 0, .int 0, .int 0])), (o, .inl (cO, 1, .inr (.inl fo))), (o2, .inl (cD, 1, .inr (.inr (.inr (.inl fd))))), (m7, .inr (13, um))] H := hP
  obtain rfl : r3 = 1 := hw
  refine lv_iload hx hb dL_law_2279 (lv_at hl 1 rfl) ?_
  refine lv_icmp_eq (tgt := 2286) hx hb dL_law_2281 (by decide) (fun _ => ?_) (fun c => by first | exact absurd (by decide) c | exact absurd c (by decide))
  refine lv_iload hx hb dL_law_2286 (lv_at hl 1 rfl) ?_
  refine lv_if_ne (tgt := 2303) hx hb dL_law_2288 (by decide) (fun _ => ?_) (fun c => by first | exact absurd (by decide) c | exact absurd c (by decide))
  refine lv_goto (tgt := 3904) hx hb dL_law_2303 (by decide) ?_
  refine W.widen (k := 200) (n := 12100) (Nat.le_of_ble_eq_true rfl) (Nat.le_of_ble_eq_true rfl) ?_
  exact kk H locs ls hS (lv_sub hl [2, 7] rfl)
set_option maxHeartbeats 4000000 in
set_option maxRecDepth 100000 in
theorem law_c29 (l : Launch) (hlT : l.stackTraces = false) {p : Program} {e : Env} {s : State} {m : MethodId} {below : List Frame} {meth : Method} {c : Code} {Q : State → Prop} {D : va_G} {A : Nat → Prop} {b : Nat} {xs : Nat → Int32} {x m7 o o2 : Nat} {rx rm : Nat → Nat} {cO cD : ClassId} {fo : Nat → Int64} {fd : Nat → UInt64} {H : Heap} {locs : List Loc} {ls : Array Slot} (hx : p.tables.exec = Jvm.exec) (hb : c.code = cL_law) (hml : c.maxLocals = 9) (hown : s.vm.findClass RL = some m.cls) (hts : ∀ w ∈ wsL_law, w.before #[Value.ref b] s = true) (hX : va_X b 7 xs s s.heap) (hbl : b < s.heap.size) (hbA : ¬ A b) (hA : ∀ q : Nat, s.heap.size ≤ q → A q) (hT : tf A s s.heap)
    (hK : va_K D vwCl [(cO, .long), (cD, .double)] s) (hP : va_P D vwCl [(x, .inr (12, [.ref (rx 0), .ref (rx 1), .ref (rx 2), .ref (rx 3), .int 0, .int 0, .int 1, .int 110, .int 0, .int 115, .int 0, .int 0, .int 0, .int 0])), (m7, .inr (13, [.ref (rm 0), .ref (rm 1), .ref (rm 2), .ref (rm 3), .ref (rm 4), .ref (rm 5), .ref (rm 6), .ref (rm 7), .ref (rm 8), .ref (rm 9), .ref (rm 10), .ref (rm 11), .ref (rm 12), .ref (rm 13), .ref (rm 14), .ref (rm 15), .int 0, .int 0, .int 1, .int 110, .int 0, .int 0, .int 0, .int 0, .int 0, .int 0, .int 0, .int 0, .int 0, .int 0, .int 0])), (o, .inl (cO, 1, .inr (.inl fo))), (o2, .inl (cD, 1, .inr (.inr (.inr (.inl fd)))))] H) (hD : va_D A [(x, .inr (12, [.ref (rx 0), .ref (rx 1), .ref (rx 2), .ref (rx 3), .int 0, .int 0, .int 1, .int 110, .int 0, .int 115, .int 0, .int 0, .int 0, .int 0])), (m7, .inr (13, [.ref (rm 0), .ref (rm 1), .ref (rm 2), .ref (rm 3), .ref (rm 4), .ref (rm 5), .ref (rm 6), .ref (rm 7), .ref (rm 8), .ref (rm 9), .ref (rm 10), .ref (rm 11), .ref (rm 12), .ref (rm 13), .ref (rm 14), .ref (rm 15), .int 0, .int 0, .int 1, .int 110, .int 0, .int 0, .int 0, .int 0, .int 0, .int 0, .int 0, .int 0, .int 0, .int 0, .int 0])), (o, .inl (cO, 1, .inr (.inl fo))), (o2, .inl (cD, 1, .inr (.inr (.inr (.inl fd)))))]) (hS : va_S A s.heap H locs) (hl : lv_has ls 9 [(0, .ref b), (1, .ref x), (2, .ref m7), (3, .ref o), (4, .ref o2), (5, .int 0)])
    (kk : ∀ (H : Heap) (locs : List Loc) (ls : Array Slot), va_S A s.heap H locs → lv_has ls 9 [(0, .ref b), (5, .int 0)] → W p l e room_1 s m #[Value.ref b] below meth c H locs 200 12100 Q (F0 m 3904 ls [])) :
    W p l e room_1 s m #[Value.ref b] below meth c H locs 140 11923 Q (F0 m 2306 ls []) := by
  obtain ⟨a1, ea1⟩ : ∃ z, z = xs (1 : Int32).toNatClampNeg := ⟨_, rfl⟩
  obtain ⟨a2, ea2⟩ : ∃ z, z = xs (2 : Int32).toNatClampNeg := ⟨_, rfl⟩
  obtain ⟨a3, ea3⟩ : ∃ z, z = xs (3 : Int32).toNatClampNeg := ⟨_, rfl⟩
  obtain ⟨a4, ea4⟩ : ∃ z, z = xs (4 : Int32).toNatClampNeg := ⟨_, rfl⟩
  obtain ⟨a5, ea5⟩ : ∃ z, z = xs (5 : Int32).toNatClampNeg := ⟨_, rfl⟩
  obtain ⟨a6, ea6⟩ : ∃ z, z = xs (6 : Int32).toNatClampNeg := ⟨_, rfl⟩
  refine lv_aload_n hx hb dL_law_2306 rfl (lv_at hl 1 rfl) ?_
  refine lv_aload_n hx hb dL_law_2307 rfl (lv_at hl 0 rfl) ?_
  refine lv_iload hx hb dL_law_2308 (lv_at hl 5 rfl) ?_
  refine lv_iconst (v := 1) hx hb dL_law_2310 (by decide) ?_
  refine lv_iadd hx hb dL_law_2311 ?_
  refine lv_topi (fun y1 ey1 => ?_)
  obtain rfl : y1 = 1 := ey1.trans (by decide)
  refine va_sld hx hb hX hbl hbA hS (vp_in_nI (n := 1) (by decide) (by decide)) dL_law_2312 ?_
  rw [← ea1]
  refine lv_aload_n hx hb dL_law_2313 rfl (lv_at hl 3 rfl) ?_
  have hPc := hP.sub (ws' := [(x, .inr (12, [.ref (rx 0), .ref (rx 1), .ref (rx 2), .ref (rx 3), .int 0, .int 0, .int 1, .int 110, .int 0, .int 115, .int 0, .int 0, .int 0, .int 0]))]) [0] rfl
  have hDc := hD.sub (ws' := [(x, .inr (12, [.ref (rx 0), .ref (rx 1), .ref (rx 2), .ref (rx 3), .int 0, .int 0, .int 1, .int 110, .int 0, .int 115, .int 0, .int 0, .int 0, .int 0]))]) [0] (by decide) rfl
  have hKc := hK.sub (tys' := []) [] rfl
  have hFc := va_free (wc := [(x, .inr (12, [.ref (rx 0), .ref (rx 1), .ref (rx 2), .ref (rx 3), .int 0, .int 0, .int 1, .int 110, .int 0, .int 115, .int 0, .int 0, .int 0, .int 0]))]) hD hS hA [0] rfl
  refine va_calli (vx_runSW (As := [.ref x, .int a1, .ref o]) (rest := []) ⟨hx, hb, hml, hown, hts⟩ (c_L_state l hlT D x rx o H.size a1) (vx_cwSW 3 hts gL_law_L_state rfl rfl rfl (by decide +kernel) ⟨Nat.le_of_ble_eq_true rfl, Nat.le_of_ble_eq_true rfl⟩) ⟨fun a U g mk q => ⟨q.1, PX6.blind q.2⟩, fun U hU hW => ⟨rfl, PX6.go hPc hKc hT hS hA hU hW⟩⟩ rfl rfl hl.1 rfl (lv_room (Nat.le_of_ble_eq_true rfl)) dL_law_2314 ⟨Nat.le_of_ble_eq_true rfl, Nat.le_of_ble_eq_true rfl⟩) hS (fun q h1 h2 => absurd h1 (Nat.not_lt.mpr h2)) (fun q h => hA q (Nat.le_trans hS.1 h)) (fun r2 u t H1 locs ht hvm hw hB hz1 hk1 hS => ?_)
  have hP := va_kept0 hP hk1
  generalize H1 = H at hP hS ⊢
  have hP : va_P D vwCl [(x, .inr (12, [.ref (rx 0), .ref (rx 1), .ref (rx 2), .ref (rx 3), .int 0, .int 0, .int 1, .int 110, .int 0, .int 115, .int 0, .int 0, .int 0, .int 0])), (m7, .inr (13, [.ref (rm 0), .ref (rm 1), .ref (rm 2), .ref (rm 3), .ref (rm 4), .ref (rm 5), .ref (rm 6), .ref (rm 7), .ref (rm 8), .ref (rm 9), .ref (rm 10), .ref (rm 11), .ref (rm 12), .ref (rm 13), .ref (rm 14), .ref (rm 15), .int 0, .int 0, .int 1, .int 110, .int 0, .int 0, .int 0, .int 0, .int 0, .int 0, .int 0, .int 0, .int 0, .int 0, .int 0])), (o, .inl (cO, 1, .inr (.inl fo))), (o2, .inl (cD, 1, .inr (.inr (.inr (.inl fd)))))] H := hP
  have hD := hD
  refine W.widen (k := 141) (n := 11929) (Nat.le_of_ble_eq_true rfl) (Nat.le_of_ble_eq_true rfl) ?_
  obtain rfl : r2 = 1 := hw
  refine lv_istore (lv' := [(6, .int 1), (0, .ref b), (1, .ref x), (2, .ref m7), (3, .ref o), (4, .ref o2), (5, .int 0)]) hx hb dL_law_2317 hl (by decide) rfl (fun ls hl => ?_)
  refine lv_aload_n hx hb dL_law_2319 rfl (lv_at hl 3 rfl) ?_
  refine lv_aload_n hx hb dL_law_2320 rfl (lv_at hl 1 rfl) ?_
  refine lv_iload hx hb dL_law_2321 (lv_at hl 6 rfl) ?_
  refine lv_iconst (v := 1) hx hb dL_law_2323 (by decide) ?_
  refine lv_iadd hx hb dL_law_2324 ?_
  refine lv_topi (fun y3 ey3 => ?_)
  obtain rfl : y3 = 1 := ey3.trans (by decide)
  refine va_sld hx hb hX hbl hbA hS (vp_in_nI (n := 1) (by decide) (by decide)) dL_law_2325 ?_
  rw [← ea1]
  have hPc := hP.sub (ws' := [(m7, .inr (13, [.ref (rm 0), .ref (rm 1), .ref (rm 2), .ref (rm 3), .ref (rm 4), .ref (rm 5), .ref (rm 6), .ref (rm 7), .ref (rm 8), .ref (rm 9), .ref (rm 10), .ref (rm 11), .ref (rm 12), .ref (rm 13), .ref (rm 14), .ref (rm 15), .int 0, .int 0, .int 1, .int 110, .int 0, .int 0, .int 0, .int 0, .int 0, .int 0, .int 0, .int 0, .int 0, .int 0, .int 0]))]) [1] rfl
  have hDc := hD.sub (ws' := [(m7, .inr (13, [.ref (rm 0), .ref (rm 1), .ref (rm 2), .ref (rm 3), .ref (rm 4), .ref (rm 5), .ref (rm 6), .ref (rm 7), .ref (rm 8), .ref (rm 9), .ref (rm 10), .ref (rm 11), .ref (rm 12), .ref (rm 13), .ref (rm 14), .ref (rm 15), .int 0, .int 0, .int 1, .int 110, .int 0, .int 0, .int 0, .int 0, .int 0, .int 0, .int 0, .int 0, .int 0, .int 0, .int 0]))]) [1] (by decide) rfl
  have hKc := hK.sub (tys' := []) [] rfl
  have hFc := va_free (wc := [(m7, .inr (13, [.ref (rm 0), .ref (rm 1), .ref (rm 2), .ref (rm 3), .ref (rm 4), .ref (rm 5), .ref (rm 6), .ref (rm 7), .ref (rm 8), .ref (rm 9), .ref (rm 10), .ref (rm 11), .ref (rm 12), .ref (rm 13), .ref (rm 14), .ref (rm 15), .int 0, .int 0, .int 1, .int 110, .int 0, .int 0, .int 0, .int 0, .int 0, .int 0, .int 0, .int 0, .int 0, .int 0, .int 0]))]) hD hS hA [1] rfl
  have hFr : ∀ q : Nat, rg1 m7 H.size q → A q := fun q h => hFc q (va_Arg1 q h)
  refine va_calli (va_runV (As := [.int a1]) (rest := []) ⟨hx, hb, hml, hown, hts⟩ (c_X7_state l D m7 rm H.size a1) (cwV 1 hts gL_law_X7_state rfl rfl rfl (by decide +kernel) ⟨Nat.le_of_ble_eq_true rfl, Nat.le_of_ble_eq_true rfl⟩) ⟨fun a U g mk q => ⟨q.1, PX7.blind q.2⟩, va_recv hK hP (ci := 13) (q0 := 1) rfl rfl, fun U hU hW => ⟨rfl, PX7.go hPc hKc hU hW⟩⟩ rfl rfl hl.1 rfl (lv_room (Nat.le_of_ble_eq_true rfl)) dL_law_2326 ⟨Nat.le_of_ble_eq_true rfl, Nat.le_of_ble_eq_true rfl⟩) hS (fun q _ h => hFr q h) hFr (fun r4 u t H1 locs ht hvm hw hB hz1 hk1 hS => ?_)
  obtain ⟨um, eum⟩ : ∃ z, z = u := ⟨_, rfl⟩
  rw [← eum] at hB hw
  rw [ht] at hB
  have hP1 := hB
  have hD1 : va_D (va_A [(m7, .inr (13, [.ref (rm 0), .ref (rm 1), .ref (rm 2), .ref (rm 3), .ref (rm 4), .ref (rm 5), .ref (rm 6), .ref (rm 7), .ref (rm 8), .ref (rm 9), .ref (rm 10), .ref (rm 11), .ref (rm 12), .ref (rm 13), .ref (rm 14), .ref (rm 15), .int 0, .int 0, .int 1, .int 110, .int 0, .int 0, .int 0, .int 0, .int 0, .int 0, .int 0, .int 0, .int 0, .int 0, .int 0]))] H.size) [(m7, .inr (13, um))] := va_D1 (Or.inl ⟨0, _, rfl⟩)
  have hk1 : ∀ q : Nat, q < H.size → ¬ va_A [(m7, .inr (13, [.ref (rm 0), .ref (rm 1), .ref (rm 2), .ref (rm 3), .ref (rm 4), .ref (rm 5), .ref (rm 6), .ref (rm 7), .ref (rm 8), .ref (rm 9), .ref (rm 10), .ref (rm 11), .ref (rm 12), .ref (rm 13), .ref (rm 14), .ref (rm 15), .int 0, .int 0, .int 1, .int 110, .int 0, .int 0, .int 0, .int 0, .int 0, .int 0, .int 0, .int 0, .int 0, .int 0, .int 0]))] H.size q → H1[q]? = H[q]? := fun q h1 h2 => hk1 q h1 (fun h3 => h2 (va_Arg1 q h3))
  obtain ⟨hP, hD⟩ := va_join (wr := [(x, .inr (12, [.ref (rx 0), .ref (rx 1), .ref (rx 2), .ref (rx 3), .int 0, .int 0, .int 1, .int 110, .int 0, .int 115, .int 0, .int 0, .int 0, .int 0])), (o, .inl (cO, 1, .inr (.inl fo))), (o2, .inl (cD, 1, .inr (.inr (.inr (.inl fd)))))]) (w1 := [(m7, .inr (13, um))]) hP hD [1] [0, 2, 3] rfl rfl (by decide) (by decide) hk1 hFc hP1 hD1
  generalize H1 = H at hP hS ⊢
  have hP : va_P D vwCl [(x, .inr (12, [.ref (rx 0), .ref (rx 1), .ref (rx 2), .ref (rx 3), .int 0, .int 0, .int 1, .int 110, .int 0, .int 115, .int 0, .int 0, .int 0, .int 0])), (o, .inl (cO, 1, .inr (.inl fo))), (o2, .inl (cD, 1, .inr (.inr (.inr (.inl fd))))), (m7, .inr (13, um))] H := hP
  have hD : va_D A [(x, .inr (12, [.ref (rx 0), .ref (rx 1), .ref (rx 2), .ref (rx 3), .int 0, .int 0, .int 1, .int 110, .int 0, .int 115, .int 0, .int 0, .int 0, .int 0])), (o, .inl (cO, 1, .inr (.inl fo))), (o2, .inl (cD, 1, .inr (.inr (.inr (.inl fd))))), (m7, .inr (13, um))] := hD
  refine W.widen (k := 141) (n := 11929) (Nat.le_of_ble_eq_true rfl) (Nat.le_of_ble_eq_true rfl) ?_
  have hu30 := hw
  refine lv_istore (lv' := [(7, .int r4), (6, .int 1), (0, .ref b), (1, .ref x), (2, .ref m7), (3, .ref o), (4, .ref o2), (5, .int 0)]) hx hb dL_law_2329 hl (by decide) rfl (fun ls hl => ?_)
  refine lv_aload_n hx hb dL_law_2331 rfl (lv_at hl 4 rfl) ?_
  have hPc := hP.sub (ws' := [(m7, .inr (13, um))]) [3] rfl
  have hKc := hK.sub (tys' := []) [] rfl
  refine va_calli (va_runV (As := []) (rest := []) ⟨hx, hb, hml, hown, hts⟩ (c_X7_thrown l D m7 um 1 hu30 H.size) (cwV 0 hts gL_law_X7_thrown rfl rfl rfl (by decide +kernel) ⟨Nat.le_of_ble_eq_true rfl, Nat.le_of_ble_eq_true rfl⟩) ⟨fun a U g mk q => ⟨q.1, q.2.1, q.2.2.1, va_K.moved (u := U) (U := U.calling g mk a) (Vm.Alike.refl U.vm) q.2.2.2⟩, va_recv hK hP (ci := 13) (q0 := 3) rfl rfl, fun U hU hW => ⟨rfl, congrArg Array.size hU, by rw [hU]; exact hPc, va_K.moved hW.alike hKc⟩⟩ rfl rfl hl.1 rfl (lv_room (Nat.le_of_ble_eq_true rfl)) dL_law_2332 ⟨Nat.le_of_ble_eq_true rfl, Nat.le_of_ble_eq_true rfl⟩) hS (fun q h1 h2 => absurd h1 (Nat.not_lt.mpr h2)) (fun q h => hA q (Nat.le_trans hS.1 h)) (fun r5 u t H1 locs ht hvm hw hB hz1 hk1 hS => ?_)
  have hP := va_kept0 hP hk1
  generalize H1 = H at hP hS ⊢
  have hP : va_P D vwCl [(x, .inr (12, [.ref (rx 0), .ref (rx 1), .ref (rx 2), .ref (rx 3), .int 0, .int 0, .int 1, .int 110, .int 0, .int 115, .int 0, .int 0, .int 0, .int 0])), (o, .inl (cO, 1, .inr (.inl fo))), (o2, .inl (cD, 1, .inr (.inr (.inr (.inl fd))))), (m7, .inr (13, um))] H := hP
  obtain rfl : r5 = 1 := hw
  refine lv_iload hx hb dL_law_2335 (lv_at hl 1 rfl) ?_
  refine lv_icmp_eq (tgt := 2342) hx hb dL_law_2337 (by decide) (fun _ => ?_) (fun c => by first | exact absurd (by decide) c | exact absurd c (by decide))
  refine lv_iload hx hb dL_law_2342 (lv_at hl 1 rfl) ?_
  refine lv_if_ne (tgt := 2359) hx hb dL_law_2344 (by decide) (fun _ => ?_) (fun c => by first | exact absurd (by decide) c | exact absurd c (by decide))
  refine lv_goto (tgt := 3904) hx hb dL_law_2359 (by decide) ?_
  refine W.widen (k := 200) (n := 12100) (Nat.le_of_ble_eq_true rfl) (Nat.le_of_ble_eq_true rfl) ?_
  exact kk H locs ls hS (lv_sub hl [2, 7] rfl)
set_option maxHeartbeats 4000000 in
set_option maxRecDepth 100000 in
theorem law_c30 (l : Launch) (hlT : l.stackTraces = false) {p : Program} {e : Env} {s : State} {m : MethodId} {below : List Frame} {meth : Method} {c : Code} {Q : State → Prop} {D : va_G} {A : Nat → Prop} {b : Nat} {xs : Nat → Int32} {x m7 o o2 : Nat} {rx rm : Nat → Nat} {cO cD : ClassId} {fo : Nat → Int64} {fd : Nat → UInt64} {H : Heap} {locs : List Loc} {ls : Array Slot} (hx : p.tables.exec = Jvm.exec) (hb : c.code = cL_law) (hml : c.maxLocals = 9) (hown : s.vm.findClass RL = some m.cls) (hts : ∀ w ∈ wsL_law, w.before #[Value.ref b] s = true) (hX : va_X b 7 xs s s.heap) (hbl : b < s.heap.size) (hbA : ¬ A b) (hA : ∀ q : Nat, s.heap.size ≤ q → A q) (hT : tf A s s.heap)
    (hK : va_K D vwCl [(cO, .long), (cD, .double)] s) (hP : va_P D vwCl [(x, .inr (12, [.ref (rx 0), .ref (rx 1), .ref (rx 2), .ref (rx 3), .int 0, .int 0, .int 1, .int 110, .int 0, .int 115, .int 0, .int 0, .int 0, .int 0])), (m7, .inr (13, [.ref (rm 0), .ref (rm 1), .ref (rm 2), .ref (rm 3), .ref (rm 4), .ref (rm 5), .ref (rm 6), .ref (rm 7), .ref (rm 8), .ref (rm 9), .ref (rm 10), .ref (rm 11), .ref (rm 12), .ref (rm 13), .ref (rm 14), .ref (rm 15), .int 0, .int 0, .int 1, .int 110, .int 0, .int 0, .int 0, .int 0, .int 0, .int 0, .int 0, .int 0, .int 0, .int 0, .int 0])), (o, .inl (cO, 1, .inr (.inl fo))), (o2, .inl (cD, 1, .inr (.inr (.inr (.inl fd)))))] H) (hD : va_D A [(x, .inr (12, [.ref (rx 0), .ref (rx 1), .ref (rx 2), .ref (rx 3), .int 0, .int 0, .int 1, .int 110, .int 0, .int 115, .int 0, .int 0, .int 0, .int 0])), (m7, .inr (13, [.ref (rm 0), .ref (rm 1), .ref (rm 2), .ref (rm 3), .ref (rm 4), .ref (rm 5), .ref (rm 6), .ref (rm 7), .ref (rm 8), .ref (rm 9), .ref (rm 10), .ref (rm 11), .ref (rm 12), .ref (rm 13), .ref (rm 14), .ref (rm 15), .int 0, .int 0, .int 1, .int 110, .int 0, .int 0, .int 0, .int 0, .int 0, .int 0, .int 0, .int 0, .int 0, .int 0, .int 0])), (o, .inl (cO, 1, .inr (.inl fo))), (o2, .inl (cD, 1, .inr (.inr (.inr (.inl fd)))))]) (hS : va_S A s.heap H locs) (hl : lv_has ls 9 [(0, .ref b), (1, .ref x), (2, .ref m7), (3, .ref o), (4, .ref o2), (5, .int 0)])
    (kk : ∀ (H : Heap) (locs : List Loc) (ls : Array Slot), va_S A s.heap H locs → lv_has ls 9 [(0, .ref b), (5, .int 0)] → W p l e room_1 s m #[Value.ref b] below meth c H locs 200 12100 Q (F0 m 3904 ls [])) :
    W p l e room_1 s m #[Value.ref b] below meth c H locs 140 11923 Q (F0 m 2362 ls []) := by
  obtain ⟨a1, ea1⟩ : ∃ z, z = xs (1 : Int32).toNatClampNeg := ⟨_, rfl⟩
  obtain ⟨a2, ea2⟩ : ∃ z, z = xs (2 : Int32).toNatClampNeg := ⟨_, rfl⟩
  obtain ⟨a3, ea3⟩ : ∃ z, z = xs (3 : Int32).toNatClampNeg := ⟨_, rfl⟩
  obtain ⟨a4, ea4⟩ : ∃ z, z = xs (4 : Int32).toNatClampNeg := ⟨_, rfl⟩
  obtain ⟨a5, ea5⟩ : ∃ z, z = xs (5 : Int32).toNatClampNeg := ⟨_, rfl⟩
  obtain ⟨a6, ea6⟩ : ∃ z, z = xs (6 : Int32).toNatClampNeg := ⟨_, rfl⟩
  refine lv_aload_n hx hb dL_law_2362 rfl (lv_at hl 1 rfl) ?_
  refine lv_aload_n hx hb dL_law_2363 rfl (lv_at hl 0 rfl) ?_
  refine lv_iload hx hb dL_law_2364 (lv_at hl 5 rfl) ?_
  refine lv_iconst (v := 1) hx hb dL_law_2366 (by decide) ?_
  refine lv_iadd hx hb dL_law_2367 ?_
  refine lv_topi (fun y1 ey1 => ?_)
  obtain rfl : y1 = 1 := ey1.trans (by decide)
  refine va_sld hx hb hX hbl hbA hS (vp_in_nI (n := 1) (by decide) (by decide)) dL_law_2368 ?_
  rw [← ea1]
  refine lv_aload_n hx hb dL_law_2369 rfl (lv_at hl 0 rfl) ?_
  refine lv_iload hx hb dL_law_2370 (lv_at hl 5 rfl) ?_
  refine lv_iconst (v := 2) hx hb dL_law_2372 (by decide) ?_
  refine lv_iadd hx hb dL_law_2373 ?_
  refine lv_topi (fun y2 ey2 => ?_)
  obtain rfl : y2 = 2 := ey2.trans (by decide)
  refine va_sld hx hb hX hbl hbA hS (vp_in_nI (n := 2) (by decide) (by decide)) dL_law_2374 ?_
  rw [← ea2]
  refine lv_if_eq (tgt := 2382) hx hb dL_law_2375 (by decide) (fun c_3 => ?_) (fun c_3 => ?_)
  · skip
    refine lv_iconst (v := 0) hx hb dL_law_2382 (by decide) ?_
    refine lv_aload_n hx hb dL_law_2383 rfl (lv_at hl 3 rfl) ?_
    have hPc := hP.sub (ws' := [(x, .inr (12, [.ref (rx 0), .ref (rx 1), .ref (rx 2), .ref (rx 3), .int 0, .int 0, .int 1, .int 110, .int 0, .int 115, .int 0, .int 0, .int 0, .int 0]))]) [0] rfl
    have hDc := hD.sub (ws' := [(x, .inr (12, [.ref (rx 0), .ref (rx 1), .ref (rx 2), .ref (rx 3), .int 0, .int 0, .int 1, .int 110, .int 0, .int 115, .int 0, .int 0, .int 0, .int 0]))]) [0] (by decide) rfl
    have hKc := hK.sub (tys' := []) [] rfl
    have hFc := va_free (wc := [(x, .inr (12, [.ref (rx 0), .ref (rx 1), .ref (rx 2), .ref (rx 3), .int 0, .int 0, .int 1, .int 110, .int 0, .int 115, .int 0, .int 0, .int 0, .int 0]))]) hD hS hA [0] rfl
    refine va_calli (vx_runSW (As := [.ref x, .int a1, .int 0, .ref o]) (rest := []) ⟨hx, hb, hml, hown, hts⟩ (c_L_lie l hlT D x rx o H.size a1 0) (vx_cwSW 4 hts gL_law_L_lie rfl rfl rfl (by decide +kernel) ⟨Nat.le_of_ble_eq_true rfl, Nat.le_of_ble_eq_true rfl⟩) ⟨fun a U g mk q => ⟨q.1, PX6.blind q.2⟩, fun U hU hW => ⟨rfl, PX6.go hPc hKc hT hS hA hU hW⟩⟩ rfl rfl hl.1 rfl (lv_room (Nat.le_of_ble_eq_true rfl)) dL_law_2384 ⟨Nat.le_of_ble_eq_true rfl, Nat.le_of_ble_eq_true rfl⟩) hS (fun q h1 h2 => absurd h1 (Nat.not_lt.mpr h2)) (fun q h => hA q (Nat.le_trans hS.1 h)) (fun r4 u t H1 locs ht hvm hw hB hz1 hk1 hS => ?_)
    have hP := va_kept0 hP hk1
    generalize H1 = H at hP hS ⊢
    have hP : va_P D vwCl [(x, .inr (12, [.ref (rx 0), .ref (rx 1), .ref (rx 2), .ref (rx 3), .int 0, .int 0, .int 1, .int 110, .int 0, .int 115, .int 0, .int 0, .int 0, .int 0])), (m7, .inr (13, [.ref (rm 0), .ref (rm 1), .ref (rm 2), .ref (rm 3), .ref (rm 4), .ref (rm 5), .ref (rm 6), .ref (rm 7), .ref (rm 8), .ref (rm 9), .ref (rm 10), .ref (rm 11), .ref (rm 12), .ref (rm 13), .ref (rm 14), .ref (rm 15), .int 0, .int 0, .int 1, .int 110, .int 0, .int 0, .int 0, .int 0, .int 0, .int 0, .int 0, .int 0, .int 0, .int 0, .int 0])), (o, .inl (cO, 1, .inr (.inl fo))), (o2, .inl (cD, 1, .inr (.inr (.inr (.inl fd)))))] H := hP
    have hD := hD
    refine W.widen (k := 141) (n := 11929) (Nat.le_of_ble_eq_true rfl) (Nat.le_of_ble_eq_true rfl) ?_
    obtain rfl : r4 = 1 := hw
    refine lv_istore (lv' := [(6, .int 1), (0, .ref b), (1, .ref x), (2, .ref m7), (3, .ref o), (4, .ref o2), (5, .int 0)]) hx hb dL_law_2387 hl (by decide) rfl (fun ls hl => ?_)
    refine lv_aload_n hx hb dL_law_2389 rfl (lv_at hl 3 rfl) ?_
    refine lv_aload_n hx hb dL_law_2390 rfl (lv_at hl 1 rfl) ?_
    refine lv_iload hx hb dL_law_2391 (lv_at hl 6 rfl) ?_
    refine lv_iconst (v := 1) hx hb dL_law_2393 (by decide) ?_
    refine lv_iadd hx hb dL_law_2394 ?_
    refine lv_topi (fun y5 ey5 => ?_)
    obtain rfl : y5 = 1 := ey5.trans (by decide)
    refine va_sld hx hb hX hbl hbA hS (vp_in_nI (n := 1) (by decide) (by decide)) dL_law_2395 ?_
    rw [← ea1]
    refine lv_aload_n hx hb dL_law_2396 rfl (lv_at hl 1 rfl) ?_
    refine lv_iload hx hb dL_law_2397 (lv_at hl 6 rfl) ?_
    refine lv_iconst (v := 2) hx hb dL_law_2399 (by decide) ?_
    refine lv_iadd hx hb dL_law_2400 ?_
    refine lv_topi (fun y6 ey6 => ?_)
    obtain rfl : y6 = 2 := ey6.trans (by decide)
    refine va_sld hx hb hX hbl hbA hS (vp_in_nI (n := 2) (by decide) (by decide)) dL_law_2401 ?_
    rw [← ea2]
    refine lv_if_eq (tgt := 2409) hx hb dL_law_2402 (by decide) (fun _ => ?_) (fun c => by first | exact absurd c_3 c | exact absurd c c_3)
    refine lv_iconst (v := 0) hx hb dL_law_2409 (by decide) ?_
    have hPc := hP.sub (ws' := [(m7, .inr (13, [.ref (rm 0), .ref (rm 1), .ref (rm 2), .ref (rm 3), .ref (rm 4), .ref (rm 5), .ref (rm 6), .ref (rm 7), .ref (rm 8), .ref (rm 9), .ref (rm 10), .ref (rm 11), .ref (rm 12), .ref (rm 13), .ref (rm 14), .ref (rm 15), .int 0, .int 0, .int 1, .int 110, .int 0, .int 0, .int 0, .int 0, .int 0, .int 0, .int 0, .int 0, .int 0, .int 0, .int 0]))]) [1] rfl
    have hDc := hD.sub (ws' := [(m7, .inr (13, [.ref (rm 0), .ref (rm 1), .ref (rm 2), .ref (rm 3), .ref (rm 4), .ref (rm 5), .ref (rm 6), .ref (rm 7), .ref (rm 8), .ref (rm 9), .ref (rm 10), .ref (rm 11), .ref (rm 12), .ref (rm 13), .ref (rm 14), .ref (rm 15), .int 0, .int 0, .int 1, .int 110, .int 0, .int 0, .int 0, .int 0, .int 0, .int 0, .int 0, .int 0, .int 0, .int 0, .int 0]))]) [1] (by decide) rfl
    have hKc := hK.sub (tys' := []) [] rfl
    have hFc := va_free (wc := [(m7, .inr (13, [.ref (rm 0), .ref (rm 1), .ref (rm 2), .ref (rm 3), .ref (rm 4), .ref (rm 5), .ref (rm 6), .ref (rm 7), .ref (rm 8), .ref (rm 9), .ref (rm 10), .ref (rm 11), .ref (rm 12), .ref (rm 13), .ref (rm 14), .ref (rm 15), .int 0, .int 0, .int 1, .int 110, .int 0, .int 0, .int 0, .int 0, .int 0, .int 0, .int 0, .int 0, .int 0, .int 0, .int 0]))]) hD hS hA [1] rfl
    have hFr : ∀ q : Nat, rg1 m7 H.size q → A q := fun q h => hFc q (va_Arg1 q h)
    refine va_calli (va_runV (As := [.int a1, .int 0]) (rest := []) ⟨hx, hb, hml, hown, hts⟩ (c_X7_lie l D m7 rm H.size a1 0) (cwV 2 hts gL_law_X7_lie rfl rfl rfl (by decide +kernel) ⟨Nat.le_of_ble_eq_true rfl, Nat.le_of_ble_eq_true rfl⟩) ⟨fun a U g mk q => ⟨q.1, PX7.blind q.2⟩, va_recv hK hP (ci := 13) (q0 := 1) rfl rfl, fun U hU hW => ⟨rfl, PX7.go hPc hKc hU hW⟩⟩ rfl rfl hl.1 rfl (lv_room (Nat.le_of_ble_eq_true rfl)) dL_law_2410 ⟨Nat.le_of_ble_eq_true rfl, Nat.le_of_ble_eq_true rfl⟩) hS (fun q _ h => hFr q h) hFr (fun r8 u t H1 locs ht hvm hw hB hz1 hk1 hS => ?_)
    obtain ⟨um, eum⟩ : ∃ z, z = u := ⟨_, rfl⟩
    rw [← eum] at hB hw
    rw [ht] at hB
    have hP1 := hB
    have hD1 : va_D (va_A [(m7, .inr (13, [.ref (rm 0), .ref (rm 1), .ref (rm 2), .ref (rm 3), .ref (rm 4), .ref (rm 5), .ref (rm 6), .ref (rm 7), .ref (rm 8), .ref (rm 9), .ref (rm 10), .ref (rm 11), .ref (rm 12), .ref (rm 13), .ref (rm 14), .ref (rm 15), .int 0, .int 0, .int 1, .int 110, .int 0, .int 0, .int 0, .int 0, .int 0, .int 0, .int 0, .int 0, .int 0, .int 0, .int 0]))] H.size) [(m7, .inr (13, um))] := va_D1 (Or.inl ⟨0, _, rfl⟩)
    have hk1 : ∀ q : Nat, q < H.size → ¬ va_A [(m7, .inr (13, [.ref (rm 0), .ref (rm 1), .ref (rm 2), .ref (rm 3), .ref (rm 4), .ref (rm 5), .ref (rm 6), .ref (rm 7), .ref (rm 8), .ref (rm 9), .ref (rm 10), .ref (rm 11), .ref (rm 12), .ref (rm 13), .ref (rm 14), .ref (rm 15), .int 0, .int 0, .int 1, .int 110, .int 0, .int 0, .int 0, .int 0, .int 0, .int 0, .int 0, .int 0, .int 0, .int 0, .int 0]))] H.size q → H1[q]? = H[q]? := fun q h1 h2 => hk1 q h1 (fun h3 => h2 (va_Arg1 q h3))
    obtain ⟨hP, hD⟩ := va_join (wr := [(x, .inr (12, [.ref (rx 0), .ref (rx 1), .ref (rx 2), .ref (rx 3), .int 0, .int 0, .int 1, .int 110, .int 0, .int 115, .int 0, .int 0, .int 0, .int 0])), (o, .inl (cO, 1, .inr (.inl fo))), (o2, .inl (cD, 1, .inr (.inr (.inr (.inl fd)))))]) (w1 := [(m7, .inr (13, um))]) hP hD [1] [0, 2, 3] rfl rfl (by decide) (by decide) hk1 hFc hP1 hD1
    generalize H1 = H at hP hS ⊢
    have hP : va_P D vwCl [(x, .inr (12, [.ref (rx 0), .ref (rx 1), .ref (rx 2), .ref (rx 3), .int 0, .int 0, .int 1, .int 110, .int 0, .int 115, .int 0, .int 0, .int 0, .int 0])), (o, .inl (cO, 1, .inr (.inl fo))), (o2, .inl (cD, 1, .inr (.inr (.inr (.inl fd))))), (m7, .inr (13, um))] H := hP
    have hD : va_D A [(x, .inr (12, [.ref (rx 0), .ref (rx 1), .ref (rx 2), .ref (rx 3), .int 0, .int 0, .int 1, .int 110, .int 0, .int 115, .int 0, .int 0, .int 0, .int 0])), (o, .inl (cO, 1, .inr (.inl fo))), (o2, .inl (cD, 1, .inr (.inr (.inr (.inl fd))))), (m7, .inr (13, um))] := hD
    refine W.widen (k := 141) (n := 11929) (Nat.le_of_ble_eq_true rfl) (Nat.le_of_ble_eq_true rfl) ?_
    have hu30 := hw
    refine lv_istore (lv' := [(7, .int r8), (6, .int 1), (0, .ref b), (1, .ref x), (2, .ref m7), (3, .ref o), (4, .ref o2), (5, .int 0)]) hx hb dL_law_2413 hl (by decide) rfl (fun ls hl => ?_)
    refine lv_aload_n hx hb dL_law_2415 rfl (lv_at hl 4 rfl) ?_
    have hPc := hP.sub (ws' := [(m7, .inr (13, um))]) [3] rfl
    have hKc := hK.sub (tys' := []) [] rfl
    refine va_calli (va_runV (As := []) (rest := []) ⟨hx, hb, hml, hown, hts⟩ (c_X7_thrown l D m7 um 1 hu30 H.size) (cwV 0 hts gL_law_X7_thrown rfl rfl rfl (by decide +kernel) ⟨Nat.le_of_ble_eq_true rfl, Nat.le_of_ble_eq_true rfl⟩) ⟨fun a U g mk q => ⟨q.1, q.2.1, q.2.2.1, va_K.moved (u := U) (U := U.calling g mk a) (Vm.Alike.refl U.vm) q.2.2.2⟩, va_recv hK hP (ci := 13) (q0 := 3) rfl rfl, fun U hU hW => ⟨rfl, congrArg Array.size hU, by rw [hU]; exact hPc, va_K.moved hW.alike hKc⟩⟩ rfl rfl hl.1 rfl (lv_room (Nat.le_of_ble_eq_true rfl)) dL_law_2416 ⟨Nat.le_of_ble_eq_true rfl, Nat.le_of_ble_eq_true rfl⟩) hS (fun q h1 h2 => absurd h1 (Nat.not_lt.mpr h2)) (fun q h => hA q (Nat.le_trans hS.1 h)) (fun r9 u t H1 locs ht hvm hw hB hz1 hk1 hS => ?_)
    have hP := va_kept0 hP hk1
    generalize H1 = H at hP hS ⊢
    have hP : va_P D vwCl [(x, .inr (12, [.ref (rx 0), .ref (rx 1), .ref (rx 2), .ref (rx 3), .int 0, .int 0, .int 1, .int 110, .int 0, .int 115, .int 0, .int 0, .int 0, .int 0])), (o, .inl (cO, 1, .inr (.inl fo))), (o2, .inl (cD, 1, .inr (.inr (.inr (.inl fd))))), (m7, .inr (13, um))] H := hP
    obtain rfl : r9 = 1 := hw
    refine lv_iload hx hb dL_law_2419 (lv_at hl 1 rfl) ?_
    refine lv_icmp_eq (tgt := 2426) hx hb dL_law_2421 (by decide) (fun _ => ?_) (fun c => by first | exact absurd (by decide) c | exact absurd c (by decide))
    refine lv_iload hx hb dL_law_2426 (lv_at hl 1 rfl) ?_
    refine lv_if_ne (tgt := 2443) hx hb dL_law_2428 (by decide) (fun _ => ?_) (fun c => by first | exact absurd (by decide) c | exact absurd c (by decide))
    refine lv_goto (tgt := 3904) hx hb dL_law_2443 (by decide) ?_
    refine W.widen (k := 200) (n := 12100) (Nat.le_of_ble_eq_true rfl) (Nat.le_of_ble_eq_true rfl) ?_
    exact kk H locs ls hS (lv_sub hl [2, 7] rfl)
  · skip
    refine lv_iconst (v := 1) hx hb dL_law_2378 (by decide) ?_
    refine lv_goto (tgt := 2383) hx hb dL_law_2379 (by decide) ?_
    refine lv_aload_n hx hb dL_law_2383 rfl (lv_at hl 3 rfl) ?_
    have hPc := hP.sub (ws' := [(x, .inr (12, [.ref (rx 0), .ref (rx 1), .ref (rx 2), .ref (rx 3), .int 0, .int 0, .int 1, .int 110, .int 0, .int 115, .int 0, .int 0, .int 0, .int 0]))]) [0] rfl
    have hDc := hD.sub (ws' := [(x, .inr (12, [.ref (rx 0), .ref (rx 1), .ref (rx 2), .ref (rx 3), .int 0, .int 0, .int 1, .int 110, .int 0, .int 115, .int 0, .int 0, .int 0, .int 0]))]) [0] (by decide) rfl
    have hKc := hK.sub (tys' := []) [] rfl
    have hFc := va_free (wc := [(x, .inr (12, [.ref (rx 0), .ref (rx 1), .ref (rx 2), .ref (rx 3), .int 0, .int 0, .int 1, .int 110, .int 0, .int 115, .int 0, .int 0, .int 0, .int 0]))]) hD hS hA [0] rfl
    refine va_calli (vx_runSW (As := [.ref x, .int a1, .int 1, .ref o]) (rest := []) ⟨hx, hb, hml, hown, hts⟩ (c_L_lie l hlT D x rx o H.size a1 1) (vx_cwSW 4 hts gL_law_L_lie rfl rfl rfl (by decide +kernel) ⟨Nat.le_of_ble_eq_true rfl, Nat.le_of_ble_eq_true rfl⟩) ⟨fun a U g mk q => ⟨q.1, PX6.blind q.2⟩, fun U hU hW => ⟨rfl, PX6.go hPc hKc hT hS hA hU hW⟩⟩ rfl rfl hl.1 rfl (lv_room (Nat.le_of_ble_eq_true rfl)) dL_law_2384 ⟨Nat.le_of_ble_eq_true rfl, Nat.le_of_ble_eq_true rfl⟩) hS (fun q h1 h2 => absurd h1 (Nat.not_lt.mpr h2)) (fun q h => hA q (Nat.le_trans hS.1 h)) (fun r12 u t H1 locs ht hvm hw hB hz1 hk1 hS => ?_)
    have hP := va_kept0 hP hk1
    generalize H1 = H at hP hS ⊢
    have hP : va_P D vwCl [(x, .inr (12, [.ref (rx 0), .ref (rx 1), .ref (rx 2), .ref (rx 3), .int 0, .int 0, .int 1, .int 110, .int 0, .int 115, .int 0, .int 0, .int 0, .int 0])), (m7, .inr (13, [.ref (rm 0), .ref (rm 1), .ref (rm 2), .ref (rm 3), .ref (rm 4), .ref (rm 5), .ref (rm 6), .ref (rm 7), .ref (rm 8), .ref (rm 9), .ref (rm 10), .ref (rm 11), .ref (rm 12), .ref (rm 13), .ref (rm 14), .ref (rm 15), .int 0, .int 0, .int 1, .int 110, .int 0, .int 0, .int 0, .int 0, .int 0, .int 0, .int 0, .int 0, .int 0, .int 0, .int 0])), (o, .inl (cO, 1, .inr (.inl fo))), (o2, .inl (cD, 1, .inr (.inr (.inr (.inl fd)))))] H := hP
    have hD := hD
    refine W.widen (k := 141) (n := 11929) (Nat.le_of_ble_eq_true rfl) (Nat.le_of_ble_eq_true rfl) ?_
    obtain rfl : r12 = 1 := hw
    refine lv_istore (lv' := [(6, .int 1), (0, .ref b), (1, .ref x), (2, .ref m7), (3, .ref o), (4, .ref o2), (5, .int 0)]) hx hb dL_law_2387 hl (by decide) rfl (fun ls hl => ?_)
    refine lv_aload_n hx hb dL_law_2389 rfl (lv_at hl 3 rfl) ?_
    refine lv_aload_n hx hb dL_law_2390 rfl (lv_at hl 1 rfl) ?_
    refine lv_iload hx hb dL_law_2391 (lv_at hl 6 rfl) ?_
    refine lv_iconst (v := 1) hx hb dL_law_2393 (by decide) ?_
    refine lv_iadd hx hb dL_law_2394 ?_
    refine lv_topi (fun y13 ey13 => ?_)
    obtain rfl : y13 = 1 := ey13.trans (by decide)
    refine va_sld hx hb hX hbl hbA hS (vp_in_nI (n := 1) (by decide) (by decide)) dL_law_2395 ?_
    rw [← ea1]
    refine lv_aload_n hx hb dL_law_2396 rfl (lv_at hl 1 rfl) ?_
    refine lv_iload hx hb dL_law_2397 (lv_at hl 6 rfl) ?_
    refine lv_iconst (v := 2) hx hb dL_law_2399 (by decide) ?_
    refine lv_iadd hx hb dL_law_2400 ?_
    refine lv_topi (fun y14 ey14 => ?_)
    obtain rfl : y14 = 2 := ey14.trans (by decide)
    refine va_sld hx hb hX hbl hbA hS (vp_in_nI (n := 2) (by decide) (by decide)) dL_law_2401 ?_
    rw [← ea2]
    refine lv_if_eq (tgt := 2409) hx hb dL_law_2402 (by decide) (fun c => by first | exact absurd c_3 c | exact absurd c c_3) (fun _ => ?_)
    refine lv_iconst (v := 1) hx hb dL_law_2405 (by decide) ?_
    refine lv_goto (tgt := 2410) hx hb dL_law_2406 (by decide) ?_
    have hPc := hP.sub (ws' := [(m7, .inr (13, [.ref (rm 0), .ref (rm 1), .ref (rm 2), .ref (rm 3), .ref (rm 4), .ref (rm 5), .ref (rm 6), .ref (rm 7), .ref (rm 8), .ref (rm 9), .ref (rm 10), .ref (rm 11), .ref (rm 12), .ref (rm 13), .ref (rm 14), .ref (rm 15), .int 0, .int 0, .int 1, .int 110, .int 0, .int 0, .int 0, .int 0, .int 0, .int 0, .int 0, .int 0, .int 0, .int 0, .int 0]))]) [1] rfl
    have hDc := hD.sub (ws' := [(m7, .inr (13, [.ref (rm 0), .ref (rm 1), .ref (rm 2), .ref (rm 3), .ref (rm 4), .ref (rm 5), .ref (rm 6), .ref (rm 7), .ref (rm 8), .ref (rm 9), .ref (rm 10), .ref (rm 11), .ref (rm 12), .ref (rm 13), .ref (rm 14), .ref (rm 15), .int 0, .int 0, .int 1, .int 110, .int 0, .int 0, .int 0, .int 0, .int 0, .int 0, .int 0, .int 0, .int 0, .int 0, .int 0]))]) [1] (by decide) rfl
    have hKc := hK.sub (tys' := []) [] rfl
    have hFc := va_free (wc := [(m7, .inr (13, [.ref (rm 0), .ref (rm 1), .ref (rm 2), .ref (rm 3), .ref (rm 4), .ref (rm 5), .ref (rm 6), .ref (rm 7), .ref (rm 8), .ref (rm 9), .ref (rm 10), .ref (rm 11), .ref (rm 12), .ref (rm 13), .ref (rm 14), .ref (rm 15), .int 0, .int 0, .int 1, .int 110, .int 0, .int 0, .int 0, .int 0, .int 0, .int 0, .int 0, .int 0, .int 0, .int 0, .int 0]))]) hD hS hA [1] rfl
    have hFr : ∀ q : Nat, rg1 m7 H.size q → A q := fun q h => hFc q (va_Arg1 q h)
    refine va_calli (va_runV (As := [.int a1, .int 1]) (rest := []) ⟨hx, hb, hml, hown, hts⟩ (c_X7_lie l D m7 rm H.size a1 1) (cwV 2 hts gL_law_X7_lie rfl rfl rfl (by decide +kernel) ⟨Nat.le_of_ble_eq_true rfl, Nat.le_of_ble_eq_true rfl⟩) ⟨fun a U g mk q => ⟨q.1, PX7.blind q.2⟩, va_recv hK hP (ci := 13) (q0 := 1) rfl rfl, fun U hU hW => ⟨rfl, PX7.go hPc hKc hU hW⟩⟩ rfl rfl hl.1 rfl (lv_room (Nat.le_of_ble_eq_true rfl)) dL_law_2410 ⟨Nat.le_of_ble_eq_true rfl, Nat.le_of_ble_eq_true rfl⟩) hS (fun q _ h => hFr q h) hFr (fun r16 u t H1 locs ht hvm hw hB hz1 hk1 hS => ?_)
    obtain ⟨um, eum⟩ : ∃ z, z = u := ⟨_, rfl⟩
    rw [← eum] at hB hw
    rw [ht] at hB
    have hP1 := hB
    have hD1 : va_D (va_A [(m7, .inr (13, [.ref (rm 0), .ref (rm 1), .ref (rm 2), .ref (rm 3), .ref (rm 4), .ref (rm 5), .ref (rm 6), .ref (rm 7), .ref (rm 8), .ref (rm 9), .ref (rm 10), .ref (rm 11), .ref (rm 12), .ref (rm 13), .ref (rm 14), .ref (rm 15), .int 0, .int 0, .int 1, .int 110, .int 0, .int 0, .int 0, .int 0, .int 0, .int 0, .int 0, .int 0, .int 0, .int 0, .int 0]))] H.size) [(m7, .inr (13, um))] := va_D1 (Or.inl ⟨0, _, rfl⟩)
    have hk1 : ∀ q : Nat, q < H.size → ¬ va_A [(m7, .inr (13, [.ref (rm 0), .ref (rm 1), .ref (rm 2), .ref (rm 3), .ref (rm 4), .ref (rm 5), .ref (rm 6), .ref (rm 7), .ref (rm 8), .ref (rm 9), .ref (rm 10), .ref (rm 11), .ref (rm 12), .ref (rm 13), .ref (rm 14), .ref (rm 15), .int 0, .int 0, .int 1, .int 110, .int 0, .int 0, .int 0, .int 0, .int 0, .int 0, .int 0, .int 0, .int 0, .int 0, .int 0]))] H.size q → H1[q]? = H[q]? := fun q h1 h2 => hk1 q h1 (fun h3 => h2 (va_Arg1 q h3))
    obtain ⟨hP, hD⟩ := va_join (wr := [(x, .inr (12, [.ref (rx 0), .ref (rx 1), .ref (rx 2), .ref (rx 3), .int 0, .int 0, .int 1, .int 110, .int 0, .int 115, .int 0, .int 0, .int 0, .int 0])), (o, .inl (cO, 1, .inr (.inl fo))), (o2, .inl (cD, 1, .inr (.inr (.inr (.inl fd)))))]) (w1 := [(m7, .inr (13, um))]) hP hD [1] [0, 2, 3] rfl rfl (by decide) (by decide) hk1 hFc hP1 hD1
    generalize H1 = H at hP hS ⊢
    have hP : va_P D vwCl [(x, .inr (12, [.ref (rx 0), .ref (rx 1), .ref (rx 2), .ref (rx 3), .int 0, .int 0, .int 1, .int 110, .int 0, .int 115, .int 0, .int 0, .int 0, .int 0])), (o, .inl (cO, 1, .inr (.inl fo))), (o2, .inl (cD, 1, .inr (.inr (.inr (.inl fd))))), (m7, .inr (13, um))] H := hP
    have hD : va_D A [(x, .inr (12, [.ref (rx 0), .ref (rx 1), .ref (rx 2), .ref (rx 3), .int 0, .int 0, .int 1, .int 110, .int 0, .int 115, .int 0, .int 0, .int 0, .int 0])), (o, .inl (cO, 1, .inr (.inl fo))), (o2, .inl (cD, 1, .inr (.inr (.inr (.inl fd))))), (m7, .inr (13, um))] := hD
    refine W.widen (k := 141) (n := 11929) (Nat.le_of_ble_eq_true rfl) (Nat.le_of_ble_eq_true rfl) ?_
    have hu30 := hw
    refine lv_istore (lv' := [(7, .int r16), (6, .int 1), (0, .ref b), (1, .ref x), (2, .ref m7), (3, .ref o), (4, .ref o2), (5, .int 0)]) hx hb dL_law_2413 hl (by decide) rfl (fun ls hl => ?_)
    refine lv_aload_n hx hb dL_law_2415 rfl (lv_at hl 4 rfl) ?_
    have hPc := hP.sub (ws' := [(m7, .inr (13, um))]) [3] rfl
    have hKc := hK.sub (tys' := []) [] rfl
    refine va_calli (va_runV (As := []) (rest := []) ⟨hx, hb, hml, hown, hts⟩ (c_X7_thrown l D m7 um 1 hu30 H.size) (cwV 0 hts gL_law_X7_thrown rfl rfl rfl (by decide +kernel) ⟨Nat.le_of_ble_eq_true rfl, Nat.le_of_ble_eq_true rfl⟩) ⟨fun a U g mk q => ⟨q.1, q.2.1, q.2.2.1, va_K.moved (u := U) (U := U.calling g mk a) (Vm.Alike.refl U.vm) q.2.2.2⟩, va_recv hK hP (ci := 13) (q0 := 3) rfl rfl, fun U hU hW => ⟨rfl, congrArg Array.size hU, by rw [hU]; exact hPc, va_K.moved hW.alike hKc⟩⟩ rfl rfl hl.1 rfl (lv_room (Nat.le_of_ble_eq_true rfl)) dL_law_2416 ⟨Nat.le_of_ble_eq_true rfl, Nat.le_of_ble_eq_true rfl⟩) hS (fun q h1 h2 => absurd h1 (Nat.not_lt.mpr h2)) (fun q h => hA q (Nat.le_trans hS.1 h)) (fun r17 u t H1 locs ht hvm hw hB hz1 hk1 hS => ?_)
    have hP := va_kept0 hP hk1
    generalize H1 = H at hP hS ⊢
    have hP : va_P D vwCl [(x, .inr (12, [.ref (rx 0), .ref (rx 1), .ref (rx 2), .ref (rx 3), .int 0, .int 0, .int 1, .int 110, .int 0, .int 115, .int 0, .int 0, .int 0, .int 0])), (o, .inl (cO, 1, .inr (.inl fo))), (o2, .inl (cD, 1, .inr (.inr (.inr (.inl fd))))), (m7, .inr (13, um))] H := hP
    obtain rfl : r17 = 1 := hw
    refine lv_iload hx hb dL_law_2419 (lv_at hl 1 rfl) ?_
    refine lv_icmp_eq (tgt := 2426) hx hb dL_law_2421 (by decide) (fun _ => ?_) (fun c => by first | exact absurd (by decide) c | exact absurd c (by decide))
    refine lv_iload hx hb dL_law_2426 (lv_at hl 1 rfl) ?_
    refine lv_if_ne (tgt := 2443) hx hb dL_law_2428 (by decide) (fun _ => ?_) (fun c => by first | exact absurd (by decide) c | exact absurd c (by decide))
    refine lv_goto (tgt := 3904) hx hb dL_law_2443 (by decide) ?_
    refine W.widen (k := 200) (n := 12100) (Nat.le_of_ble_eq_true rfl) (Nat.le_of_ble_eq_true rfl) ?_
    exact kk H locs ls hS (lv_sub hl [2, 7] rfl)
set_option maxHeartbeats 4000000 in
set_option maxRecDepth 100000 in
theorem law_c31 (l : Launch) (hlT : l.stackTraces = false) {p : Program} {e : Env} {s : State} {m : MethodId} {below : List Frame} {meth : Method} {c : Code} {Q : State → Prop} {D : va_G} {A : Nat → Prop} {b : Nat} {xs : Nat → Int32} {x m7 o o2 : Nat} {rx rm : Nat → Nat} {cO cD : ClassId} {fo : Nat → Int64} {fd : Nat → UInt64} {H : Heap} {locs : List Loc} {ls : Array Slot} (hx : p.tables.exec = Jvm.exec) (hb : c.code = cL_law) (hml : c.maxLocals = 9) (hown : s.vm.findClass RL = some m.cls) (hts : ∀ w ∈ wsL_law, w.before #[Value.ref b] s = true) (hX : va_X b 7 xs s s.heap) (hbl : b < s.heap.size) (hbA : ¬ A b) (hA : ∀ q : Nat, s.heap.size ≤ q → A q) (hT : tf A s s.heap)
    (hK : va_K D vwCl [(cO, .long), (cD, .double)] s) (hP : va_P D vwCl [(x, .inr (12, [.ref (rx 0), .ref (rx 1), .ref (rx 2), .ref (rx 3), .int 0, .int 0, .int 1, .int 110, .int 0, .int 115, .int 0, .int 0, .int 0, .int 0])), (m7, .inr (13, [.ref (rm 0), .ref (rm 1), .ref (rm 2), .ref (rm 3), .ref (rm 4), .ref (rm 5), .ref (rm 6), .ref (rm 7), .ref (rm 8), .ref (rm 9), .ref (rm 10), .ref (rm 11), .ref (rm 12), .ref (rm 13), .ref (rm 14), .ref (rm 15), .int 0, .int 0, .int 1, .int 110, .int 0, .int 0, .int 0, .int 0, .int 0, .int 0, .int 0, .int 0, .int 0, .int 0, .int 0])), (o, .inl (cO, 1, .inr (.inl fo))), (o2, .inl (cD, 1, .inr (.inr (.inr (.inl fd)))))] H) (hD : va_D A [(x, .inr (12, [.ref (rx 0), .ref (rx 1), .ref (rx 2), .ref (rx 3), .int 0, .int 0, .int 1, .int 110, .int 0, .int 115, .int 0, .int 0, .int 0, .int 0])), (m7, .inr (13, [.ref (rm 0), .ref (rm 1), .ref (rm 2), .ref (rm 3), .ref (rm 4), .ref (rm 5), .ref (rm 6), .ref (rm 7), .ref (rm 8), .ref (rm 9), .ref (rm 10), .ref (rm 11), .ref (rm 12), .ref (rm 13), .ref (rm 14), .ref (rm 15), .int 0, .int 0, .int 1, .int 110, .int 0, .int 0, .int 0, .int 0, .int 0, .int 0, .int 0, .int 0, .int 0, .int 0, .int 0])), (o, .inl (cO, 1, .inr (.inl fo))), (o2, .inl (cD, 1, .inr (.inr (.inr (.inl fd)))))]) (hS : va_S A s.heap H locs) (hl : lv_has ls 9 [(0, .ref b), (1, .ref x), (2, .ref m7), (3, .ref o), (4, .ref o2), (5, .int 0)])
    (kk : ∀ (H : Heap) (locs : List Loc) (ls : Array Slot), va_S A s.heap H locs → lv_has ls 9 [(0, .ref b), (5, .int 0)] → W p l e room_1 s m #[Value.ref b] below meth c H locs 200 12100 Q (F0 m 3904 ls [])) :
    W p l e room_1 s m #[Value.ref b] below meth c H locs 140 11923 Q (F0 m 2446 ls []) := by
  obtain ⟨a1, ea1⟩ : ∃ z, z = xs (1 : Int32).toNatClampNeg := ⟨_, rfl⟩
  obtain ⟨a2, ea2⟩ : ∃ z, z = xs (2 : Int32).toNatClampNeg := ⟨_, rfl⟩
  obtain ⟨a3, ea3⟩ : ∃ z, z = xs (3 : Int32).toNatClampNeg := ⟨_, rfl⟩
  obtain ⟨a4, ea4⟩ : ∃ z, z = xs (4 : Int32).toNatClampNeg := ⟨_, rfl⟩
  obtain ⟨a5, ea5⟩ : ∃ z, z = xs (5 : Int32).toNatClampNeg := ⟨_, rfl⟩
  obtain ⟨a6, ea6⟩ : ∃ z, z = xs (6 : Int32).toNatClampNeg := ⟨_, rfl⟩
  refine lv_aload_n hx hb dL_law_2446 rfl (lv_at hl 1 rfl) ?_
  refine lv_aload_n hx hb dL_law_2447 rfl (lv_at hl 0 rfl) ?_
  refine lv_iload hx hb dL_law_2448 (lv_at hl 5 rfl) ?_
  refine lv_iconst (v := 1) hx hb dL_law_2450 (by decide) ?_
  refine lv_iadd hx hb dL_law_2451 ?_
  refine lv_topi (fun y1 ey1 => ?_)
  obtain rfl : y1 = 1 := ey1.trans (by decide)
  refine va_sld hx hb hX hbl hbA hS (vp_in_nI (n := 1) (by decide) (by decide)) dL_law_2452 ?_
  rw [← ea1]
  refine lv_aload_n hx hb dL_law_2453 rfl (lv_at hl 3 rfl) ?_
  have hPc := hP.sub (ws' := [(x, .inr (12, [.ref (rx 0), .ref (rx 1), .ref (rx 2), .ref (rx 3), .int 0, .int 0, .int 1, .int 110, .int 0, .int 115, .int 0, .int 0, .int 0, .int 0]))]) [0] rfl
  have hDc := hD.sub (ws' := [(x, .inr (12, [.ref (rx 0), .ref (rx 1), .ref (rx 2), .ref (rx 3), .int 0, .int 0, .int 1, .int 110, .int 0, .int 115, .int 0, .int 0, .int 0, .int 0]))]) [0] (by decide) rfl
  have hKc := hK.sub (tys' := []) [] rfl
  have hFc := va_free (wc := [(x, .inr (12, [.ref (rx 0), .ref (rx 1), .ref (rx 2), .ref (rx 3), .int 0, .int 0, .int 1, .int 110, .int 0, .int 115, .int 0, .int 0, .int 0, .int 0]))]) hD hS hA [0] rfl
  refine va_calli (vx_runSW (As := [.ref x, .int a1, .ref o]) (rest := []) ⟨hx, hb, hml, hown, hts⟩ (c_L_strokes l hlT D x rx o H.size a1) (vx_cwSW 3 hts gL_law_L_strokes rfl rfl rfl (by decide +kernel) ⟨Nat.le_of_ble_eq_true rfl, Nat.le_of_ble_eq_true rfl⟩) ⟨fun a U g mk q => ⟨q.1, PX6.blind q.2⟩, fun U hU hW => ⟨rfl, PX6.go hPc hKc hT hS hA hU hW⟩⟩ rfl rfl hl.1 rfl (lv_room (Nat.le_of_ble_eq_true rfl)) dL_law_2454 ⟨Nat.le_of_ble_eq_true rfl, Nat.le_of_ble_eq_true rfl⟩) hS (fun q h1 h2 => absurd h1 (Nat.not_lt.mpr h2)) (fun q h => hA q (Nat.le_trans hS.1 h)) (fun r2 u t H1 locs ht hvm hw hB hz1 hk1 hS => ?_)
  have hP := va_kept0 hP hk1
  generalize H1 = H at hP hS ⊢
  have hP : va_P D vwCl [(x, .inr (12, [.ref (rx 0), .ref (rx 1), .ref (rx 2), .ref (rx 3), .int 0, .int 0, .int 1, .int 110, .int 0, .int 115, .int 0, .int 0, .int 0, .int 0])), (m7, .inr (13, [.ref (rm 0), .ref (rm 1), .ref (rm 2), .ref (rm 3), .ref (rm 4), .ref (rm 5), .ref (rm 6), .ref (rm 7), .ref (rm 8), .ref (rm 9), .ref (rm 10), .ref (rm 11), .ref (rm 12), .ref (rm 13), .ref (rm 14), .ref (rm 15), .int 0, .int 0, .int 1, .int 110, .int 0, .int 0, .int 0, .int 0, .int 0, .int 0, .int 0, .int 0, .int 0, .int 0, .int 0])), (o, .inl (cO, 1, .inr (.inl fo))), (o2, .inl (cD, 1, .inr (.inr (.inr (.inl fd)))))] H := hP
  have hD := hD
  refine W.widen (k := 141) (n := 11929) (Nat.le_of_ble_eq_true rfl) (Nat.le_of_ble_eq_true rfl) ?_
  obtain rfl : r2 = 1 := hw
  refine lv_istore (lv' := [(6, .int 1), (0, .ref b), (1, .ref x), (2, .ref m7), (3, .ref o), (4, .ref o2), (5, .int 0)]) hx hb dL_law_2457 hl (by decide) rfl (fun ls hl => ?_)
  refine lv_aload_n hx hb dL_law_2459 rfl (lv_at hl 3 rfl) ?_
  refine lv_aload_n hx hb dL_law_2460 rfl (lv_at hl 1 rfl) ?_
  refine lv_iload hx hb dL_law_2461 (lv_at hl 6 rfl) ?_
  refine lv_iconst (v := 1) hx hb dL_law_2463 (by decide) ?_
  refine lv_iadd hx hb dL_law_2464 ?_
  refine lv_topi (fun y3 ey3 => ?_)
  obtain rfl : y3 = 1 := ey3.trans (by decide)
  refine va_sld hx hb hX hbl hbA hS (vp_in_nI (n := 1) (by decide) (by decide)) dL_law_2465 ?_
  rw [← ea1]
  have hPc := hP.sub (ws' := [(m7, .inr (13, [.ref (rm 0), .ref (rm 1), .ref (rm 2), .ref (rm 3), .ref (rm 4), .ref (rm 5), .ref (rm 6), .ref (rm 7), .ref (rm 8), .ref (rm 9), .ref (rm 10), .ref (rm 11), .ref (rm 12), .ref (rm 13), .ref (rm 14), .ref (rm 15), .int 0, .int 0, .int 1, .int 110, .int 0, .int 0, .int 0, .int 0, .int 0, .int 0, .int 0, .int 0, .int 0, .int 0, .int 0]))]) [1] rfl
  have hDc := hD.sub (ws' := [(m7, .inr (13, [.ref (rm 0), .ref (rm 1), .ref (rm 2), .ref (rm 3), .ref (rm 4), .ref (rm 5), .ref (rm 6), .ref (rm 7), .ref (rm 8), .ref (rm 9), .ref (rm 10), .ref (rm 11), .ref (rm 12), .ref (rm 13), .ref (rm 14), .ref (rm 15), .int 0, .int 0, .int 1, .int 110, .int 0, .int 0, .int 0, .int 0, .int 0, .int 0, .int 0, .int 0, .int 0, .int 0, .int 0]))]) [1] (by decide) rfl
  have hKc := hK.sub (tys' := []) [] rfl
  have hFc := va_free (wc := [(m7, .inr (13, [.ref (rm 0), .ref (rm 1), .ref (rm 2), .ref (rm 3), .ref (rm 4), .ref (rm 5), .ref (rm 6), .ref (rm 7), .ref (rm 8), .ref (rm 9), .ref (rm 10), .ref (rm 11), .ref (rm 12), .ref (rm 13), .ref (rm 14), .ref (rm 15), .int 0, .int 0, .int 1, .int 110, .int 0, .int 0, .int 0, .int 0, .int 0, .int 0, .int 0, .int 0, .int 0, .int 0, .int 0]))]) hD hS hA [1] rfl
  have hFr : ∀ q : Nat, rg1 m7 H.size q → A q := fun q h => hFc q (va_Arg1 q h)
  refine va_calli (va_runV (As := [.int a1]) (rest := []) ⟨hx, hb, hml, hown, hts⟩ (c_X7_strokes l D m7 rm H.size a1) (cwV 1 hts gL_law_X7_strokes rfl rfl rfl (by decide +kernel) ⟨Nat.le_of_ble_eq_true rfl, Nat.le_of_ble_eq_true rfl⟩) ⟨fun a U g mk q => ⟨q.1, PX7.blind q.2⟩, va_recv hK hP (ci := 13) (q0 := 1) rfl rfl, fun U hU hW => ⟨rfl, PX7.go hPc hKc hU hW⟩⟩ rfl rfl hl.1 rfl (lv_room (Nat.le_of_ble_eq_true rfl)) dL_law_2466 ⟨Nat.le_of_ble_eq_true rfl, Nat.le_of_ble_eq_true rfl⟩) hS (fun q _ h => hFr q h) hFr (fun r4 u t H1 locs ht hvm hw hB hz1 hk1 hS => ?_)
  obtain ⟨um, eum⟩ : ∃ z, z = u := ⟨_, rfl⟩
  rw [← eum] at hB hw
  rw [ht] at hB
  have hP1 := hB
  have hD1 : va_D (va_A [(m7, .inr (13, [.ref (rm 0), .ref (rm 1), .ref (rm 2), .ref (rm 3), .ref (rm 4), .ref (rm 5), .ref (rm 6), .ref (rm 7), .ref (rm 8), .ref (rm 9), .ref (rm 10), .ref (rm 11), .ref (rm 12), .ref (rm 13), .ref (rm 14), .ref (rm 15), .int 0, .int 0, .int 1, .int 110, .int 0, .int 0, .int 0, .int 0, .int 0, .int 0, .int 0, .int 0, .int 0, .int 0, .int 0]))] H.size) [(m7, .inr (13, um))] := va_D1 (Or.inl ⟨0, _, rfl⟩)
  have hk1 : ∀ q : Nat, q < H.size → ¬ va_A [(m7, .inr (13, [.ref (rm 0), .ref (rm 1), .ref (rm 2), .ref (rm 3), .ref (rm 4), .ref (rm 5), .ref (rm 6), .ref (rm 7), .ref (rm 8), .ref (rm 9), .ref (rm 10), .ref (rm 11), .ref (rm 12), .ref (rm 13), .ref (rm 14), .ref (rm 15), .int 0, .int 0, .int 1, .int 110, .int 0, .int 0, .int 0, .int 0, .int 0, .int 0, .int 0, .int 0, .int 0, .int 0, .int 0]))] H.size q → H1[q]? = H[q]? := fun q h1 h2 => hk1 q h1 (fun h3 => h2 (va_Arg1 q h3))
  obtain ⟨hP, hD⟩ := va_join (wr := [(x, .inr (12, [.ref (rx 0), .ref (rx 1), .ref (rx 2), .ref (rx 3), .int 0, .int 0, .int 1, .int 110, .int 0, .int 115, .int 0, .int 0, .int 0, .int 0])), (o, .inl (cO, 1, .inr (.inl fo))), (o2, .inl (cD, 1, .inr (.inr (.inr (.inl fd)))))]) (w1 := [(m7, .inr (13, um))]) hP hD [1] [0, 2, 3] rfl rfl (by decide) (by decide) hk1 hFc hP1 hD1
  generalize H1 = H at hP hS ⊢
  have hP : va_P D vwCl [(x, .inr (12, [.ref (rx 0), .ref (rx 1), .ref (rx 2), .ref (rx 3), .int 0, .int 0, .int 1, .int 110, .int 0, .int 115, .int 0, .int 0, .int 0, .int 0])), (o, .inl (cO, 1, .inr (.inl fo))), (o2, .inl (cD, 1, .inr (.inr (.inr (.inl fd))))), (m7, .inr (13, um))] H := hP
  have hD : va_D A [(x, .inr (12, [.ref (rx 0), .ref (rx 1), .ref (rx 2), .ref (rx 3), .int 0, .int 0, .int 1, .int 110, .int 0, .int 115, .int 0, .int 0, .int 0, .int 0])), (o, .inl (cO, 1, .inr (.inl fo))), (o2, .inl (cD, 1, .inr (.inr (.inr (.inl fd))))), (m7, .inr (13, um))] := hD
  refine W.widen (k := 141) (n := 11929) (Nat.le_of_ble_eq_true rfl) (Nat.le_of_ble_eq_true rfl) ?_
  have hu30 := hw
  refine lv_istore (lv' := [(7, .int r4), (6, .int 1), (0, .ref b), (1, .ref x), (2, .ref m7), (3, .ref o), (4, .ref o2), (5, .int 0)]) hx hb dL_law_2469 hl (by decide) rfl (fun ls hl => ?_)
  refine lv_aload_n hx hb dL_law_2471 rfl (lv_at hl 4 rfl) ?_
  have hPc := hP.sub (ws' := [(m7, .inr (13, um))]) [3] rfl
  have hKc := hK.sub (tys' := []) [] rfl
  refine va_calli (va_runV (As := []) (rest := []) ⟨hx, hb, hml, hown, hts⟩ (c_X7_thrown l D m7 um 1 hu30 H.size) (cwV 0 hts gL_law_X7_thrown rfl rfl rfl (by decide +kernel) ⟨Nat.le_of_ble_eq_true rfl, Nat.le_of_ble_eq_true rfl⟩) ⟨fun a U g mk q => ⟨q.1, q.2.1, q.2.2.1, va_K.moved (u := U) (U := U.calling g mk a) (Vm.Alike.refl U.vm) q.2.2.2⟩, va_recv hK hP (ci := 13) (q0 := 3) rfl rfl, fun U hU hW => ⟨rfl, congrArg Array.size hU, by rw [hU]; exact hPc, va_K.moved hW.alike hKc⟩⟩ rfl rfl hl.1 rfl (lv_room (Nat.le_of_ble_eq_true rfl)) dL_law_2472 ⟨Nat.le_of_ble_eq_true rfl, Nat.le_of_ble_eq_true rfl⟩) hS (fun q h1 h2 => absurd h1 (Nat.not_lt.mpr h2)) (fun q h => hA q (Nat.le_trans hS.1 h)) (fun r5 u t H1 locs ht hvm hw hB hz1 hk1 hS => ?_)
  have hP := va_kept0 hP hk1
  generalize H1 = H at hP hS ⊢
  have hP : va_P D vwCl [(x, .inr (12, [.ref (rx 0), .ref (rx 1), .ref (rx 2), .ref (rx 3), .int 0, .int 0, .int 1, .int 110, .int 0, .int 115, .int 0, .int 0, .int 0, .int 0])), (o, .inl (cO, 1, .inr (.inl fo))), (o2, .inl (cD, 1, .inr (.inr (.inr (.inl fd))))), (m7, .inr (13, um))] H := hP
  obtain rfl : r5 = 1 := hw
  refine lv_iload hx hb dL_law_2475 (lv_at hl 1 rfl) ?_
  refine lv_icmp_eq (tgt := 2482) hx hb dL_law_2477 (by decide) (fun _ => ?_) (fun c => by first | exact absurd (by decide) c | exact absurd c (by decide))
  refine lv_iload hx hb dL_law_2482 (lv_at hl 1 rfl) ?_
  refine lv_if_ne (tgt := 2499) hx hb dL_law_2484 (by decide) (fun _ => ?_) (fun c => by first | exact absurd (by decide) c | exact absurd c (by decide))
  refine lv_goto (tgt := 3904) hx hb dL_law_2499 (by decide) ?_
  refine W.widen (k := 200) (n := 12100) (Nat.le_of_ble_eq_true rfl) (Nat.le_of_ble_eq_true rfl) ?_
  exact kk H locs ls hS (lv_sub hl [2, 7] rfl)
