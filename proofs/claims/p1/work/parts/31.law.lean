set_option maxRecDepth 20000 in
theorem ggL_law_L_begin : GoodIn wsL_law wsL_begin := goodIn_ca (goodIn_ca (goodIn_ca (goodIn_r _ [352, 175, 353, 354, 355, 2, 356, 180, 181, 184, 185, 187, 284, 297, 30, 186, 357, 27, 19, 358, 23, 359, 360, 361, 26, 362, 363, 364, 365, 366, 367, 368, 47, 369, 60, 61, 62, 370, 371, 372, 373, 374, 375, 376, 377, 378, 15, 191, 379, 380, 381, 382, 74, 383, 384, 385, 386, 43, 387, 388, 389, 390, 391, 392, 393, 394, 395, 396, 397, 1560, 1561, 1562, 1563, 1564, 1565, 1566, 1567, 1568, 1569, 1570, 1571, 1572, 1573, 1611, 1612, 1613, 1614, 1615, 1616, 1617, 1618, 1619, 1620, 1637, 1638, 1639, 1640, 1641, 1642, 1605, 1606, 1607, 1608, 1609, 1610, 1621, 1622, 1623, 1624, 1625, 1626, 1627, 1628, 1629, 1630, 1631, 1632, 1633, 1634, 1635, 1636] (by decide +kernel) (by decide +kernel)) (goodIn_sub (fun _ h => List.mem_append_left _ (List.mem_append_left _ (List.mem_append_left _ (List.mem_append_left _ (List.mem_append_left _ (List.mem_append_left _ (List.mem_append_left _ (List.mem_append_right _ h)))))))) (by decide +kernel))) (goodIn_sub (fun _ h => List.mem_append_left _ (List.mem_append_left _ (List.mem_append_left _ (List.mem_append_left _ (List.mem_append_left _ (List.mem_append_left _ (List.mem_append_right _ h))))))) (by decide +kernel))) (goodIn_sub (fun _ h => List.mem_append_left _ (List.mem_append_left _ (List.mem_append_left _ (List.mem_append_left _ (List.mem_append_right _ h))))) (by decide +kernel))
set_option maxRecDepth 20000 in
theorem gL_law_L_begin : GoodIn wsL_law (va_wsS RL 241 yL_begin wsL_begin) := goodIn_app (goodIn_of _ (by decide +kernel)) ggL_law_L_begin
set_option maxRecDepth 20000 in
theorem ggL_law_X7_begin : GoodIn wsL_law wsX7_begin := goodIn_ca (goodIn_r _ [401, 206, 289, 307, 402, 207, 403, 404, 405, 406, 90, 91, 92, 93, 86, 87, 88, 100, 215, 216, 217, 5, 218, 219, 407, 408, 409, 410, 411, 412, 84, 80, 1574, 1575, 1576, 1577, 1578, 1579, 1580, 1581, 1582, 1583, 1584, 1585, 1586, 1587, 1588, 1589, 1590, 1591, 1592, 1593, 1594, 1595, 1596, 1597, 1598, 1599, 1600, 1601, 1602, 1603, 1604] (by decide +kernel) (by decide +kernel)) (goodIn_sub (fun _ h => List.mem_append_left _ (List.mem_append_left _ (List.mem_append_left _ (List.mem_append_left _ (List.mem_append_left _ (List.mem_append_left _ (List.mem_append_left _ (List.mem_append_right _ h)))))))) (by decide +kernel))
set_option maxRecDepth 20000 in
theorem gL_law_X7_begin : GoodIn wsL_law (wsV RL 243 RX7 yX7_begin wsX7_begin) := goodIn_app (goodIn_of _ (by decide +kernel)) ggL_law_X7_begin
set_option maxRecDepth 20000 in
theorem ggL_law_L_holeOn : GoodIn wsL_law wsL_holeOn := goodIn_ca (goodIn_ca (goodIn_r _ [415, 279, 416, 417, 418, 2, 419, 377, 420, 421, 422, 423, 182, 183, 297, 1560, 1561, 1562, 1563, 1564, 1565, 1566, 1567, 1568, 1569, 1570, 1571, 1572, 1573] (by decide +kernel) (by decide +kernel)) (goodIn_sub (fun _ h => List.mem_append_left _ (List.mem_append_left _ (List.mem_append_left _ (List.mem_append_left _ (List.mem_append_left _ (List.mem_append_left _ (List.mem_append_left _ (List.mem_append_right _ h)))))))) (by decide +kernel))) (goodIn_sub (fun _ h => List.mem_append_left _ (List.mem_append_left _ (List.mem_append_left _ (List.mem_append_left _ (List.mem_append_left _ (List.mem_append_right _ h)))))) (by decide +kernel))
set_option maxRecDepth 20000 in
theorem gL_law_L_holeOn : GoodIn wsL_law (va_wsS RL 244 yL_holeOn wsL_holeOn) := goodIn_app (goodIn_of _ (by decide +kernel)) ggL_law_L_holeOn
set_option maxRecDepth 20000 in
theorem ggL_law_X7_holeOn : GoodIn wsL_law wsX7_holeOn := goodIn_r _ [427, 307, 405, 215, 216, 217, 5, 218, 219, 1574, 1575, 1576, 1577, 1578, 1579, 1580, 1581, 1582, 1583, 1584, 1585, 1586, 1587, 1588, 1589, 1590, 1591, 1592, 1593, 1594, 1595, 1596, 1597, 1598, 1599, 1600, 1601, 1602, 1603, 1604] (by decide +kernel) (by decide +kernel)
set_option maxRecDepth 20000 in
theorem gL_law_X7_holeOn : GoodIn wsL_law (wsV RL 246 RX7 yX7_holeOn wsX7_holeOn) := goodIn_app (goodIn_of _ (by decide +kernel)) ggL_law_X7_holeOn
set_option maxRecDepth 20000 in
theorem ggL_law_L_away : GoodIn wsL_law wsL_away := goodIn_ca (goodIn_ca (goodIn_ca (goodIn_r _ [430, 279, 431, 432, 433, 2, 434, 435, 436, 420, 421, 422, 423, 182, 183, 297, 437, 438, 439, 440, 284, 19, 23, 378, 441, 15, 377, 190, 442, 443, 444, 43, 445, 389, 391, 446, 447, 448, 449, 388, 450, 451, 452, 453, 454, 455, 456, 1560, 1561, 1562, 1563, 1564, 1565, 1566, 1567, 1568, 1569, 1570, 1571, 1572, 1573, 1611, 1612, 1613, 1614, 1621, 1622, 1623, 1624, 1625, 1626, 1627, 1628, 1629, 1630, 1631, 1632, 1633, 1634, 1635, 1636, 1605, 1606, 1607, 1608, 1609, 1610] (by decide +kernel) (by decide +kernel)) (goodIn_sub (fun _ h => List.mem_append_left _ (List.mem_append_left _ (List.mem_append_left _ (List.mem_append_left _ (List.mem_append_left _ (List.mem_append_left _ (List.mem_append_left _ (List.mem_append_right _ h)))))))) (by decide +kernel))) (goodIn_sub (fun _ h => List.mem_append_left _ (List.mem_append_right _ h)) (by decide +kernel))) (goodIn_sub (fun _ h => List.mem_append_left _ (List.mem_append_left _ (List.mem_append_left _ (List.mem_append_left _ (List.mem_append_left _ (List.mem_append_right _ h)))))) (by decide +kernel))
set_option maxRecDepth 20000 in
theorem gL_law_L_away : GoodIn wsL_law (va_wsS RL 247 yL_away wsL_away) := goodIn_app (goodIn_of _ (by decide +kernel)) ggL_law_L_away
set_option maxRecDepth 20000 in
theorem ggL_law_X7_away : GoodIn wsL_law wsX7_away := goodIn_ca (goodIn_r _ [460, 307, 215, 216, 217, 5, 218, 219, 461, 462, 463, 464, 289, 465, 466, 467, 468, 84, 469, 470, 471, 472, 93, 473, 474, 475, 476, 477, 478, 479, 480, 80, 405, 481, 482, 483, 484, 485, 486, 487, 1574, 1575, 1576, 1577, 1578, 1579, 1580, 1581, 1582, 1583, 1584, 1585, 1586, 1587, 1588, 1589, 1590, 1591, 1592, 1593, 1594, 1595, 1596, 1597, 1598, 1599, 1600, 1601, 1602, 1603, 1604] (by decide +kernel) (by decide +kernel)) (goodIn_sub (fun _ h => List.mem_append_left _ (List.mem_append_left _ (List.mem_append_left _ (List.mem_append_left _ (List.mem_append_left _ (List.mem_append_left _ (List.mem_append_left _ (List.mem_append_right _ h)))))))) (by decide +kernel))
set_option maxRecDepth 20000 in
theorem gL_law_X7_away : GoodIn wsL_law (wsV RL 249 RX7 yX7_away wsX7_away) := goodIn_app (goodIn_of _ (by decide +kernel)) ggL_law_X7_away
set_option maxRecDepth 20000 in
theorem ggL_law_L_stroke : GoodIn wsL_law wsL_stroke := goodIn_ca (goodIn_ca (goodIn_ca (goodIn_ca (goodIn_ca (goodIn_r _ [490, 227, 491, 492, 493, 2, 494, 19, 378, 27, 495, 496, 441, 15, 377, 497, 498, 499, 299, 300, 301, 302, 237, 238, 284, 265, 266, 267, 192, 193, 194, 500, 501, 502, 503, 182, 183, 297, 357, 199, 200, 201, 504, 505, 506, 507, 184, 185, 508, 447, 448, 43, 449, 388, 509, 510, 511, 17, 512, 513, 514, 515, 516, 517, 269, 270, 271, 36, 451, 452, 518, 519, 520, 521, 30, 522, 523, 524, 525, 526, 437, 438, 439, 440, 23, 190, 442, 443, 444, 445, 389, 391, 446, 450, 453, 454, 455, 456, 527, 528, 529, 530, 390, 392, 393, 394, 395, 531, 396, 397, 532, 533, 534, 535, 536, 537, 538, 539, 540, 541, 542, 543, 544, 545, 546, 547, 548, 549, 550, 551, 552, 553, 554, 555, 556, 557, 28, 558, 559, 560, 561, 562, 563, 564, 565, 566, 567, 568, 569, 570, 571, 572, 1560, 1561, 1562, 1563, 1564, 1565, 1566, 1567, 1568, 1569, 1570, 1571, 1572, 1573, 1611, 1612, 1613, 1614, 1615, 1616, 1617, 1618, 1619, 1620, 1621, 1622, 1623, 1624, 1625, 1626, 1627, 1628, 1629, 1630, 1631, 1632, 1633, 1634, 1635, 1636, 1605, 1606, 1607, 1608, 1609, 1610] (by decide +kernel) (by decide +kernel)) (goodIn_sub (fun _ h => List.mem_append_left _ (List.mem_append_left _ (List.mem_append_left _ (List.mem_append_left _ (List.mem_append_left _ (List.mem_append_left _ (List.mem_append_left _ (List.mem_append_right _ h)))))))) (by decide +kernel))) (goodIn_sub (fun _ h => List.mem_append_left _ (List.mem_append_left _ (List.mem_append_left _ (List.mem_append_right _ h)))) (by decide +kernel))) (goodIn_sub (fun _ h => List.mem_append_left _ (List.mem_append_left _ (List.mem_append_left _ (List.mem_append_left _ (List.mem_append_left _ (List.mem_append_right _ h)))))) (by decide +kernel))) (goodIn_sub (fun _ h => List.mem_append_left _ (List.mem_append_left _ (List.mem_append_left _ (List.mem_append_left _ (List.mem_append_right _ h))))) (by decide +kernel))) (goodIn_sub (fun _ h => List.mem_append_left _ (List.mem_append_left _ (List.mem_append_right _ h))) (by decide +kernel))
set_option maxRecDepth 20000 in
theorem gL_law_L_stroke : GoodIn wsL_law (va_wsS RL 250 yL_stroke wsL_stroke) := goodIn_app (goodIn_of _ (by decide +kernel)) ggL_law_L_stroke
set_option maxRecDepth 20000 in
theorem ggL_law_X7_stroke : GoodIn wsL_law wsX7_stroke := goodIn_ca (goodIn_ca (goodIn_r _ [576, 307, 403, 84, 85, 208, 168, 169, 170, 412, 402, 308, 309, 310, 5, 311, 289, 209, 210, 211, 212, 213, 214, 215, 216, 217, 218, 219, 577, 578, 579, 580, 581, 582, 583, 584, 585, 586, 587, 588, 82, 405, 485, 486, 487, 469, 470, 471, 472, 93, 473, 474, 475, 476, 477, 478, 479, 480, 80, 481, 482, 483, 484, 465, 466, 467, 468, 589, 590, 591, 592, 593, 594, 595, 596, 597, 598, 599, 600, 101, 601, 602, 603, 604, 605, 606, 607, 608, 609, 1574, 1575, 1576, 1577, 1578, 1579, 1580, 1581, 1582, 1583, 1584, 1585, 1586, 1587, 1588, 1589, 1590, 1591, 1592, 1593, 1594, 1595, 1596, 1597, 1598, 1599, 1600, 1601, 1602, 1603, 1604] (by decide +kernel) (by decide +kernel)) (goodIn_sub (fun _ h => List.mem_append_left _ (List.mem_append_left _ (List.mem_append_left _ (List.mem_append_left _ (List.mem_append_left _ (List.mem_append_left _ (List.mem_append_left _ (List.mem_append_right _ h)))))))) (by decide +kernel))) (goodIn_sub (fun _ h => List.mem_append_left _ (List.mem_append_left _ (List.mem_append_right _ h))) (by decide +kernel))
set_option maxRecDepth 20000 in
theorem gL_law_X7_stroke : GoodIn wsL_law (wsV RL 252 RX7 yX7_stroke wsX7_stroke) := goodIn_app (goodIn_of _ (by decide +kernel)) ggL_law_X7_stroke
set_option maxRecDepth 20000 in
theorem ggL_law_L_odds : GoodIn wsL_law wsL_odds := goodIn_ca (goodIn_ca (goodIn_ca (goodIn_ca (goodIn_ca (goodIn_r _ [612, 227, 613, 614, 615, 2, 616, 180, 181, 19, 378, 15, 377, 497, 499, 299, 300, 301, 302, 237, 238, 284, 265, 266, 267, 192, 193, 194, 239, 240, 241, 420, 421, 422, 423, 182, 183, 297, 199, 200, 201, 504, 505, 506, 507, 184, 185, 508, 447, 448, 43, 449, 388, 509, 510, 511, 17, 512, 513, 514, 515, 516, 517, 269, 270, 271, 36, 451, 452, 550, 551, 552, 553, 559, 560, 561, 562, 563, 564, 565, 541, 1560, 1561, 1562, 1563, 1564, 1565, 1566, 1567, 1568, 1569, 1570, 1571, 1572, 1573, 1611, 1612, 1613, 1614, 1621, 1622, 1623, 1624, 1625, 1626, 1627, 1628, 1629, 1630, 1631, 1632, 1633, 1634, 1635, 1636, 1605, 1606, 1607, 1608, 1609, 1610] (by decide +kernel) (by decide +kernel)) (goodIn_sub (fun _ h => List.mem_append_left _ (List.mem_append_left _ (List.mem_append_left _ (List.mem_append_left _ (List.mem_append_left _ (List.mem_append_left _ (List.mem_append_left _ (List.mem_append_right _ h)))))))) (by decide +kernel))) (goodIn_sub (fun _ h => List.mem_append_left _ (List.mem_append_left _ (List.mem_append_left _ (List.mem_append_left _ (List.mem_append_left _ (List.mem_append_left _ (List.mem_append_right _ h))))))) (by decide +kernel))) (goodIn_sub (fun _ h => List.mem_append_left _ (List.mem_append_left _ (List.mem_append_left _ (List.mem_append_right _ h)))) (by decide +kernel))) (goodIn_sub (fun _ h => List.mem_append_left _ (List.mem_append_left _ (List.mem_append_left _ (List.mem_append_left _ (List.mem_append_left _ (List.mem_append_right _ h)))))) (by decide +kernel))) (goodIn_sub (fun _ h => List.mem_append_left _ (List.mem_append_left _ (List.mem_append_left _ (List.mem_append_left _ (List.mem_append_right _ h))))) (by decide +kernel))
set_option maxRecDepth 20000 in
theorem gL_law_L_odds : GoodIn wsL_law (va_wsS RL 253 yL_odds wsL_odds) := goodIn_app (goodIn_of _ (by decide +kernel)) ggL_law_L_odds
set_option maxRecDepth 20000 in
theorem ggL_law_X7_odds : GoodIn wsL_law wsX7_odds := goodIn_ca (goodIn_r _ [620, 307, 84, 308, 309, 310, 5, 311, 289, 209, 210, 211, 212, 213, 214, 215, 216, 217, 218, 219, 621, 622, 623, 251, 252, 253, 35, 577, 578, 579, 580, 581, 582, 583, 584, 585, 586, 587, 588, 82, 405, 485, 486, 487, 589, 590, 591, 592, 606, 607, 608, 609, 477, 478, 479, 480, 80, 481, 482, 483, 484, 1574, 1575, 1576, 1577, 1578, 1579, 1580, 1581, 1582, 1583, 1584, 1585, 1586, 1587, 1588, 1589, 1590, 1591, 1592, 1593, 1594, 1595, 1596, 1597, 1598, 1599, 1600, 1601, 1602, 1603, 1604] (by decide +kernel) (by decide +kernel)) (goodIn_sub (fun _ h => List.mem_append_left _ (List.mem_append_left _ (List.mem_append_left _ (List.mem_append_left _ (List.mem_append_left _ (List.mem_append_left _ (List.mem_append_left _ (List.mem_append_right _ h)))))))) (by decide +kernel))
set_option maxRecDepth 20000 in
theorem gL_law_X7_odds : GoodIn wsL_law (wsV RL 256 RX7 yX7_odds wsX7_odds) := goodIn_app (goodIn_of _ (by decide +kernel)) ggL_law_X7_odds
set_option maxRecDepth 20000 in
theorem ggL_law_L_provisional : GoodIn wsL_law wsL_provisional := goodIn_ca (goodIn_ca (goodIn_ca (goodIn_ca (goodIn_ca (goodIn_r _ [626, 227, 627, 628, 629, 2, 630, 184, 185, 19, 378, 15, 377, 441, 631, 632, 633, 27, 495, 634, 299, 300, 301, 302, 237, 238, 284, 265, 266, 267, 192, 193, 194, 500, 501, 502, 503, 182, 183, 297, 357, 199, 200, 201, 509, 510, 511, 17, 512, 513, 514, 515, 516, 517, 269, 270, 271, 36, 451, 452, 546, 547, 548, 549, 550, 551, 552, 553, 554, 555, 556, 557, 28, 558, 559, 560, 561, 562, 563, 564, 565, 541, 566, 567, 568, 1560, 1561, 1562, 1563, 1564, 1565, 1566, 1567, 1568, 1569, 1570, 1571, 1572, 1573, 1611, 1612, 1613, 1614, 1621, 1622, 1623, 1624, 1625, 1626, 1627, 1628, 1629, 1630, 1631, 1632, 1633, 1634, 1635, 1636, 1615, 1616, 1617, 1618, 1619, 1620, 1605, 1606, 1607, 1608, 1609, 1610] (by decide +kernel) (by decide +kernel)) (goodIn_sub (fun _ h => List.mem_append_left _ (List.mem_append_left _ (List.mem_append_left _ (List.mem_append_left _ (List.mem_append_left _ (List.mem_append_left _ (List.mem_append_left _ (List.mem_append_right _ h)))))))) (by decide +kernel))) (goodIn_sub (fun _ h => List.mem_append_left _ (List.mem_append_left _ (List.mem_append_left _ (List.mem_append_left _ (List.mem_append_right _ h))))) (by decide +kernel))) (goodIn_sub (fun _ h => List.mem_append_left _ (List.mem_append_left _ (List.mem_append_left _ (List.mem_append_right _ h)))) (by decide +kernel))) (goodIn_sub (fun _ h => List.mem_append_left _ (List.mem_append_left _ (List.mem_append_left _ (List.mem_append_left _ (List.mem_append_left _ (List.mem_append_right _ h)))))) (by decide +kernel))) (goodIn_sub (fun _ h => List.mem_append_left _ (List.mem_append_left _ (List.mem_append_right _ h))) (by decide +kernel))
set_option maxRecDepth 20000 in
theorem gL_law_L_provisional : GoodIn wsL_law (va_wsS RL 257 yL_provisional wsL_provisional) := goodIn_app (goodIn_of _ (by decide +kernel)) ggL_law_L_provisional
set_option maxRecDepth 20000 in
theorem ggL_law_X7_provisional : GoodIn wsL_law wsX7_provisional := goodIn_ca (goodIn_ca (goodIn_r _ [638, 307, 403, 84, 412, 308, 309, 310, 5, 311, 289, 209, 210, 211, 212, 213, 214, 215, 216, 217, 218, 219, 485, 486, 487, 581, 582, 583, 584, 585, 586, 587, 588, 82, 405, 589, 590, 591, 592, 593, 594, 595, 596, 597, 598, 599, 600, 101, 601, 602, 603, 604, 605, 606, 607, 608, 609, 477, 478, 479, 480, 80, 481, 482, 483, 484, 1574, 1575, 1576, 1577, 1578, 1579, 1580, 1581, 1582, 1583, 1584, 1585, 1586, 1587, 1588, 1589, 1590, 1591, 1592, 1593, 1594, 1595, 1596, 1597, 1598, 1599, 1600, 1601, 1602, 1603, 1604] (by decide +kernel) (by decide +kernel)) (goodIn_sub (fun _ h => List.mem_append_left _ (List.mem_append_left _ (List.mem_append_left _ (List.mem_append_left _ (List.mem_append_left _ (List.mem_append_left _ (List.mem_append_left _ (List.mem_append_right _ h)))))))) (by decide +kernel))) (goodIn_sub (fun _ h => List.mem_append_left _ (List.mem_append_left _ (List.mem_append_right _ h))) (by decide +kernel))
set_option maxRecDepth 20000 in
theorem gL_law_X7_provisional : GoodIn wsL_law (wsV RL 259 RX7 yX7_provisional wsX7_provisional) := goodIn_app (goodIn_of _ (by decide +kernel)) ggL_law_X7_provisional
set_option maxRecDepth 20000 in
theorem ggL_law_L_search : GoodIn wsL_law wsL_search := goodIn_ca (goodIn_ca (goodIn_ca (goodIn_ca (goodIn_ca (goodIn_r _ [641, 227, 642, 643, 644, 2, 645, 184, 185, 19, 378, 441, 27, 495, 15, 377, 497, 299, 300, 301, 302, 237, 238, 284, 500, 501, 502, 503, 182, 183, 297, 357, 268, 269, 270, 17, 271, 36, 554, 555, 556, 557, 28, 558, 646, 647, 648, 43, 649, 388, 395, 650, 651, 652, 653, 393, 394, 531, 389, 1560, 1561, 1562, 1563, 1564, 1565, 1566, 1567, 1568, 1569, 1570, 1571, 1572, 1573, 1611, 1612, 1613, 1614, 1621, 1622, 1623, 1624, 1625, 1626, 1627, 1628, 1629, 1630, 1631, 1632, 1633, 1634, 1635, 1636, 1615, 1616, 1617, 1618, 1619, 1620, 1605, 1606, 1607, 1608, 1609, 1610] (by decide +kernel) (by decide +kernel)) (goodIn_sub (fun _ h => List.mem_append_left _ (List.mem_append_left _ (List.mem_append_left _ (List.mem_append_left _ (List.mem_append_left _ (List.mem_append_left _ (List.mem_append_left _ (List.mem_append_right _ h)))))))) (by decide +kernel))) (goodIn_sub (fun _ h => List.mem_append_left _ (List.mem_append_left _ (List.mem_append_left _ (List.mem_append_left _ (List.mem_append_right _ h))))) (by decide +kernel))) (goodIn_sub (fun _ h => List.mem_append_left _ (List.mem_append_left _ (List.mem_append_left _ (List.mem_append_right _ h)))) (by decide +kernel))) (goodIn_sub (fun _ h => List.mem_append_left _ (List.mem_append_left _ (List.mem_append_left _ (List.mem_append_left _ (List.mem_append_left _ (List.mem_append_right _ h)))))) (by decide +kernel))) (goodIn_sub (fun _ h => List.mem_append_left _ (List.mem_append_left _ (List.mem_append_right _ h))) (by decide +kernel))
set_option maxRecDepth 20000 in
theorem gL_law_L_search : GoodIn wsL_law (va_wsS RL 260 yL_search wsL_search) := goodIn_app (goodIn_of _ (by decide +kernel)) ggL_law_L_search
set_option maxRecDepth 20000 in
theorem ggL_law_X7_search : GoodIn wsL_law wsX7_search := goodIn_ca (goodIn_r _ [657, 307, 403, 84, 412, 308, 309, 310, 5, 311, 289, 209, 210, 211, 215, 216, 217, 218, 219, 212, 213, 214, 585, 586, 587, 588, 82, 405, 597, 598, 599, 600, 101, 601, 1574, 1575, 1576, 1577, 1578, 1579, 1580, 1581, 1582, 1583, 1584, 1585, 1586, 1587, 1588, 1589, 1590, 1591, 1592, 1593, 1594, 1595, 1596, 1597, 1598, 1599, 1600, 1601, 1602, 1603, 1604] (by decide +kernel) (by decide +kernel)) (goodIn_sub (fun _ h => List.mem_append_left _ (List.mem_append_left _ (List.mem_append_left _ (List.mem_append_left _ (List.mem_append_left _ (List.mem_append_left _ (List.mem_append_left _ (List.mem_append_right _ h)))))))) (by decide +kernel))
set_option maxRecDepth 20000 in
theorem gL_law_X7_search : GoodIn wsL_law (wsV RL 263 RX7 yX7_search wsX7_search) := goodIn_app (goodIn_of _ (by decide +kernel)) ggL_law_X7_search
set_option maxRecDepth 20000 in
theorem ggL_law_L_again : GoodIn wsL_law wsL_again := goodIn_ca (goodIn_ca (goodIn_ca (goodIn_ca (goodIn_r _ [660, 227, 661, 662, 663, 2, 664, 184, 185, 19, 378, 441, 665, 632, 299, 300, 301, 302, 237, 238, 284, 420, 421, 422, 423, 182, 183, 297, 453, 454, 455, 43, 456, 388, 666, 667, 668, 669, 27, 495, 670, 15, 377, 191, 671, 672, 673, 674, 389, 390, 395, 396, 675, 676, 677, 678, 393, 394, 1560, 1561, 1562, 1563, 1564, 1565, 1566, 1567, 1568, 1569, 1570, 1571, 1572, 1573, 1611, 1612, 1613, 1614, 1621, 1622, 1623, 1624, 1625, 1626, 1627, 1628, 1629, 1630, 1631, 1632, 1633, 1634, 1635, 1636, 1615, 1616, 1617, 1618, 1619, 1620, 1605, 1606, 1607, 1608, 1609, 1610] (by decide +kernel) (by decide +kernel)) (goodIn_sub (fun _ h => List.mem_append_left _ (List.mem_append_left _ (List.mem_append_left _ (List.mem_append_left _ (List.mem_append_left _ (List.mem_append_left _ (List.mem_append_left _ (List.mem_append_right _ h)))))))) (by decide +kernel))) (goodIn_sub (fun _ h => List.mem_append_left _ (List.mem_append_left _ (List.mem_append_left _ (List.mem_append_left _ (List.mem_append_right _ h))))) (by decide +kernel))) (goodIn_sub (fun _ h => List.mem_append_left _ (List.mem_append_left _ (List.mem_append_left _ (List.mem_append_right _ h)))) (by decide +kernel))) (goodIn_sub (fun _ h => List.mem_append_left _ (List.mem_append_left _ (List.mem_append_left _ (List.mem_append_left _ (List.mem_append_left _ (List.mem_append_right _ h)))))) (by decide +kernel))
set_option maxRecDepth 20000 in
theorem gL_law_L_again : GoodIn wsL_law (va_wsS RL 264 yL_again wsL_again) := goodIn_app (goodIn_of _ (by decide +kernel)) ggL_law_L_again
set_option maxRecDepth 20000 in
theorem ggL_law_X7_again : GoodIn wsL_law wsX7_again := goodIn_ca (goodIn_r _ [682, 307, 84, 412, 308, 309, 310, 5, 311, 289, 209, 210, 211, 215, 216, 217, 218, 219, 683, 684, 685, 1574, 1575, 1576, 1577, 1578, 1579, 1580, 1581, 1582, 1583, 1584, 1585, 1586, 1587, 1588, 1589, 1590, 1591, 1592, 1593, 1594, 1595, 1596, 1597, 1598, 1599, 1600, 1601, 1602, 1603, 1604] (by decide +kernel) (by decide +kernel)) (goodIn_sub (fun _ h => List.mem_append_left _ (List.mem_append_left _ (List.mem_append_left _ (List.mem_append_left _ (List.mem_append_left _ (List.mem_append_left _ (List.mem_append_left _ (List.mem_append_right _ h)))))))) (by decide +kernel))
set_option maxRecDepth 20000 in
theorem gL_law_X7_again : GoodIn wsL_law (wsV RL 266 RX7 yX7_again wsX7_again) := goodIn_app (goodIn_of _ (by decide +kernel)) ggL_law_X7_again
theorem dL_law_865 : decode cL_law 865 = .ok (.aload_n 1, 1) := by decide +kernel
theorem dL_law_866 : decode cL_law 866 = .ok (.aload_n 0, 1) := by decide +kernel
theorem dL_law_867 : decode cL_law 867 = .ok (.iload 5, 2) := by decide +kernel
theorem dL_law_869 : decode cL_law 869 = .ok (.iconst 1, 1) := by decide +kernel
theorem dL_law_870 : decode cL_law 870 = .ok (.iadd, 1) := by decide +kernel
theorem dL_law_871 : decode cL_law 871 = .ok (.iaload, 1) := by decide +kernel
theorem dL_law_872 : decode cL_law 872 = .ok (.i2c, 1) := by decide +kernel
theorem dL_law_873 : decode cL_law 873 = .ok (.aload_n 3, 1) := by decide +kernel
theorem dL_law_874 : decode cL_law 874 = .ok (.invokestatic 241, 3) := by decide +kernel
theorem dL_law_877 : decode cL_law 877 = .ok (.istore 6, 2) := by decide +kernel
theorem dL_law_879 : decode cL_law 879 = .ok (.aload_n 2, 1) := by decide +kernel
theorem dL_law_880 : decode cL_law 880 = .ok (.aload_n 0, 1) := by decide +kernel
theorem dL_law_881 : decode cL_law 881 = .ok (.iload 5, 2) := by decide +kernel
theorem dL_law_883 : decode cL_law 883 = .ok (.iconst 1, 1) := by decide +kernel
theorem dL_law_884 : decode cL_law 884 = .ok (.iadd, 1) := by decide +kernel
theorem dL_law_885 : decode cL_law 885 = .ok (.iaload, 1) := by decide +kernel
theorem dL_law_886 : decode cL_law 886 = .ok (.i2c, 1) := by decide +kernel
theorem dL_law_887 : decode cL_law 887 = .ok (.invokevirtual 243, 3) := by decide +kernel
theorem dL_law_890 : decode cL_law 890 = .ok (.istore 7, 2) := by decide +kernel
theorem dL_law_892 : decode cL_law 892 = .ok (.aload_n 2, 1) := by decide +kernel
theorem dL_law_893 : decode cL_law 893 = .ok (.invokevirtual 211, 3) := by decide +kernel
theorem dL_law_896 : decode cL_law 896 = .ok (.iload 6, 2) := by decide +kernel
theorem dL_law_898 : decode cL_law 898 = .ok (.if_icmp .eq 5, 3) := by decide +kernel
theorem dL_law_903 : decode cL_law 903 = .ok (.iload 6, 2) := by decide +kernel
theorem dL_law_905 : decode cL_law 905 = .ok (.ifCond .ne 15, 3) := by decide +kernel
theorem dL_law_920 : decode cL_law 920 = .ok (.goto 2984, 3) := by decide +kernel
theorem dL_law_923 : decode cL_law 923 = .ok (.aload_n 1, 1) := by decide +kernel
theorem dL_law_924 : decode cL_law 924 = .ok (.aload_n 3, 1) := by decide +kernel
theorem dL_law_925 : decode cL_law 925 = .ok (.invokestatic 244, 3) := by decide +kernel
theorem dL_law_928 : decode cL_law 928 = .ok (.istore 6, 2) := by decide +kernel
theorem dL_law_930 : decode cL_law 930 = .ok (.aload_n 2, 1) := by decide +kernel
theorem dL_law_931 : decode cL_law 931 = .ok (.invokevirtual 246, 3) := by decide +kernel
theorem dL_law_934 : decode cL_law 934 = .ok (.istore 7, 2) := by decide +kernel
theorem dL_law_936 : decode cL_law 936 = .ok (.aload_n 2, 1) := by decide +kernel
theorem dL_law_937 : decode cL_law 937 = .ok (.invokevirtual 211, 3) := by decide +kernel
theorem dL_law_940 : decode cL_law 940 = .ok (.iload 6, 2) := by decide +kernel
theorem dL_law_942 : decode cL_law 942 = .ok (.if_icmp .eq 5, 3) := by decide +kernel
theorem dL_law_947 : decode cL_law 947 = .ok (.iload 6, 2) := by decide +kernel
theorem dL_law_949 : decode cL_law 949 = .ok (.ifCond .ne 15, 3) := by decide +kernel
theorem dL_law_964 : decode cL_law 964 = .ok (.goto 2940, 3) := by decide +kernel
theorem dL_law_967 : decode cL_law 967 = .ok (.aload_n 1, 1) := by decide +kernel
theorem dL_law_968 : decode cL_law 968 = .ok (.aload_n 3, 1) := by decide +kernel
theorem dL_law_969 : decode cL_law 969 = .ok (.invokestatic 247, 3) := by decide +kernel
theorem dL_law_972 : decode cL_law 972 = .ok (.istore 6, 2) := by decide +kernel
theorem dL_law_974 : decode cL_law 974 = .ok (.aload_n 2, 1) := by decide +kernel
theorem dL_law_975 : decode cL_law 975 = .ok (.invokevirtual 249, 3) := by decide +kernel
theorem dL_law_978 : decode cL_law 978 = .ok (.istore 7, 2) := by decide +kernel
theorem dL_law_980 : decode cL_law 980 = .ok (.aload_n 2, 1) := by decide +kernel
theorem dL_law_981 : decode cL_law 981 = .ok (.invokevirtual 211, 3) := by decide +kernel
theorem dL_law_984 : decode cL_law 984 = .ok (.iload 6, 2) := by decide +kernel
theorem dL_law_986 : decode cL_law 986 = .ok (.if_icmp .eq 5, 3) := by decide +kernel
theorem dL_law_991 : decode cL_law 991 = .ok (.iload 6, 2) := by decide +kernel
theorem dL_law_993 : decode cL_law 993 = .ok (.ifCond .ne 15, 3) := by decide +kernel
theorem dL_law_1008 : decode cL_law 1008 = .ok (.goto 2896, 3) := by decide +kernel
theorem dL_law_1011 : decode cL_law 1011 = .ok (.aload_n 1, 1) := by decide +kernel
theorem dL_law_1012 : decode cL_law 1012 = .ok (.aload_n 0, 1) := by decide +kernel
theorem dL_law_1013 : decode cL_law 1013 = .ok (.iload 5, 2) := by decide +kernel
theorem dL_law_1015 : decode cL_law 1015 = .ok (.iconst 1, 1) := by decide +kernel
theorem dL_law_1016 : decode cL_law 1016 = .ok (.iadd, 1) := by decide +kernel
theorem dL_law_1017 : decode cL_law 1017 = .ok (.iaload, 1) := by decide +kernel
theorem dL_law_1018 : decode cL_law 1018 = .ok (.aload_n 0, 1) := by decide +kernel
theorem dL_law_1019 : decode cL_law 1019 = .ok (.iload 5, 2) := by decide +kernel
theorem dL_law_1021 : decode cL_law 1021 = .ok (.iconst 2, 1) := by decide +kernel
theorem dL_law_1022 : decode cL_law 1022 = .ok (.iadd, 1) := by decide +kernel
theorem dL_law_1023 : decode cL_law 1023 = .ok (.iaload, 1) := by decide +kernel
theorem dL_law_1024 : decode cL_law 1024 = .ok (.aload_n 0, 1) := by decide +kernel
theorem dL_law_1025 : decode cL_law 1025 = .ok (.iload 5, 2) := by decide +kernel
theorem dL_law_1027 : decode cL_law 1027 = .ok (.iconst 3, 1) := by decide +kernel
theorem dL_law_1028 : decode cL_law 1028 = .ok (.iadd, 1) := by decide +kernel
theorem dL_law_1029 : decode cL_law 1029 = .ok (.iaload, 1) := by decide +kernel
theorem dL_law_1030 : decode cL_law 1030 = .ok (.aload_n 3, 1) := by decide +kernel
theorem dL_law_1031 : decode cL_law 1031 = .ok (.invokestatic 250, 3) := by decide +kernel
theorem dL_law_1034 : decode cL_law 1034 = .ok (.istore 6, 2) := by decide +kernel
theorem dL_law_1036 : decode cL_law 1036 = .ok (.aload_n 2, 1) := by decide +kernel
theorem dL_law_1037 : decode cL_law 1037 = .ok (.aload_n 0, 1) := by decide +kernel
theorem dL_law_1038 : decode cL_law 1038 = .ok (.iload 5, 2) := by decide +kernel
theorem dL_law_1040 : decode cL_law 1040 = .ok (.iconst 1, 1) := by decide +kernel
theorem dL_law_1041 : decode cL_law 1041 = .ok (.iadd, 1) := by decide +kernel
theorem dL_law_1042 : decode cL_law 1042 = .ok (.iaload, 1) := by decide +kernel
theorem dL_law_1043 : decode cL_law 1043 = .ok (.aload_n 0, 1) := by decide +kernel
theorem dL_law_1044 : decode cL_law 1044 = .ok (.iload 5, 2) := by decide +kernel
theorem dL_law_1046 : decode cL_law 1046 = .ok (.iconst 2, 1) := by decide +kernel
theorem dL_law_1047 : decode cL_law 1047 = .ok (.iadd, 1) := by decide +kernel
theorem dL_law_1048 : decode cL_law 1048 = .ok (.iaload, 1) := by decide +kernel
theorem dL_law_1049 : decode cL_law 1049 = .ok (.aload_n 0, 1) := by decide +kernel
theorem dL_law_1050 : decode cL_law 1050 = .ok (.iload 5, 2) := by decide +kernel
theorem dL_law_1052 : decode cL_law 1052 = .ok (.iconst 3, 1) := by decide +kernel
theorem dL_law_1053 : decode cL_law 1053 = .ok (.iadd, 1) := by decide +kernel
theorem dL_law_1054 : decode cL_law 1054 = .ok (.iaload, 1) := by decide +kernel
theorem dL_law_1055 : decode cL_law 1055 = .ok (.invokevirtual 252, 3) := by decide +kernel
theorem dL_law_1058 : decode cL_law 1058 = .ok (.istore 7, 2) := by decide +kernel
theorem dL_law_1060 : decode cL_law 1060 = .ok (.aload_n 2, 1) := by decide +kernel
theorem dL_law_1061 : decode cL_law 1061 = .ok (.invokevirtual 211, 3) := by decide +kernel
theorem dL_law_1064 : decode cL_law 1064 = .ok (.iload 6, 2) := by decide +kernel
theorem dL_law_1066 : decode cL_law 1066 = .ok (.if_icmp .eq 5, 3) := by decide +kernel
theorem dL_law_1071 : decode cL_law 1071 = .ok (.iload 6, 2) := by decide +kernel
theorem dL_law_1073 : decode cL_law 1073 = .ok (.ifCond .ne 15, 3) := by decide +kernel
theorem dL_law_1088 : decode cL_law 1088 = .ok (.goto 2816, 3) := by decide +kernel
theorem dL_law_1091 : decode cL_law 1091 = .ok (.aload_n 1, 1) := by decide +kernel
theorem dL_law_1092 : decode cL_law 1092 = .ok (.aload_n 0, 1) := by decide +kernel
theorem dL_law_1093 : decode cL_law 1093 = .ok (.iload 5, 2) := by decide +kernel
theorem dL_law_1095 : decode cL_law 1095 = .ok (.iconst 1, 1) := by decide +kernel
theorem dL_law_1096 : decode cL_law 1096 = .ok (.iadd, 1) := by decide +kernel
theorem dL_law_1097 : decode cL_law 1097 = .ok (.iaload, 1) := by decide +kernel
theorem dL_law_1098 : decode cL_law 1098 = .ok (.aload_n 0, 1) := by decide +kernel
theorem dL_law_1099 : decode cL_law 1099 = .ok (.iload 5, 2) := by decide +kernel
theorem dL_law_1101 : decode cL_law 1101 = .ok (.iconst 2, 1) := by decide +kernel
theorem dL_law_1102 : decode cL_law 1102 = .ok (.iadd, 1) := by decide +kernel
theorem dL_law_1103 : decode cL_law 1103 = .ok (.iaload, 1) := by decide +kernel
theorem dL_law_1104 : decode cL_law 1104 = .ok (.aload_n 0, 1) := by decide +kernel
theorem dL_law_1105 : decode cL_law 1105 = .ok (.iload 5, 2) := by decide +kernel
theorem dL_law_1107 : decode cL_law 1107 = .ok (.iconst 3, 1) := by decide +kernel
theorem dL_law_1108 : decode cL_law 1108 = .ok (.iadd, 1) := by decide +kernel
theorem dL_law_1109 : decode cL_law 1109 = .ok (.iaload, 1) := by decide +kernel
theorem dL_law_1110 : decode cL_law 1110 = .ok (.aload_n 0, 1) := by decide +kernel
theorem dL_law_1111 : decode cL_law 1111 = .ok (.iload 5, 2) := by decide +kernel
theorem dL_law_1113 : decode cL_law 1113 = .ok (.iconst 4, 1) := by decide +kernel
theorem dL_law_1114 : decode cL_law 1114 = .ok (.iadd, 1) := by decide +kernel
theorem dL_law_1115 : decode cL_law 1115 = .ok (.iaload, 1) := by decide +kernel
theorem dL_law_1116 : decode cL_law 1116 = .ok (.i2c, 1) := by decide +kernel
theorem dL_law_1117 : decode cL_law 1117 = .ok (.aload_n 3, 1) := by decide +kernel
theorem dL_law_1118 : decode cL_law 1118 = .ok (.invokestatic 253, 3) := by decide +kernel
theorem dL_law_1121 : decode cL_law 1121 = .ok (.istore 6, 2) := by decide +kernel
theorem dL_law_1123 : decode cL_law 1123 = .ok (.aload_n 2, 1) := by decide +kernel
theorem dL_law_1124 : decode cL_law 1124 = .ok (.aload_n 0, 1) := by decide +kernel
theorem dL_law_1125 : decode cL_law 1125 = .ok (.iload 5, 2) := by decide +kernel
theorem dL_law_1127 : decode cL_law 1127 = .ok (.iconst 1, 1) := by decide +kernel
theorem dL_law_1128 : decode cL_law 1128 = .ok (.iadd, 1) := by decide +kernel
theorem dL_law_1129 : decode cL_law 1129 = .ok (.iaload, 1) := by decide +kernel
theorem dL_law_1130 : decode cL_law 1130 = .ok (.aload_n 0, 1) := by decide +kernel
theorem dL_law_1131 : decode cL_law 1131 = .ok (.iload 5, 2) := by decide +kernel
theorem dL_law_1133 : decode cL_law 1133 = .ok (.iconst 2, 1) := by decide +kernel
theorem dL_law_1134 : decode cL_law 1134 = .ok (.iadd, 1) := by decide +kernel
theorem dL_law_1135 : decode cL_law 1135 = .ok (.iaload, 1) := by decide +kernel
theorem dL_law_1136 : decode cL_law 1136 = .ok (.aload_n 0, 1) := by decide +kernel
theorem dL_law_1137 : decode cL_law 1137 = .ok (.iload 5, 2) := by decide +kernel
theorem dL_law_1139 : decode cL_law 1139 = .ok (.iconst 3, 1) := by decide +kernel
theorem dL_law_1140 : decode cL_law 1140 = .ok (.iadd, 1) := by decide +kernel
theorem dL_law_1141 : decode cL_law 1141 = .ok (.iaload, 1) := by decide +kernel
theorem dL_law_1142 : decode cL_law 1142 = .ok (.aload_n 0, 1) := by decide +kernel
theorem dL_law_1143 : decode cL_law 1143 = .ok (.iload 5, 2) := by decide +kernel
theorem dL_law_1145 : decode cL_law 1145 = .ok (.iconst 4, 1) := by decide +kernel
theorem dL_law_1146 : decode cL_law 1146 = .ok (.iadd, 1) := by decide +kernel
theorem dL_law_1147 : decode cL_law 1147 = .ok (.iaload, 1) := by decide +kernel
theorem dL_law_1148 : decode cL_law 1148 = .ok (.i2c, 1) := by decide +kernel
theorem dL_law_1149 : decode cL_law 1149 = .ok (.invokevirtual 256, 3) := by decide +kernel
theorem dL_law_1152 : decode cL_law 1152 = .ok (.istore 7, 2) := by decide +kernel
theorem dL_law_1154 : decode cL_law 1154 = .ok (.aload_n 2, 1) := by decide +kernel
theorem dL_law_1155 : decode cL_law 1155 = .ok (.invokevirtual 211, 3) := by decide +kernel
theorem dL_law_1158 : decode cL_law 1158 = .ok (.iload 6, 2) := by decide +kernel
theorem dL_law_1160 : decode cL_law 1160 = .ok (.if_icmp .eq 5, 3) := by decide +kernel
theorem dL_law_1165 : decode cL_law 1165 = .ok (.iload 6, 2) := by decide +kernel
theorem dL_law_1167 : decode cL_law 1167 = .ok (.ifCond .ne 15, 3) := by decide +kernel
theorem dL_law_1182 : decode cL_law 1182 = .ok (.goto 2722, 3) := by decide +kernel
theorem dL_law_1185 : decode cL_law 1185 = .ok (.aload_n 1, 1) := by decide +kernel
theorem dL_law_1186 : decode cL_law 1186 = .ok (.aload_n 0, 1) := by decide +kernel
theorem dL_law_1187 : decode cL_law 1187 = .ok (.iload 5, 2) := by decide +kernel
theorem dL_law_1189 : decode cL_law 1189 = .ok (.iconst 1, 1) := by decide +kernel
theorem dL_law_1190 : decode cL_law 1190 = .ok (.iadd, 1) := by decide +kernel
theorem dL_law_1191 : decode cL_law 1191 = .ok (.iaload, 1) := by decide +kernel
theorem dL_law_1192 : decode cL_law 1192 = .ok (.aload_n 0, 1) := by decide +kernel
theorem dL_law_1193 : decode cL_law 1193 = .ok (.iload 5, 2) := by decide +kernel
theorem dL_law_1195 : decode cL_law 1195 = .ok (.iconst 2, 1) := by decide +kernel
theorem dL_law_1196 : decode cL_law 1196 = .ok (.iadd, 1) := by decide +kernel
theorem dL_law_1197 : decode cL_law 1197 = .ok (.iaload, 1) := by decide +kernel
theorem dL_law_1198 : decode cL_law 1198 = .ok (.aload_n 0, 1) := by decide +kernel
theorem dL_law_1199 : decode cL_law 1199 = .ok (.iload 5, 2) := by decide +kernel
theorem dL_law_1201 : decode cL_law 1201 = .ok (.iconst 3, 1) := by decide +kernel
theorem dL_law_1202 : decode cL_law 1202 = .ok (.iadd, 1) := by decide +kernel
theorem dL_law_1203 : decode cL_law 1203 = .ok (.iaload, 1) := by decide +kernel
theorem dL_law_1204 : decode cL_law 1204 = .ok (.aload_n 3, 1) := by decide +kernel
theorem dL_law_1205 : decode cL_law 1205 = .ok (.invokestatic 257, 3) := by decide +kernel
theorem dL_law_1208 : decode cL_law 1208 = .ok (.istore 6, 2) := by decide +kernel
theorem dL_law_1210 : decode cL_law 1210 = .ok (.aload_n 2, 1) := by decide +kernel
theorem dL_law_1211 : decode cL_law 1211 = .ok (.aload_n 0, 1) := by decide +kernel
theorem dL_law_1212 : decode cL_law 1212 = .ok (.iload 5, 2) := by decide +kernel
theorem dL_law_1214 : decode cL_law 1214 = .ok (.iconst 1, 1) := by decide +kernel
theorem dL_law_1215 : decode cL_law 1215 = .ok (.iadd, 1) := by decide +kernel
theorem dL_law_1216 : decode cL_law 1216 = .ok (.iaload, 1) := by decide +kernel
theorem dL_law_1217 : decode cL_law 1217 = .ok (.aload_n 0, 1) := by decide +kernel
theorem dL_law_1218 : decode cL_law 1218 = .ok (.iload 5, 2) := by decide +kernel
theorem dL_law_1220 : decode cL_law 1220 = .ok (.iconst 2, 1) := by decide +kernel
theorem dL_law_1221 : decode cL_law 1221 = .ok (.iadd, 1) := by decide +kernel
theorem dL_law_1222 : decode cL_law 1222 = .ok (.iaload, 1) := by decide +kernel
theorem dL_law_1223 : decode cL_law 1223 = .ok (.aload_n 0, 1) := by decide +kernel
theorem dL_law_1224 : decode cL_law 1224 = .ok (.iload 5, 2) := by decide +kernel
theorem dL_law_1226 : decode cL_law 1226 = .ok (.iconst 3, 1) := by decide +kernel
theorem dL_law_1227 : decode cL_law 1227 = .ok (.iadd, 1) := by decide +kernel
theorem dL_law_1228 : decode cL_law 1228 = .ok (.iaload, 1) := by decide +kernel
theorem dL_law_1229 : decode cL_law 1229 = .ok (.invokevirtual 259, 3) := by decide +kernel
theorem dL_law_1232 : decode cL_law 1232 = .ok (.istore 7, 2) := by decide +kernel
theorem dL_law_1234 : decode cL_law 1234 = .ok (.aload_n 2, 1) := by decide +kernel
theorem dL_law_1235 : decode cL_law 1235 = .ok (.invokevirtual 211, 3) := by decide +kernel
theorem dL_law_1238 : decode cL_law 1238 = .ok (.iload 6, 2) := by decide +kernel
theorem dL_law_1240 : decode cL_law 1240 = .ok (.if_icmp .eq 5, 3) := by decide +kernel
theorem dL_law_1245 : decode cL_law 1245 = .ok (.iload 6, 2) := by decide +kernel
theorem dL_law_1247 : decode cL_law 1247 = .ok (.ifCond .ne 15, 3) := by decide +kernel
theorem dL_law_1262 : decode cL_law 1262 = .ok (.goto 2642, 3) := by decide +kernel
theorem dL_law_1265 : decode cL_law 1265 = .ok (.aload_n 1, 1) := by decide +kernel
theorem dL_law_1266 : decode cL_law 1266 = .ok (.aload_n 0, 1) := by decide +kernel
theorem dL_law_1267 : decode cL_law 1267 = .ok (.iload 5, 2) := by decide +kernel
theorem dL_law_1269 : decode cL_law 1269 = .ok (.iconst 1, 1) := by decide +kernel
theorem dL_law_1270 : decode cL_law 1270 = .ok (.iadd, 1) := by decide +kernel
theorem dL_law_1271 : decode cL_law 1271 = .ok (.iaload, 1) := by decide +kernel
theorem dL_law_1272 : decode cL_law 1272 = .ok (.aload_n 3, 1) := by decide +kernel
theorem dL_law_1273 : decode cL_law 1273 = .ok (.invokestatic 260, 3) := by decide +kernel
theorem dL_law_1276 : decode cL_law 1276 = .ok (.istore 6, 2) := by decide +kernel
theorem dL_law_1278 : decode cL_law 1278 = .ok (.aload_n 2, 1) := by decide +kernel
theorem dL_law_1279 : decode cL_law 1279 = .ok (.aload_n 0, 1) := by decide +kernel
theorem dL_law_1280 : decode cL_law 1280 = .ok (.iload 5, 2) := by decide +kernel
theorem dL_law_1282 : decode cL_law 1282 = .ok (.iconst 1, 1) := by decide +kernel
theorem dL_law_1283 : decode cL_law 1283 = .ok (.iadd, 1) := by decide +kernel
theorem dL_law_1284 : decode cL_law 1284 = .ok (.iaload, 1) := by decide +kernel
theorem dL_law_1285 : decode cL_law 1285 = .ok (.invokevirtual 263, 3) := by decide +kernel
theorem dL_law_1288 : decode cL_law 1288 = .ok (.istore 7, 2) := by decide +kernel
theorem dL_law_1290 : decode cL_law 1290 = .ok (.aload_n 2, 1) := by decide +kernel
theorem dL_law_1291 : decode cL_law 1291 = .ok (.invokevirtual 211, 3) := by decide +kernel
theorem dL_law_1294 : decode cL_law 1294 = .ok (.iload 6, 2) := by decide +kernel
theorem dL_law_1296 : decode cL_law 1296 = .ok (.if_icmp .eq 5, 3) := by decide +kernel
theorem dL_law_1301 : decode cL_law 1301 = .ok (.iload 6, 2) := by decide +kernel
theorem dL_law_1303 : decode cL_law 1303 = .ok (.ifCond .ne 15, 3) := by decide +kernel
theorem dL_law_1318 : decode cL_law 1318 = .ok (.goto 2586, 3) := by decide +kernel
theorem dL_law_1321 : decode cL_law 1321 = .ok (.aload_n 1, 1) := by decide +kernel
theorem dL_law_1322 : decode cL_law 1322 = .ok (.aload_n 0, 1) := by decide +kernel
theorem dL_law_1323 : decode cL_law 1323 = .ok (.iload 5, 2) := by decide +kernel
theorem dL_law_1325 : decode cL_law 1325 = .ok (.iconst 1, 1) := by decide +kernel
theorem dL_law_1326 : decode cL_law 1326 = .ok (.iadd, 1) := by decide +kernel
theorem dL_law_1327 : decode cL_law 1327 = .ok (.iaload, 1) := by decide +kernel
theorem dL_law_1328 : decode cL_law 1328 = .ok (.aload_n 3, 1) := by decide +kernel
theorem dL_law_1329 : decode cL_law 1329 = .ok (.invokestatic 264, 3) := by decide +kernel
theorem dL_law_1332 : decode cL_law 1332 = .ok (.istore 6, 2) := by decide +kernel
theorem dL_law_1334 : decode cL_law 1334 = .ok (.aload_n 2, 1) := by decide +kernel
theorem dL_law_1335 : decode cL_law 1335 = .ok (.aload_n 0, 1) := by decide +kernel
theorem dL_law_1336 : decode cL_law 1336 = .ok (.iload 5, 2) := by decide +kernel
theorem dL_law_1338 : decode cL_law 1338 = .ok (.iconst 1, 1) := by decide +kernel
theorem dL_law_1339 : decode cL_law 1339 = .ok (.iadd, 1) := by decide +kernel
theorem dL_law_1340 : decode cL_law 1340 = .ok (.iaload, 1) := by decide +kernel
theorem dL_law_1341 : decode cL_law 1341 = .ok (.invokevirtual 266, 3) := by decide +kernel
theorem dL_law_1344 : decode cL_law 1344 = .ok (.istore 7, 2) := by decide +kernel
theorem dL_law_1346 : decode cL_law 1346 = .ok (.aload_n 2, 1) := by decide +kernel
theorem dL_law_1347 : decode cL_law 1347 = .ok (.invokevirtual 211, 3) := by decide +kernel
theorem dL_law_1350 : decode cL_law 1350 = .ok (.iload 6, 2) := by decide +kernel
theorem dL_law_1352 : decode cL_law 1352 = .ok (.if_icmp .eq 5, 3) := by decide +kernel
theorem dL_law_1357 : decode cL_law 1357 = .ok (.iload 6, 2) := by decide +kernel
theorem dL_law_1359 : decode cL_law 1359 = .ok (.ifCond .ne 15, 3) := by decide +kernel
theorem dL_law_1374 : decode cL_law 1374 = .ok (.goto 2530, 3) := by decide +kernel
set_option maxHeartbeats 4000000 in
set_option maxRecDepth 100000 in
theorem law_c8 (l : Launch) (hlT : l.stackTraces = false) {p : Program} {e : Env} {s : State} {m : MethodId} {below : List Frame} {meth : Method} {c : Code} {Q : State → Prop} {D : va_G} {A : Nat → Prop} {b : Nat} {xs : Nat → Int32} {x m7 o o2 : Nat} {rx rm : Nat → Nat} {cO cD : ClassId} {fo : Nat → Int64} {fd : Nat → UInt64} {H : Heap} {locs : List Loc} {ls : Array Slot} (h17 : va_Nw (.classLink RL 17 "java/lang/UnsupportedOperationException") s) (hx : p.tables.exec = Jvm.exec) (hb : c.code = cL_law) (hml : c.maxLocals = 9) (hown : s.vm.findClass RL = some m.cls) (hts : ∀ w ∈ wsL_law, w.before #[Value.ref b] s = true) (hX : va_X b 7 xs s s.heap) (hbl : b < s.heap.size) (hbA : ¬ A b) (hA : ∀ q : Nat, s.heap.size ≤ q → A q) (hT : tf A s s.heap)
    (hK : va_K D vwCl [(cO, .long), (cD, .double)] s) (hP : va_P D vwCl [(x, .inr (12, [.ref (rx 0), .ref (rx 1), .ref (rx 2), .ref (rx 3), .int 0, .int 0, .int 1, .int 110, .int 0, .int 115, .int 0, .int 0, .int 0, .int 0])), (m7, .inr (13, [.ref (rm 0), .ref (rm 1), .ref (rm 2), .ref (rm 3), .ref (rm 4), .ref (rm 5), .ref (rm 6), .ref (rm 7), .ref (rm 8), .ref (rm 9), .ref (rm 10), .ref (rm 11), .ref (rm 12), .ref (rm 13), .ref (rm 14), .ref (rm 15), .int 0, .int 0, .int 1, .int 110, .int 0, .int 0, .int 0, .int 0, .int 0, .int 0, .int 0, .int 0, .int 0, .int 0, .int 0])), (o, .inl (cO, 1, .inr (.inl fo))), (o2, .inl (cD, 1, .inr (.inr (.inr (.inl fd)))))] H) (hD : va_D A [(x, .inr (12, [.ref (rx 0), .ref (rx 1), .ref (rx 2), .ref (rx 3), .int 0, .int 0, .int 1, .int 110, .int 0, .int 115, .int 0, .int 0, .int 0, .int 0])), (m7, .inr (13, [.ref (rm 0), .ref (rm 1), .ref (rm 2), .ref (rm 3), .ref (rm 4), .ref (rm 5), .ref (rm 6), .ref (rm 7), .ref (rm 8), .ref (rm 9), .ref (rm 10), .ref (rm 11), .ref (rm 12), .ref (rm 13), .ref (rm 14), .ref (rm 15), .int 0, .int 0, .int 1, .int 110, .int 0, .int 0, .int 0, .int 0, .int 0, .int 0, .int 0, .int 0, .int 0, .int 0, .int 0])), (o, .inl (cO, 1, .inr (.inl fo))), (o2, .inl (cD, 1, .inr (.inr (.inr (.inl fd)))))]) (hS : va_S A s.heap H locs) (hl : lv_has ls 9 [(0, .ref b), (1, .ref x), (2, .ref m7), (3, .ref o), (4, .ref o2), (5, .int 0)])
    (kk : ∀ (H : Heap) (locs : List Loc) (ls : Array Slot), va_S A s.heap H locs → lv_has ls 9 [(0, .ref b), (5, .int 0)] → W p l e room_1 s m #[Value.ref b] below meth c H locs 200 12100 Q (F0 m 3904 ls [])) :
    W p l e room_1 s m #[Value.ref b] below meth c H locs 140 11923 Q (F0 m 865 ls []) := by
  obtain ⟨a1, ea1⟩ : ∃ z, z = xs (1 : Int32).toNatClampNeg := ⟨_, rfl⟩
  obtain ⟨a2, ea2⟩ : ∃ z, z = xs (2 : Int32).toNatClampNeg := ⟨_, rfl⟩
  obtain ⟨a3, ea3⟩ : ∃ z, z = xs (3 : Int32).toNatClampNeg := ⟨_, rfl⟩
  obtain ⟨a4, ea4⟩ : ∃ z, z = xs (4 : Int32).toNatClampNeg := ⟨_, rfl⟩
  obtain ⟨a5, ea5⟩ : ∃ z, z = xs (5 : Int32).toNatClampNeg := ⟨_, rfl⟩
  obtain ⟨a6, ea6⟩ : ∃ z, z = xs (6 : Int32).toNatClampNeg := ⟨_, rfl⟩
  refine lv_aload_n hx hb dL_law_865 rfl (lv_at hl 1 rfl) ?_
  refine lv_aload_n hx hb dL_law_866 rfl (lv_at hl 0 rfl) ?_
  refine lv_iload hx hb dL_law_867 (lv_at hl 5 rfl) ?_
  refine lv_iconst (v := 1) hx hb dL_law_869 (by decide) ?_
  refine lv_iadd hx hb dL_law_870 ?_
  refine lv_topi (fun y1 ey1 => ?_)
  obtain rfl : y1 = 1 := ey1.trans (by decide)
  refine va_sld hx hb hX hbl hbA hS (vp_in_nI (n := 1) (by decide) (by decide)) dL_law_871 ?_
  rw [← ea1]
  refine lv_i2c hx hb dL_law_872 rfl ?_
  refine lv_aload_n hx hb dL_law_873 rfl (lv_at hl 3 rfl) ?_
  have hPc := hP.sub (ws' := [(x, .inr (12, [.ref (rx 0), .ref (rx 1), .ref (rx 2), .ref (rx 3), .int 0, .int 0, .int 1, .int 110, .int 0, .int 115, .int 0, .int 0, .int 0, .int 0]))]) [0] rfl
  have hDc := hD.sub (ws' := [(x, .inr (12, [.ref (rx 0), .ref (rx 1), .ref (rx 2), .ref (rx 3), .int 0, .int 0, .int 1, .int 110, .int 0, .int 115, .int 0, .int 0, .int 0, .int 0]))]) [0] (by decide) rfl
  have hKc := hK.sub (tys' := []) [] rfl
  have hFc := va_free (wc := [(x, .inr (12, [.ref (rx 0), .ref (rx 1), .ref (rx 2), .ref (rx 3), .int 0, .int 0, .int 1, .int 110, .int 0, .int 115, .int 0, .int 0, .int 0, .int 0]))]) hD hS hA [0] rfl
  refine va_calli (vx_runSW (As := [.ref x, .int ((a1.toUInt32 % 65536).toInt32), .ref o]) (rest := []) ⟨hx, hb, hml, hown, hts⟩ (c_L_begin l hlT D x rx o H.size ((a1.toUInt32 % 65536).toInt32)) (vx_cwSW 3 hts gL_law_L_begin rfl rfl rfl (by decide +kernel) ⟨Nat.le_of_ble_eq_true rfl, Nat.le_of_ble_eq_true rfl⟩) ⟨fun a U g mk q => ⟨q.1, PX6.blind q.2.1, va_Nw.same (u := U) rfl rfl q.2.2⟩, fun U hU hW => ⟨rfl, PX6.go hPc hKc hT hS hA hU hW, nw_face (by decide +kernel) hW h17⟩⟩ rfl rfl hl.1 rfl (lv_room (Nat.le_of_ble_eq_true rfl)) dL_law_874 ⟨Nat.le_of_ble_eq_true rfl, Nat.le_of_ble_eq_true rfl⟩) hS (fun q h1 h2 => absurd h1 (Nat.not_lt.mpr h2)) (fun q h => hA q (Nat.le_trans hS.1 h)) (fun r3 u t H1 locs ht hvm hw hB hz1 hk1 hS => ?_)
  have hP := va_kept0 hP hk1
  generalize H1 = H at hP hS ⊢
  have hP : va_P D vwCl [(x, .inr (12, [.ref (rx 0), .ref (rx 1), .ref (rx 2), .ref (rx 3), .int 0, .int 0, .int 1, .int 110, .int 0, .int 115, .int 0, .int 0, .int 0, .int 0])), (m7, .inr (13, [.ref (rm 0), .ref (rm 1), .ref (rm 2), .ref (rm 3), .ref (rm 4), .ref (rm 5), .ref (rm 6), .ref (rm 7), .ref (rm 8), .ref (rm 9), .ref (rm 10), .ref (rm 11), .ref (rm 12), .ref (rm 13), .ref (rm 14), .ref (rm 15), .int 0, .int 0, .int 1, .int 110, .int 0, .int 0, .int 0, .int 0, .int 0, .int 0, .int 0, .int 0, .int 0, .int 0, .int 0])), (o, .inl (cO, 1, .inr (.inl fo))), (o2, .inl (cD, 1, .inr (.inr (.inr (.inl fd)))))] H := hP
  have hD := hD
  refine W.widen (k := 141) (n := 11929) (Nat.le_of_ble_eq_true rfl) (Nat.le_of_ble_eq_true rfl) ?_
  rcases hw with ⟨hr, hq⟩ | ⟨hr, hq⟩
  · skip
    obtain rfl : r3 = 1 := hr
    refine lv_istore (lv' := [(6, .int 1), (0, .ref b), (1, .ref x), (2, .ref m7), (3, .ref o), (4, .ref o2), (5, .int 0)]) hx hb dL_law_877 hl (by decide) rfl (fun ls hl => ?_)
    refine lv_aload_n hx hb dL_law_879 rfl (lv_at hl 3 rfl) ?_
    refine lv_aload_n hx hb dL_law_880 rfl (lv_at hl 1 rfl) ?_
    refine lv_iload hx hb dL_law_881 (lv_at hl 6 rfl) ?_
    refine lv_iconst (v := 1) hx hb dL_law_883 (by decide) ?_
    refine lv_iadd hx hb dL_law_884 ?_
    refine lv_topi (fun y4 ey4 => ?_)
    obtain rfl : y4 = 1 := ey4.trans (by decide)
    refine va_sld hx hb hX hbl hbA hS (vp_in_nI (n := 1) (by decide) (by decide)) dL_law_885 ?_
    rw [← ea1]
    refine lv_i2c hx hb dL_law_886 rfl ?_
    have hPc := hP.sub (ws' := [(m7, .inr (13, [.ref (rm 0), .ref (rm 1), .ref (rm 2), .ref (rm 3), .ref (rm 4), .ref (rm 5), .ref (rm 6), .ref (rm 7), .ref (rm 8), .ref (rm 9), .ref (rm 10), .ref (rm 11), .ref (rm 12), .ref (rm 13), .ref (rm 14), .ref (rm 15), .int 0, .int 0, .int 1, .int 110, .int 0, .int 0, .int 0, .int 0, .int 0, .int 0, .int 0, .int 0, .int 0, .int 0, .int 0]))]) [1] rfl
    have hDc := hD.sub (ws' := [(m7, .inr (13, [.ref (rm 0), .ref (rm 1), .ref (rm 2), .ref (rm 3), .ref (rm 4), .ref (rm 5), .ref (rm 6), .ref (rm 7), .ref (rm 8), .ref (rm 9), .ref (rm 10), .ref (rm 11), .ref (rm 12), .ref (rm 13), .ref (rm 14), .ref (rm 15), .int 0, .int 0, .int 1, .int 110, .int 0, .int 0, .int 0, .int 0, .int 0, .int 0, .int 0, .int 0, .int 0, .int 0, .int 0]))]) [1] (by decide) rfl
    have hKc := hK.sub (tys' := []) [] rfl
    have hFc := va_free (wc := [(m7, .inr (13, [.ref (rm 0), .ref (rm 1), .ref (rm 2), .ref (rm 3), .ref (rm 4), .ref (rm 5), .ref (rm 6), .ref (rm 7), .ref (rm 8), .ref (rm 9), .ref (rm 10), .ref (rm 11), .ref (rm 12), .ref (rm 13), .ref (rm 14), .ref (rm 15), .int 0, .int 0, .int 1, .int 110, .int 0, .int 0, .int 0, .int 0, .int 0, .int 0, .int 0, .int 0, .int 0, .int 0, .int 0]))]) hD hS hA [1] rfl
    have hFr : ∀ q : Nat, rg1 m7 H.size q → A q := fun q h => hFc q (va_Arg1 q h)
    refine va_calli (va_runV (As := [.int ((a1.toUInt32 % 65536).toInt32)]) (rest := []) ⟨hx, hb, hml, hown, hts⟩ (c_X7_begin l D m7 rm H.size ((a1.toUInt32 % 65536).toInt32)) (cwV 1 hts gL_law_X7_begin rfl rfl rfl (by decide +kernel) ⟨Nat.le_of_ble_eq_true rfl, Nat.le_of_ble_eq_true rfl⟩) ⟨fun a U g mk q => ⟨q.1, PX7.blind q.2⟩, va_recv hK hP (ci := 13) (q0 := 1) rfl rfl, fun U hU hW => ⟨rfl, PX7.go hPc hKc hU hW⟩⟩ rfl rfl hl.1 rfl (lv_room (Nat.le_of_ble_eq_true rfl)) dL_law_887 ⟨Nat.le_of_ble_eq_true rfl, Nat.le_of_ble_eq_true rfl⟩) hS (fun q _ h => hFr q h) hFr (fun r6 u t H1 locs ht hvm hw hB hz1 hk1 hS => ?_)
    obtain ⟨um, eum⟩ : ∃ z, z = u := ⟨_, rfl⟩
    rw [← eum] at hB hw
    rw [ht] at hB
    have hP1 := hB
    have hD1 : va_D (va_A [(m7, .inr (13, [.ref (rm 0), .ref (rm 1), .ref (rm 2), .ref (rm 3), .ref (rm 4), .ref (rm 5), .ref (rm 6), .ref (rm 7), .ref (rm 8), .ref (rm 9), .ref (rm 10), .ref (rm 11), .ref (rm 12), .ref (rm 13), .ref (rm 14), .ref (rm 15), .int 0, .int 0, .int 1, .int 110, .int 0, .int 0, .int 0, .int 0, .int 0, .int 0, .int 0, .int 0, .int 0, .int 0, .int 0]))] H.size) [(m7, .inr (13, um))] := va_D1 (Or.inl ⟨0, _, rfl⟩)
    have hk1 : ∀ q : Nat, q < H.size → ¬ va_A [(m7, .inr (13, [.ref (rm 0), .ref (rm 1), .ref (rm 2), .ref (rm 3), .ref (rm 4), .ref (rm 5), .ref (rm 6), .ref (rm 7), .ref (rm 8), .ref (rm 9), .ref (rm 10), .ref (rm 11), .ref (rm 12), .ref (rm 13), .ref (rm 14), .ref (rm 15), .int 0, .int 0, .int 1, .int 110, .int 0, .int 0, .int 0, .int 0, .int 0, .int 0, .int 0, .int 0, .int 0, .int 0, .int 0]))] H.size q → H1[q]? = H[q]? := fun q h1 h2 => hk1 q h1 (fun h3 => h2 (va_Arg1 q h3))
    obtain ⟨hP, hD⟩ := va_join (wr := [(x, .inr (12, [.ref (rx 0), .ref (rx 1), .ref (rx 2), .ref (rx 3), .int 0, .int 0, .int 1, .int 110, .int 0, .int 115, .int 0, .int 0, .int 0, .int 0])), (o, .inl (cO, 1, .inr (.inl fo))), (o2, .inl (cD, 1, .inr (.inr (.inr (.inl fd)))))]) (w1 := [(m7, .inr (13, um))]) hP hD [1] [0, 2, 3] rfl rfl (by decide) (by decide) hk1 hFc hP1 hD1
    generalize H1 = H at hP hS ⊢
    have hP : va_P D vwCl [(x, .inr (12, [.ref (rx 0), .ref (rx 1), .ref (rx 2), .ref (rx 3), .int 0, .int 0, .int 1, .int 110, .int 0, .int 115, .int 0, .int 0, .int 0, .int 0])), (o, .inl (cO, 1, .inr (.inl fo))), (o2, .inl (cD, 1, .inr (.inr (.inr (.inl fd))))), (m7, .inr (13, um))] H := hP
    have hD : va_D A [(x, .inr (12, [.ref (rx 0), .ref (rx 1), .ref (rx 2), .ref (rx 3), .int 0, .int 0, .int 1, .int 110, .int 0, .int 115, .int 0, .int 0, .int 0, .int 0])), (o, .inl (cO, 1, .inr (.inl fo))), (o2, .inl (cD, 1, .inr (.inr (.inr (.inl fd))))), (m7, .inr (13, um))] := hD
    refine W.widen (k := 141) (n := 11929) (Nat.le_of_ble_eq_true rfl) (Nat.le_of_ble_eq_true rfl) ?_
    obtain ⟨_, hu30⟩ := hw.resolve_left (fun z => hq z.1)
    refine lv_istore (lv' := [(7, .int r6), (6, .int 1), (0, .ref b), (1, .ref x), (2, .ref m7), (3, .ref o), (4, .ref o2), (5, .int 0)]) hx hb dL_law_890 hl (by decide) rfl (fun ls hl => ?_)
    refine lv_aload_n hx hb dL_law_892 rfl (lv_at hl 4 rfl) ?_
    have hPc := hP.sub (ws' := [(m7, .inr (13, um))]) [3] rfl
    have hKc := hK.sub (tys' := []) [] rfl
    refine va_calli (va_runV (As := []) (rest := []) ⟨hx, hb, hml, hown, hts⟩ (c_X7_thrown l D m7 um 1 hu30 H.size) (cwV 0 hts gL_law_X7_thrown rfl rfl rfl (by decide +kernel) ⟨Nat.le_of_ble_eq_true rfl, Nat.le_of_ble_eq_true rfl⟩) ⟨fun a U g mk q => ⟨q.1, q.2.1, q.2.2.1, va_K.moved (u := U) (U := U.calling g mk a) (Vm.Alike.refl U.vm) q.2.2.2⟩, va_recv hK hP (ci := 13) (q0 := 3) rfl rfl, fun U hU hW => ⟨rfl, congrArg Array.size hU, by rw [hU]; exact hPc, va_K.moved hW.alike hKc⟩⟩ rfl rfl hl.1 rfl (lv_room (Nat.le_of_ble_eq_true rfl)) dL_law_893 ⟨Nat.le_of_ble_eq_true rfl, Nat.le_of_ble_eq_true rfl⟩) hS (fun q h1 h2 => absurd h1 (Nat.not_lt.mpr h2)) (fun q h => hA q (Nat.le_trans hS.1 h)) (fun r7 u t H1 locs ht hvm hw hB hz1 hk1 hS => ?_)
    have hP := va_kept0 hP hk1
    generalize H1 = H at hP hS ⊢
    have hP : va_P D vwCl [(x, .inr (12, [.ref (rx 0), .ref (rx 1), .ref (rx 2), .ref (rx 3), .int 0, .int 0, .int 1, .int 110, .int 0, .int 115, .int 0, .int 0, .int 0, .int 0])), (o, .inl (cO, 1, .inr (.inl fo))), (o2, .inl (cD, 1, .inr (.inr (.inr (.inl fd))))), (m7, .inr (13, um))] H := hP
    obtain rfl : r7 = 1 := hw
    refine lv_iload hx hb dL_law_896 (lv_at hl 1 rfl) ?_
    refine lv_icmp_eq (tgt := 903) hx hb dL_law_898 (by decide) (fun _ => ?_) (fun c => by first | exact absurd (by decide) c | exact absurd c (by decide))
    refine lv_iload hx hb dL_law_903 (lv_at hl 1 rfl) ?_
    refine lv_if_ne (tgt := 920) hx hb dL_law_905 (by decide) (fun _ => ?_) (fun c => by first | exact absurd (by decide) c | exact absurd c (by decide))
    refine lv_goto (tgt := 3904) hx hb dL_law_920 (by decide) ?_
    refine W.widen (k := 200) (n := 12100) (Nat.le_of_ble_eq_true rfl) (Nat.le_of_ble_eq_true rfl) ?_
    exact kk H locs ls hS (lv_sub hl [2, 7] rfl)
  · skip
    obtain rfl : r3 = 2 := hr
    refine lv_istore (lv' := [(6, .int 2), (0, .ref b), (1, .ref x), (2, .ref m7), (3, .ref o), (4, .ref o2), (5, .int 0)]) hx hb dL_law_877 hl (by decide) rfl (fun ls hl => ?_)
    refine lv_aload_n hx hb dL_law_879 rfl (lv_at hl 3 rfl) ?_
    refine lv_aload_n hx hb dL_law_880 rfl (lv_at hl 1 rfl) ?_
    refine lv_iload hx hb dL_law_881 (lv_at hl 6 rfl) ?_
    refine lv_iconst (v := 1) hx hb dL_law_883 (by decide) ?_
    refine lv_iadd hx hb dL_law_884 ?_
    refine lv_topi (fun y10 ey10 => ?_)
    obtain rfl : y10 = 1 := ey10.trans (by decide)
    refine va_sld hx hb hX hbl hbA hS (vp_in_nI (n := 1) (by decide) (by decide)) dL_law_885 ?_
    rw [← ea1]
    refine lv_i2c hx hb dL_law_886 rfl ?_
    have hPc := hP.sub (ws' := [(m7, .inr (13, [.ref (rm 0), .ref (rm 1), .ref (rm 2), .ref (rm 3), .ref (rm 4), .ref (rm 5), .ref (rm 6), .ref (rm 7), .ref (rm 8), .ref (rm 9), .ref (rm 10), .ref (rm 11), .ref (rm 12), .ref (rm 13), .ref (rm 14), .ref (rm 15), .int 0, .int 0, .int 1, .int 110, .int 0, .int 0, .int 0, .int 0, .int 0, .int 0, .int 0, .int 0, .int 0, .int 0, .int 0]))]) [1] rfl
    have hDc := hD.sub (ws' := [(m7, .inr (13, [.ref (rm 0), .ref (rm 1), .ref (rm 2), .ref (rm 3), .ref (rm 4), .ref (rm 5), .ref (rm 6), .ref (rm 7), .ref (rm 8), .ref (rm 9), .ref (rm 10), .ref (rm 11), .ref (rm 12), .ref (rm 13), .ref (rm 14), .ref (rm 15), .int 0, .int 0, .int 1, .int 110, .int 0, .int 0, .int 0, .int 0, .int 0, .int 0, .int 0, .int 0, .int 0, .int 0, .int 0]))]) [1] (by decide) rfl
    have hKc := hK.sub (tys' := []) [] rfl
    have hFc := va_free (wc := [(m7, .inr (13, [.ref (rm 0), .ref (rm 1), .ref (rm 2), .ref (rm 3), .ref (rm 4), .ref (rm 5), .ref (rm 6), .ref (rm 7), .ref (rm 8), .ref (rm 9), .ref (rm 10), .ref (rm 11), .ref (rm 12), .ref (rm 13), .ref (rm 14), .ref (rm 15), .int 0, .int 0, .int 1, .int 110, .int 0, .int 0, .int 0, .int 0, .int 0, .int 0, .int 0, .int 0, .int 0, .int 0, .int 0]))]) hD hS hA [1] rfl
    have hFr : ∀ q : Nat, rg1 m7 H.size q → A q := fun q h => hFc q (va_Arg1 q h)
    refine va_calli (va_runV (As := [.int ((a1.toUInt32 % 65536).toInt32)]) (rest := []) ⟨hx, hb, hml, hown, hts⟩ (c_X7_begin l D m7 rm H.size ((a1.toUInt32 % 65536).toInt32)) (cwV 1 hts gL_law_X7_begin rfl rfl rfl (by decide +kernel) ⟨Nat.le_of_ble_eq_true rfl, Nat.le_of_ble_eq_true rfl⟩) ⟨fun a U g mk q => ⟨q.1, PX7.blind q.2⟩, va_recv hK hP (ci := 13) (q0 := 1) rfl rfl, fun U hU hW => ⟨rfl, PX7.go hPc hKc hU hW⟩⟩ rfl rfl hl.1 rfl (lv_room (Nat.le_of_ble_eq_true rfl)) dL_law_887 ⟨Nat.le_of_ble_eq_true rfl, Nat.le_of_ble_eq_true rfl⟩) hS (fun q _ h => hFr q h) hFr (fun r12 u t H1 locs ht hvm hw hB hz1 hk1 hS => ?_)
    obtain ⟨um, eum⟩ : ∃ z, z = u := ⟨_, rfl⟩
    rw [← eum] at hB hw
    rw [ht] at hB
    have hP1 := hB
    have hD1 : va_D (va_A [(m7, .inr (13, [.ref (rm 0), .ref (rm 1), .ref (rm 2), .ref (rm 3), .ref (rm 4), .ref (rm 5), .ref (rm 6), .ref (rm 7), .ref (rm 8), .ref (rm 9), .ref (rm 10), .ref (rm 11), .ref (rm 12), .ref (rm 13), .ref (rm 14), .ref (rm 15), .int 0, .int 0, .int 1, .int 110, .int 0, .int 0, .int 0, .int 0, .int 0, .int 0, .int 0, .int 0, .int 0, .int 0, .int 0]))] H.size) [(m7, .inr (13, um))] := va_D1 (Or.inl ⟨0, _, rfl⟩)
    have hk1 : ∀ q : Nat, q < H.size → ¬ va_A [(m7, .inr (13, [.ref (rm 0), .ref (rm 1), .ref (rm 2), .ref (rm 3), .ref (rm 4), .ref (rm 5), .ref (rm 6), .ref (rm 7), .ref (rm 8), .ref (rm 9), .ref (rm 10), .ref (rm 11), .ref (rm 12), .ref (rm 13), .ref (rm 14), .ref (rm 15), .int 0, .int 0, .int 1, .int 110, .int 0, .int 0, .int 0, .int 0, .int 0, .int 0, .int 0, .int 0, .int 0, .int 0, .int 0]))] H.size q → H1[q]? = H[q]? := fun q h1 h2 => hk1 q h1 (fun h3 => h2 (va_Arg1 q h3))
    obtain ⟨hP, hD⟩ := va_join (wr := [(x, .inr (12, [.ref (rx 0), .ref (rx 1), .ref (rx 2), .ref (rx 3), .int 0, .int 0, .int 1, .int 110, .int 0, .int 115, .int 0, .int 0, .int 0, .int 0])), (o, .inl (cO, 1, .inr (.inl fo))), (o2, .inl (cD, 1, .inr (.inr (.inr (.inl fd)))))]) (w1 := [(m7, .inr (13, um))]) hP hD [1] [0, 2, 3] rfl rfl (by decide) (by decide) hk1 hFc hP1 hD1
    generalize H1 = H at hP hS ⊢
    have hP : va_P D vwCl [(x, .inr (12, [.ref (rx 0), .ref (rx 1), .ref (rx 2), .ref (rx 3), .int 0, .int 0, .int 1, .int 110, .int 0, .int 115, .int 0, .int 0, .int 0, .int 0])), (o, .inl (cO, 1, .inr (.inl fo))), (o2, .inl (cD, 1, .inr (.inr (.inr (.inl fd))))), (m7, .inr (13, um))] H := hP
    have hD : va_D A [(x, .inr (12, [.ref (rx 0), .ref (rx 1), .ref (rx 2), .ref (rx 3), .int 0, .int 0, .int 1, .int 110, .int 0, .int 115, .int 0, .int 0, .int 0, .int 0])), (o, .inl (cO, 1, .inr (.inl fo))), (o2, .inl (cD, 1, .inr (.inr (.inr (.inl fd))))), (m7, .inr (13, um))] := hD
    refine W.widen (k := 141) (n := 11929) (Nat.le_of_ble_eq_true rfl) (Nat.le_of_ble_eq_true rfl) ?_
    obtain ⟨_, hu30⟩ := hw.resolve_right (fun z => z.1 hq)
    refine lv_istore (lv' := [(7, .int r12), (6, .int 2), (0, .ref b), (1, .ref x), (2, .ref m7), (3, .ref o), (4, .ref o2), (5, .int 0)]) hx hb dL_law_890 hl (by decide) rfl (fun ls hl => ?_)
    refine lv_aload_n hx hb dL_law_892 rfl (lv_at hl 4 rfl) ?_
    have hPc := hP.sub (ws' := [(m7, .inr (13, um))]) [3] rfl
    have hKc := hK.sub (tys' := []) [] rfl
    refine va_calli (va_runV (As := []) (rest := []) ⟨hx, hb, hml, hown, hts⟩ (c_X7_thrown l D m7 um 2 hu30 H.size) (cwV 0 hts gL_law_X7_thrown rfl rfl rfl (by decide +kernel) ⟨Nat.le_of_ble_eq_true rfl, Nat.le_of_ble_eq_true rfl⟩) ⟨fun a U g mk q => ⟨q.1, q.2.1, q.2.2.1, va_K.moved (u := U) (U := U.calling g mk a) (Vm.Alike.refl U.vm) q.2.2.2⟩, va_recv hK hP (ci := 13) (q0 := 3) rfl rfl, fun U hU hW => ⟨rfl, congrArg Array.size hU, by rw [hU]; exact hPc, va_K.moved hW.alike hKc⟩⟩ rfl rfl hl.1 rfl (lv_room (Nat.le_of_ble_eq_true rfl)) dL_law_893 ⟨Nat.le_of_ble_eq_true rfl, Nat.le_of_ble_eq_true rfl⟩) hS (fun q h1 h2 => absurd h1 (Nat.not_lt.mpr h2)) (fun q h => hA q (Nat.le_trans hS.1 h)) (fun r13 u t H1 locs ht hvm hw hB hz1 hk1 hS => ?_)
    have hP := va_kept0 hP hk1
    generalize H1 = H at hP hS ⊢
    have hP : va_P D vwCl [(x, .inr (12, [.ref (rx 0), .ref (rx 1), .ref (rx 2), .ref (rx 3), .int 0, .int 0, .int 1, .int 110, .int 0, .int 115, .int 0, .int 0, .int 0, .int 0])), (o, .inl (cO, 1, .inr (.inl fo))), (o2, .inl (cD, 1, .inr (.inr (.inr (.inl fd))))), (m7, .inr (13, um))] H := hP
    obtain rfl : r13 = 2 := hw
    refine lv_iload hx hb dL_law_896 (lv_at hl 1 rfl) ?_
    refine lv_icmp_eq (tgt := 903) hx hb dL_law_898 (by decide) (fun _ => ?_) (fun c => by first | exact absurd (by decide) c | exact absurd c (by decide))
    refine lv_iload hx hb dL_law_903 (lv_at hl 1 rfl) ?_
    refine lv_if_ne (tgt := 920) hx hb dL_law_905 (by decide) (fun _ => ?_) (fun c => by first | exact absurd (by decide) c | exact absurd c (by decide))
    refine lv_goto (tgt := 3904) hx hb dL_law_920 (by decide) ?_
    refine W.widen (k := 200) (n := 12100) (Nat.le_of_ble_eq_true rfl) (Nat.le_of_ble_eq_true rfl) ?_
    exact kk H locs ls hS (lv_sub hl [2, 7] rfl)
set_option maxHeartbeats 4000000 in
set_option maxRecDepth 100000 in
theorem law_c9 (l : Launch) (hlT : l.stackTraces = false) {p : Program} {e : Env} {s : State} {m : MethodId} {below : List Frame} {meth : Method} {c : Code} {Q : State → Prop} {D : va_G} {A : Nat → Prop} {b : Nat} {xs : Nat → Int32} {x m7 o o2 : Nat} {rx rm : Nat → Nat} {cO cD : ClassId} {fo : Nat → Int64} {fd : Nat → UInt64} {H : Heap} {locs : List Loc} {ls : Array Slot} (hx : p.tables.exec = Jvm.exec) (hb : c.code = cL_law) (hml : c.maxLocals = 9) (hown : s.vm.findClass RL = some m.cls) (hts : ∀ w ∈ wsL_law, w.before #[Value.ref b] s = true) (hX : va_X b 7 xs s s.heap) (hbl : b < s.heap.size) (hbA : ¬ A b) (hA : ∀ q : Nat, s.heap.size ≤ q → A q) (hT : tf A s s.heap)
    (hK : va_K D vwCl [(cO, .long), (cD, .double)] s) (hP : va_P D vwCl [(x, .inr (12, [.ref (rx 0), .ref (rx 1), .ref (rx 2), .ref (rx 3), .int 0, .int 0, .int 1, .int 110, .int 0, .int 115, .int 0, .int 0, .int 0, .int 0])), (m7, .inr (13, [.ref (rm 0), .ref (rm 1), .ref (rm 2), .ref (rm 3), .ref (rm 4), .ref (rm 5), .ref (rm 6), .ref (rm 7), .ref (rm 8), .ref (rm 9), .ref (rm 10), .ref (rm 11), .ref (rm 12), .ref (rm 13), .ref (rm 14), .ref (rm 15), .int 0, .int 0, .int 1, .int 110, .int 0, .int 0, .int 0, .int 0, .int 0, .int 0, .int 0, .int 0, .int 0, .int 0, .int 0])), (o, .inl (cO, 1, .inr (.inl fo))), (o2, .inl (cD, 1, .inr (.inr (.inr (.inl fd)))))] H) (hD : va_D A [(x, .inr (12, [.ref (rx 0), .ref (rx 1), .ref (rx 2), .ref (rx 3), .int 0, .int 0, .int 1, .int 110, .int 0, .int 115, .int 0, .int 0, .int 0, .int 0])), (m7, .inr (13, [.ref (rm 0), .ref (rm 1), .ref (rm 2), .ref (rm 3), .ref (rm 4), .ref (rm 5), .ref (rm 6), .ref (rm 7), .ref (rm 8), .ref (rm 9), .ref (rm 10), .ref (rm 11), .ref (rm 12), .ref (rm 13), .ref (rm 14), .ref (rm 15), .int 0, .int 0, .int 1, .int 110, .int 0, .int 0, .int 0, .int 0, .int 0, .int 0, .int 0, .int 0, .int 0, .int 0, .int 0])), (o, .inl (cO, 1, .inr (.inl fo))), (o2, .inl (cD, 1, .inr (.inr (.inr (.inl fd)))))]) (hS : va_S A s.heap H locs) (hl : lv_has ls 9 [(0, .ref b), (1, .ref x), (2, .ref m7), (3, .ref o), (4, .ref o2), (5, .int 0)])
    (kk : ∀ (H : Heap) (locs : List Loc) (ls : Array Slot), va_S A s.heap H locs → lv_has ls 9 [(0, .ref b), (5, .int 0)] → W p l e room_1 s m #[Value.ref b] below meth c H locs 200 12100 Q (F0 m 3904 ls [])) :
    W p l e room_1 s m #[Value.ref b] below meth c H locs 140 11923 Q (F0 m 923 ls []) := by
  obtain ⟨a1, ea1⟩ : ∃ z, z = xs (1 : Int32).toNatClampNeg := ⟨_, rfl⟩
  obtain ⟨a2, ea2⟩ : ∃ z, z = xs (2 : Int32).toNatClampNeg := ⟨_, rfl⟩
  obtain ⟨a3, ea3⟩ : ∃ z, z = xs (3 : Int32).toNatClampNeg := ⟨_, rfl⟩
  obtain ⟨a4, ea4⟩ : ∃ z, z = xs (4 : Int32).toNatClampNeg := ⟨_, rfl⟩
  obtain ⟨a5, ea5⟩ : ∃ z, z = xs (5 : Int32).toNatClampNeg := ⟨_, rfl⟩
  obtain ⟨a6, ea6⟩ : ∃ z, z = xs (6 : Int32).toNatClampNeg := ⟨_, rfl⟩
  refine lv_aload_n hx hb dL_law_923 rfl (lv_at hl 1 rfl) ?_
  refine lv_aload_n hx hb dL_law_924 rfl (lv_at hl 3 rfl) ?_
  have hPc := hP.sub (ws' := [(x, .inr (12, [.ref (rx 0), .ref (rx 1), .ref (rx 2), .ref (rx 3), .int 0, .int 0, .int 1, .int 110, .int 0, .int 115, .int 0, .int 0, .int 0, .int 0]))]) [0] rfl
  have hDc := hD.sub (ws' := [(x, .inr (12, [.ref (rx 0), .ref (rx 1), .ref (rx 2), .ref (rx 3), .int 0, .int 0, .int 1, .int 110, .int 0, .int 115, .int 0, .int 0, .int 0, .int 0]))]) [0] (by decide) rfl
  have hKc := hK.sub (tys' := []) [] rfl
  have hFc := va_free (wc := [(x, .inr (12, [.ref (rx 0), .ref (rx 1), .ref (rx 2), .ref (rx 3), .int 0, .int 0, .int 1, .int 110, .int 0, .int 115, .int 0, .int 0, .int 0, .int 0]))]) hD hS hA [0] rfl
  refine va_calli (vx_runSW (As := [.ref x, .ref o]) (rest := []) ⟨hx, hb, hml, hown, hts⟩ (c_L_holeOn l hlT D x rx o H.size) (vx_cwSW 2 hts gL_law_L_holeOn rfl rfl rfl (by decide +kernel) ⟨Nat.le_of_ble_eq_true rfl, Nat.le_of_ble_eq_true rfl⟩) ⟨fun a U g mk q => ⟨q.1, PX6.blind q.2⟩, fun U hU hW => ⟨rfl, PX6.go hPc hKc hT hS hA hU hW⟩⟩ rfl rfl hl.1 rfl (lv_room (Nat.le_of_ble_eq_true rfl)) dL_law_925 ⟨Nat.le_of_ble_eq_true rfl, Nat.le_of_ble_eq_true rfl⟩) hS (fun q h1 h2 => absurd h1 (Nat.not_lt.mpr h2)) (fun q h => hA q (Nat.le_trans hS.1 h)) (fun r1 u t H1 locs ht hvm hw hB hz1 hk1 hS => ?_)
  have hP := va_kept0 hP hk1
  generalize H1 = H at hP hS ⊢
  have hP : va_P D vwCl [(x, .inr (12, [.ref (rx 0), .ref (rx 1), .ref (rx 2), .ref (rx 3), .int 0, .int 0, .int 1, .int 110, .int 0, .int 115, .int 0, .int 0, .int 0, .int 0])), (m7, .inr (13, [.ref (rm 0), .ref (rm 1), .ref (rm 2), .ref (rm 3), .ref (rm 4), .ref (rm 5), .ref (rm 6), .ref (rm 7), .ref (rm 8), .ref (rm 9), .ref (rm 10), .ref (rm 11), .ref (rm 12), .ref (rm 13), .ref (rm 14), .ref (rm 15), .int 0, .int 0, .int 1, .int 110, .int 0, .int 0, .int 0, .int 0, .int 0, .int 0, .int 0, .int 0, .int 0, .int 0, .int 0])), (o, .inl (cO, 1, .inr (.inl fo))), (o2, .inl (cD, 1, .inr (.inr (.inr (.inl fd)))))] H := hP
  have hD := hD
  refine W.widen (k := 141) (n := 11929) (Nat.le_of_ble_eq_true rfl) (Nat.le_of_ble_eq_true rfl) ?_
  obtain rfl : r1 = 1 := hw
  refine lv_istore (lv' := [(6, .int 1), (0, .ref b), (1, .ref x), (2, .ref m7), (3, .ref o), (4, .ref o2), (5, .int 0)]) hx hb dL_law_928 hl (by decide) rfl (fun ls hl => ?_)
  refine lv_aload_n hx hb dL_law_930 rfl (lv_at hl 3 rfl) ?_
  have hPc := hP.sub (ws' := [(m7, .inr (13, [.ref (rm 0), .ref (rm 1), .ref (rm 2), .ref (rm 3), .ref (rm 4), .ref (rm 5), .ref (rm 6), .ref (rm 7), .ref (rm 8), .ref (rm 9), .ref (rm 10), .ref (rm 11), .ref (rm 12), .ref (rm 13), .ref (rm 14), .ref (rm 15), .int 0, .int 0, .int 1, .int 110, .int 0, .int 0, .int 0, .int 0, .int 0, .int 0, .int 0, .int 0, .int 0, .int 0, .int 0]))]) [1] rfl
  have hDc := hD.sub (ws' := [(m7, .inr (13, [.ref (rm 0), .ref (rm 1), .ref (rm 2), .ref (rm 3), .ref (rm 4), .ref (rm 5), .ref (rm 6), .ref (rm 7), .ref (rm 8), .ref (rm 9), .ref (rm 10), .ref (rm 11), .ref (rm 12), .ref (rm 13), .ref (rm 14), .ref (rm 15), .int 0, .int 0, .int 1, .int 110, .int 0, .int 0, .int 0, .int 0, .int 0, .int 0, .int 0, .int 0, .int 0, .int 0, .int 0]))]) [1] (by decide) rfl
  have hKc := hK.sub (tys' := []) [] rfl
  have hFc := va_free (wc := [(m7, .inr (13, [.ref (rm 0), .ref (rm 1), .ref (rm 2), .ref (rm 3), .ref (rm 4), .ref (rm 5), .ref (rm 6), .ref (rm 7), .ref (rm 8), .ref (rm 9), .ref (rm 10), .ref (rm 11), .ref (rm 12), .ref (rm 13), .ref (rm 14), .ref (rm 15), .int 0, .int 0, .int 1, .int 110, .int 0, .int 0, .int 0, .int 0, .int 0, .int 0, .int 0, .int 0, .int 0, .int 0, .int 0]))]) hD hS hA [1] rfl
  have hFr : ∀ q : Nat, rg1 m7 H.size q → A q := fun q h => hFc q (va_Arg1 q h)
  refine va_calli (va_runV (As := []) (rest := []) ⟨hx, hb, hml, hown, hts⟩ (c_X7_holeOn l D m7 rm H.size) (cwV 0 hts gL_law_X7_holeOn rfl rfl rfl (by decide +kernel) ⟨Nat.le_of_ble_eq_true rfl, Nat.le_of_ble_eq_true rfl⟩) ⟨fun a U g mk q => ⟨q.1, PX7.blind q.2⟩, va_recv hK hP (ci := 13) (q0 := 1) rfl rfl, fun U hU hW => ⟨rfl, PX7.go hPc hKc hU hW⟩⟩ rfl rfl hl.1 rfl (lv_room (Nat.le_of_ble_eq_true rfl)) dL_law_931 ⟨Nat.le_of_ble_eq_true rfl, Nat.le_of_ble_eq_true rfl⟩) hS (fun q _ h => hFr q h) hFr (fun r2 u t H1 locs ht hvm hw hB hz1 hk1 hS => ?_)
  obtain ⟨um, eum⟩ : ∃ z, z = u := ⟨_, rfl⟩
  rw [← eum] at hB hw
  rw [ht] at hB
  have hP1 := hB
  have hD1 : va_D (va_A [(m7, .inr (13, [.ref (rm 0), .ref (rm 1), .ref (rm 2), .ref (rm 3), .ref (rm 4), .ref (rm 5), .ref (rm 6), .ref (rm 7), .ref (rm 8), .ref (rm 9), .ref (rm 10), .ref (rm 11), .ref (rm 12), .ref (rm 13), .ref (rm 14), .ref (rm 15), .int 0, .int 0, .int 1, .int 110, .int 0, .int 0, .int 0, .int 0, .int 0, .int 0, .int 0, .int 0, .int 0, .int 0, .int 0]))] H.size) [(m7, .inr (13, um))] := va_D1 (Or.inl ⟨0, _, rfl⟩)
  have hk1 : ∀ q : Nat, q < H.size → ¬ va_A [(m7, .inr (13, [.ref (rm 0), .ref (rm 1), .ref (rm 2), .ref (rm 3), .ref (rm 4), .ref (rm 5), .ref (rm 6), .ref (rm 7), .ref (rm 8), .ref (rm 9), .ref (rm 10), .ref (rm 11), .ref (rm 12), .ref (rm 13), .ref (rm 14), .ref (rm 15), .int 0, .int 0, .int 1, .int 110, .int 0, .int 0, .int 0, .int 0, .int 0, .int 0, .int 0, .int 0, .int 0, .int 0, .int 0]))] H.size q → H1[q]? = H[q]? := fun q h1 h2 => hk1 q h1 (fun h3 => h2 (va_Arg1 q h3))
  obtain ⟨hP, hD⟩ := va_join (wr := [(x, .inr (12, [.ref (rx 0), .ref (rx 1), .ref (rx 2), .ref (rx 3), .int 0, .int 0, .int 1, .int 110, .int 0, .int 115, .int 0, .int 0, .int 0, .int 0])), (o, .inl (cO, 1, .inr (.inl fo))), (o2, .inl (cD, 1, .inr (.inr (.inr (.inl fd)))))]) (w1 := [(m7, .inr (13, um))]) hP hD [1] [0, 2, 3] rfl rfl (by decide) (by decide) hk1 hFc hP1 hD1
  generalize H1 = H at hP hS ⊢
  have hP : va_P D vwCl [(x, .inr (12, [.ref (rx 0), .ref (rx 1), .ref (rx 2), .ref (rx 3), .int 0, .int 0, .int 1, .int 110, .int 0, .int 115, .int 0, .int 0, .int 0, .int 0])), (o, .inl (cO, 1, .inr (.inl fo))), (o2, .inl (cD, 1, .inr (.inr (.inr (.inl fd))))), (m7, .inr (13, um))] H := hP
  have hD : va_D A [(x, .inr (12, [.ref (rx 0), .ref (rx 1), .ref (rx 2), .ref (rx 3), .int 0, .int 0, .int 1, .int 110, .int 0, .int 115, .int 0, .int 0, .int 0, .int 0])), (o, .inl (cO, 1, .inr (.inl fo))), (o2, .inl (cD, 1, .inr (.inr (.inr (.inl fd))))), (m7, .inr (13, um))] := hD
  refine W.widen (k := 141) (n := 11929) (Nat.le_of_ble_eq_true rfl) (Nat.le_of_ble_eq_true rfl) ?_
  have hu30 := hw
  refine lv_istore (lv' := [(7, .int r2), (6, .int 1), (0, .ref b), (1, .ref x), (2, .ref m7), (3, .ref o), (4, .ref o2), (5, .int 0)]) hx hb dL_law_934 hl (by decide) rfl (fun ls hl => ?_)
  refine lv_aload_n hx hb dL_law_936 rfl (lv_at hl 4 rfl) ?_
  have hPc := hP.sub (ws' := [(m7, .inr (13, um))]) [3] rfl
  have hKc := hK.sub (tys' := []) [] rfl
  refine va_calli (va_runV (As := []) (rest := []) ⟨hx, hb, hml, hown, hts⟩ (c_X7_thrown l D m7 um 1 hu30 H.size) (cwV 0 hts gL_law_X7_thrown rfl rfl rfl (by decide +kernel) ⟨Nat.le_of_ble_eq_true rfl, Nat.le_of_ble_eq_true rfl⟩) ⟨fun a U g mk q => ⟨q.1, q.2.1, q.2.2.1, va_K.moved (u := U) (U := U.calling g mk a) (Vm.Alike.refl U.vm) q.2.2.2⟩, va_recv hK hP (ci := 13) (q0 := 3) rfl rfl, fun U hU hW => ⟨rfl, congrArg Array.size hU, by rw [hU]; exact hPc, va_K.moved hW.alike hKc⟩⟩ rfl rfl hl.1 rfl (lv_room (Nat.le_of_ble_eq_true rfl)) dL_law_937 ⟨Nat.le_of_ble_eq_true rfl, Nat.le_of_ble_eq_true rfl⟩) hS (fun q h1 h2 => absurd h1 (Nat.not_lt.mpr h2)) (fun q h => hA q (Nat.le_trans hS.1 h)) (fun r3 u t H1 locs ht hvm hw hB hz1 hk1 hS => ?_)
  have hP := va_kept0 hP hk1
  generalize H1 = H at hP hS ⊢
  have hP : va_P D vwCl [(x, .inr (12, [.ref (rx 0), .ref (rx 1), .ref (rx 2), .ref (rx 3), .int 0, .int 0, .int 1, .int 110, .int 0, .int 115, .int 0, .int 0, .int 0, .int 0])), (o, .inl (cO, 1, .inr (.inl fo))), (o2, .inl (cD, 1, .inr (.inr (.inr (.inl fd))))), (m7, .inr (13, um))] H := hP
  obtain rfl : r3 = 1 := hw
  refine lv_iload hx hb dL_law_940 (lv_at hl 1 rfl) ?_
  refine lv_icmp_eq (tgt := 947) hx hb dL_law_942 (by decide) (fun _ => ?_) (fun c => by first | exact absurd (by decide) c | exact absurd c (by decide))
  refine lv_iload hx hb dL_law_947 (lv_at hl 1 rfl) ?_
  refine lv_if_ne (tgt := 964) hx hb dL_law_949 (by decide) (fun _ => ?_) (fun c => by first | exact absurd (by decide) c | exact absurd c (by decide))
  refine lv_goto (tgt := 3904) hx hb dL_law_964 (by decide) ?_
  refine W.widen (k := 200) (n := 12100) (Nat.le_of_ble_eq_true rfl) (Nat.le_of_ble_eq_true rfl) ?_
  exact kk H locs ls hS (lv_sub hl [2, 7] rfl)
set_option maxHeartbeats 4000000 in
set_option maxRecDepth 100000 in
theorem law_c10 (l : Launch) (hlT : l.stackTraces = false) {p : Program} {e : Env} {s : State} {m : MethodId} {below : List Frame} {meth : Method} {c : Code} {Q : State → Prop} {D : va_G} {A : Nat → Prop} {b : Nat} {xs : Nat → Int32} {x m7 o o2 : Nat} {rx rm : Nat → Nat} {cO cD : ClassId} {fo : Nat → Int64} {fd : Nat → UInt64} {H : Heap} {locs : List Loc} {ls : Array Slot} (hx : p.tables.exec = Jvm.exec) (hb : c.code = cL_law) (hml : c.maxLocals = 9) (hown : s.vm.findClass RL = some m.cls) (hts : ∀ w ∈ wsL_law, w.before #[Value.ref b] s = true) (hX : va_X b 7 xs s s.heap) (hbl : b < s.heap.size) (hbA : ¬ A b) (hA : ∀ q : Nat, s.heap.size ≤ q → A q) (hT : tf A s s.heap)
    (hK : va_K D vwCl [(cO, .long), (cD, .double)] s) (hP : va_P D vwCl [(x, .inr (12, [.ref (rx 0), .ref (rx 1), .ref (rx 2), .ref (rx 3), .int 0, .int 0, .int 1, .int 110, .int 0, .int 115, .int 0, .int 0, .int 0, .int 0])), (m7, .inr (13, [.ref (rm 0), .ref (rm 1), .ref (rm 2), .ref (rm 3), .ref (rm 4), .ref (rm 5), .ref (rm 6), .ref (rm 7), .ref (rm 8), .ref (rm 9), .ref (rm 10), .ref (rm 11), .ref (rm 12), .ref (rm 13), .ref (rm 14), .ref (rm 15), .int 0, .int 0, .int 1, .int 110, .int 0, .int 0, .int 0, .int 0, .int 0, .int 0, .int 0, .int 0, .int 0, .int 0, .int 0])), (o, .inl (cO, 1, .inr (.inl fo))), (o2, .inl (cD, 1, .inr (.inr (.inr (.inl fd)))))] H) (hD : va_D A [(x, .inr (12, [.ref (rx 0), .ref (rx 1), .ref (rx 2), .ref (rx 3), .int 0, .int 0, .int 1, .int 110, .int 0, .int 115, .int 0, .int 0, .int 0, .int 0])), (m7, .inr (13, [.ref (rm 0), .ref (rm 1), .ref (rm 2), .ref (rm 3), .ref (rm 4), .ref (rm 5), .ref (rm 6), .ref (rm 7), .ref (rm 8), .ref (rm 9), .ref (rm 10), .ref (rm 11), .ref (rm 12), .ref (rm 13), .ref (rm 14), .ref (rm 15), .int 0, .int 0, .int 1, .int 110, .int 0, .int 0, .int 0, .int 0, .int 0, .int 0, .int 0, .int 0, .int 0, .int 0, .int 0])), (o, .inl (cO, 1, .inr (.inl fo))), (o2, .inl (cD, 1, .inr (.inr (.inr (.inl fd)))))]) (hS : va_S A s.heap H locs) (hl : lv_has ls 9 [(0, .ref b), (1, .ref x), (2, .ref m7), (3, .ref o), (4, .ref o2), (5, .int 0)])
    (kk : ∀ (H : Heap) (locs : List Loc) (ls : Array Slot), va_S A s.heap H locs → lv_has ls 9 [(0, .ref b), (5, .int 0)] → W p l e room_1 s m #[Value.ref b] below meth c H locs 200 12100 Q (F0 m 3904 ls [])) :
    W p l e room_1 s m #[Value.ref b] below meth c H locs 140 11923 Q (F0 m 967 ls []) := by
  obtain ⟨a1, ea1⟩ : ∃ z, z = xs (1 : Int32).toNatClampNeg := ⟨_, rfl⟩
  obtain ⟨a2, ea2⟩ : ∃ z, z = xs (2 : Int32).toNatClampNeg := ⟨_, rfl⟩
  obtain ⟨a3, ea3⟩ : ∃ z, z = xs (3 : Int32).toNatClampNeg := ⟨_, rfl⟩
  obtain ⟨a4, ea4⟩ : ∃ z, z = xs (4 : Int32).toNatClampNeg := ⟨_, rfl⟩
  obtain ⟨a5, ea5⟩ : ∃ z, z = xs (5 : Int32).toNatClampNeg := ⟨_, rfl⟩
  obtain ⟨a6, ea6⟩ : ∃ z, z = xs (6 : Int32).toNatClampNeg := ⟨_, rfl⟩
  refine lv_aload_n hx hb dL_law_967 rfl (lv_at hl 1 rfl) ?_
  refine lv_aload_n hx hb dL_law_968 rfl (lv_at hl 3 rfl) ?_
  have hPc := hP.sub (ws' := [(x, .inr (12, [.ref (rx 0), .ref (rx 1), .ref (rx 2), .ref (rx 3), .int 0, .int 0, .int 1, .int 110, .int 0, .int 115, .int 0, .int 0, .int 0, .int 0]))]) [0] rfl
  have hDc := hD.sub (ws' := [(x, .inr (12, [.ref (rx 0), .ref (rx 1), .ref (rx 2), .ref (rx 3), .int 0, .int 0, .int 1, .int 110, .int 0, .int 115, .int 0, .int 0, .int 0, .int 0]))]) [0] (by decide) rfl
  have hKc := hK.sub (tys' := []) [] rfl
  have hFc := va_free (wc := [(x, .inr (12, [.ref (rx 0), .ref (rx 1), .ref (rx 2), .ref (rx 3), .int 0, .int 0, .int 1, .int 110, .int 0, .int 115, .int 0, .int 0, .int 0, .int 0]))]) hD hS hA [0] rfl
  refine va_calli (vx_runSW (As := [.ref x, .ref o]) (rest := []) ⟨hx, hb, hml, hown, hts⟩ (c_L_away l hlT D x rx o H.size) (vx_cwSW 2 hts gL_law_L_away rfl rfl rfl (by decide +kernel) ⟨Nat.le_of_ble_eq_true rfl, Nat.le_of_ble_eq_true rfl⟩) ⟨fun a U g mk q => ⟨q.1, PX6.blind q.2⟩, fun U hU hW => ⟨rfl, PX6.go hPc hKc hT hS hA hU hW⟩⟩ rfl rfl hl.1 rfl (lv_room (Nat.le_of_ble_eq_true rfl)) dL_law_969 ⟨Nat.le_of_ble_eq_true rfl, Nat.le_of_ble_eq_true rfl⟩) hS (fun q h1 h2 => absurd h1 (Nat.not_lt.mpr h2)) (fun q h => hA q (Nat.le_trans hS.1 h)) (fun r1 u t H1 locs ht hvm hw hB hz1 hk1 hS => ?_)
  have hP := va_kept0 hP hk1
  generalize H1 = H at hP hS ⊢
  have hP : va_P D vwCl [(x, .inr (12, [.ref (rx 0), .ref (rx 1), .ref (rx 2), .ref (rx 3), .int 0, .int 0, .int 1, .int 110, .int 0, .int 115, .int 0, .int 0, .int 0, .int 0])), (m7, .inr (13, [.ref (rm 0), .ref (rm 1), .ref (rm 2), .ref (rm 3), .ref (rm 4), .ref (rm 5), .ref (rm 6), .ref (rm 7), .ref (rm 8), .ref (rm 9), .ref (rm 10), .ref (rm 11), .ref (rm 12), .ref (rm 13), .ref (rm 14), .ref (rm 15), .int 0, .int 0, .int 1, .int 110, .int 0, .int 0, .int 0, .int 0, .int 0, .int 0, .int 0, .int 0, .int 0, .int 0, .int 0])), (o, .inl (cO, 1, .inr (.inl fo))), (o2, .inl (cD, 1, .inr (.inr (.inr (.inl fd)))))] H := hP
  have hD := hD
  refine W.widen (k := 141) (n := 11929) (Nat.le_of_ble_eq_true rfl) (Nat.le_of_ble_eq_true rfl) ?_
  obtain rfl : r1 = 1 := hw
  refine lv_istore (lv' := [(6, .int 1), (0, .ref b), (1, .ref x), (2, .ref m7), (3, .ref o), (4, .ref o2), (5, .int 0)]) hx hb dL_law_972 hl (by decide) rfl (fun ls hl => ?_)
  refine lv_aload_n hx hb dL_law_974 rfl (lv_at hl 3 rfl) ?_
  have hPc := hP.sub (ws' := [(m7, .inr (13, [.ref (rm 0), .ref (rm 1), .ref (rm 2), .ref (rm 3), .ref (rm 4), .ref (rm 5), .ref (rm 6), .ref (rm 7), .ref (rm 8), .ref (rm 9), .ref (rm 10), .ref (rm 11), .ref (rm 12), .ref (rm 13), .ref (rm 14), .ref (rm 15), .int 0, .int 0, .int 1, .int 110, .int 0, .int 0, .int 0, .int 0, .int 0, .int 0, .int 0, .int 0, .int 0, .int 0, .int 0]))]) [1] rfl
  have hDc := hD.sub (ws' := [(m7, .inr (13, [.ref (rm 0), .ref (rm 1), .ref (rm 2), .ref (rm 3), .ref (rm 4), .ref (rm 5), .ref (rm 6), .ref (rm 7), .ref (rm 8), .ref (rm 9), .ref (rm 10), .ref (rm 11), .ref (rm 12), .ref (rm 13), .ref (rm 14), .ref (rm 15), .int 0, .int 0, .int 1, .int 110, .int 0, .int 0, .int 0, .int 0, .int 0, .int 0, .int 0, .int 0, .int 0, .int 0, .int 0]))]) [1] (by decide) rfl
  have hKc := hK.sub (tys' := []) [] rfl
  have hFc := va_free (wc := [(m7, .inr (13, [.ref (rm 0), .ref (rm 1), .ref (rm 2), .ref (rm 3), .ref (rm 4), .ref (rm 5), .ref (rm 6), .ref (rm 7), .ref (rm 8), .ref (rm 9), .ref (rm 10), .ref (rm 11), .ref (rm 12), .ref (rm 13), .ref (rm 14), .ref (rm 15), .int 0, .int 0, .int 1, .int 110, .int 0, .int 0, .int 0, .int 0, .int 0, .int 0, .int 0, .int 0, .int 0, .int 0, .int 0]))]) hD hS hA [1] rfl
  have hFr : ∀ q : Nat, rg1 m7 H.size q → A q := fun q h => hFc q (va_Arg1 q h)
  refine va_calli (va_runV (As := []) (rest := []) ⟨hx, hb, hml, hown, hts⟩ (c_X7_away l D m7 rm H.size) (cwV 0 hts gL_law_X7_away rfl rfl rfl (by decide +kernel) ⟨Nat.le_of_ble_eq_true rfl, Nat.le_of_ble_eq_true rfl⟩) ⟨fun a U g mk q => ⟨q.1, PX7.blind q.2⟩, va_recv hK hP (ci := 13) (q0 := 1) rfl rfl, fun U hU hW => ⟨rfl, PX7.go hPc hKc hU hW⟩⟩ rfl rfl hl.1 rfl (lv_room (Nat.le_of_ble_eq_true rfl)) dL_law_975 ⟨Nat.le_of_ble_eq_true rfl, Nat.le_of_ble_eq_true rfl⟩) hS (fun q _ h => hFr q h) hFr (fun r2 u t H1 locs ht hvm hw hB hz1 hk1 hS => ?_)
  obtain ⟨um, eum⟩ : ∃ z, z = u := ⟨_, rfl⟩
  rw [← eum] at hB hw
  rw [ht] at hB
  have hP1 := hB
  have hD1 : va_D (va_A [(m7, .inr (13, [.ref (rm 0), .ref (rm 1), .ref (rm 2), .ref (rm 3), .ref (rm 4), .ref (rm 5), .ref (rm 6), .ref (rm 7), .ref (rm 8), .ref (rm 9), .ref (rm 10), .ref (rm 11), .ref (rm 12), .ref (rm 13), .ref (rm 14), .ref (rm 15), .int 0, .int 0, .int 1, .int 110, .int 0, .int 0, .int 0, .int 0, .int 0, .int 0, .int 0, .int 0, .int 0, .int 0, .int 0]))] H.size) [(m7, .inr (13, um))] := va_D1 (Or.inl ⟨0, _, rfl⟩)
  have hk1 : ∀ q : Nat, q < H.size → ¬ va_A [(m7, .inr (13, [.ref (rm 0), .ref (rm 1), .ref (rm 2), .ref (rm 3), .ref (rm 4), .ref (rm 5), .ref (rm 6), .ref (rm 7), .ref (rm 8), .ref (rm 9), .ref (rm 10), .ref (rm 11), .ref (rm 12), .ref (rm 13), .ref (rm 14), .ref (rm 15), .int 0, .int 0, .int 1, .int 110, .int 0, .int 0, .int 0, .int 0, .int 0, .int 0, .int 0, .int 0, .int 0, .int 0, .int 0]))] H.size q → H1[q]? = H[q]? := fun q h1 h2 => hk1 q h1 (fun h3 => h2 (va_Arg1 q h3))
  obtain ⟨hP, hD⟩ := va_join (wr := [(x, .inr (12, [.ref (rx 0), .ref (rx 1), .ref (rx 2), .ref (rx 3), .int 0, .int 0, .int 1, .int 110, .int 0, .int 115, .int 0, .int 0, .int 0, .int 0])), (o, .inl (cO, 1, .inr (.inl fo))), (o2, .inl (cD, 1, .inr (.inr (.inr (.inl fd)))))]) (w1 := [(m7, .inr (13, um))]) hP hD [1] [0, 2, 3] rfl rfl (by decide) (by decide) hk1 hFc hP1 hD1
  generalize H1 = H at hP hS ⊢
  have hP : va_P D vwCl [(x, .inr (12, [.ref (rx 0), .ref (rx 1), .ref (rx 2), .ref (rx 3), .int 0, .int 0, .int 1, .int 110, .int 0, .int 115, .int 0, .int 0, .int 0, .int 0])), (o, .inl (cO, 1, .inr (.inl fo))), (o2, .inl (cD, 1, .inr (.inr (.inr (.inl fd))))), (m7, .inr (13, um))] H := hP
  have hD : va_D A [(x, .inr (12, [.ref (rx 0), .ref (rx 1), .ref (rx 2), .ref (rx 3), .int 0, .int 0, .int 1, .int 110, .int 0, .int 115, .int 0, .int 0, .int 0, .int 0])), (o, .inl (cO, 1, .inr (.inl fo))), (o2, .inl (cD, 1, .inr (.inr (.inr (.inl fd))))), (m7, .inr (13, um))] := hD
  refine W.widen (k := 141) (n := 11929) (Nat.le_of_ble_eq_true rfl) (Nat.le_of_ble_eq_true rfl) ?_
  have hu30 := hw
  refine lv_istore (lv' := [(7, .int r2), (6, .int 1), (0, .ref b), (1, .ref x), (2, .ref m7), (3, .ref o), (4, .ref o2), (5, .int 0)]) hx hb dL_law_978 hl (by decide) rfl (fun ls hl => ?_)
  refine lv_aload_n hx hb dL_law_980 rfl (lv_at hl 4 rfl) ?_
  have hPc := hP.sub (ws' := [(m7, .inr (13, um))]) [3] rfl
  have hKc := hK.sub (tys' := []) [] rfl
  refine va_calli (va_runV (As := []) (rest := []) ⟨hx, hb, hml, hown, hts⟩ (c_X7_thrown l D m7 um 1 hu30 H.size) (cwV 0 hts gL_law_X7_thrown rfl rfl rfl (by decide +kernel) ⟨Nat.le_of_ble_eq_true rfl, Nat.le_of_ble_eq_true rfl⟩) ⟨fun a U g mk q => ⟨q.1, q.2.1, q.2.2.1, va_K.moved (u := U) (U := U.calling g mk a) (Vm.Alike.refl U.vm) q.2.2.2⟩, va_recv hK hP (ci := 13) (q0 := 3) rfl rfl, fun U hU hW => ⟨rfl, congrArg Array.size hU, by rw [hU]; exact hPc, va_K.moved hW.alike hKc⟩⟩ rfl rfl hl.1 rfl (lv_room (Nat.le_of_ble_eq_true rfl)) dL_law_981 ⟨Nat.le_of_ble_eq_true rfl, Nat.le_of_ble_eq_true rfl⟩) hS (fun q h1 h2 => absurd h1 (Nat.not_lt.mpr h2)) (fun q h => hA q (Nat.le_trans hS.1 h)) (fun r3 u t H1 locs ht hvm hw hB hz1 hk1 hS => ?_)
  have hP := va_kept0 hP hk1
  generalize H1 = H at hP hS ⊢
  have hP : va_P D vwCl [(x, .inr (12, [.ref (rx 0), .ref (rx 1), .ref (rx 2), .ref (rx 3), .int 0, .int 0, .int 1, .int 110, .int 0, .int 115, .int 0, .int 0, .int 0, .int 0])), (o, .inl (cO, 1, .inr (.inl fo))), (o2, .inl (cD, 1, .inr (.inr (.inr (.inl fd))))), (m7, .inr (13, um))] H := hP
  obtain rfl : r3 = 1 := hw
  refine lv_iload hx hb dL_law_984 (lv_at hl 1 rfl) ?_
  refine lv_icmp_eq (tgt := 991) hx hb dL_law_986 (by decide) (fun _ => ?_) (fun c => by first | exact absurd (by decide) c | exact absurd c (by decide))
  refine lv_iload hx hb dL_law_991 (lv_at hl 1 rfl) ?_
  refine lv_if_ne (tgt := 1008) hx hb dL_law_993 (by decide) (fun _ => ?_) (fun c => by first | exact absurd (by decide) c | exact absurd c (by decide))
  refine lv_goto (tgt := 3904) hx hb dL_law_1008 (by decide) ?_
  refine W.widen (k := 200) (n := 12100) (Nat.le_of_ble_eq_true rfl) (Nat.le_of_ble_eq_true rfl) ?_
  exact kk H locs ls hS (lv_sub hl [2, 7] rfl)
set_option maxHeartbeats 4000000 in
set_option maxRecDepth 100000 in
theorem law_c11 (l : Launch) (hlT : l.stackTraces = false) {p : Program} {e : Env} {s : State} {m : MethodId} {below : List Frame} {meth : Method} {c : Code} {Q : State → Prop} {D : va_G} {A : Nat → Prop} {b : Nat} {xs : Nat → Int32} {x m7 o o2 : Nat} {rx rm : Nat → Nat} {cO cD : ClassId} {fo : Nat → Int64} {fd : Nat → UInt64} {H : Heap} {locs : List Loc} {ls : Array Slot} (hx : p.tables.exec = Jvm.exec) (hb : c.code = cL_law) (hml : c.maxLocals = 9) (hown : s.vm.findClass RL = some m.cls) (hts : ∀ w ∈ wsL_law, w.before #[Value.ref b] s = true) (hX : va_X b 7 xs s s.heap) (hbl : b < s.heap.size) (hbA : ¬ A b) (hA : ∀ q : Nat, s.heap.size ≤ q → A q) (hT : tf A s s.heap)
    (hK : va_K D vwCl [(cO, .long), (cD, .double)] s) (hP : va_P D vwCl [(x, .inr (12, [.ref (rx 0), .ref (rx 1), .ref (rx 2), .ref (rx 3), .int 0, .int 0, .int 1, .int 110, .int 0, .int 115, .int 0, .int 0, .int 0, .int 0])), (m7, .inr (13, [.ref (rm 0), .ref (rm 1), .ref (rm 2), .ref (rm 3), .ref (rm 4), .ref (rm 5), .ref (rm 6), .ref (rm 7), .ref (rm 8), .ref (rm 9), .ref (rm 10), .ref (rm 11), .ref (rm 12), .ref (rm 13), .ref (rm 14), .ref (rm 15), .int 0, .int 0, .int 1, .int 110, .int 0, .int 0, .int 0, .int 0, .int 0, .int 0, .int 0, .int 0, .int 0, .int 0, .int 0])), (o, .inl (cO, 1, .inr (.inl fo))), (o2, .inl (cD, 1, .inr (.inr (.inr (.inl fd)))))] H) (hD : va_D A [(x, .inr (12, [.ref (rx 0), .ref (rx 1), .ref (rx 2), .ref (rx 3), .int 0, .int 0, .int 1, .int 110, .int 0, .int 115, .int 0, .int 0, .int 0, .int 0])), (m7, .inr (13, [.ref (rm 0), .ref (rm 1), .ref (rm 2), .ref (rm 3), .ref (rm 4), .ref (rm 5), .ref (rm 6), .ref (rm 7), .ref (rm 8), .ref (rm 9), .ref (rm 10), .ref (rm 11), .ref (rm 12), .ref (rm 13), .ref (rm 14), .ref (rm 15), .int 0, .int 0, .int 1, .int 110, .int 0, .int 0, .int 0, .int 0, .int 0, .int 0, .int 0, .int 0, .int 0, .int 0, .int 0])), (o, .inl (cO, 1, .inr (.inl fo))), (o2, .inl (cD, 1, .inr (.inr (.inr (.inl fd)))))]) (hS : va_S A s.heap H locs) (hl : lv_has ls 9 [(0, .ref b), (1, .ref x), (2, .ref m7), (3, .ref o), (4, .ref o2), (5, .int 0)])
    (kk : ∀ (H : Heap) (locs : List Loc) (ls : Array Slot), va_S A s.heap H locs → lv_has ls 9 [(0, .ref b), (5, .int 0)] → W p l e room_1 s m #[Value.ref b] below meth c H locs 200 12100 Q (F0 m 3904 ls [])) :
    W p l e room_1 s m #[Value.ref b] below meth c H locs 140 11923 Q (F0 m 1011 ls []) := by
  obtain ⟨a1, ea1⟩ : ∃ z, z = xs (1 : Int32).toNatClampNeg := ⟨_, rfl⟩
  obtain ⟨a2, ea2⟩ : ∃ z, z = xs (2 : Int32).toNatClampNeg := ⟨_, rfl⟩
  obtain ⟨a3, ea3⟩ : ∃ z, z = xs (3 : Int32).toNatClampNeg := ⟨_, rfl⟩
  obtain ⟨a4, ea4⟩ : ∃ z, z = xs (4 : Int32).toNatClampNeg := ⟨_, rfl⟩
  obtain ⟨a5, ea5⟩ : ∃ z, z = xs (5 : Int32).toNatClampNeg := ⟨_, rfl⟩
  obtain ⟨a6, ea6⟩ : ∃ z, z = xs (6 : Int32).toNatClampNeg := ⟨_, rfl⟩
  refine lv_aload_n hx hb dL_law_1011 rfl (lv_at hl 1 rfl) ?_
  refine lv_aload_n hx hb dL_law_1012 rfl (lv_at hl 0 rfl) ?_
  refine lv_iload hx hb dL_law_1013 (lv_at hl 5 rfl) ?_
  refine lv_iconst (v := 1) hx hb dL_law_1015 (by decide) ?_
  refine lv_iadd hx hb dL_law_1016 ?_
  refine lv_topi (fun y1 ey1 => ?_)
  obtain rfl : y1 = 1 := ey1.trans (by decide)
  refine va_sld hx hb hX hbl hbA hS (vp_in_nI (n := 1) (by decide) (by decide)) dL_law_1017 ?_
  rw [← ea1]
  refine lv_aload_n hx hb dL_law_1018 rfl (lv_at hl 0 rfl) ?_
  refine lv_iload hx hb dL_law_1019 (lv_at hl 5 rfl) ?_
  refine lv_iconst (v := 2) hx hb dL_law_1021 (by decide) ?_
  refine lv_iadd hx hb dL_law_1022 ?_
  refine lv_topi (fun y2 ey2 => ?_)
  obtain rfl : y2 = 2 := ey2.trans (by decide)
  refine va_sld hx hb hX hbl hbA hS (vp_in_nI (n := 2) (by decide) (by decide)) dL_law_1023 ?_
  rw [← ea2]
  refine lv_aload_n hx hb dL_law_1024 rfl (lv_at hl 0 rfl) ?_
  refine lv_iload hx hb dL_law_1025 (lv_at hl 5 rfl) ?_
  refine lv_iconst (v := 3) hx hb dL_law_1027 (by decide) ?_
  refine lv_iadd hx hb dL_law_1028 ?_
  refine lv_topi (fun y3 ey3 => ?_)
  obtain rfl : y3 = 3 := ey3.trans (by decide)
  refine va_sld hx hb hX hbl hbA hS (vp_in_nI (n := 3) (by decide) (by decide)) dL_law_1029 ?_
  rw [← ea3]
  refine lv_aload_n hx hb dL_law_1030 rfl (lv_at hl 3 rfl) ?_
  have hPc := hP.sub (ws' := [(x, .inr (12, [.ref (rx 0), .ref (rx 1), .ref (rx 2), .ref (rx 3), .int 0, .int 0, .int 1, .int 110, .int 0, .int 115, .int 0, .int 0, .int 0, .int 0]))]) [0] rfl
  have hDc := hD.sub (ws' := [(x, .inr (12, [.ref (rx 0), .ref (rx 1), .ref (rx 2), .ref (rx 3), .int 0, .int 0, .int 1, .int 110, .int 0, .int 115, .int 0, .int 0, .int 0, .int 0]))]) [0] (by decide) rfl
  have hKc := hK.sub (tys' := []) [] rfl
  have hFc := va_free (wc := [(x, .inr (12, [.ref (rx 0), .ref (rx 1), .ref (rx 2), .ref (rx 3), .int 0, .int 0, .int 1, .int 110, .int 0, .int 115, .int 0, .int 0, .int 0, .int 0]))]) hD hS hA [0] rfl
  refine va_calli (vx_runSW (As := [.ref x, .int a1, .int a2, .int a3, .ref o]) (rest := []) ⟨hx, hb, hml, hown, hts⟩ (c_L_stroke l hlT D x rx o H.size a1 a2 a3) (vx_cwSW 5 hts gL_law_L_stroke rfl rfl rfl (by decide +kernel) ⟨Nat.le_of_ble_eq_true rfl, Nat.le_of_ble_eq_true rfl⟩) ⟨fun a U g mk q => ⟨q.1, PX6.blind q.2⟩, fun U hU hW => ⟨rfl, PX6.go hPc hKc hT hS hA hU hW⟩⟩ rfl rfl hl.1 rfl (lv_room (Nat.le_of_ble_eq_true rfl)) dL_law_1031 ⟨Nat.le_of_ble_eq_true rfl, Nat.le_of_ble_eq_true rfl⟩) hS (fun q h1 h2 => absurd h1 (Nat.not_lt.mpr h2)) (fun q h => hA q (Nat.le_trans hS.1 h)) (fun r4 u t H1 locs ht hvm hw hB hz1 hk1 hS => ?_)
  have hP := va_kept0 hP hk1
  generalize H1 = H at hP hS ⊢
  have hP : va_P D vwCl [(x, .inr (12, [.ref (rx 0), .ref (rx 1), .ref (rx 2), .ref (rx 3), .int 0, .int 0, .int 1, .int 110, .int 0, .int 115, .int 0, .int 0, .int 0, .int 0])), (m7, .inr (13, [.ref (rm 0), .ref (rm 1), .ref (rm 2), .ref (rm 3), .ref (rm 4), .ref (rm 5), .ref (rm 6), .ref (rm 7), .ref (rm 8), .ref (rm 9), .ref (rm 10), .ref (rm 11), .ref (rm 12), .ref (rm 13), .ref (rm 14), .ref (rm 15), .int 0, .int 0, .int 1, .int 110, .int 0, .int 0, .int 0, .int 0, .int 0, .int 0, .int 0, .int 0, .int 0, .int 0, .int 0])), (o, .inl (cO, 1, .inr (.inl fo))), (o2, .inl (cD, 1, .inr (.inr (.inr (.inl fd)))))] H := hP
  have hD := hD
  refine W.widen (k := 141) (n := 11929) (Nat.le_of_ble_eq_true rfl) (Nat.le_of_ble_eq_true rfl) ?_
  obtain rfl : r4 = 1 := hw
  refine lv_istore (lv' := [(6, .int 1), (0, .ref b), (1, .ref x), (2, .ref m7), (3, .ref o), (4, .ref o2), (5, .int 0)]) hx hb dL_law_1034 hl (by decide) rfl (fun ls hl => ?_)
  refine lv_aload_n hx hb dL_law_1036 rfl (lv_at hl 3 rfl) ?_
  refine lv_aload_n hx hb dL_law_1037 rfl (lv_at hl 1 rfl) ?_
  refine lv_iload hx hb dL_law_1038 (lv_at hl 6 rfl) ?_
  refine lv_iconst (v := 1) hx hb dL_law_1040 (by decide) ?_
  refine lv_iadd hx hb dL_law_1041 ?_
  refine lv_topi (fun y5 ey5 => ?_)
  obtain rfl : y5 = 1 := ey5.trans (by decide)
  refine va_sld hx hb hX hbl hbA hS (vp_in_nI (n := 1) (by decide) (by decide)) dL_law_1042 ?_
  rw [← ea1]
  refine lv_aload_n hx hb dL_law_1043 rfl (lv_at hl 1 rfl) ?_
  refine lv_iload hx hb dL_law_1044 (lv_at hl 6 rfl) ?_
  refine lv_iconst (v := 2) hx hb dL_law_1046 (by decide) ?_
  refine lv_iadd hx hb dL_law_1047 ?_
  refine lv_topi (fun y6 ey6 => ?_)
  obtain rfl : y6 = 2 := ey6.trans (by decide)
  refine va_sld hx hb hX hbl hbA hS (vp_in_nI (n := 2) (by decide) (by decide)) dL_law_1048 ?_
  rw [← ea2]
  refine lv_aload_n hx hb dL_law_1049 rfl (lv_at hl 1 rfl) ?_
  refine lv_iload hx hb dL_law_1050 (lv_at hl 6 rfl) ?_
  refine lv_iconst (v := 3) hx hb dL_law_1052 (by decide) ?_
  refine lv_iadd hx hb dL_law_1053 ?_
  refine lv_topi (fun y7 ey7 => ?_)
  obtain rfl : y7 = 3 := ey7.trans (by decide)
  refine va_sld hx hb hX hbl hbA hS (vp_in_nI (n := 3) (by decide) (by decide)) dL_law_1054 ?_
  rw [← ea3]
  have hPc := hP.sub (ws' := [(m7, .inr (13, [.ref (rm 0), .ref (rm 1), .ref (rm 2), .ref (rm 3), .ref (rm 4), .ref (rm 5), .ref (rm 6), .ref (rm 7), .ref (rm 8), .ref (rm 9), .ref (rm 10), .ref (rm 11), .ref (rm 12), .ref (rm 13), .ref (rm 14), .ref (rm 15), .int 0, .int 0, .int 1, .int 110, .int 0, .int 0, .int 0, .int 0, .int 0, .int 0, .int 0, .int 0, .int 0, .int 0, .int 0]))]) [1] rfl
  have hDc := hD.sub (ws' := [(m7, .inr (13, [.ref (rm 0), .ref (rm 1), .ref (rm 2), .ref (rm 3), .ref (rm 4), .ref (rm 5), .ref (rm 6), .ref (rm 7), .ref (rm 8), .ref (rm 9), .ref (rm 10), .ref (rm 11), .ref (rm 12), .ref (rm 13), .ref (rm 14), .ref (rm 15), .int 0, .int 0, .int 1, .int 110, .int 0, .int 0, .int 0, .int 0, .int 0, .int 0, .int 0, .int 0, .int 0, .int 0, .int 0]))]) [1] (by decide) rfl
  have hKc := hK.sub (tys' := []) [] rfl
  have hFc := va_free (wc := [(m7, .inr (13, [.ref (rm 0), .ref (rm 1), .ref (rm 2), .ref (rm 3), .ref (rm 4), .ref (rm 5), .ref (rm 6), .ref (rm 7), .ref (rm 8), .ref (rm 9), .ref (rm 10), .ref (rm 11), .ref (rm 12), .ref (rm 13), .ref (rm 14), .ref (rm 15), .int 0, .int 0, .int 1, .int 110, .int 0, .int 0, .int 0, .int 0, .int 0, .int 0, .int 0, .int 0, .int 0, .int 0, .int 0]))]) hD hS hA [1] rfl
  have hFr : ∀ q : Nat, rg1 m7 H.size q → A q := fun q h => hFc q (va_Arg1 q h)
  refine va_calli (va_runV (As := [.int a1, .int a2, .int a3]) (rest := []) ⟨hx, hb, hml, hown, hts⟩ (c_X7_stroke l D m7 rm H.size a1 a2 a3) (cwV 3 hts gL_law_X7_stroke rfl rfl rfl (by decide +kernel) ⟨Nat.le_of_ble_eq_true rfl, Nat.le_of_ble_eq_true rfl⟩) ⟨fun a U g mk q => ⟨q.1, PX7.blind q.2⟩, va_recv hK hP (ci := 13) (q0 := 1) rfl rfl, fun U hU hW => ⟨rfl, PX7.go hPc hKc hU hW⟩⟩ rfl rfl hl.1 rfl (lv_room (Nat.le_of_ble_eq_true rfl)) dL_law_1055 ⟨Nat.le_of_ble_eq_true rfl, Nat.le_of_ble_eq_true rfl⟩) hS (fun q _ h => hFr q h) hFr (fun r8 u t H1 locs ht hvm hw hB hz1 hk1 hS => ?_)
  obtain ⟨um, eum⟩ : ∃ z, z = u := ⟨_, rfl⟩
  rw [← eum] at hB hw
  rw [ht] at hB
  have hP1 := hB
  have hD1 : va_D (va_A [(m7, .inr (13, [.ref (rm 0), .ref (rm 1), .ref (rm 2), .ref (rm 3), .ref (rm 4), .ref (rm 5), .ref (rm 6), .ref (rm 7), .ref (rm 8), .ref (rm 9), .ref (rm 10), .ref (rm 11), .ref (rm 12), .ref (rm 13), .ref (rm 14), .ref (rm 15), .int 0, .int 0, .int 1, .int 110, .int 0, .int 0, .int 0, .int 0, .int 0, .int 0, .int 0, .int 0, .int 0, .int 0, .int 0]))] H.size) [(m7, .inr (13, um))] := va_D1 (Or.inl ⟨0, _, rfl⟩)
  have hk1 : ∀ q : Nat, q < H.size → ¬ va_A [(m7, .inr (13, [.ref (rm 0), .ref (rm 1), .ref (rm 2), .ref (rm 3), .ref (rm 4), .ref (rm 5), .ref (rm 6), .ref (rm 7), .ref (rm 8), .ref (rm 9), .ref (rm 10), .ref (rm 11), .ref (rm 12), .ref (rm 13), .ref (rm 14), .ref (rm 15), .int 0, .int 0, .int 1, .int 110, .int 0, .int 0, .int 0, .int 0, .int 0, .int 0, .int 0, .int 0, .int 0, .int 0, .int 0]))] H.size q → H1[q]? = H[q]? := fun q h1 h2 => hk1 q h1 (fun h3 => h2 (va_Arg1 q h3))
  obtain ⟨hP, hD⟩ := va_join (wr := [(x, .inr (12, [.ref (rx 0), .ref (rx 1), .ref (rx 2), .ref (rx 3), .int 0, .int 0, .int 1, .int 110, .int 0, .int 115, .int 0, .int 0, .int 0, .int 0])), (o, .inl (cO, 1, .inr (.inl fo))), (o2, .inl (cD, 1, .inr (.inr (.inr (.inl fd)))))]) (w1 := [(m7, .inr (13, um))]) hP hD [1] [0, 2, 3] rfl rfl (by decide) (by decide) hk1 hFc hP1 hD1
  generalize H1 = H at hP hS ⊢
  have hP : va_P D vwCl [(x, .inr (12, [.ref (rx 0), .ref (rx 1), .ref (rx 2), .ref (rx 3), .int 0, .int 0, .int 1, .int 110, .int 0, .int 115, .int 0, .int 0, .int 0, .int 0])), (o, .inl (cO, 1, .inr (.inl fo))), (o2, .inl (cD, 1, .inr (.inr (.inr (.inl fd))))), (m7, .inr (13, um))] H := hP
  have hD : va_D A [(x, .inr (12, [.ref (rx 0), .ref (rx 1), .ref (rx 2), .ref (rx 3), .int 0, .int 0, .int 1, .int 110, .int 0, .int 115, .int 0, .int 0, .int 0, .int 0])), (o, .inl (cO, 1, .inr (.inl fo))), (o2, .inl (cD, 1, .inr (.inr (.inr (.inl fd))))), (m7, .inr (13, um))] := hD
  refine W.widen (k := 141) (n := 11929) (Nat.le_of_ble_eq_true rfl) (Nat.le_of_ble_eq_true rfl) ?_
  have hu30 := hw
  refine lv_istore (lv' := [(7, .int r8), (6, .int 1), (0, .ref b), (1, .ref x), (2, .ref m7), (3, .ref o), (4, .ref o2), (5, .int 0)]) hx hb dL_law_1058 hl (by decide) rfl (fun ls hl => ?_)
  refine lv_aload_n hx hb dL_law_1060 rfl (lv_at hl 4 rfl) ?_
  have hPc := hP.sub (ws' := [(m7, .inr (13, um))]) [3] rfl
  have hKc := hK.sub (tys' := []) [] rfl
  refine va_calli (va_runV (As := []) (rest := []) ⟨hx, hb, hml, hown, hts⟩ (c_X7_thrown l D m7 um 1 hu30 H.size) (cwV 0 hts gL_law_X7_thrown rfl rfl rfl (by decide +kernel) ⟨Nat.le_of_ble_eq_true rfl, Nat.le_of_ble_eq_true rfl⟩) ⟨fun a U g mk q => ⟨q.1, q.2.1, q.2.2.1, va_K.moved (u := U) (U := U.calling g mk a) (Vm.Alike.refl U.vm) q.2.2.2⟩, va_recv hK hP (ci := 13) (q0 := 3) rfl rfl, fun U hU hW => ⟨rfl, congrArg Array.size hU, by rw [hU]; exact hPc, va_K.moved hW.alike hKc⟩⟩ rfl rfl hl.1 rfl (lv_room (Nat.le_of_ble_eq_true rfl)) dL_law_1061 ⟨Nat.le_of_ble_eq_true rfl, Nat.le_of_ble_eq_true rfl⟩) hS (fun q h1 h2 => absurd h1 (Nat.not_lt.mpr h2)) (fun q h => hA q (Nat.le_trans hS.1 h)) (fun r9 u t H1 locs ht hvm hw hB hz1 hk1 hS => ?_)
  have hP := va_kept0 hP hk1
  generalize H1 = H at hP hS ⊢
  have hP : va_P D vwCl [(x, .inr (12, [.ref (rx 0), .ref (rx 1), .ref (rx 2), .ref (rx 3), .int 0, .int 0, .int 1, .int 110, .int 0, .int 115, .int 0, .int 0, .int 0, .int 0])), (o, .inl (cO, 1, .inr (.inl fo))), (o2, .inl (cD, 1, .inr (.inr (.inr (.inl fd))))), (m7, .inr (13, um))] H := hP
  obtain rfl : r9 = 1 := hw
  refine lv_iload hx hb dL_law_1064 (lv_at hl 1 rfl) ?_
  refine lv_icmp_eq (tgt := 1071) hx hb dL_law_1066 (by decide) (fun _ => ?_) (fun c => by first | exact absurd (by decide) c | exact absurd c (by decide))
  refine lv_iload hx hb dL_law_1071 (lv_at hl 1 rfl) ?_
  refine lv_if_ne (tgt := 1088) hx hb dL_law_1073 (by decide) (fun _ => ?_) (fun c => by first | exact absurd (by decide) c | exact absurd c (by decide))
  refine lv_goto (tgt := 3904) hx hb dL_law_1088 (by decide) ?_
  refine W.widen (k := 200) (n := 12100) (Nat.le_of_ble_eq_true rfl) (Nat.le_of_ble_eq_true rfl) ?_
  exact kk H locs ls hS (lv_sub hl [2, 7] rfl)
set_option maxHeartbeats 4000000 in
set_option maxRecDepth 100000 in
theorem law_c12 (l : Launch) (hlT : l.stackTraces = false) {p : Program} {e : Env} {s : State} {m : MethodId} {below : List Frame} {meth : Method} {c : Code} {Q : State → Prop} {D : va_G} {A : Nat → Prop} {b : Nat} {xs : Nat → Int32} {x m7 o o2 : Nat} {rx rm : Nat → Nat} {cO cD : ClassId} {fo : Nat → Int64} {fd : Nat → UInt64} {H : Heap} {locs : List Loc} {ls : Array Slot} (hx : p.tables.exec = Jvm.exec) (hb : c.code = cL_law) (hml : c.maxLocals = 9) (hown : s.vm.findClass RL = some m.cls) (hts : ∀ w ∈ wsL_law, w.before #[Value.ref b] s = true) (hX : va_X b 7 xs s s.heap) (hbl : b < s.heap.size) (hbA : ¬ A b) (hA : ∀ q : Nat, s.heap.size ≤ q → A q) (hT : tf A s s.heap)
    (hK : va_K D vwCl [(cO, .long), (cD, .double)] s) (hP : va_P D vwCl [(x, .inr (12, [.ref (rx 0), .ref (rx 1), .ref (rx 2), .ref (rx 3), .int 0, .int 0, .int 1, .int 110, .int 0, .int 115, .int 0, .int 0, .int 0, .int 0])), (m7, .inr (13, [.ref (rm 0), .ref (rm 1), .ref (rm 2), .ref (rm 3), .ref (rm 4), .ref (rm 5), .ref (rm 6), .ref (rm 7), .ref (rm 8), .ref (rm 9), .ref (rm 10), .ref (rm 11), .ref (rm 12), .ref (rm 13), .ref (rm 14), .ref (rm 15), .int 0, .int 0, .int 1, .int 110, .int 0, .int 0, .int 0, .int 0, .int 0, .int 0, .int 0, .int 0, .int 0, .int 0, .int 0])), (o, .inl (cO, 1, .inr (.inl fo))), (o2, .inl (cD, 1, .inr (.inr (.inr (.inl fd)))))] H) (hD : va_D A [(x, .inr (12, [.ref (rx 0), .ref (rx 1), .ref (rx 2), .ref (rx 3), .int 0, .int 0, .int 1, .int 110, .int 0, .int 115, .int 0, .int 0, .int 0, .int 0])), (m7, .inr (13, [.ref (rm 0), .ref (rm 1), .ref (rm 2), .ref (rm 3), .ref (rm 4), .ref (rm 5), .ref (rm 6), .ref (rm 7), .ref (rm 8), .ref (rm 9), .ref (rm 10), .ref (rm 11), .ref (rm 12), .ref (rm 13), .ref (rm 14), .ref (rm 15), .int 0, .int 0, .int 1, .int 110, .int 0, .int 0, .int 0, .int 0, .int 0, .int 0, .int 0, .int 0, .int 0, .int 0, .int 0])), (o, .inl (cO, 1, .inr (.inl fo))), (o2, .inl (cD, 1, .inr (.inr (.inr (.inl fd)))))]) (hS : va_S A s.heap H locs) (hl : lv_has ls 9 [(0, .ref b), (1, .ref x), (2, .ref m7), (3, .ref o), (4, .ref o2), (5, .int 0)])
    (kk : ∀ (H : Heap) (locs : List Loc) (ls : Array Slot), va_S A s.heap H locs → lv_has ls 9 [(0, .ref b), (5, .int 0)] → W p l e room_1 s m #[Value.ref b] below meth c H locs 200 12100 Q (F0 m 3904 ls [])) :
    W p l e room_1 s m #[Value.ref b] below meth c H locs 140 11923 Q (F0 m 1091 ls []) := by
  obtain ⟨a1, ea1⟩ : ∃ z, z = xs (1 : Int32).toNatClampNeg := ⟨_, rfl⟩
  obtain ⟨a2, ea2⟩ : ∃ z, z = xs (2 : Int32).toNatClampNeg := ⟨_, rfl⟩
  obtain ⟨a3, ea3⟩ : ∃ z, z = xs (3 : Int32).toNatClampNeg := ⟨_, rfl⟩
  obtain ⟨a4, ea4⟩ : ∃ z, z = xs (4 : Int32).toNatClampNeg := ⟨_, rfl⟩
  obtain ⟨a5, ea5⟩ : ∃ z, z = xs (5 : Int32).toNatClampNeg := ⟨_, rfl⟩
  obtain ⟨a6, ea6⟩ : ∃ z, z = xs (6 : Int32).toNatClampNeg := ⟨_, rfl⟩
  refine lv_aload_n hx hb dL_law_1091 rfl (lv_at hl 1 rfl) ?_
  refine lv_aload_n hx hb dL_law_1092 rfl (lv_at hl 0 rfl) ?_
  refine lv_iload hx hb dL_law_1093 (lv_at hl 5 rfl) ?_
  refine lv_iconst (v := 1) hx hb dL_law_1095 (by decide) ?_
  refine lv_iadd hx hb dL_law_1096 ?_
  refine lv_topi (fun y1 ey1 => ?_)
  obtain rfl : y1 = 1 := ey1.trans (by decide)
  refine va_sld hx hb hX hbl hbA hS (vp_in_nI (n := 1) (by decide) (by decide)) dL_law_1097 ?_
  rw [← ea1]
  refine lv_aload_n hx hb dL_law_1098 rfl (lv_at hl 0 rfl) ?_
  refine lv_iload hx hb dL_law_1099 (lv_at hl 5 rfl) ?_
  refine lv_iconst (v := 2) hx hb dL_law_1101 (by decide) ?_
  refine lv_iadd hx hb dL_law_1102 ?_
  refine lv_topi (fun y2 ey2 => ?_)
  obtain rfl : y2 = 2 := ey2.trans (by decide)
  refine va_sld hx hb hX hbl hbA hS (vp_in_nI (n := 2) (by decide) (by decide)) dL_law_1103 ?_
  rw [← ea2]
  refine lv_aload_n hx hb dL_law_1104 rfl (lv_at hl 0 rfl) ?_
  refine lv_iload hx hb dL_law_1105 (lv_at hl 5 rfl) ?_
  refine lv_iconst (v := 3) hx hb dL_law_1107 (by decide) ?_
  refine lv_iadd hx hb dL_law_1108 ?_
  refine lv_topi (fun y3 ey3 => ?_)
  obtain rfl : y3 = 3 := ey3.trans (by decide)
  refine va_sld hx hb hX hbl hbA hS (vp_in_nI (n := 3) (by decide) (by decide)) dL_law_1109 ?_
  rw [← ea3]
  refine lv_aload_n hx hb dL_law_1110 rfl (lv_at hl 0 rfl) ?_
  refine lv_iload hx hb dL_law_1111 (lv_at hl 5 rfl) ?_
  refine lv_iconst (v := 4) hx hb dL_law_1113 (by decide) ?_
  refine lv_iadd hx hb dL_law_1114 ?_
  refine lv_topi (fun y4 ey4 => ?_)
  obtain rfl : y4 = 4 := ey4.trans (by decide)
  refine va_sld hx hb hX hbl hbA hS (vp_in_nI (n := 4) (by decide) (by decide)) dL_law_1115 ?_
  rw [← ea4]
  refine lv_i2c hx hb dL_law_1116 rfl ?_
  refine lv_aload_n hx hb dL_law_1117 rfl (lv_at hl 3 rfl) ?_
  have hPc := hP.sub (ws' := [(x, .inr (12, [.ref (rx 0), .ref (rx 1), .ref (rx 2), .ref (rx 3), .int 0, .int 0, .int 1, .int 110, .int 0, .int 115, .int 0, .int 0, .int 0, .int 0]))]) [0] rfl
  have hDc := hD.sub (ws' := [(x, .inr (12, [.ref (rx 0), .ref (rx 1), .ref (rx 2), .ref (rx 3), .int 0, .int 0, .int 1, .int 110, .int 0, .int 115, .int 0, .int 0, .int 0, .int 0]))]) [0] (by decide) rfl
  have hKc := hK.sub (tys' := []) [] rfl
  have hFc := va_free (wc := [(x, .inr (12, [.ref (rx 0), .ref (rx 1), .ref (rx 2), .ref (rx 3), .int 0, .int 0, .int 1, .int 110, .int 0, .int 115, .int 0, .int 0, .int 0, .int 0]))]) hD hS hA [0] rfl
  refine va_calli (vx_runSW (As := [.ref x, .int a1, .int a2, .int a3, .int ((a4.toUInt32 % 65536).toInt32), .ref o]) (rest := []) ⟨hx, hb, hml, hown, hts⟩ (c_L_odds l hlT D x rx o H.size a1 a2 a3 ((a4.toUInt32 % 65536).toInt32)) (vx_cwSW 6 hts gL_law_L_odds rfl rfl rfl (by decide +kernel) ⟨Nat.le_of_ble_eq_true rfl, Nat.le_of_ble_eq_true rfl⟩) ⟨fun a U g mk q => ⟨q.1, PX6.blind q.2⟩, fun U hU hW => ⟨rfl, PX6.go hPc hKc hT hS hA hU hW⟩⟩ rfl rfl hl.1 rfl (lv_room (Nat.le_of_ble_eq_true rfl)) dL_law_1118 ⟨Nat.le_of_ble_eq_true rfl, Nat.le_of_ble_eq_true rfl⟩) hS (fun q h1 h2 => absurd h1 (Nat.not_lt.mpr h2)) (fun q h => hA q (Nat.le_trans hS.1 h)) (fun r6 u t H1 locs ht hvm hw hB hz1 hk1 hS => ?_)
  have hP := va_kept0 hP hk1
  generalize H1 = H at hP hS ⊢
  have hP : va_P D vwCl [(x, .inr (12, [.ref (rx 0), .ref (rx 1), .ref (rx 2), .ref (rx 3), .int 0, .int 0, .int 1, .int 110, .int 0, .int 115, .int 0, .int 0, .int 0, .int 0])), (m7, .inr (13, [.ref (rm 0), .ref (rm 1), .ref (rm 2), .ref (rm 3), .ref (rm 4), .ref (rm 5), .ref (rm 6), .ref (rm 7), .ref (rm 8), .ref (rm 9), .ref (rm 10), .ref (rm 11), .ref (rm 12), .ref (rm 13), .ref (rm 14), .ref (rm 15), .int 0, .int 0, .int 1, .int 110, .int 0, .int 0, .int 0, .int 0, .int 0, .int 0, .int 0, .int 0, .int 0, .int 0, .int 0])), (o, .inl (cO, 1, .inr (.inl fo))), (o2, .inl (cD, 1, .inr (.inr (.inr (.inl fd)))))] H := hP
  have hD := hD
  refine W.widen (k := 141) (n := 11929) (Nat.le_of_ble_eq_true rfl) (Nat.le_of_ble_eq_true rfl) ?_
  obtain rfl : r6 = 1 := hw
  refine lv_istore (lv' := [(6, .int 1), (0, .ref b), (1, .ref x), (2, .ref m7), (3, .ref o), (4, .ref o2), (5, .int 0)]) hx hb dL_law_1121 hl (by decide) rfl (fun ls hl => ?_)
  refine lv_aload_n hx hb dL_law_1123 rfl (lv_at hl 3 rfl) ?_
  refine lv_aload_n hx hb dL_law_1124 rfl (lv_at hl 1 rfl) ?_
  refine lv_iload hx hb dL_law_1125 (lv_at hl 6 rfl) ?_
  refine lv_iconst (v := 1) hx hb dL_law_1127 (by decide) ?_
  refine lv_iadd hx hb dL_law_1128 ?_
  refine lv_topi (fun y7 ey7 => ?_)
  obtain rfl : y7 = 1 := ey7.trans (by decide)
  refine va_sld hx hb hX hbl hbA hS (vp_in_nI (n := 1) (by decide) (by decide)) dL_law_1129 ?_
  rw [← ea1]
  refine lv_aload_n hx hb dL_law_1130 rfl (lv_at hl 1 rfl) ?_
  refine lv_iload hx hb dL_law_1131 (lv_at hl 6 rfl) ?_
  refine lv_iconst (v := 2) hx hb dL_law_1133 (by decide) ?_
  refine lv_iadd hx hb dL_law_1134 ?_
  refine lv_topi (fun y8 ey8 => ?_)
  obtain rfl : y8 = 2 := ey8.trans (by decide)
  refine va_sld hx hb hX hbl hbA hS (vp_in_nI (n := 2) (by decide) (by decide)) dL_law_1135 ?_
  rw [← ea2]
  refine lv_aload_n hx hb dL_law_1136 rfl (lv_at hl 1 rfl) ?_
  refine lv_iload hx hb dL_law_1137 (lv_at hl 6 rfl) ?_
  refine lv_iconst (v := 3) hx hb dL_law_1139 (by decide) ?_
  refine lv_iadd hx hb dL_law_1140 ?_
  refine lv_topi (fun y9 ey9 => ?_)
  obtain rfl : y9 = 3 := ey9.trans (by decide)
  refine va_sld hx hb hX hbl hbA hS (vp_in_nI (n := 3) (by decide) (by decide)) dL_law_1141 ?_
  rw [← ea3]
  refine lv_aload_n hx hb dL_law_1142 rfl (lv_at hl 1 rfl) ?_
  refine lv_iload hx hb dL_law_1143 (lv_at hl 6 rfl) ?_
  refine lv_iconst (v := 4) hx hb dL_law_1145 (by decide) ?_
  refine lv_iadd hx hb dL_law_1146 ?_
  refine lv_topi (fun y10 ey10 => ?_)
  obtain rfl : y10 = 4 := ey10.trans (by decide)
  refine va_sld hx hb hX hbl hbA hS (vp_in_nI (n := 4) (by decide) (by decide)) dL_law_1147 ?_
  rw [← ea4]
  refine lv_i2c hx hb dL_law_1148 rfl ?_
  have hPc := hP.sub (ws' := [(m7, .inr (13, [.ref (rm 0), .ref (rm 1), .ref (rm 2), .ref (rm 3), .ref (rm 4), .ref (rm 5), .ref (rm 6), .ref (rm 7), .ref (rm 8), .ref (rm 9), .ref (rm 10), .ref (rm 11), .ref (rm 12), .ref (rm 13), .ref (rm 14), .ref (rm 15), .int 0, .int 0, .int 1, .int 110, .int 0, .int 0, .int 0, .int 0, .int 0, .int 0, .int 0, .int 0, .int 0, .int 0, .int 0]))]) [1] rfl
  have hDc := hD.sub (ws' := [(m7, .inr (13, [.ref (rm 0), .ref (rm 1), .ref (rm 2), .ref (rm 3), .ref (rm 4), .ref (rm 5), .ref (rm 6), .ref (rm 7), .ref (rm 8), .ref (rm 9), .ref (rm 10), .ref (rm 11), .ref (rm 12), .ref (rm 13), .ref (rm 14), .ref (rm 15), .int 0, .int 0, .int 1, .int 110, .int 0, .int 0, .int 0, .int 0, .int 0, .int 0, .int 0, .int 0, .int 0, .int 0, .int 0]))]) [1] (by decide) rfl
  have hKc := hK.sub (tys' := []) [] rfl
  have hFc := va_free (wc := [(m7, .inr (13, [.ref (rm 0), .ref (rm 1), .ref (rm 2), .ref (rm 3), .ref (rm 4), .ref (rm 5), .ref (rm 6), .ref (rm 7), .ref (rm 8), .ref (rm 9), .ref (rm 10), .ref (rm 11), .ref (rm 12), .ref (rm 13), .ref (rm 14), .ref (rm 15), .int 0, .int 0, .int 1, .int 110, .int 0, .int 0, .int 0, .int 0, .int 0, .int 0, .int 0, .int 0, .int 0, .int 0, .int 0]))]) hD hS hA [1] rfl
  have hFr : ∀ q : Nat, rg1 m7 H.size q → A q := fun q h => hFc q (va_Arg1 q h)
  refine va_calli (va_runV (As := [.int a1, .int a2, .int a3, .int ((a4.toUInt32 % 65536).toInt32)]) (rest := []) ⟨hx, hb, hml, hown, hts⟩ (c_X7_odds l D m7 rm H.size a1 a2 a3 ((a4.toUInt32 % 65536).toInt32)) (cwV 4 hts gL_law_X7_odds rfl rfl rfl (by decide +kernel) ⟨Nat.le_of_ble_eq_true rfl, Nat.le_of_ble_eq_true rfl⟩) ⟨fun a U g mk q => ⟨q.1, PX7.blind q.2⟩, va_recv hK hP (ci := 13) (q0 := 1) rfl rfl, fun U hU hW => ⟨rfl, PX7.go hPc hKc hU hW⟩⟩ rfl rfl hl.1 rfl (lv_room (Nat.le_of_ble_eq_true rfl)) dL_law_1149 ⟨Nat.le_of_ble_eq_true rfl, Nat.le_of_ble_eq_true rfl⟩) hS (fun q _ h => hFr q h) hFr (fun r12 u t H1 locs ht hvm hw hB hz1 hk1 hS => ?_)
  obtain ⟨um, eum⟩ : ∃ z, z = u := ⟨_, rfl⟩
  rw [← eum] at hB hw
  rw [ht] at hB
  have hP1 := hB
  have hD1 : va_D (va_A [(m7, .inr (13, [.ref (rm 0), .ref (rm 1), .ref (rm 2), .ref (rm 3), .ref (rm 4), .ref (rm 5), .ref (rm 6), .ref (rm 7), .ref (rm 8), .ref (rm 9), .ref (rm 10), .ref (rm 11), .ref (rm 12), .ref (rm 13), .ref (rm 14), .ref (rm 15), .int 0, .int 0, .int 1, .int 110, .int 0, .int 0, .int 0, .int 0, .int 0, .int 0, .int 0, .int 0, .int 0, .int 0, .int 0]))] H.size) [(m7, .inr (13, um))] := va_D1 (Or.inl ⟨0, _, rfl⟩)
  have hk1 : ∀ q : Nat, q < H.size → ¬ va_A [(m7, .inr (13, [.ref (rm 0), .ref (rm 1), .ref (rm 2), .ref (rm 3), .ref (rm 4), .ref (rm 5), .ref (rm 6), .ref (rm 7), .ref (rm 8), .ref (rm 9), .ref (rm 10), .ref (rm 11), .ref (rm 12), .ref (rm 13), .ref (rm 14), .ref (rm 15), .int 0, .int 0, .int 1, .int 110, .int 0, .int 0, .int 0, .int 0, .int 0, .int 0, .int 0, .int 0, .int 0, .int 0, .int 0]))] H.size q → H1[q]? = H[q]? := fun q h1 h2 => hk1 q h1 (fun h3 => h2 (va_Arg1 q h3))
  obtain ⟨hP, hD⟩ := va_join (wr := [(x, .inr (12, [.ref (rx 0), .ref (rx 1), .ref (rx 2), .ref (rx 3), .int 0, .int 0, .int 1, .int 110, .int 0, .int 115, .int 0, .int 0, .int 0, .int 0])), (o, .inl (cO, 1, .inr (.inl fo))), (o2, .inl (cD, 1, .inr (.inr (.inr (.inl fd)))))]) (w1 := [(m7, .inr (13, um))]) hP hD [1] [0, 2, 3] rfl rfl (by decide) (by decide) hk1 hFc hP1 hD1
  generalize H1 = H at hP hS ⊢
  have hP : va_P D vwCl [(x, .inr (12, [.ref (rx 0), .ref (rx 1), .ref (rx 2), .ref (rx 3), .int 0, .int 0, .int 1, .int 110, .int 0, .int 115, .int 0, .int 0, .int 0, .int 0])), (o, .inl (cO, 1, .inr (.inl fo))), (o2, .inl (cD, 1, .inr (.inr (.inr (.inl fd))))), (m7, .inr (13, um))] H := hP
  have hD : va_D A [(x, .inr (12, [.ref (rx 0), .ref (rx 1), .ref (rx 2), .ref (rx 3), .int 0, .int 0, .int 1, .int 110, .int 0, .int 115, .int 0, .int 0, .int 0, .int 0])), (o, .inl (cO, 1, .inr (.inl fo))), (o2, .inl (cD, 1, .inr (.inr (.inr (.inl fd))))), (m7, .inr (13, um))] := hD
  refine W.widen (k := 142) (n := 11938) (Nat.le_of_ble_eq_true rfl) (Nat.le_of_ble_eq_true rfl) ?_
  have hu30 := hw
  refine lv_istore (lv' := [(7, .int r12), (6, .int 1), (0, .ref b), (1, .ref x), (2, .ref m7), (3, .ref o), (4, .ref o2), (5, .int 0)]) hx hb dL_law_1152 hl (by decide) rfl (fun ls hl => ?_)
  refine lv_aload_n hx hb dL_law_1154 rfl (lv_at hl 4 rfl) ?_
  have hPc := hP.sub (ws' := [(m7, .inr (13, um))]) [3] rfl
  have hKc := hK.sub (tys' := []) [] rfl
  refine va_calli (va_runV (As := []) (rest := []) ⟨hx, hb, hml, hown, hts⟩ (c_X7_thrown l D m7 um 1 hu30 H.size) (cwV 0 hts gL_law_X7_thrown rfl rfl rfl (by decide +kernel) ⟨Nat.le_of_ble_eq_true rfl, Nat.le_of_ble_eq_true rfl⟩) ⟨fun a U g mk q => ⟨q.1, q.2.1, q.2.2.1, va_K.moved (u := U) (U := U.calling g mk a) (Vm.Alike.refl U.vm) q.2.2.2⟩, va_recv hK hP (ci := 13) (q0 := 3) rfl rfl, fun U hU hW => ⟨rfl, congrArg Array.size hU, by rw [hU]; exact hPc, va_K.moved hW.alike hKc⟩⟩ rfl rfl hl.1 rfl (lv_room (Nat.le_of_ble_eq_true rfl)) dL_law_1155 ⟨Nat.le_of_ble_eq_true rfl, Nat.le_of_ble_eq_true rfl⟩) hS (fun q h1 h2 => absurd h1 (Nat.not_lt.mpr h2)) (fun q h => hA q (Nat.le_trans hS.1 h)) (fun r13 u t H1 locs ht hvm hw hB hz1 hk1 hS => ?_)
  have hP := va_kept0 hP hk1
  generalize H1 = H at hP hS ⊢
  have hP : va_P D vwCl [(x, .inr (12, [.ref (rx 0), .ref (rx 1), .ref (rx 2), .ref (rx 3), .int 0, .int 0, .int 1, .int 110, .int 0, .int 115, .int 0, .int 0, .int 0, .int 0])), (o, .inl (cO, 1, .inr (.inl fo))), (o2, .inl (cD, 1, .inr (.inr (.inr (.inl fd))))), (m7, .inr (13, um))] H := hP
  obtain rfl : r13 = 1 := hw
  refine lv_iload hx hb dL_law_1158 (lv_at hl 1 rfl) ?_
  refine lv_icmp_eq (tgt := 1165) hx hb dL_law_1160 (by decide) (fun _ => ?_) (fun c => by first | exact absurd (by decide) c | exact absurd c (by decide))
  refine lv_iload hx hb dL_law_1165 (lv_at hl 1 rfl) ?_
  refine lv_if_ne (tgt := 1182) hx hb dL_law_1167 (by decide) (fun _ => ?_) (fun c => by first | exact absurd (by decide) c | exact absurd c (by decide))
  refine lv_goto (tgt := 3904) hx hb dL_law_1182 (by decide) ?_
  refine W.widen (k := 200) (n := 12100) (Nat.le_of_ble_eq_true rfl) (Nat.le_of_ble_eq_true rfl) ?_
  exact kk H locs ls hS (lv_sub hl [2, 7] rfl)
set_option maxHeartbeats 4000000 in
set_option maxRecDepth 100000 in
theorem law_c13 (l : Launch) (hlT : l.stackTraces = false) {p : Program} {e : Env} {s : State} {m : MethodId} {below : List Frame} {meth : Method} {c : Code} {Q : State → Prop} {D : va_G} {A : Nat → Prop} {b : Nat} {xs : Nat → Int32} {x m7 o o2 : Nat} {rx rm : Nat → Nat} {cO cD : ClassId} {fo : Nat → Int64} {fd : Nat → UInt64} {H : Heap} {locs : List Loc} {ls : Array Slot} (hx : p.tables.exec = Jvm.exec) (hb : c.code = cL_law) (hml : c.maxLocals = 9) (hown : s.vm.findClass RL = some m.cls) (hts : ∀ w ∈ wsL_law, w.before #[Value.ref b] s = true) (hX : va_X b 7 xs s s.heap) (hbl : b < s.heap.size) (hbA : ¬ A b) (hA : ∀ q : Nat, s.heap.size ≤ q → A q) (hT : tf A s s.heap)
    (hK : va_K D vwCl [(cO, .long), (cD, .double)] s) (hP : va_P D vwCl [(x, .inr (12, [.ref (rx 0), .ref (rx 1), .ref (rx 2), .ref (rx 3), .int 0, .int 0, .int 1, .int 110, .int 0, .int 115, .int 0, .int 0, .int 0, .int 0])), (m7, .inr (13, [.ref (rm 0), .ref (rm 1), .ref (rm 2), .ref (rm 3), .ref (rm 4), .ref (rm 5), .ref (rm 6), .ref (rm 7), .ref (rm 8), .ref (rm 9), .ref (rm 10), .ref (rm 11), .ref (rm 12), .ref (rm 13), .ref (rm 14), .ref (rm 15), .int 0, .int 0, .int 1, .int 110, .int 0, .int 0, .int 0, .int 0, .int 0, .int 0, .int 0, .int 0, .int 0, .int 0, .int 0])), (o, .inl (cO, 1, .inr (.inl fo))), (o2, .inl (cD, 1, .inr (.inr (.inr (.inl fd)))))] H) (hD : va_D A [(x, .inr (12, [.ref (rx 0), .ref (rx 1), .ref (rx 2), .ref (rx 3), .int 0, .int 0, .int 1, .int 110, .int 0, .int 115, .int 0, .int 0, .int 0, .int 0])), (m7, .inr (13, [.ref (rm 0), .ref (rm 1), .ref (rm 2), .ref (rm 3), .ref (rm 4), .ref (rm 5), .ref (rm 6), .ref (rm 7), .ref (rm 8), .ref (rm 9), .ref (rm 10), .ref (rm 11), .ref (rm 12), .ref (rm 13), .ref (rm 14), .ref (rm 15), .int 0, .int 0, .int 1, .int 110, .int 0, .int 0, .int 0, .int 0, .int 0, .int 0, .int 0, .int 0, .int 0, .int 0, .int 0])), (o, .inl (cO, 1, .inr (.inl fo))), (o2, .inl (cD, 1, .inr (.inr (.inr (.inl fd)))))]) (hS : va_S A s.heap H locs) (hl : lv_has ls 9 [(0, .ref b), (1, .ref x), (2, .ref m7), (3, .ref o), (4, .ref o2), (5, .int 0)])
    (kk : ∀ (H : Heap) (locs : List Loc) (ls : Array Slot), va_S A s.heap H locs → lv_has ls 9 [(0, .ref b), (5, .int 0)] → W p l e room_1 s m #[Value.ref b] below meth c H locs 200 12100 Q (F0 m 3904 ls [])) :
    W p l e room_1 s m #[Value.ref b] below meth c H locs 140 11923 Q (F0 m 1185 ls []) := by
  obtain ⟨a1, ea1⟩ : ∃ z, z = xs (1 : Int32).toNatClampNeg := ⟨_, rfl⟩
  obtain ⟨a2, ea2⟩ : ∃ z, z = xs (2 : Int32).toNatClampNeg := ⟨_, rfl⟩
  obtain ⟨a3, ea3⟩ : ∃ z, z = xs (3 : Int32).toNatClampNeg := ⟨_, rfl⟩
  obtain ⟨a4, ea4⟩ : ∃ z, z = xs (4 : Int32).toNatClampNeg := ⟨_, rfl⟩
  obtain ⟨a5, ea5⟩ : ∃ z, z = xs (5 : Int32).toNatClampNeg := ⟨_, rfl⟩
  obtain ⟨a6, ea6⟩ : ∃ z, z = xs (6 : Int32).toNatClampNeg := ⟨_, rfl⟩
  refine lv_aload_n hx hb dL_law_1185 rfl (lv_at hl 1 rfl) ?_
  refine lv_aload_n hx hb dL_law_1186 rfl (lv_at hl 0 rfl) ?_
  refine lv_iload hx hb dL_law_1187 (lv_at hl 5 rfl) ?_
  refine lv_iconst (v := 1) hx hb dL_law_1189 (by decide) ?_
  refine lv_iadd hx hb dL_law_1190 ?_
  refine lv_topi (fun y1 ey1 => ?_)
  obtain rfl : y1 = 1 := ey1.trans (by decide)
  refine va_sld hx hb hX hbl hbA hS (vp_in_nI (n := 1) (by decide) (by decide)) dL_law_1191 ?_
  rw [← ea1]
  refine lv_aload_n hx hb dL_law_1192 rfl (lv_at hl 0 rfl) ?_
  refine lv_iload hx hb dL_law_1193 (lv_at hl 5 rfl) ?_
  refine lv_iconst (v := 2) hx hb dL_law_1195 (by decide) ?_
  refine lv_iadd hx hb dL_law_1196 ?_
  refine lv_topi (fun y2 ey2 => ?_)
  obtain rfl : y2 = 2 := ey2.trans (by decide)
  refine va_sld hx hb hX hbl hbA hS (vp_in_nI (n := 2) (by decide) (by decide)) dL_law_1197 ?_
  rw [← ea2]
  refine lv_aload_n hx hb dL_law_1198 rfl (lv_at hl 0 rfl) ?_
  refine lv_iload hx hb dL_law_1199 (lv_at hl 5 rfl) ?_
  refine lv_iconst (v := 3) hx hb dL_law_1201 (by decide) ?_
  refine lv_iadd hx hb dL_law_1202 ?_
  refine lv_topi (fun y3 ey3 => ?_)
  obtain rfl : y3 = 3 := ey3.trans (by decide)
  refine va_sld hx hb hX hbl hbA hS (vp_in_nI (n := 3) (by decide) (by decide)) dL_law_1203 ?_
  rw [← ea3]
  refine lv_aload_n hx hb dL_law_1204 rfl (lv_at hl 3 rfl) ?_
  have hPc := hP.sub (ws' := [(x, .inr (12, [.ref (rx 0), .ref (rx 1), .ref (rx 2), .ref (rx 3), .int 0, .int 0, .int 1, .int 110, .int 0, .int 115, .int 0, .int 0, .int 0, .int 0]))]) [0] rfl
  have hDc := hD.sub (ws' := [(x, .inr (12, [.ref (rx 0), .ref (rx 1), .ref (rx 2), .ref (rx 3), .int 0, .int 0, .int 1, .int 110, .int 0, .int 115, .int 0, .int 0, .int 0, .int 0]))]) [0] (by decide) rfl
  have hKc := hK.sub (tys' := []) [] rfl
  have hFc := va_free (wc := [(x, .inr (12, [.ref (rx 0), .ref (rx 1), .ref (rx 2), .ref (rx 3), .int 0, .int 0, .int 1, .int 110, .int 0, .int 115, .int 0, .int 0, .int 0, .int 0]))]) hD hS hA [0] rfl
  refine va_calli (vx_runSW (As := [.ref x, .int a1, .int a2, .int a3, .ref o]) (rest := []) ⟨hx, hb, hml, hown, hts⟩ (c_L_provisional l hlT D x rx o H.size a1 a2 a3) (vx_cwSW 5 hts gL_law_L_provisional rfl rfl rfl (by decide +kernel) ⟨Nat.le_of_ble_eq_true rfl, Nat.le_of_ble_eq_true rfl⟩) ⟨fun a U g mk q => ⟨q.1, PX6.blind q.2⟩, fun U hU hW => ⟨rfl, PX6.go hPc hKc hT hS hA hU hW⟩⟩ rfl rfl hl.1 rfl (lv_room (Nat.le_of_ble_eq_true rfl)) dL_law_1205 ⟨Nat.le_of_ble_eq_true rfl, Nat.le_of_ble_eq_true rfl⟩) hS (fun q h1 h2 => absurd h1 (Nat.not_lt.mpr h2)) (fun q h => hA q (Nat.le_trans hS.1 h)) (fun r4 u t H1 locs ht hvm hw hB hz1 hk1 hS => ?_)
  have hP := va_kept0 hP hk1
  generalize H1 = H at hP hS ⊢
  have hP : va_P D vwCl [(x, .inr (12, [.ref (rx 0), .ref (rx 1), .ref (rx 2), .ref (rx 3), .int 0, .int 0, .int 1, .int 110, .int 0, .int 115, .int 0, .int 0, .int 0, .int 0])), (m7, .inr (13, [.ref (rm 0), .ref (rm 1), .ref (rm 2), .ref (rm 3), .ref (rm 4), .ref (rm 5), .ref (rm 6), .ref (rm 7), .ref (rm 8), .ref (rm 9), .ref (rm 10), .ref (rm 11), .ref (rm 12), .ref (rm 13), .ref (rm 14), .ref (rm 15), .int 0, .int 0, .int 1, .int 110, .int 0, .int 0, .int 0, .int 0, .int 0, .int 0, .int 0, .int 0, .int 0, .int 0, .int 0])), (o, .inl (cO, 1, .inr (.inl fo))), (o2, .inl (cD, 1, .inr (.inr (.inr (.inl fd)))))] H := hP
  have hD := hD
  refine W.widen (k := 141) (n := 11929) (Nat.le_of_ble_eq_true rfl) (Nat.le_of_ble_eq_true rfl) ?_
  obtain rfl : r4 = 1 := hw
  refine lv_istore (lv' := [(6, .int 1), (0, .ref b), (1, .ref x), (2, .ref m7), (3, .ref o), (4, .ref o2), (5, .int 0)]) hx hb dL_law_1208 hl (by decide) rfl (fun ls hl => ?_)
  refine lv_aload_n hx hb dL_law_1210 rfl (lv_at hl 3 rfl) ?_
  refine lv_aload_n hx hb dL_law_1211 rfl (lv_at hl 1 rfl) ?_
  refine lv_iload hx hb dL_law_1212 (lv_at hl 6 rfl) ?_
  refine lv_iconst (v := 1) hx hb dL_law_1214 (by decide) ?_
  refine lv_iadd hx hb dL_law_1215 ?_
  refine lv_topi (fun y5 ey5 => ?_)
  obtain rfl : y5 = 1 := ey5.trans (by decide)
  refine va_sld hx hb hX hbl hbA hS (vp_in_nI (n := 1) (by decide) (by decide)) dL_law_1216 ?_
  rw [← ea1]
  refine lv_aload_n hx hb dL_law_1217 rfl (lv_at hl 1 rfl) ?_
  refine lv_iload hx hb dL_law_1218 (lv_at hl 6 rfl) ?_
  refine lv_iconst (v := 2) hx hb dL_law_1220 (by decide) ?_
  refine lv_iadd hx hb dL_law_1221 ?_
  refine lv_topi (fun y6 ey6 => ?_)
  obtain rfl : y6 = 2 := ey6.trans (by decide)
  refine va_sld hx hb hX hbl hbA hS (vp_in_nI (n := 2) (by decide) (by decide)) dL_law_1222 ?_
  rw [← ea2]
  refine lv_aload_n hx hb dL_law_1223 rfl (lv_at hl 1 rfl) ?_
  refine lv_iload hx hb dL_law_1224 (lv_at hl 6 rfl) ?_
  refine lv_iconst (v := 3) hx hb dL_law_1226 (by decide) ?_
  refine lv_iadd hx hb dL_law_1227 ?_
  refine lv_topi (fun y7 ey7 => ?_)
  obtain rfl : y7 = 3 := ey7.trans (by decide)
  refine va_sld hx hb hX hbl hbA hS (vp_in_nI (n := 3) (by decide) (by decide)) dL_law_1228 ?_
  rw [← ea3]
  have hPc := hP.sub (ws' := [(m7, .inr (13, [.ref (rm 0), .ref (rm 1), .ref (rm 2), .ref (rm 3), .ref (rm 4), .ref (rm 5), .ref (rm 6), .ref (rm 7), .ref (rm 8), .ref (rm 9), .ref (rm 10), .ref (rm 11), .ref (rm 12), .ref (rm 13), .ref (rm 14), .ref (rm 15), .int 0, .int 0, .int 1, .int 110, .int 0, .int 0, .int 0, .int 0, .int 0, .int 0, .int 0, .int 0, .int 0, .int 0, .int 0]))]) [1] rfl
  have hDc := hD.sub (ws' := [(m7, .inr (13, [.ref (rm 0), .ref (rm 1), .ref (rm 2), .ref (rm 3), .ref (rm 4), .ref (rm 5), .ref (rm 6), .ref (rm 7), .ref (rm 8), .ref (rm 9), .ref (rm 10), .ref (rm 11), .ref (rm 12), .ref (rm 13), .ref (rm 14), .ref (rm 15), .int 0, .int 0, .int 1, .int 110, .int 0, .int 0, .int 0, .int 0, .int 0, .int 0, .int 0, .int 0, .int 0, .int 0, .int 0]))]) [1] (by decide) rfl
  have hKc := hK.sub (tys' := []) [] rfl
  have hFc := va_free (wc := [(m7, .inr (13, [.ref (rm 0), .ref (rm 1), .ref (rm 2), .ref (rm 3), .ref (rm 4), .ref (rm 5), .ref (rm 6), .ref (rm 7), .ref (rm 8), .ref (rm 9), .ref (rm 10), .ref (rm 11), .ref (rm 12), .ref (rm 13), .ref (rm 14), .ref (rm 15), .int 0, .int 0, .int 1, .int 110, .int 0, .int 0, .int 0, .int 0, .int 0, .int 0, .int 0, .int 0, .int 0, .int 0, .int 0]))]) hD hS hA [1] rfl
  have hFr : ∀ q : Nat, rg1 m7 H.size q → A q := fun q h => hFc q (va_Arg1 q h)
  refine va_calli (va_runV (As := [.int a1, .int a2, .int a3]) (rest := []) ⟨hx, hb, hml, hown, hts⟩ (c_X7_provisional l D m7 rm H.size a1 a2 a3) (cwV 3 hts gL_law_X7_provisional rfl rfl rfl (by decide +kernel) ⟨Nat.le_of_ble_eq_true rfl, Nat.le_of_ble_eq_true rfl⟩) ⟨fun a U g mk q => ⟨q.1, PX7.blind q.2⟩, va_recv hK hP (ci := 13) (q0 := 1) rfl rfl, fun U hU hW => ⟨rfl, PX7.go hPc hKc hU hW⟩⟩ rfl rfl hl.1 rfl (lv_room (Nat.le_of_ble_eq_true rfl)) dL_law_1229 ⟨Nat.le_of_ble_eq_true rfl, Nat.le_of_ble_eq_true rfl⟩) hS (fun q _ h => hFr q h) hFr (fun r8 u t H1 locs ht hvm hw hB hz1 hk1 hS => ?_)
  obtain ⟨um, eum⟩ : ∃ z, z = u := ⟨_, rfl⟩
  rw [← eum] at hB hw
  rw [ht] at hB
  have hP1 := hB
  have hD1 : va_D (va_A [(m7, .inr (13, [.ref (rm 0), .ref (rm 1), .ref (rm 2), .ref (rm 3), .ref (rm 4), .ref (rm 5), .ref (rm 6), .ref (rm 7), .ref (rm 8), .ref (rm 9), .ref (rm 10), .ref (rm 11), .ref (rm 12), .ref (rm 13), .ref (rm 14), .ref (rm 15), .int 0, .int 0, .int 1, .int 110, .int 0, .int 0, .int 0, .int 0, .int 0, .int 0, .int 0, .int 0, .int 0, .int 0, .int 0]))] H.size) [(m7, .inr (13, um))] := va_D1 (Or.inl ⟨0, _, rfl⟩)
  have hk1 : ∀ q : Nat, q < H.size → ¬ va_A [(m7, .inr (13, [.ref (rm 0), .ref (rm 1), .ref (rm 2), .ref (rm 3), .ref (rm 4), .ref (rm 5), .ref (rm 6), .ref (rm 7), .ref (rm 8), .ref (rm 9), .ref (rm 10), .ref (rm 11), .ref (rm 12), .ref (rm 13), .ref (rm 14), .ref (rm 15), .int 0, .int 0, .int 1, .int 110, .int 0, .int 0, .int 0, .int 0, .int 0, .int 0, .int 0, .int 0, .int 0, .int 0, .int 0]))] H.size q → H1[q]? = H[q]? := fun q h1 h2 => hk1 q h1 (fun h3 => h2 (va_Arg1 q h3))
  obtain ⟨hP, hD⟩ := va_join (wr := [(x, .inr (12, [.ref (rx 0), .ref (rx 1), .ref (rx 2), .ref (rx 3), .int 0, .int 0, .int 1, .int 110, .int 0, .int 115, .int 0, .int 0, .int 0, .int 0])), (o, .inl (cO, 1, .inr (.inl fo))), (o2, .inl (cD, 1, .inr (.inr (.inr (.inl fd)))))]) (w1 := [(m7, .inr (13, um))]) hP hD [1] [0, 2, 3] rfl rfl (by decide) (by decide) hk1 hFc hP1 hD1
  generalize H1 = H at hP hS ⊢
  have hP : va_P D vwCl [(x, .inr (12, [.ref (rx 0), .ref (rx 1), .ref (rx 2), .ref (rx 3), .int 0, .int 0, .int 1, .int 110, .int 0, .int 115, .int 0, .int 0, .int 0, .int 0])), (o, .inl (cO, 1, .inr (.inl fo))), (o2, .inl (cD, 1, .inr (.inr (.inr (.inl fd))))), (m7, .inr (13, um))] H := hP
  have hD : va_D A [(x, .inr (12, [.ref (rx 0), .ref (rx 1), .ref (rx 2), .ref (rx 3), .int 0, .int 0, .int 1, .int 110, .int 0, .int 115, .int 0, .int 0, .int 0, .int 0])), (o, .inl (cO, 1, .inr (.inl fo))), (o2, .inl (cD, 1, .inr (.inr (.inr (.inl fd))))), (m7, .inr (13, um))] := hD
  refine W.widen (k := 141) (n := 11929) (Nat.le_of_ble_eq_true rfl) (Nat.le_of_ble_eq_true rfl) ?_
  have hu30 := hw
  refine lv_istore (lv' := [(7, .int r8), (6, .int 1), (0, .ref b), (1, .ref x), (2, .ref m7), (3, .ref o), (4, .ref o2), (5, .int 0)]) hx hb dL_law_1232 hl (by decide) rfl (fun ls hl => ?_)
  refine lv_aload_n hx hb dL_law_1234 rfl (lv_at hl 4 rfl) ?_
  have hPc := hP.sub (ws' := [(m7, .inr (13, um))]) [3] rfl
  have hKc := hK.sub (tys' := []) [] rfl
  refine va_calli (va_runV (As := []) (rest := []) ⟨hx, hb, hml, hown, hts⟩ (c_X7_thrown l D m7 um 1 hu30 H.size) (cwV 0 hts gL_law_X7_thrown rfl rfl rfl (by decide +kernel) ⟨Nat.le_of_ble_eq_true rfl, Nat.le_of_ble_eq_true rfl⟩) ⟨fun a U g mk q => ⟨q.1, q.2.1, q.2.2.1, va_K.moved (u := U) (U := U.calling g mk a) (Vm.Alike.refl U.vm) q.2.2.2⟩, va_recv hK hP (ci := 13) (q0 := 3) rfl rfl, fun U hU hW => ⟨rfl, congrArg Array.size hU, by rw [hU]; exact hPc, va_K.moved hW.alike hKc⟩⟩ rfl rfl hl.1 rfl (lv_room (Nat.le_of_ble_eq_true rfl)) dL_law_1235 ⟨Nat.le_of_ble_eq_true rfl, Nat.le_of_ble_eq_true rfl⟩) hS (fun q h1 h2 => absurd h1 (Nat.not_lt.mpr h2)) (fun q h => hA q (Nat.le_trans hS.1 h)) (fun r9 u t H1 locs ht hvm hw hB hz1 hk1 hS => ?_)
  have hP := va_kept0 hP hk1
  generalize H1 = H at hP hS ⊢
  have hP : va_P D vwCl [(x, .inr (12, [.ref (rx 0), .ref (rx 1), .ref (rx 2), .ref (rx 3), .int 0, .int 0, .int 1, .int 110, .int 0, .int 115, .int 0, .int 0, .int 0, .int 0])), (o, .inl (cO, 1, .inr (.inl fo))), (o2, .inl (cD, 1, .inr (.inr (.inr (.inl fd))))), (m7, .inr (13, um))] H := hP
  obtain rfl : r9 = 1 := hw
  refine lv_iload hx hb dL_law_1238 (lv_at hl 1 rfl) ?_
  refine lv_icmp_eq (tgt := 1245) hx hb dL_law_1240 (by decide) (fun _ => ?_) (fun c => by first | exact absurd (by decide) c | exact absurd c (by decide))
  refine lv_iload hx hb dL_law_1245 (lv_at hl 1 rfl) ?_
  refine lv_if_ne (tgt := 1262) hx hb dL_law_1247 (by decide) (fun _ => ?_) (fun c => by first | exact absurd (by decide) c | exact absurd c (by decide))
  refine lv_goto (tgt := 3904) hx hb dL_law_1262 (by decide) ?_
  refine W.widen (k := 200) (n := 12100) (Nat.le_of_ble_eq_true rfl) (Nat.le_of_ble_eq_true rfl) ?_
  exact kk H locs ls hS (lv_sub hl [2, 7] rfl)
set_option maxHeartbeats 4000000 in
set_option maxRecDepth 100000 in
theorem law_c14 (l : Launch) (hlT : l.stackTraces = false) {p : Program} {e : Env} {s : State} {m : MethodId} {below : List Frame} {meth : Method} {c : Code} {Q : State → Prop} {D : va_G} {A : Nat → Prop} {b : Nat} {xs : Nat → Int32} {x m7 o o2 : Nat} {rx rm : Nat → Nat} {cO cD : ClassId} {fo : Nat → Int64} {fd : Nat → UInt64} {H : Heap} {locs : List Loc} {ls : Array Slot} (hx : p.tables.exec = Jvm.exec) (hb : c.code = cL_law) (hml : c.maxLocals = 9) (hown : s.vm.findClass RL = some m.cls) (hts : ∀ w ∈ wsL_law, w.before #[Value.ref b] s = true) (hX : va_X b 7 xs s s.heap) (hbl : b < s.heap.size) (hbA : ¬ A b) (hA : ∀ q : Nat, s.heap.size ≤ q → A q) (hT : tf A s s.heap)
    (hK : va_K D vwCl [(cO, .long), (cD, .double)] s) (hP : va_P D vwCl [(x, .inr (12, [.ref (rx 0), .ref (rx 1), .ref (rx 2), .ref (rx 3), .int 0, .int 0, .int 1, .int 110, .int 0, .int 115, .int 0, .int 0, .int 0, .int 0])), (m7, .inr (13, [.ref (rm 0), .ref (rm 1), .ref (rm 2), .ref (rm 3), .ref (rm 4), .ref (rm 5), .ref (rm 6), .ref (rm 7), .ref (rm 8), .ref (rm 9), .ref (rm 10), .ref (rm 11), .ref (rm 12), .ref (rm 13), .ref (rm 14), .ref (rm 15), .int 0, .int 0, .int 1, .int 110, .int 0, .int 0, .int 0, .int 0, .int 0, .int 0, .int 0, .int 0, .int 0, .int 0, .int 0])), (o, .inl (cO, 1, .inr (.inl fo))), (o2, .inl (cD, 1, .inr (.inr (.inr (.inl fd)))))] H) (hD : va_D A [(x, .inr (12, [.ref (rx 0), .ref (rx 1), .ref (rx 2), .ref (rx 3), .int 0, .int 0, .int 1, .int 110, .int 0, .int 115, .int 0, .int 0, .int 0, .int 0])), (m7, .inr (13, [.ref (rm 0), .ref (rm 1), .ref (rm 2), .ref (rm 3), .ref (rm 4), .ref (rm 5), .ref (rm 6), .ref (rm 7), .ref (rm 8), .ref (rm 9), .ref (rm 10), .ref (rm 11), .ref (rm 12), .ref (rm 13), .ref (rm 14), .ref (rm 15), .int 0, .int 0, .int 1, .int 110, .int 0, .int 0, .int 0, .int 0, .int 0, .int 0, .int 0, .int 0, .int 0, .int 0, .int 0])), (o, .inl (cO, 1, .inr (.inl fo))), (o2, .inl (cD, 1, .inr (.inr (.inr (.inl fd)))))]) (hS : va_S A s.heap H locs) (hl : lv_has ls 9 [(0, .ref b), (1, .ref x), (2, .ref m7), (3, .ref o), (4, .ref o2), (5, .int 0)])
    (kk : ∀ (H : Heap) (locs : List Loc) (ls : Array Slot), va_S A s.heap H locs → lv_has ls 9 [(0, .ref b), (5, .int 0)] → W p l e room_1 s m #[Value.ref b] below meth c H locs 200 12100 Q (F0 m 3904 ls [])) :
    W p l e room_1 s m #[Value.ref b] below meth c H locs 140 11923 Q (F0 m 1265 ls []) := by
  obtain ⟨a1, ea1⟩ : ∃ z, z = xs (1 : Int32).toNatClampNeg := ⟨_, rfl⟩
  obtain ⟨a2, ea2⟩ : ∃ z, z = xs (2 : Int32).toNatClampNeg := ⟨_, rfl⟩
  obtain ⟨a3, ea3⟩ : ∃ z, z = xs (3 : Int32).toNatClampNeg := ⟨_, rfl⟩
  obtain ⟨a4, ea4⟩ : ∃ z, z = xs (4 : Int32).toNatClampNeg := ⟨_, rfl⟩
  obtain ⟨a5, ea5⟩ : ∃ z, z = xs (5 : Int32).toNatClampNeg := ⟨_, rfl⟩
  obtain ⟨a6, ea6⟩ : ∃ z, z = xs (6 : Int32).toNatClampNeg := ⟨_, rfl⟩
  refine lv_aload_n hx hb dL_law_1265 rfl (lv_at hl 1 rfl) ?_
  refine lv_aload_n hx hb dL_law_1266 rfl (lv_at hl 0 rfl) ?_
  refine lv_iload hx hb dL_law_1267 (lv_at hl 5 rfl) ?_
  refine lv_iconst (v := 1) hx hb dL_law_1269 (by decide) ?_
  refine lv_iadd hx hb dL_law_1270 ?_
  refine lv_topi (fun y1 ey1 => ?_)
  obtain rfl : y1 = 1 := ey1.trans (by decide)
  refine va_sld hx hb hX hbl hbA hS (vp_in_nI (n := 1) (by decide) (by decide)) dL_law_1271 ?_
  rw [← ea1]
  refine lv_aload_n hx hb dL_law_1272 rfl (lv_at hl 3 rfl) ?_
  have hPc := hP.sub (ws' := [(x, .inr (12, [.ref (rx 0), .ref (rx 1), .ref (rx 2), .ref (rx 3), .int 0, .int 0, .int 1, .int 110, .int 0, .int 115, .int 0, .int 0, .int 0, .int 0]))]) [0] rfl
  have hDc := hD.sub (ws' := [(x, .inr (12, [.ref (rx 0), .ref (rx 1), .ref (rx 2), .ref (rx 3), .int 0, .int 0, .int 1, .int 110, .int 0, .int 115, .int 0, .int 0, .int 0, .int 0]))]) [0] (by decide) rfl
  have hKc := hK.sub (tys' := []) [] rfl
  have hFc := va_free (wc := [(x, .inr (12, [.ref (rx 0), .ref (rx 1), .ref (rx 2), .ref (rx 3), .int 0, .int 0, .int 1, .int 110, .int 0, .int 115, .int 0, .int 0, .int 0, .int 0]))]) hD hS hA [0] rfl
  refine va_calli (vx_runSW (As := [.ref x, .int a1, .ref o]) (rest := []) ⟨hx, hb, hml, hown, hts⟩ (c_L_search l hlT D x rx o H.size a1) (vx_cwSW 3 hts gL_law_L_search rfl rfl rfl (by decide +kernel) ⟨Nat.le_of_ble_eq_true rfl, Nat.le_of_ble_eq_true rfl⟩) ⟨fun a U g mk q => ⟨q.1, PX6.blind q.2⟩, fun U hU hW => ⟨rfl, PX6.go hPc hKc hT hS hA hU hW⟩⟩ rfl rfl hl.1 rfl (lv_room (Nat.le_of_ble_eq_true rfl)) dL_law_1273 ⟨Nat.le_of_ble_eq_true rfl, Nat.le_of_ble_eq_true rfl⟩) hS (fun q h1 h2 => absurd h1 (Nat.not_lt.mpr h2)) (fun q h => hA q (Nat.le_trans hS.1 h)) (fun r2 u t H1 locs ht hvm hw hB hz1 hk1 hS => ?_)
  have hP := va_kept0 hP hk1
  generalize H1 = H at hP hS ⊢
  have hP : va_P D vwCl [(x, .inr (12, [.ref (rx 0), .ref (rx 1), .ref (rx 2), .ref (rx 3), .int 0, .int 0, .int 1, .int 110, .int 0, .int 115, .int 0, .int 0, .int 0, .int 0])), (m7, .inr (13, [.ref (rm 0), .ref (rm 1), .ref (rm 2), .ref (rm 3), .ref (rm 4), .ref (rm 5), .ref (rm 6), .ref (rm 7), .ref (rm 8), .ref (rm 9), .ref (rm 10), .ref (rm 11), .ref (rm 12), .ref (rm 13), .ref (rm 14), .ref (rm 15), .int 0, .int 0, .int 1, .int 110, .int 0, .int 0, .int 0, .int 0, .int 0, .int 0, .int 0, .int 0, .int 0, .int 0, .int 0])), (o, .inl (cO, 1, .inr (.inl fo))), (o2, .inl (cD, 1, .inr (.inr (.inr (.inl fd)))))] H := hP
  have hD := hD
  refine W.widen (k := 141) (n := 11929) (Nat.le_of_ble_eq_true rfl) (Nat.le_of_ble_eq_true rfl) ?_
  obtain rfl : r2 = 1 := hw
  refine lv_istore (lv' := [(6, .int 1), (0, .ref b), (1, .ref x), (2, .ref m7), (3, .ref o), (4, .ref o2), (5, .int 0)]) hx hb dL_law_1276 hl (by decide) rfl (fun ls hl => ?_)
  refine lv_aload_n hx hb dL_law_1278 rfl (lv_at hl 3 rfl) ?_
  refine lv_aload_n hx hb dL_law_1279 rfl (lv_at hl 1 rfl) ?_
  refine lv_iload hx hb dL_law_1280 (lv_at hl 6 rfl) ?_
  refine lv_iconst (v := 1) hx hb dL_law_1282 (by decide) ?_
  refine lv_iadd hx hb dL_law_1283 ?_
  refine lv_topi (fun y3 ey3 => ?_)
  obtain rfl : y3 = 1 := ey3.trans (by decide)
  refine va_sld hx hb hX hbl hbA hS (vp_in_nI (n := 1) (by decide) (by decide)) dL_law_1284 ?_
  rw [← ea1]
  have hPc := hP.sub (ws' := [(m7, .inr (13, [.ref (rm 0), .ref (rm 1), .ref (rm 2), .ref (rm 3), .ref (rm 4), .ref (rm 5), .ref (rm 6), .ref (rm 7), .ref (rm 8), .ref (rm 9), .ref (rm 10), .ref (rm 11), .ref (rm 12), .ref (rm 13), .ref (rm 14), .ref (rm 15), .int 0, .int 0, .int 1, .int 110, .int 0, .int 0, .int 0, .int 0, .int 0, .int 0, .int 0, .int 0, .int 0, .int 0, .int 0]))]) [1] rfl
  have hDc := hD.sub (ws' := [(m7, .inr (13, [.ref (rm 0), .ref (rm 1), .ref (rm 2), .ref (rm 3), .ref (rm 4), .ref (rm 5), .ref (rm 6), .ref (rm 7), .ref (rm 8), .ref (rm 9), .ref (rm 10), .ref (rm 11), .ref (rm 12), .ref (rm 13), .ref (rm 14), .ref (rm 15), .int 0, .int 0, .int 1, .int 110, .int 0, .int 0, .int 0, .int 0, .int 0, .int 0, .int 0, .int 0, .int 0, .int 0, .int 0]))]) [1] (by decide) rfl
  have hKc := hK.sub (tys' := []) [] rfl
  have hFc := va_free (wc := [(m7, .inr (13, [.ref (rm 0), .ref (rm 1), .ref (rm 2), .ref (rm 3), .ref (rm 4), .ref (rm 5), .ref (rm 6), .ref (rm 7), .ref (rm 8), .ref (rm 9), .ref (rm 10), .ref (rm 11), .ref (rm 12), .ref (rm 13), .ref (rm 14), .ref (rm 15), .int 0, .int 0, .int 1, .int 110, .int 0, .int 0, .int 0, .int 0, .int 0, .int 0, .int 0, .int 0, .int 0, .int 0, .int 0]))]) hD hS hA [1] rfl
  have hFr : ∀ q : Nat, rg1 m7 H.size q → A q := fun q h => hFc q (va_Arg1 q h)
  refine va_calli (va_runV (As := [.int a1]) (rest := []) ⟨hx, hb, hml, hown, hts⟩ (c_X7_search l D m7 rm H.size a1) (cwV 1 hts gL_law_X7_search rfl rfl rfl (by decide +kernel) ⟨Nat.le_of_ble_eq_true rfl, Nat.le_of_ble_eq_true rfl⟩) ⟨fun a U g mk q => ⟨q.1, PX7.blind q.2⟩, va_recv hK hP (ci := 13) (q0 := 1) rfl rfl, fun U hU hW => ⟨rfl, PX7.go hPc hKc hU hW⟩⟩ rfl rfl hl.1 rfl (lv_room (Nat.le_of_ble_eq_true rfl)) dL_law_1285 ⟨Nat.le_of_ble_eq_true rfl, Nat.le_of_ble_eq_true rfl⟩) hS (fun q _ h => hFr q h) hFr (fun r4 u t H1 locs ht hvm hw hB hz1 hk1 hS => ?_)
  obtain ⟨um, eum⟩ : ∃ z, z = u := ⟨_, rfl⟩
  rw [← eum] at hB hw
  rw [ht] at hB
  have hP1 := hB
  have hD1 : va_D (va_A [(m7, .inr (13, [.ref (rm 0), .ref (rm 1), .ref (rm 2), .ref (rm 3), .ref (rm 4), .ref (rm 5), .ref (rm 6), .ref (rm 7), .ref (rm 8), .ref (rm 9), .ref (rm 10), .ref (rm 11), .ref (rm 12), .ref (rm 13), .ref (rm 14), .ref (rm 15), .int 0, .int 0, .int 1, .int 110, .int 0, .int 0, .int 0, .int 0, .int 0, .int 0, .int 0, .int 0, .int 0, .int 0, .int 0]))] H.size) [(m7, .inr (13, um))] := va_D1 (Or.inl ⟨0, _, rfl⟩)
  have hk1 : ∀ q : Nat, q < H.size → ¬ va_A [(m7, .inr (13, [.ref (rm 0), .ref (rm 1), .ref (rm 2), .ref (rm 3), .ref (rm 4), .ref (rm 5), .ref (rm 6), .ref (rm 7), .ref (rm 8), .ref (rm 9), .ref (rm 10), .ref (rm 11), .ref (rm 12), .ref (rm 13), .ref (rm 14), .ref (rm 15), .int 0, .int 0, .int 1, .int 110, .int 0, .int 0, .int 0, .int 0, .int 0, .int 0, .int 0, .int 0, .int 0, .int 0, .int 0]))] H.size q → H1[q]? = H[q]? := fun q h1 h2 => hk1 q h1 (fun h3 => h2 (va_Arg1 q h3))
  obtain ⟨hP, hD⟩ := va_join (wr := [(x, .inr (12, [.ref (rx 0), .ref (rx 1), .ref (rx 2), .ref (rx 3), .int 0, .int 0, .int 1, .int 110, .int 0, .int 115, .int 0, .int 0, .int 0, .int 0])), (o, .inl (cO, 1, .inr (.inl fo))), (o2, .inl (cD, 1, .inr (.inr (.inr (.inl fd)))))]) (w1 := [(m7, .inr (13, um))]) hP hD [1] [0, 2, 3] rfl rfl (by decide) (by decide) hk1 hFc hP1 hD1
  generalize H1 = H at hP hS ⊢
  have hP : va_P D vwCl [(x, .inr (12, [.ref (rx 0), .ref (rx 1), .ref (rx 2), .ref (rx 3), .int 0, .int 0, .int 1, .int 110, .int 0, .int 115, .int 0, .int 0, .int 0, .int 0])), (o, .inl (cO, 1, .inr (.inl fo))), (o2, .inl (cD, 1, .inr (.inr (.inr (.inl fd))))), (m7, .inr (13, um))] H := hP
  have hD : va_D A [(x, .inr (12, [.ref (rx 0), .ref (rx 1), .ref (rx 2), .ref (rx 3), .int 0, .int 0, .int 1, .int 110, .int 0, .int 115, .int 0, .int 0, .int 0, .int 0])), (o, .inl (cO, 1, .inr (.inl fo))), (o2, .inl (cD, 1, .inr (.inr (.inr (.inl fd))))), (m7, .inr (13, um))] := hD
  refine W.widen (k := 141) (n := 11929) (Nat.le_of_ble_eq_true rfl) (Nat.le_of_ble_eq_true rfl) ?_
  have hu30 := hw
  refine lv_istore (lv' := [(7, .int r4), (6, .int 1), (0, .ref b), (1, .ref x), (2, .ref m7), (3, .ref o), (4, .ref o2), (5, .int 0)]) hx hb dL_law_1288 hl (by decide) rfl (fun ls hl => ?_)
  refine lv_aload_n hx hb dL_law_1290 rfl (lv_at hl 4 rfl) ?_
  have hPc := hP.sub (ws' := [(m7, .inr (13, um))]) [3] rfl
  have hKc := hK.sub (tys' := []) [] rfl
  refine va_calli (va_runV (As := []) (rest := []) ⟨hx, hb, hml, hown, hts⟩ (c_X7_thrown l D m7 um 1 hu30 H.size) (cwV 0 hts gL_law_X7_thrown rfl rfl rfl (by decide +kernel) ⟨Nat.le_of_ble_eq_true rfl, Nat.le_of_ble_eq_true rfl⟩) ⟨fun a U g mk q => ⟨q.1, q.2.1, q.2.2.1, va_K.moved (u := U) (U := U.calling g mk a) (Vm.Alike.refl U.vm) q.2.2.2⟩, va_recv hK hP (ci := 13) (q0 := 3) rfl rfl, fun U hU hW => ⟨rfl, congrArg Array.size hU, by rw [hU]; exact hPc, va_K.moved hW.alike hKc⟩⟩ rfl rfl hl.1 rfl (lv_room (Nat.le_of_ble_eq_true rfl)) dL_law_1291 ⟨Nat.le_of_ble_eq_true rfl, Nat.le_of_ble_eq_true rfl⟩) hS (fun q h1 h2 => absurd h1 (Nat.not_lt.mpr h2)) (fun q h => hA q (Nat.le_trans hS.1 h)) (fun r5 u t H1 locs ht hvm hw hB hz1 hk1 hS => ?_)
  have hP := va_kept0 hP hk1
  generalize H1 = H at hP hS ⊢
  have hP : va_P D vwCl [(x, .inr (12, [.ref (rx 0), .ref (rx 1), .ref (rx 2), .ref (rx 3), .int 0, .int 0, .int 1, .int 110, .int 0, .int 115, .int 0, .int 0, .int 0, .int 0])), (o, .inl (cO, 1, .inr (.inl fo))), (o2, .inl (cD, 1, .inr (.inr (.inr (.inl fd))))), (m7, .inr (13, um))] H := hP
  obtain rfl : r5 = 1 := hw
  refine lv_iload hx hb dL_law_1294 (lv_at hl 1 rfl) ?_
  refine lv_icmp_eq (tgt := 1301) hx hb dL_law_1296 (by decide) (fun _ => ?_) (fun c => by first | exact absurd (by decide) c | exact absurd c (by decide))
  refine lv_iload hx hb dL_law_1301 (lv_at hl 1 rfl) ?_
  refine lv_if_ne (tgt := 1318) hx hb dL_law_1303 (by decide) (fun _ => ?_) (fun c => by first | exact absurd (by decide) c | exact absurd c (by decide))
  refine lv_goto (tgt := 3904) hx hb dL_law_1318 (by decide) ?_
  refine W.widen (k := 200) (n := 12100) (Nat.le_of_ble_eq_true rfl) (Nat.le_of_ble_eq_true rfl) ?_
  exact kk H locs ls hS (lv_sub hl [2, 7] rfl)
set_option maxHeartbeats 4000000 in
set_option maxRecDepth 100000 in
theorem law_c15 (l : Launch) (hlT : l.stackTraces = false) {p : Program} {e : Env} {s : State} {m : MethodId} {below : List Frame} {meth : Method} {c : Code} {Q : State → Prop} {D : va_G} {A : Nat → Prop} {b : Nat} {xs : Nat → Int32} {x m7 o o2 : Nat} {rx rm : Nat → Nat} {cO cD : ClassId} {fo : Nat → Int64} {fd : Nat → UInt64} {H : Heap} {locs : List Loc} {ls : Array Slot} (hx : p.tables.exec = Jvm.exec) (hb : c.code = cL_law) (hml : c.maxLocals = 9) (hown : s.vm.findClass RL = some m.cls) (hts : ∀ w ∈ wsL_law, w.before #[Value.ref b] s = true) (hX : va_X b 7 xs s s.heap) (hbl : b < s.heap.size) (hbA : ¬ A b) (hA : ∀ q : Nat, s.heap.size ≤ q → A q) (hT : tf A s s.heap)
    (hK : va_K D vwCl [(cO, .long), (cD, .double)] s) (hP : va_P D vwCl [(x, .inr (12, [.ref (rx 0), .ref (rx 1), .ref (rx 2), .ref (rx 3), .int 0, .int 0, .int 1, .int 110, .int 0, .int 115, .int 0, .int 0, .int 0, .int 0])), (m7, .inr (13, [.ref (rm 0), .ref (rm 1), .ref (rm 2), .ref (rm 3), .ref (rm 4), .ref (rm 5), .ref (rm 6), .ref (rm 7), .ref (rm 8), .ref (rm 9), .ref (rm 10), .ref (rm 11), .ref (rm 12), .ref (rm 13), .ref (rm 14), .ref (rm 15), .int 0, .int 0, .int 1, .int 110, .int 0, .int 0, .int 0, .int 0, .int 0, .int 0, .int 0, .int 0, .int 0, .int 0, .int 0])), (o, .inl (cO, 1, .inr (.inl fo))), (o2, .inl (cD, 1, .inr (.inr (.inr (.inl fd)))))] H) (hD : va_D A [(x, .inr (12, [.ref (rx 0), .ref (rx 1), .ref (rx 2), .ref (rx 3), .int 0, .int 0, .int 1, .int 110, .int 0, .int 115, .int 0, .int 0, .int 0, .int 0])), (m7, .inr (13, [.ref (rm 0), .ref (rm 1), .ref (rm 2), .ref (rm 3), .ref (rm 4), .ref (rm 5), .ref (rm 6), .ref (rm 7), .ref (rm 8), .ref (rm 9), .ref (rm 10), .ref (rm 11), .ref (rm 12), .ref (rm 13), .ref (rm 14), .ref (rm 15), .int 0, .int 0, .int 1, .int 110, .int 0, .int 0, .int 0, .int 0, .int 0, .int 0, .int 0, .int 0, .int 0, .int 0, .int 0])), (o, .inl (cO, 1, .inr (.inl fo))), (o2, .inl (cD, 1, .inr (.inr (.inr (.inl fd)))))]) (hS : va_S A s.heap H locs) (hl : lv_has ls 9 [(0, .ref b), (1, .ref x), (2, .ref m7), (3, .ref o), (4, .ref o2), (5, .int 0)])
    (kk : ∀ (H : Heap) (locs : List Loc) (ls : Array Slot), va_S A s.heap H locs → lv_has ls 9 [(0, .ref b), (5, .int 0)] → W p l e room_1 s m #[Value.ref b] below meth c H locs 200 12100 Q (F0 m 3904 ls [])) :
    W p l e room_1 s m #[Value.ref b] below meth c H locs 140 11923 Q (F0 m 1321 ls []) := by
  obtain ⟨a1, ea1⟩ : ∃ z, z = xs (1 : Int32).toNatClampNeg := ⟨_, rfl⟩
  obtain ⟨a2, ea2⟩ : ∃ z, z = xs (2 : Int32).toNatClampNeg := ⟨_, rfl⟩
  obtain ⟨a3, ea3⟩ : ∃ z, z = xs (3 : Int32).toNatClampNeg := ⟨_, rfl⟩
  obtain ⟨a4, ea4⟩ : ∃ z, z = xs (4 : Int32).toNatClampNeg := ⟨_, rfl⟩
  obtain ⟨a5, ea5⟩ : ∃ z, z = xs (5 : Int32).toNatClampNeg := ⟨_, rfl⟩
  obtain ⟨a6, ea6⟩ : ∃ z, z = xs (6 : Int32).toNatClampNeg := ⟨_, rfl⟩
  refine lv_aload_n hx hb dL_law_1321 rfl (lv_at hl 1 rfl) ?_
  refine lv_aload_n hx hb dL_law_1322 rfl (lv_at hl 0 rfl) ?_
  refine lv_iload hx hb dL_law_1323 (lv_at hl 5 rfl) ?_
  refine lv_iconst (v := 1) hx hb dL_law_1325 (by decide) ?_
  refine lv_iadd hx hb dL_law_1326 ?_
  refine lv_topi (fun y1 ey1 => ?_)
  obtain rfl : y1 = 1 := ey1.trans (by decide)
  refine va_sld hx hb hX hbl hbA hS (vp_in_nI (n := 1) (by decide) (by decide)) dL_law_1327 ?_
  rw [← ea1]
  refine lv_aload_n hx hb dL_law_1328 rfl (lv_at hl 3 rfl) ?_
  have hPc := hP.sub (ws' := [(x, .inr (12, [.ref (rx 0), .ref (rx 1), .ref (rx 2), .ref (rx 3), .int 0, .int 0, .int 1, .int 110, .int 0, .int 115, .int 0, .int 0, .int 0, .int 0]))]) [0] rfl
  have hDc := hD.sub (ws' := [(x, .inr (12, [.ref (rx 0), .ref (rx 1), .ref (rx 2), .ref (rx 3), .int 0, .int 0, .int 1, .int 110, .int 0, .int 115, .int 0, .int 0, .int 0, .int 0]))]) [0] (by decide) rfl
  have hKc := hK.sub (tys' := []) [] rfl
  have hFc := va_free (wc := [(x, .inr (12, [.ref (rx 0), .ref (rx 1), .ref (rx 2), .ref (rx 3), .int 0, .int 0, .int 1, .int 110, .int 0, .int 115, .int 0, .int 0, .int 0, .int 0]))]) hD hS hA [0] rfl
  refine va_calli (vx_runSW (As := [.ref x, .int a1, .ref o]) (rest := []) ⟨hx, hb, hml, hown, hts⟩ (c_L_again l hlT D x rx o H.size a1) (vx_cwSW 3 hts gL_law_L_again rfl rfl rfl (by decide +kernel) ⟨Nat.le_of_ble_eq_true rfl, Nat.le_of_ble_eq_true rfl⟩) ⟨fun a U g mk q => ⟨q.1, PX6.blind q.2⟩, fun U hU hW => ⟨rfl, PX6.go hPc hKc hT hS hA hU hW⟩⟩ rfl rfl hl.1 rfl (lv_room (Nat.le_of_ble_eq_true rfl)) dL_law_1329 ⟨Nat.le_of_ble_eq_true rfl, Nat.le_of_ble_eq_true rfl⟩) hS (fun q h1 h2 => absurd h1 (Nat.not_lt.mpr h2)) (fun q h => hA q (Nat.le_trans hS.1 h)) (fun r2 u t H1 locs ht hvm hw hB hz1 hk1 hS => ?_)
  have hP := va_kept0 hP hk1
  generalize H1 = H at hP hS ⊢
  have hP : va_P D vwCl [(x, .inr (12, [.ref (rx 0), .ref (rx 1), .ref (rx 2), .ref (rx 3), .int 0, .int 0, .int 1, .int 110, .int 0, .int 115, .int 0, .int 0, .int 0, .int 0])), (m7, .inr (13, [.ref (rm 0), .ref (rm 1), .ref (rm 2), .ref (rm 3), .ref (rm 4), .ref (rm 5), .ref (rm 6), .ref (rm 7), .ref (rm 8), .ref (rm 9), .ref (rm 10), .ref (rm 11), .ref (rm 12), .ref (rm 13), .ref (rm 14), .ref (rm 15), .int 0, .int 0, .int 1, .int 110, .int 0, .int 0, .int 0, .int 0, .int 0, .int 0, .int 0, .int 0, .int 0, .int 0, .int 0])), (o, .inl (cO, 1, .inr (.inl fo))), (o2, .inl (cD, 1, .inr (.inr (.inr (.inl fd)))))] H := hP
  have hD := hD
  refine W.widen (k := 141) (n := 11929) (Nat.le_of_ble_eq_true rfl) (Nat.le_of_ble_eq_true rfl) ?_
  obtain rfl : r2 = 1 := hw
  refine lv_istore (lv' := [(6, .int 1), (0, .ref b), (1, .ref x), (2, .ref m7), (3, .ref o), (4, .ref o2), (5, .int 0)]) hx hb dL_law_1332 hl (by decide) rfl (fun ls hl => ?_)
  refine lv_aload_n hx hb dL_law_1334 rfl (lv_at hl 3 rfl) ?_
  refine lv_aload_n hx hb dL_law_1335 rfl (lv_at hl 1 rfl) ?_
  refine lv_iload hx hb dL_law_1336 (lv_at hl 6 rfl) ?_
  refine lv_iconst (v := 1) hx hb dL_law_1338 (by decide) ?_
  refine lv_iadd hx hb dL_law_1339 ?_
  refine lv_topi (fun y3 ey3 => ?_)
  obtain rfl : y3 = 1 := ey3.trans (by decide)
  refine va_sld hx hb hX hbl hbA hS (vp_in_nI (n := 1) (by decide) (by decide)) dL_law_1340 ?_
  rw [← ea1]
  have hPc := hP.sub (ws' := [(m7, .inr (13, [.ref (rm 0), .ref (rm 1), .ref (rm 2), .ref (rm 3), .ref (rm 4), .ref (rm 5), .ref (rm 6), .ref (rm 7), .ref (rm 8), .ref (rm 9), .ref (rm 10), .ref (rm 11), .ref (rm 12), .ref (rm 13), .ref (rm 14), .ref (rm 15), .int 0, .int 0, .int 1, .int 110, .int 0, .int 0, .int 0, .int 0, .int 0, .int 0, .int 0, .int 0, .int 0, .int 0, .int 0]))]) [1] rfl
  have hDc := hD.sub (ws' := [(m7, .inr (13, [.ref (rm 0), .ref (rm 1), .ref (rm 2), .ref (rm 3), .ref (rm 4), .ref (rm 5), .ref (rm 6), .ref (rm 7), .ref (rm 8), .ref (rm 9), .ref (rm 10), .ref (rm 11), .ref (rm 12), .ref (rm 13), .ref (rm 14), .ref (rm 15), .int 0, .int 0, .int 1, .int 110, .int 0, .int 0, .int 0, .int 0, .int 0, .int 0, .int 0, .int 0, .int 0, .int 0, .int 0]))]) [1] (by decide) rfl
  have hKc := hK.sub (tys' := []) [] rfl
  have hFc := va_free (wc := [(m7, .inr (13, [.ref (rm 0), .ref (rm 1), .ref (rm 2), .ref (rm 3), .ref (rm 4), .ref (rm 5), .ref (rm 6), .ref (rm 7), .ref (rm 8), .ref (rm 9), .ref (rm 10), .ref (rm 11), .ref (rm 12), .ref (rm 13), .ref (rm 14), .ref (rm 15), .int 0, .int 0, .int 1, .int 110, .int 0, .int 0, .int 0, .int 0, .int 0, .int 0, .int 0, .int 0, .int 0, .int 0, .int 0]))]) hD hS hA [1] rfl
  have hFr : ∀ q : Nat, rg1 m7 H.size q → A q := fun q h => hFc q (va_Arg1 q h)
  refine va_calli (va_runV (As := [.int a1]) (rest := []) ⟨hx, hb, hml, hown, hts⟩ (c_X7_again l D m7 rm H.size a1) (cwV 1 hts gL_law_X7_again rfl rfl rfl (by decide +kernel) ⟨Nat.le_of_ble_eq_true rfl, Nat.le_of_ble_eq_true rfl⟩) ⟨fun a U g mk q => ⟨q.1, PX7.blind q.2⟩, va_recv hK hP (ci := 13) (q0 := 1) rfl rfl, fun U hU hW => ⟨rfl, PX7.go hPc hKc hU hW⟩⟩ rfl rfl hl.1 rfl (lv_room (Nat.le_of_ble_eq_true rfl)) dL_law_1341 ⟨Nat.le_of_ble_eq_true rfl, Nat.le_of_ble_eq_true rfl⟩) hS (fun q _ h => hFr q h) hFr (fun r4 u t H1 locs ht hvm hw hB hz1 hk1 hS => ?_)
  obtain ⟨um, eum⟩ : ∃ z, z = u := ⟨_, rfl⟩
  rw [← eum] at hB hw
  rw [ht] at hB
  have hP1 := hB
  have hD1 : va_D (va_A [(m7, .inr (13, [.ref (rm 0), .ref (rm 1), .ref (rm 2), .ref (rm 3), .ref (rm 4), .ref (rm 5), .ref (rm 6), .ref (rm 7), .ref (rm 8), .ref (rm 9), .ref (rm 10), .ref (rm 11), .ref (rm 12), .ref (rm 13), .ref (rm 14), .ref (rm 15), .int 0, .int 0, .int 1, .int 110, .int 0, .int 0, .int 0, .int 0, .int 0, .int 0, .int 0, .int 0, .int 0, .int 0, .int 0]))] H.size) [(m7, .inr (13, um))] := va_D1 (Or.inl ⟨0, _, rfl⟩)
  have hk1 : ∀ q : Nat, q < H.size → ¬ va_A [(m7, .inr (13, [.ref (rm 0), .ref (rm 1), .ref (rm 2), .ref (rm 3), .ref (rm 4), .ref (rm 5), .ref (rm 6), .ref (rm 7), .ref (rm 8), .ref (rm 9), .ref (rm 10), .ref (rm 11), .ref (rm 12), .ref (rm 13), .ref (rm 14), .ref (rm 15), .int 0, .int 0, .int 1, .int 110, .int 0, .int 0, .int 0, .int 0, .int 0, .int 0, .int 0, .int 0, .int 0, .int 0, .int 0]))] H.size q → H1[q]? = H[q]? := fun q h1 h2 => hk1 q h1 (fun h3 => h2 (va_Arg1 q h3))
  obtain ⟨hP, hD⟩ := va_join (wr := [(x, .inr (12, [.ref (rx 0), .ref (rx 1), .ref (rx 2), .ref (rx 3), .int 0, .int 0, .int 1, .int 110, .int 0, .int 115, .int 0, .int 0, .int 0, .int 0])), (o, .inl (cO, 1, .inr (.inl fo))), (o2, .inl (cD, 1, .inr (.inr (.inr (.inl fd)))))]) (w1 := [(m7, .inr (13, um))]) hP hD [1] [0, 2, 3] rfl rfl (by decide) (by decide) hk1 hFc hP1 hD1
  generalize H1 = H at hP hS ⊢
  have hP : va_P D vwCl [(x, .inr (12, [.ref (rx 0), .ref (rx 1), .ref (rx 2), .ref (rx 3), .int 0, .int 0, .int 1, .int 110, .int 0, .int 115, .int 0, .int 0, .int 0, .int 0])), (o, .inl (cO, 1, .inr (.inl fo))), (o2, .inl (cD, 1, .inr (.inr (.inr (.inl fd))))), (m7, .inr (13, um))] H := hP
  have hD : va_D A [(x, .inr (12, [.ref (rx 0), .ref (rx 1), .ref (rx 2), .ref (rx 3), .int 0, .int 0, .int 1, .int 110, .int 0, .int 115, .int 0, .int 0, .int 0, .int 0])), (o, .inl (cO, 1, .inr (.inl fo))), (o2, .inl (cD, 1, .inr (.inr (.inr (.inl fd))))), (m7, .inr (13, um))] := hD
  refine W.widen (k := 141) (n := 11929) (Nat.le_of_ble_eq_true rfl) (Nat.le_of_ble_eq_true rfl) ?_
  have hu30 := hw
  refine lv_istore (lv' := [(7, .int r4), (6, .int 1), (0, .ref b), (1, .ref x), (2, .ref m7), (3, .ref o), (4, .ref o2), (5, .int 0)]) hx hb dL_law_1344 hl (by decide) rfl (fun ls hl => ?_)
  refine lv_aload_n hx hb dL_law_1346 rfl (lv_at hl 4 rfl) ?_
  have hPc := hP.sub (ws' := [(m7, .inr (13, um))]) [3] rfl
  have hKc := hK.sub (tys' := []) [] rfl
  refine va_calli (va_runV (As := []) (rest := []) ⟨hx, hb, hml, hown, hts⟩ (c_X7_thrown l D m7 um 1 hu30 H.size) (cwV 0 hts gL_law_X7_thrown rfl rfl rfl (by decide +kernel) ⟨Nat.le_of_ble_eq_true rfl, Nat.le_of_ble_eq_true rfl⟩) ⟨fun a U g mk q => ⟨q.1, q.2.1, q.2.2.1, va_K.moved (u := U) (U := U.calling g mk a) (Vm.Alike.refl U.vm) q.2.2.2⟩, va_recv hK hP (ci := 13) (q0 := 3) rfl rfl, fun U hU hW => ⟨rfl, congrArg Array.size hU, by rw [hU]; exact hPc, va_K.moved hW.alike hKc⟩⟩ rfl rfl hl.1 rfl (lv_room (Nat.le_of_ble_eq_true rfl)) dL_law_1347 ⟨Nat.le_of_ble_eq_true rfl, Nat.le_of_ble_eq_true rfl⟩) hS (fun q h1 h2 => absurd h1 (Nat.not_lt.mpr h2)) (fun q h => hA q (Nat.le_trans hS.1 h)) (fun r5 u t H1 locs ht hvm hw hB hz1 hk1 hS => ?_)
  have hP := va_kept0 hP hk1
  generalize H1 = H at hP hS ⊢
  have hP : va_P D vwCl [(x, .inr (12, [.ref (rx 0), .ref (rx 1), .ref (rx 2), .ref (rx 3), .int 0, .int 0, .int 1, .int 110, .int 0, .int 115, .int 0, .int 0, .int 0, .int 0])), (o, .inl (cO, 1, .inr (.inl fo))), (o2, .inl (cD, 1, .inr (.inr (.inr (.inl fd))))), (m7, .inr (13, um))] H := hP
  obtain rfl : r5 = 1 := hw
  refine lv_iload hx hb dL_law_1350 (lv_at hl 1 rfl) ?_
  refine lv_icmp_eq (tgt := 1357) hx hb dL_law_1352 (by decide) (fun _ => ?_) (fun c => by first | exact absurd (by decide) c | exact absurd c (by decide))
  refine lv_iload hx hb dL_law_1357 (lv_at hl 1 rfl) ?_
  refine lv_if_ne (tgt := 1374) hx hb dL_law_1359 (by decide) (fun _ => ?_) (fun c => by first | exact absurd (by decide) c | exact absurd c (by decide))
  refine lv_goto (tgt := 3904) hx hb dL_law_1374 (by decide) ?_
  refine W.widen (k := 200) (n := 12100) (Nat.le_of_ble_eq_true rfl) (Nat.le_of_ble_eq_true rfl) ?_
  exact kk H locs ls hS (lv_sub hl [2, 7] rfl)
