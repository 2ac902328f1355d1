set_option maxRecDepth 20000 in
theorem gL_law_X8_undoCount : GoodIn wsL_law (wsV RL 206 RX8 yX8_undoCount wsX8_undoCount) := goodIn_app (goodIn_of _ (by decide +kernel)) ggL_law_X8_undoCount
set_option maxRecDepth 20000 in
theorem ggL_law_X7_saveSnapshot : GoodIn wsL_law wsX7_saveSnapshot := goodIn_r _ [856, 24, 19, 25, 550, 374, 375, 376, 18, 377, 50, 45, 49, 378, 379, 380, 33, 381, 321, 267, 280, 287, 298, 281, 293, 303, 288, 322, 382, 383, 384, 48, 385, 55, 386, 387, 388, 389, 56, 57, 58, 59, 1508, 1509, 1510, 1511, 1512, 1513, 1514, 1515, 1516, 1517, 1518, 1548, 1549, 1550, 1556, 1557, 1558, 1559, 1560, 1561, 1562, 1563, 1564, 1565, 1580, 1581, 1582, 1583, 1584] (by decide +kernel) (by decide +kernel)
set_option maxRecDepth 20000 in
theorem gL_law_X7_saveSnapshot : GoodIn wsL_law (wsV RL 207 RX7 yX7_saveSnapshot wsX7_saveSnapshot) := goodIn_app (goodIn_of _ (by decide +kernel)) ggL_law_X7_saveSnapshot
set_option maxRecDepth 20000 in
theorem ggL_law_X8_saveSnapshot : GoodIn wsL_law wsX8_saveSnapshot := goodIn_r _ [860, 505, 394, 397, 861, 568, 569, 5, 570, 1519, 1520, 1521, 1522, 1523, 1524, 1525, 1526, 1527, 1528, 1529, 1530, 1531, 1532, 1533, 1534, 1535, 1536, 1537, 1538, 1539, 1540, 1541, 1542, 1543, 1544, 1545, 1546, 1547] (by decide +kernel) (by decide +kernel)
set_option maxRecDepth 20000 in
theorem gL_law_X8_saveSnapshot : GoodIn wsL_law (wsV RL 210 RX8 yX8_saveSnapshot wsX8_saveSnapshot) := goodIn_app (goodIn_of _ (by decide +kernel)) ggL_law_X8_saveSnapshot
set_option maxRecDepth 20000 in
theorem ggL_law_L_restoreSnapshot : GoodIn wsL_law wsL_restoreSnapshot := goodIn_ca (goodIn_r _ [864, 865, 866, 867, 868, 2, 869, 870, 871, 25, 19, 24, 23, 550, 374, 375, 376, 18, 377, 50, 45, 49, 378, 379, 380, 33, 381, 321, 267, 280, 287, 298, 281, 293, 303, 288, 322, 382, 383, 384, 48, 385, 55, 386, 387, 388, 389, 56, 57, 58, 59, 872, 873, 874, 22, 875, 70, 1508, 1509, 1510, 1511, 1512, 1513, 1514, 1515, 1516, 1517, 1518, 1548, 1549, 1550, 1556, 1557, 1558, 1559, 1560, 1561, 1562, 1563, 1564, 1565, 1580, 1581, 1582, 1583, 1584, 1551, 1552, 1553] (by decide +kernel) (by decide +kernel)) (goodIn_sub (fun _ h => List.mem_append_right _ h) (by decide +kernel))
set_option maxRecDepth 20000 in
theorem gL_law_L_restoreSnapshot : GoodIn wsL_law (va_wsS RL 211 yL_restoreSnapshot wsL_restoreSnapshot) := goodIn_app (goodIn_of _ (by decide +kernel)) ggL_law_L_restoreSnapshot
set_option maxRecDepth 20000 in
theorem ggL_law_X8_restoreSnapshot : GoodIn wsL_law wsX8_restoreSnapshot := goodIn_r _ [879, 505, 861, 397, 394, 669, 690, 691, 692, 5, 693, 568, 569, 570, 1519, 1520, 1521, 1522, 1523, 1524, 1525, 1526, 1527, 1528, 1529, 1530, 1531, 1532, 1533, 1534, 1535, 1536, 1537, 1538, 1539, 1540, 1541, 1542, 1543, 1544, 1545, 1546, 1547] (by decide +kernel) (by decide +kernel)
set_option maxRecDepth 20000 in
theorem gL_law_X8_restoreSnapshot : GoodIn wsL_law (wsV RL 214 RX8 yX8_restoreSnapshot wsX8_restoreSnapshot) := goodIn_app (goodIn_of _ (by decide +kernel)) ggL_law_X8_restoreSnapshot
set_option maxRecDepth 20000 in
theorem ggL_law_X7_scriptErrorKind : GoodIn wsL_law wsX7_scriptErrorKind := goodIn_r _ [883, 39, 549, 1508, 1509, 1510, 1511, 1512, 1513, 1514, 1515, 1516, 1517, 1518, 1566, 1567, 1568, 1569, 1570, 1571, 1572, 1573, 1574, 1575, 1576, 1577, 1578, 1579] (by decide +kernel) (by decide +kernel)
set_option maxRecDepth 20000 in
theorem gL_law_X7_scriptErrorKind : GoodIn wsL_law (wsV RL 215 RX7 yX7_scriptErrorKind wsX7_scriptErrorKind) := goodIn_app (goodIn_of _ (by decide +kernel)) ggL_law_X7_scriptErrorKind
set_option maxRecDepth 20000 in
theorem ggL_law_X8_scriptErrorKind : GoodIn wsL_law wsX8_scriptErrorKind := goodIn_r _ [887, 505, 567, 1519, 1520, 1521, 1522, 1523, 1524, 1525, 1526, 1527, 1528, 1529, 1530, 1531, 1532, 1533, 1534, 1535, 1536, 1537, 1538, 1539, 1540, 1541, 1542, 1543, 1544, 1545, 1546, 1547] (by decide +kernel) (by decide +kernel)
set_option maxRecDepth 20000 in
theorem gL_law_X8_scriptErrorKind : GoodIn wsL_law (wsV RL 218 RX8 yX8_scriptErrorKind wsX8_scriptErrorKind) := goodIn_app (goodIn_of _ (by decide +kernel)) ggL_law_X8_scriptErrorKind
set_option maxRecDepth 20000 in
theorem ggL_law_X7_scriptErrorOffset : GoodIn wsL_law wsX7_scriptErrorOffset := goodIn_r _ [891, 39, 892, 1508, 1509, 1510, 1511, 1512, 1513, 1514, 1515, 1516, 1517, 1518, 1566, 1567, 1568, 1569, 1570, 1571, 1572, 1573, 1574, 1575, 1576, 1577, 1578, 1579] (by decide +kernel) (by decide +kernel)
set_option maxRecDepth 20000 in
theorem gL_law_X7_scriptErrorOffset : GoodIn wsL_law (wsV RL 219 RX7 yX7_scriptErrorOffset wsX7_scriptErrorOffset) := goodIn_app (goodIn_of _ (by decide +kernel)) ggL_law_X7_scriptErrorOffset
set_option maxRecDepth 20000 in
theorem ggL_law_X8_scriptErrorOffset : GoodIn wsL_law wsX8_scriptErrorOffset := goodIn_r _ [896, 505, 402, 1519, 1520, 1521, 1522, 1523, 1524, 1525, 1526, 1527, 1528, 1529, 1530, 1531, 1532, 1533, 1534, 1535, 1536, 1537, 1538, 1539, 1540, 1541, 1542, 1543, 1544, 1545, 1546, 1547] (by decide +kernel) (by decide +kernel)
set_option maxRecDepth 20000 in
theorem gL_law_X8_scriptErrorOffset : GoodIn wsL_law (wsV RL 222 RX8 yX8_scriptErrorOffset wsX8_scriptErrorOffset) := goodIn_app (goodIn_of _ (by decide +kernel)) ggL_law_X8_scriptErrorOffset
set_option maxRecDepth 20000 in
theorem ggL_law_X7_loanCount : GoodIn wsL_law wsX7_loanCount := goodIn_r _ [900, 19, 550, 1508, 1509, 1510, 1511, 1512, 1513, 1514, 1515, 1516, 1517, 1518, 1548, 1549, 1550] (by decide +kernel) (by decide +kernel)
set_option maxRecDepth 20000 in
theorem gL_law_X7_loanCount : GoodIn wsL_law (wsV RL 223 RX7 yX7_loanCount wsX7_loanCount) := goodIn_app (goodIn_of _ (by decide +kernel)) ggL_law_X7_loanCount
set_option maxRecDepth 20000 in
theorem ggL_law_X8_loanCount : GoodIn wsL_law wsX8_loanCount := goodIn_r _ [904, 505, 394, 1519, 1520, 1521, 1522, 1523, 1524, 1525, 1526, 1527, 1528, 1529, 1530, 1531, 1532, 1533, 1534, 1535, 1536, 1537, 1538, 1539, 1540, 1541, 1542, 1543, 1544, 1545, 1546, 1547] (by decide +kernel) (by decide +kernel)
set_option maxRecDepth 20000 in
theorem gL_law_X8_loanCount : GoodIn wsL_law (wsV RL 226 RX8 yX8_loanCount wsX8_loanCount) := goodIn_app (goodIn_of _ (by decide +kernel)) ggL_law_X8_loanCount
set_option maxRecDepth 20000 in
theorem ggL_law_X7_openCount : GoodIn wsL_law wsX7_openCount := goodIn_r _ [908, 19, 909, 910, 911, 18, 912, 50, 45, 263, 264, 265, 33, 266, 267, 1508, 1509, 1510, 1511, 1512, 1513, 1514, 1515, 1516, 1517, 1518, 1548, 1549, 1550, 1556, 1557, 1558, 1559, 1560, 1561, 1562, 1563, 1564, 1565] (by decide +kernel) (by decide +kernel)
set_option maxRecDepth 20000 in
theorem gL_law_X7_openCount : GoodIn wsL_law (wsV RL 227 RX7 yX7_openCount wsX7_openCount) := goodIn_app (goodIn_of _ (by decide +kernel)) ggL_law_X7_openCount
set_option maxRecDepth 20000 in
theorem ggL_law_X8_openCount : GoodIn wsL_law wsX8_openCount := goodIn_r _ [916, 505, 917, 918, 919, 5, 920, 394, 457, 458, 459, 460, 417, 418, 419, 420, 1519, 1520, 1521, 1522, 1523, 1524, 1525, 1526, 1527, 1528, 1529, 1530, 1531, 1532, 1533, 1534, 1535, 1536, 1537, 1538, 1539, 1540, 1541, 1542, 1543, 1544, 1545, 1546, 1547] (by decide +kernel) (by decide +kernel)
set_option maxRecDepth 20000 in
theorem gL_law_X8_openCount : GoodIn wsL_law (wsV RL 230 RX8 yX8_openCount wsX8_openCount) := goodIn_app (goodIn_of _ (by decide +kernel)) ggL_law_X8_openCount
set_option maxRecDepth 20000 in
theorem ggL_law_L_isOpen : GoodIn wsL_law wsL_isOpen := goodIn_ca (goodIn_r _ [923, 697, 924, 925, 926, 2, 927, 702, 703, 704, 705, 706, 707, 19, 550, 708, 709, 264, 265, 33, 266, 267, 1508, 1509, 1510, 1511, 1512, 1513, 1514, 1515, 1516, 1517, 1518, 1548, 1549, 1550, 1556, 1557, 1558, 1559, 1560, 1561, 1562, 1563, 1564, 1565] (by decide +kernel) (by decide +kernel)) (goodIn_sub (fun _ h => List.mem_append_left _ (List.mem_append_right _ h)) (by decide +kernel))
set_option maxRecDepth 20000 in
theorem gL_law_L_isOpen : GoodIn wsL_law (va_wsS RL 231 yL_isOpen wsL_isOpen) := goodIn_app (goodIn_of _ (by decide +kernel)) ggL_law_L_isOpen
set_option maxRecDepth 20000 in
theorem ggL_law_X8_isOpen : GoodIn wsL_law wsX8_isOpen := goodIn_r _ [931, 505, 715, 716, 717, 5, 718, 394, 529, 530, 531, 532, 457, 458, 459, 460, 417, 418, 419, 420, 1519, 1520, 1521, 1522, 1523, 1524, 1525, 1526, 1527, 1528, 1529, 1530, 1531, 1532, 1533, 1534, 1535, 1536, 1537, 1538, 1539, 1540, 1541, 1542, 1543, 1544, 1545, 1546, 1547] (by decide +kernel) (by decide +kernel)
set_option maxRecDepth 20000 in
theorem gL_law_X8_isOpen : GoodIn wsL_law (wsV RL 233 RX8 yX8_isOpen wsX8_isOpen) := goodIn_app (goodIn_of _ (by decide +kernel)) ggL_law_X8_isOpen
set_option maxRecDepth 20000 in
theorem ggL_law_L_principal : GoodIn wsL_law wsL_principal := goodIn_ca (goodIn_r _ [934, 697, 935, 936, 937, 2, 938, 939, 702, 703, 704, 705, 706, 707, 19, 550, 708, 1556, 1557, 1558, 1559, 1560, 1561, 1562, 1563, 1564, 1565, 1508, 1509, 1510, 1511, 1512, 1513, 1514, 1515, 1516, 1517, 1518, 1548, 1549, 1550] (by decide +kernel) (by decide +kernel)) (goodIn_sub (fun _ h => List.mem_append_left _ (List.mem_append_right _ h)) (by decide +kernel))
set_option maxRecDepth 20000 in
theorem gL_law_L_principal : GoodIn wsL_law (va_wsS RL 234 yL_principal wsL_principal) := goodIn_app (goodIn_of _ (by decide +kernel)) ggL_law_L_principal
set_option maxRecDepth 20000 in
theorem ggL_law_X8_principal : GoodIn wsL_law wsX8_principal := goodIn_r _ [943, 944, 945, 946, 5, 947, 505, 715, 716, 717, 718, 394, 529, 530, 531, 532, 417, 418, 419, 420, 1519, 1520, 1521, 1522, 1523, 1524, 1525, 1526, 1527, 1528, 1529, 1530, 1531, 1532, 1533, 1534, 1535, 1536, 1537, 1538, 1539, 1540, 1541, 1542, 1543, 1544, 1545, 1546, 1547] (by decide +kernel) (by decide +kernel)
set_option maxRecDepth 20000 in
theorem gL_law_X8_principal : GoodIn wsL_law (wsV RL 236 RX8 yX8_principal wsX8_principal) := goodIn_app (goodIn_of _ (by decide +kernel)) ggL_law_X8_principal
set_option maxRecDepth 20000 in
theorem ggL_law_L_balance : GoodIn wsL_law wsL_balance := goodIn_ca (goodIn_r _ [950, 697, 951, 952, 953, 2, 954, 735, 702, 703, 704, 705, 706, 707, 19, 550, 708, 1556, 1557, 1558, 1559, 1560, 1561, 1562, 1563, 1564, 1565, 1508, 1509, 1510, 1511, 1512, 1513, 1514, 1515, 1516, 1517, 1518, 1548, 1549, 1550] (by decide +kernel) (by decide +kernel)) (goodIn_sub (fun _ h => List.mem_append_left _ (List.mem_append_right _ h)) (by decide +kernel))
set_option maxRecDepth 20000 in
theorem gL_law_L_balance : GoodIn wsL_law (va_wsS RL 237 yL_balance wsL_balance) := goodIn_app (goodIn_of _ (by decide +kernel)) ggL_law_L_balance
set_option maxRecDepth 20000 in
theorem ggL_law_X8_balance : GoodIn wsL_law wsX8_balance := goodIn_r _ [958, 944, 945, 946, 5, 947, 505, 715, 716, 717, 718, 394, 529, 530, 531, 532, 417, 418, 419, 420, 1519, 1520, 1521, 1522, 1523, 1524, 1525, 1526, 1527, 1528, 1529, 1530, 1531, 1532, 1533, 1534, 1535, 1536, 1537, 1538, 1539, 1540, 1541, 1542, 1543, 1544, 1545, 1546, 1547] (by decide +kernel) (by decide +kernel)
set_option maxRecDepth 20000 in
theorem gL_law_X8_balance : GoodIn wsL_law (wsV RL 239 RX8 yX8_balance wsX8_balance) := goodIn_app (goodIn_of _ (by decide +kernel)) ggL_law_X8_balance
set_option maxRecDepth 20000 in
theorem ggL_law_L_rate : GoodIn wsL_law wsL_rate := goodIn_ca (goodIn_r _ [961, 697, 962, 963, 964, 2, 965, 775, 702, 703, 704, 705, 706, 707, 19, 550, 708, 1556, 1557, 1558, 1559, 1560, 1561, 1562, 1563, 1564, 1565, 1508, 1509, 1510, 1511, 1512, 1513, 1514, 1515, 1516, 1517, 1518, 1548, 1549, 1550] (by decide +kernel) (by decide +kernel)) (goodIn_sub (fun _ h => List.mem_append_left _ (List.mem_append_right _ h)) (by decide +kernel))
set_option maxRecDepth 20000 in
theorem gL_law_L_rate : GoodIn wsL_law (va_wsS RL 240 yL_rate wsL_rate) := goodIn_app (goodIn_of _ (by decide +kernel)) ggL_law_L_rate
set_option maxRecDepth 20000 in
theorem ggL_law_X8_rate : GoodIn wsL_law wsX8_rate := goodIn_r _ [969, 944, 945, 946, 5, 947, 505, 715, 716, 717, 718, 394, 529, 530, 531, 532, 417, 418, 419, 420, 1519, 1520, 1521, 1522, 1523, 1524, 1525, 1526, 1527, 1528, 1529, 1530, 1531, 1532, 1533, 1534, 1535, 1536, 1537, 1538, 1539, 1540, 1541, 1542, 1543, 1544, 1545, 1546, 1547] (by decide +kernel) (by decide +kernel)
set_option maxRecDepth 20000 in
theorem gL_law_X8_rate : GoodIn wsL_law (wsV RL 242 RX8 yX8_rate wsX8_rate) := goodIn_app (goodIn_of _ (by decide +kernel)) ggL_law_X8_rate
set_option maxRecDepth 20000 in
theorem ggL_law_L_monthsLeft : GoodIn wsL_law wsL_monthsLeft := goodIn_ca (goodIn_r _ [972, 697, 973, 974, 975, 2, 976, 762, 702, 703, 704, 705, 706, 707, 19, 550, 708, 1556, 1557, 1558, 1559, 1560, 1561, 1562, 1563, 1564, 1565, 1508, 1509, 1510, 1511, 1512, 1513, 1514, 1515, 1516, 1517, 1518, 1548, 1549, 1550] (by decide +kernel) (by decide +kernel)) (goodIn_sub (fun _ h => List.mem_append_left _ (List.mem_append_right _ h)) (by decide +kernel))
set_option maxRecDepth 20000 in
theorem gL_law_L_monthsLeft : GoodIn wsL_law (va_wsS RL 243 yL_monthsLeft wsL_monthsLeft) := goodIn_app (goodIn_of _ (by decide +kernel)) ggL_law_L_monthsLeft
set_option maxRecDepth 20000 in
theorem ggL_law_X8_monthsLeft : GoodIn wsL_law wsX8_monthsLeft := goodIn_r _ [980, 944, 945, 946, 5, 947, 505, 715, 716, 717, 718, 394, 529, 530, 531, 532, 417, 418, 419, 420, 1519, 1520, 1521, 1522, 1523, 1524, 1525, 1526, 1527, 1528, 1529, 1530, 1531, 1532, 1533, 1534, 1535, 1536, 1537, 1538, 1539, 1540, 1541, 1542, 1543, 1544, 1545, 1546, 1547] (by decide +kernel) (by decide +kernel)
set_option maxRecDepth 20000 in
theorem gL_law_X8_monthsLeft : GoodIn wsL_law (wsV RL 245 RX8 yX8_monthsLeft wsX8_monthsLeft) := goodIn_app (goodIn_of _ (by decide +kernel)) ggL_law_X8_monthsLeft
set_option maxRecDepth 20000 in
theorem ggL_law_L_installment : GoodIn wsL_law wsL_installment := goodIn_ca (goodIn_r _ [983, 697, 984, 985, 986, 2, 987, 988, 702, 703, 704, 705, 706, 707, 19, 550, 708, 1556, 1557, 1558, 1559, 1560, 1561, 1562, 1563, 1564, 1565, 1508, 1509, 1510, 1511, 1512, 1513, 1514, 1515, 1516, 1517, 1518, 1548, 1549, 1550] (by decide +kernel) (by decide +kernel)) (goodIn_sub (fun _ h => List.mem_append_left _ (List.mem_append_right _ h)) (by decide +kernel))
set_option maxRecDepth 20000 in
theorem gL_law_L_installment : GoodIn wsL_law (va_wsS RL 246 yL_installment wsL_installment) := goodIn_app (goodIn_of _ (by decide +kernel)) ggL_law_L_installment
set_option maxRecDepth 20000 in
theorem ggL_law_X8_installment : GoodIn wsL_law wsX8_installment := goodIn_r _ [992, 944, 945, 946, 5, 947, 505, 715, 716, 717, 718, 394, 529, 530, 531, 532, 417, 418, 419, 420, 1519, 1520, 1521, 1522, 1523, 1524, 1525, 1526, 1527, 1528, 1529, 1530, 1531, 1532, 1533, 1534, 1535, 1536, 1537, 1538, 1539, 1540, 1541, 1542, 1543, 1544, 1545, 1546, 1547] (by decide +kernel) (by decide +kernel)
set_option maxRecDepth 20000 in
theorem gL_law_X8_installment : GoodIn wsL_law (wsV RL 248 RX8 yX8_installment wsX8_installment) := goodIn_app (goodIn_of _ (by decide +kernel)) ggL_law_X8_installment
set_option maxRecDepth 20000 in
theorem ggL_law_L_carry : GoodIn wsL_law wsL_carry := goodIn_ca (goodIn_r _ [995, 697, 996, 997, 998, 2, 999, 1000, 702, 703, 704, 705, 706, 707, 19, 550, 708, 1556, 1557, 1558, 1559, 1560, 1561, 1562, 1563, 1564, 1565, 1508, 1509, 1510, 1511, 1512, 1513, 1514, 1515, 1516, 1517, 1518, 1548, 1549, 1550] (by decide +kernel) (by decide +kernel)) (goodIn_sub (fun _ h => List.mem_append_left _ (List.mem_append_right _ h)) (by decide +kernel))
set_option maxRecDepth 20000 in
theorem gL_law_L_carry : GoodIn wsL_law (va_wsS RL 249 yL_carry wsL_carry) := goodIn_app (goodIn_of _ (by decide +kernel)) ggL_law_L_carry
set_option maxRecDepth 20000 in
theorem ggL_law_X8_carry : GoodIn wsL_law wsX8_carry := goodIn_r _ [1004, 944, 945, 946, 5, 947, 505, 715, 716, 717, 718, 394, 529, 530, 531, 532, 417, 418, 419, 420, 1519, 1520, 1521, 1522, 1523, 1524, 1525, 1526, 1527, 1528, 1529, 1530, 1531, 1532, 1533, 1534, 1535, 1536, 1537, 1538, 1539, 1540, 1541, 1542, 1543, 1544, 1545, 1546, 1547] (by decide +kernel) (by decide +kernel)
set_option maxRecDepth 20000 in
theorem gL_law_X8_carry : GoodIn wsL_law (wsV RL 251 RX8 yX8_carry wsX8_carry) := goodIn_app (goodIn_of _ (by decide +kernel)) ggL_law_X8_carry
set_option maxRecDepth 20000 in
theorem ggL_law_L_interestDue : GoodIn wsL_law wsL_interestDue := goodIn_ca (goodIn_r _ [1007, 697, 1008, 1009, 1010, 2, 1011, 702, 703, 704, 705, 706, 707, 19, 550, 708, 1012, 277, 278, 33, 279, 267, 280, 281, 282, 1508, 1509, 1510, 1511, 1512, 1513, 1514, 1515, 1516, 1517, 1518, 1548, 1549, 1550, 1556, 1557, 1558, 1559, 1560, 1561, 1562, 1563, 1564, 1565] (by decide +kernel) (by decide +kernel)) (goodIn_sub (fun _ h => List.mem_append_left _ (List.mem_append_right _ h)) (by decide +kernel))
set_option maxRecDepth 20000 in
theorem gL_law_L_interestDue : GoodIn wsL_law (va_wsS RL 252 yL_interestDue wsL_interestDue) := goodIn_app (goodIn_of _ (by decide +kernel)) ggL_law_L_interestDue
set_option maxRecDepth 20000 in
theorem ggL_law_X8_interestDue : GoodIn wsL_law wsX8_interestDue := goodIn_r _ [1016, 439, 1017, 1018, 1019, 5, 1020, 505, 715, 716, 717, 718, 394, 529, 530, 531, 532, 457, 458, 459, 460, 417, 418, 419, 420, 465, 466, 467, 468, 427, 428, 429, 430, 431, 432, 433, 434, 435, 436, 437, 438, 425, 440, 441, 442, 443, 444, 1519, 1520, 1521, 1522, 1523, 1524, 1525, 1526, 1527, 1528, 1529, 1530, 1531, 1532, 1533, 1534, 1535, 1536, 1537, 1538, 1539, 1540, 1541, 1542, 1543, 1544, 1545, 1546, 1547] (by decide +kernel) (by decide +kernel)
set_option maxRecDepth 20000 in
theorem gL_law_X8_interestDue : GoodIn wsL_law (wsV RL 254 RX8 yX8_interestDue wsX8_interestDue) := goodIn_app (goodIn_of _ (by decide +kernel)) ggL_law_X8_interestDue
set_option maxRecDepth 20000 in
theorem ggL_law_L_amountDue : GoodIn wsL_law wsL_amountDue := goodIn_ca (goodIn_r _ [1023, 697, 1024, 1025, 1026, 2, 1027, 702, 703, 704, 705, 706, 707, 19, 550, 708, 1028, 1029, 1030, 33, 1031, 267, 327, 277, 278, 279, 280, 281, 282, 294, 295, 296, 297, 298, 287, 1508, 1509, 1510, 1511, 1512, 1513, 1514, 1515, 1516, 1517, 1518, 1548, 1549, 1550, 1556, 1557, 1558, 1559, 1560, 1561, 1562, 1563, 1564, 1565] (by decide +kernel) (by decide +kernel)) (goodIn_sub (fun _ h => List.mem_append_left _ (List.mem_append_right _ h)) (by decide +kernel))
set_option maxRecDepth 20000 in
theorem gL_law_L_amountDue : GoodIn wsL_law (va_wsS RL 255 yL_amountDue wsL_amountDue) := goodIn_app (goodIn_of _ (by decide +kernel)) ggL_law_L_amountDue
set_option maxRecDepth 20000 in
theorem ggL_law_X8_amountDue : GoodIn wsL_law wsX8_amountDue := goodIn_r _ [1035, 425, 1017, 1018, 1019, 5, 1020, 505, 715, 716, 717, 718, 394, 529, 530, 531, 532, 457, 458, 459, 460, 417, 418, 419, 420, 465, 466, 467, 468, 427, 428, 429, 430, 431, 432, 433, 434, 435, 436, 437, 438, 439, 440, 441, 442, 443, 444, 1519, 1520, 1521, 1522, 1523, 1524, 1525, 1526, 1527, 1528, 1529, 1530, 1531, 1532, 1533, 1534, 1535, 1536, 1537, 1538, 1539, 1540, 1541, 1542, 1543, 1544, 1545, 1546, 1547] (by decide +kernel) (by decide +kernel)
set_option maxRecDepth 20000 in
theorem gL_law_X8_amountDue : GoodIn wsL_law (wsV RL 257 RX8 yX8_amountDue wsX8_amountDue) := goodIn_app (goodIn_of _ (by decide +kernel)) ggL_law_X8_amountDue
set_option maxRecDepth 20000 in
theorem ggL_law_L_interestSoFar : GoodIn wsL_law wsL_interestSoFar := goodIn_ca (goodIn_r _ [1038, 697, 1039, 1040, 1041, 2, 1042, 1043, 702, 703, 704, 705, 706, 707, 19, 550, 708, 1556, 1557, 1558, 1559, 1560, 1561, 1562, 1563, 1564, 1565, 1508, 1509, 1510, 1511, 1512, 1513, 1514, 1515, 1516, 1517, 1518, 1548, 1549, 1550] (by decide +kernel) (by decide +kernel)) (goodIn_sub (fun _ h => List.mem_append_left _ (List.mem_append_right _ h)) (by decide +kernel))
set_option maxRecDepth 20000 in
theorem gL_law_L_interestSoFar : GoodIn wsL_law (va_wsS RL 258 yL_interestSoFar wsL_interestSoFar) := goodIn_app (goodIn_of _ (by decide +kernel)) ggL_law_L_interestSoFar
set_option maxRecDepth 20000 in
theorem ggL_law_X8_interestSoFar : GoodIn wsL_law wsX8_interestSoFar := goodIn_r _ [1047, 944, 945, 946, 5, 947, 505, 715, 716, 717, 718, 394, 529, 530, 531, 532, 417, 418, 419, 420, 1519, 1520, 1521, 1522, 1523, 1524, 1525, 1526, 1527, 1528, 1529, 1530, 1531, 1532, 1533, 1534, 1535, 1536, 1537, 1538, 1539, 1540, 1541, 1542, 1543, 1544, 1545, 1546, 1547] (by decide +kernel) (by decide +kernel)
set_option maxRecDepth 20000 in
theorem gL_law_X8_interestSoFar : GoodIn wsL_law (wsV RL 260 RX8 yX8_interestSoFar wsX8_interestSoFar) := goodIn_app (goodIn_of _ (by decide +kernel)) ggL_law_X8_interestSoFar
set_option maxRecDepth 20000 in
theorem ggL_law_L_paidSoFar : GoodIn wsL_law wsL_paidSoFar := goodIn_ca (goodIn_r _ [1050, 697, 1051, 1052, 1053, 2, 1054, 1055, 702, 703, 704, 705, 706, 707, 19, 550, 708, 1556, 1557, 1558, 1559, 1560, 1561, 1562, 1563, 1564, 1565, 1508, 1509, 1510, 1511, 1512, 1513, 1514, 1515, 1516, 1517, 1518, 1548, 1549, 1550] (by decide +kernel) (by decide +kernel)) (goodIn_sub (fun _ h => List.mem_append_left _ (List.mem_append_right _ h)) (by decide +kernel))
