set_option maxRecDepth 20000 in
theorem gL_law_L_paidSoFar : GoodIn wsL_law (va_wsS RL 261 yL_paidSoFar wsL_paidSoFar) := goodIn_app (goodIn_of _ (by decide +kernel)) ggL_law_L_paidSoFar
set_option maxRecDepth 20000 in
theorem ggL_law_X8_paidSoFar : GoodIn wsL_law wsX8_paidSoFar := goodIn_r _ [1059, 944, 945, 946, 5, 947, 505, 715, 716, 717, 718, 394, 529, 530, 531, 532, 417, 418, 419, 420, 1519, 1520, 1521, 1522, 1523, 1524, 1525, 1526, 1527, 1528, 1529, 1530, 1531, 1532, 1533, 1534, 1535, 1536, 1537, 1538, 1539, 1540, 1541, 1542, 1543, 1544, 1545, 1546, 1547] (by decide +kernel) (by decide +kernel)
set_option maxRecDepth 20000 in
theorem gL_law_X8_paidSoFar : GoodIn wsL_law (wsV RL 263 RX8 yX8_paidSoFar wsX8_paidSoFar) := goodIn_app (goodIn_of _ (by decide +kernel)) ggL_law_X8_paidSoFar
set_option maxRecDepth 20000 in
theorem ggL_law_L_paidMonths : GoodIn wsL_law wsL_paidMonths := goodIn_ca (goodIn_r _ [1062, 697, 1063, 1064, 1065, 2, 1066, 1067, 702, 703, 704, 705, 706, 707, 19, 550, 708, 1556, 1557, 1558, 1559, 1560, 1561, 1562, 1563, 1564, 1565, 1508, 1509, 1510, 1511, 1512, 1513, 1514, 1515, 1516, 1517, 1518, 1548, 1549, 1550] (by decide +kernel) (by decide +kernel)) (goodIn_sub (fun _ h => List.mem_append_left _ (List.mem_append_right _ h)) (by decide +kernel))
set_option maxRecDepth 20000 in
theorem gL_law_L_paidMonths : GoodIn wsL_law (va_wsS RL 264 yL_paidMonths wsL_paidMonths) := goodIn_app (goodIn_of _ (by decide +kernel)) ggL_law_L_paidMonths
set_option maxRecDepth 20000 in
theorem ggL_law_X8_paidMonths : GoodIn wsL_law wsX8_paidMonths := goodIn_r _ [1071, 944, 945, 946, 5, 947, 505, 715, 716, 717, 718, 394, 529, 530, 531, 532, 417, 418, 419, 420, 1519, 1520, 1521, 1522, 1523, 1524, 1525, 1526, 1527, 1528, 1529, 1530, 1531, 1532, 1533, 1534, 1535, 1536, 1537, 1538, 1539, 1540, 1541, 1542, 1543, 1544, 1545, 1546, 1547] (by decide +kernel) (by decide +kernel)
set_option maxRecDepth 20000 in
theorem gL_law_X8_paidMonths : GoodIn wsL_law (wsV RL 266 RX8 yX8_paidMonths wsX8_paidMonths) := goodIn_app (goodIn_of _ (by decide +kernel)) ggL_law_X8_paidMonths
set_option maxRecDepth 20000 in
theorem ggL_law_L_skippedMonths : GoodIn wsL_law wsL_skippedMonths := goodIn_ca (goodIn_r _ [1074, 697, 1075, 1076, 1077, 2, 1078, 1079, 702, 703, 704, 705, 706, 707, 19, 550, 708, 1556, 1557, 1558, 1559, 1560, 1561, 1562, 1563, 1564, 1565, 1508, 1509, 1510, 1511, 1512, 1513, 1514, 1515, 1516, 1517, 1518, 1548, 1549, 1550] (by decide +kernel) (by decide +kernel)) (goodIn_sub (fun _ h => List.mem_append_left _ (List.mem_append_right _ h)) (by decide +kernel))
set_option maxRecDepth 20000 in
theorem gL_law_L_skippedMonths : GoodIn wsL_law (va_wsS RL 267 yL_skippedMonths wsL_skippedMonths) := goodIn_app (goodIn_of _ (by decide +kernel)) ggL_law_L_skippedMonths
set_option maxRecDepth 20000 in
theorem ggL_law_X8_skippedMonths : GoodIn wsL_law wsX8_skippedMonths := goodIn_r _ [1083, 944, 945, 946, 5, 947, 505, 715, 716, 717, 718, 394, 529, 530, 531, 532, 417, 418, 419, 420, 1519, 1520, 1521, 1522, 1523, 1524, 1525, 1526, 1527, 1528, 1529, 1530, 1531, 1532, 1533, 1534, 1535, 1536, 1537, 1538, 1539, 1540, 1541, 1542, 1543, 1544, 1545, 1546, 1547] (by decide +kernel) (by decide +kernel)
set_option maxRecDepth 20000 in
theorem gL_law_X8_skippedMonths : GoodIn wsL_law (wsV RL 269 RX8 yX8_skippedMonths wsX8_skippedMonths) := goodIn_app (goodIn_of _ (by decide +kernel)) ggL_law_X8_skippedMonths
set_option maxRecDepth 20000 in
theorem ggL_law_X7_entryCount : GoodIn wsL_law wsX7_entryCount := goodIn_r _ [1087, 19, 1088, 1089, 1508, 1509, 1510, 1511, 1512, 1513, 1514, 1515, 1516, 1517, 1518, 1548, 1549, 1550, 1580, 1581, 1582, 1583, 1584] (by decide +kernel) (by decide +kernel)
set_option maxRecDepth 20000 in
theorem gL_law_X7_entryCount : GoodIn wsL_law (wsV RL 270 RX7 yX7_entryCount wsX7_entryCount) := goodIn_app (goodIn_of _ (by decide +kernel)) ggL_law_X7_entryCount
set_option maxRecDepth 20000 in
theorem ggL_law_X8_entryCount : GoodIn wsL_law wsX8_entryCount := goodIn_r _ [1093, 505, 394, 1519, 1520, 1521, 1522, 1523, 1524, 1525, 1526, 1527, 1528, 1529, 1530, 1531, 1532, 1533, 1534, 1535, 1536, 1537, 1538, 1539, 1540, 1541, 1542, 1543, 1544, 1545, 1546, 1547] (by decide +kernel) (by decide +kernel)
set_option maxRecDepth 20000 in
theorem gL_law_X8_entryCount : GoodIn wsL_law (wsV RL 273 RX8 yX8_entryCount wsX8_entryCount) := goodIn_app (goodIn_of _ (by decide +kernel)) ggL_law_X8_entryCount
set_option maxRecDepth 20000 in
theorem ggL_law_X7_entryLoan : GoodIn wsL_law wsX7_entryLoan := goodIn_r _ [1097, 19, 1088, 1098, 1099, 1100, 1101, 48, 1102, 59, 58, 1508, 1509, 1510, 1511, 1512, 1513, 1514, 1515, 1516, 1517, 1518, 1548, 1549, 1550, 1580, 1581, 1582, 1583, 1584] (by decide +kernel) (by decide +kernel)
set_option maxRecDepth 20000 in
theorem gL_law_X7_entryLoan : GoodIn wsL_law (wsV RL 274 RX7 yX7_entryLoan wsX7_entryLoan) := goodIn_app (goodIn_of _ (by decide +kernel)) ggL_law_X7_entryLoan
set_option maxRecDepth 20000 in
theorem ggL_law_X8_entryLoan : GoodIn wsL_law wsX8_entryLoan := goodIn_r _ [1106, 1107, 1108, 1109, 5, 1110, 505, 394, 1519, 1520, 1521, 1522, 1523, 1524, 1525, 1526, 1527, 1528, 1529, 1530, 1531, 1532, 1533, 1534, 1535, 1536, 1537, 1538, 1539, 1540, 1541, 1542, 1543, 1544, 1545, 1546, 1547] (by decide +kernel) (by decide +kernel)
set_option maxRecDepth 20000 in
theorem gL_law_X8_entryLoan : GoodIn wsL_law (wsV RL 277 RX8 yX8_entryLoan wsX8_entryLoan) := goodIn_app (goodIn_of _ (by decide +kernel)) ggL_law_X8_entryLoan
set_option maxRecDepth 20000 in
theorem ggL_law_X7_entryAmount : GoodIn wsL_law wsX7_entryAmount := goodIn_r _ [1114, 19, 1088, 1115, 1099, 1100, 1101, 48, 1102, 59, 58, 1508, 1509, 1510, 1511, 1512, 1513, 1514, 1515, 1516, 1517, 1518, 1548, 1549, 1550, 1580, 1581, 1582, 1583, 1584] (by decide +kernel) (by decide +kernel)
set_option maxRecDepth 20000 in
theorem gL_law_X7_entryAmount : GoodIn wsL_law (wsV RL 278 RX7 yX7_entryAmount wsX7_entryAmount) := goodIn_app (goodIn_of _ (by decide +kernel)) ggL_law_X7_entryAmount
set_option maxRecDepth 20000 in
theorem ggL_law_X8_entryAmount : GoodIn wsL_law wsX8_entryAmount := goodIn_r _ [1119, 1107, 1108, 1109, 5, 1110, 505, 394, 1519, 1520, 1521, 1522, 1523, 1524, 1525, 1526, 1527, 1528, 1529, 1530, 1531, 1532, 1533, 1534, 1535, 1536, 1537, 1538, 1539, 1540, 1541, 1542, 1543, 1544, 1545, 1546, 1547] (by decide +kernel) (by decide +kernel)
set_option maxRecDepth 20000 in
theorem gL_law_X8_entryAmount : GoodIn wsL_law (wsV RL 281 RX8 yX8_entryAmount wsX8_entryAmount) := goodIn_app (goodIn_of _ (by decide +kernel)) ggL_law_X8_entryAmount
set_option maxRecDepth 20000 in
theorem ggL_law_X7_entryInterest : GoodIn wsL_law wsX7_entryInterest := goodIn_r _ [1123, 19, 1088, 1124, 1099, 1100, 1101, 48, 1102, 59, 58, 1508, 1509, 1510, 1511, 1512, 1513, 1514, 1515, 1516, 1517, 1518, 1548, 1549, 1550, 1580, 1581, 1582, 1583, 1584] (by decide +kernel) (by decide +kernel)
set_option maxRecDepth 20000 in
theorem gL_law_X7_entryInterest : GoodIn wsL_law (wsV RL 282 RX7 yX7_entryInterest wsX7_entryInterest) := goodIn_app (goodIn_of _ (by decide +kernel)) ggL_law_X7_entryInterest
set_option maxRecDepth 20000 in
theorem ggL_law_X8_entryInterest : GoodIn wsL_law wsX8_entryInterest := goodIn_r _ [1128, 1107, 1108, 1109, 5, 1110, 505, 394, 1519, 1520, 1521, 1522, 1523, 1524, 1525, 1526, 1527, 1528, 1529, 1530, 1531, 1532, 1533, 1534, 1535, 1536, 1537, 1538, 1539, 1540, 1541, 1542, 1543, 1544, 1545, 1546, 1547] (by decide +kernel) (by decide +kernel)
set_option maxRecDepth 20000 in
theorem gL_law_X8_entryInterest : GoodIn wsL_law (wsV RL 285 RX8 yX8_entryInterest wsX8_entryInterest) := goodIn_app (goodIn_of _ (by decide +kernel)) ggL_law_X8_entryInterest
set_option maxRecDepth 20000 in
theorem ggL_law_L_interestOfPayment : GoodIn wsL_law wsL_interestOfPayment := goodIn_ca (goodIn_ca (goodIn_r _ [1131, 697, 515, 1132, 1133, 1134, 2, 1135, 35, 702, 703, 704, 705, 706, 707, 19, 550, 708, 1136, 379, 380, 33, 381, 321, 267, 280, 287, 298, 281, 293, 303, 288, 322, 520, 521, 522, 523, 524, 1137, 1138, 1139, 1140, 1141, 284, 285, 286, 289, 290, 291, 292, 282, 294, 295, 296, 297, 299, 300, 301, 302, 709, 264, 265, 266, 1012, 277, 278, 279, 1508, 1509, 1510, 1511, 1512, 1513, 1514, 1515, 1516, 1517, 1518, 1548, 1549, 1550, 1556, 1557, 1558, 1559, 1560, 1561, 1562, 1563, 1564, 1565] (by decide +kernel) (by decide +kernel)) (goodIn_sub (fun _ h => List.mem_append_left _ (List.mem_append_right _ h)) (by decide +kernel))) (goodIn_sub (fun _ h => List.mem_append_left _ (List.mem_append_left _ (List.mem_append_left _ (List.mem_append_right _ h)))) (by decide +kernel))
set_option maxRecDepth 20000 in
theorem gL_law_L_interestOfPayment : GoodIn wsL_law (va_wsS RL 286 yL_interestOfPayment wsL_interestOfPayment) := goodIn_app (goodIn_of _ (by decide +kernel)) ggL_law_L_interestOfPayment
set_option maxRecDepth 20000 in
theorem ggL_law_X8_interestOfPayment : GoodIn wsL_law wsX8_interestOfPayment := goodIn_r _ [1145, 439, 1146, 1147, 1148, 5, 1149, 505, 715, 716, 717, 718, 394, 529, 530, 531, 532, 1150, 1151, 1152, 1153, 435, 427, 428, 429, 430, 417, 418, 419, 420, 431, 432, 433, 434, 436, 437, 438, 425, 440, 441, 442, 443, 444, 1519, 1520, 1521, 1522, 1523, 1524, 1525, 1526, 1527, 1528, 1529, 1530, 1531, 1532, 1533, 1534, 1535, 1536, 1537, 1538, 1539, 1540, 1541, 1542, 1543, 1544, 1545, 1546, 1547] (by decide +kernel) (by decide +kernel)
set_option maxRecDepth 20000 in
theorem gL_law_X8_interestOfPayment : GoodIn wsL_law (wsV RL 288 RX8 yX8_interestOfPayment wsX8_interestOfPayment) := goodIn_app (goodIn_of _ (by decide +kernel)) ggL_law_X8_interestOfPayment
set_option maxRecDepth 20000 in
theorem ggL_law_L_amountOfPayment : GoodIn wsL_law wsL_amountOfPayment := goodIn_ca (goodIn_ca (goodIn_r _ [1156, 697, 515, 1157, 1158, 1159, 2, 1160, 35, 702, 703, 704, 705, 706, 707, 19, 550, 708, 1136, 379, 380, 33, 381, 321, 267, 280, 287, 298, 281, 293, 303, 288, 322, 520, 521, 522, 523, 524, 1137, 1138, 1139, 1140, 1141, 284, 285, 286, 289, 290, 291, 292, 282, 294, 295, 296, 297, 299, 300, 301, 302, 709, 264, 265, 266, 1028, 1029, 1030, 1031, 327, 277, 278, 279, 1508, 1509, 1510, 1511, 1512, 1513, 1514, 1515, 1516, 1517, 1518, 1548, 1549, 1550, 1556, 1557, 1558, 1559, 1560, 1561, 1562, 1563, 1564, 1565] (by decide +kernel) (by decide +kernel)) (goodIn_sub (fun _ h => List.mem_append_left _ (List.mem_append_right _ h)) (by decide +kernel))) (goodIn_sub (fun _ h => List.mem_append_left _ (List.mem_append_left _ (List.mem_append_left _ (List.mem_append_right _ h)))) (by decide +kernel))
set_option maxRecDepth 20000 in
theorem gL_law_L_amountOfPayment : GoodIn wsL_law (va_wsS RL 289 yL_amountOfPayment wsL_amountOfPayment) := goodIn_app (goodIn_of _ (by decide +kernel)) ggL_law_L_amountOfPayment
set_option maxRecDepth 20000 in
theorem ggL_law_X8_amountOfPayment : GoodIn wsL_law wsX8_amountOfPayment := goodIn_r _ [1164, 425, 1146, 1147, 1148, 5, 1149, 505, 715, 716, 717, 718, 394, 529, 530, 531, 532, 1150, 1151, 1152, 1153, 435, 427, 428, 429, 430, 417, 418, 419, 420, 431, 432, 433, 434, 436, 437, 438, 439, 440, 441, 442, 443, 444, 1519, 1520, 1521, 1522, 1523, 1524, 1525, 1526, 1527, 1528, 1529, 1530, 1531, 1532, 1533, 1534, 1535, 1536, 1537, 1538, 1539, 1540, 1541, 1542, 1543, 1544, 1545, 1546, 1547] (by decide +kernel) (by decide +kernel)
set_option maxRecDepth 20000 in
theorem gL_law_X8_amountOfPayment : GoodIn wsL_law (wsV RL 291 RX8 yX8_amountOfPayment wsX8_amountOfPayment) := goodIn_app (goodIn_of _ (by decide +kernel)) ggL_law_X8_amountOfPayment
set_option maxRecDepth 20000 in
theorem ggL_law_L_paymentsTo : GoodIn wsL_law wsL_paymentsTo := goodIn_ca (goodIn_ca (goodIn_r _ [1167, 697, 515, 1168, 1169, 1170, 2, 1171, 678, 702, 703, 704, 705, 706, 707, 19, 550, 708, 520, 521, 522, 523, 524, 1172, 1173, 1174, 1175, 35, 735, 1136, 379, 380, 33, 381, 321, 267, 280, 287, 298, 281, 293, 303, 288, 322, 1176, 284, 285, 286, 289, 290, 291, 292, 282, 294, 295, 296, 297, 299, 300, 301, 302, 1508, 1509, 1510, 1511, 1512, 1513, 1514, 1515, 1516, 1517, 1518, 1548, 1549, 1550, 1556, 1557, 1558, 1559, 1560, 1561, 1562, 1563, 1564, 1565] (by decide +kernel) (by decide +kernel)) (goodIn_sub (fun _ h => List.mem_append_left _ (List.mem_append_right _ h)) (by decide +kernel))) (goodIn_sub (fun _ h => List.mem_append_left _ (List.mem_append_left _ (List.mem_append_left _ (List.mem_append_right _ h)))) (by decide +kernel))
set_option maxRecDepth 20000 in
theorem gL_law_L_paymentsTo : GoodIn wsL_law (va_wsS RL 292 yL_paymentsTo wsL_paymentsTo) := goodIn_app (goodIn_of _ (by decide +kernel)) ggL_law_L_paymentsTo
set_option maxRecDepth 20000 in
theorem ggL_law_X8_paymentsTo : GoodIn wsL_law wsX8_paymentsTo := goodIn_r _ [1180, 505, 626, 435, 715, 716, 717, 5, 718, 394, 529, 530, 531, 532, 427, 428, 429, 430, 417, 418, 419, 420, 431, 432, 433, 434, 436, 437, 438, 425, 439, 440, 441, 442, 443, 444, 1519, 1520, 1521, 1522, 1523, 1524, 1525, 1526, 1527, 1528, 1529, 1530, 1531, 1532, 1533, 1534, 1535, 1536, 1537, 1538, 1539, 1540, 1541, 1542, 1543, 1544, 1545, 1546, 1547] (by decide +kernel) (by decide +kernel)
set_option maxRecDepth 20000 in
theorem gL_law_X8_paymentsTo : GoodIn wsL_law (wsV RL 294 RX8 yX8_paymentsTo wsX8_paymentsTo) := goodIn_app (goodIn_of _ (by decide +kernel)) ggL_law_X8_paymentsTo
set_option maxRecDepth 20000 in
theorem ggL_law_L_balanceAfter : GoodIn wsL_law wsL_balanceAfter := goodIn_ca (goodIn_ca (goodIn_r _ [1183, 697, 515, 1184, 1185, 1186, 2, 1187, 35, 735, 702, 703, 704, 705, 706, 707, 19, 550, 708, 1136, 379, 380, 33, 381, 321, 267, 280, 287, 298, 281, 293, 303, 288, 322, 520, 521, 522, 523, 524, 1137, 1138, 1139, 1140, 1141, 284, 285, 286, 289, 290, 291, 292, 282, 294, 295, 296, 297, 299, 300, 301, 302, 1508, 1509, 1510, 1511, 1512, 1513, 1514, 1515, 1516, 1517, 1518, 1556, 1557, 1558, 1559, 1560, 1561, 1562, 1563, 1564, 1565, 1548, 1549, 1550] (by decide +kernel) (by decide +kernel)) (goodIn_sub (fun _ h => List.mem_append_left _ (List.mem_append_right _ h)) (by decide +kernel))) (goodIn_sub (fun _ h => List.mem_append_left _ (List.mem_append_left _ (List.mem_append_left _ (List.mem_append_right _ h)))) (by decide +kernel))
set_option maxRecDepth 20000 in
theorem gL_law_L_balanceAfter : GoodIn wsL_law (va_wsS RL 295 yL_balanceAfter wsL_balanceAfter) := goodIn_app (goodIn_of _ (by decide +kernel)) ggL_law_L_balanceAfter
set_option maxRecDepth 20000 in
theorem ggL_law_X8_balanceAfter : GoodIn wsL_law wsX8_balanceAfter := goodIn_r _ [1191, 505, 435, 715, 716, 717, 5, 718, 394, 529, 530, 531, 532, 427, 428, 429, 430, 417, 418, 419, 420, 431, 432, 433, 434, 436, 437, 438, 425, 439, 440, 441, 442, 443, 444, 1519, 1520, 1521, 1522, 1523, 1524, 1525, 1526, 1527, 1528, 1529, 1530, 1531, 1532, 1533, 1534, 1535, 1536, 1537, 1538, 1539, 1540, 1541, 1542, 1543, 1544, 1545, 1546, 1547] (by decide +kernel) (by decide +kernel)
set_option maxRecDepth 20000 in
theorem gL_law_X8_balanceAfter : GoodIn wsL_law (wsV RL 297 RX8 yX8_balanceAfter wsX8_balanceAfter) := goodIn_app (goodIn_of _ (by decide +kernel)) ggL_law_X8_balanceAfter
set_option maxRecDepth 20000 in
theorem ggL_law_L_interestAhead : GoodIn wsL_law wsL_interestAhead := goodIn_ca (goodIn_r _ [1194, 697, 1195, 1196, 1197, 2, 1198, 702, 703, 704, 705, 706, 707, 19, 550, 708, 1199, 1200, 1201, 1202, 35, 1043, 1136, 379, 380, 33, 381, 321, 267, 280, 287, 298, 281, 293, 303, 288, 322, 1137, 1138, 1139, 1140, 1141, 284, 285, 286, 289, 290, 291, 292, 282, 294, 295, 296, 297, 299, 300, 301, 302, 1508, 1509, 1510, 1511, 1512, 1513, 1514, 1515, 1516, 1517, 1518, 1548, 1549, 1550, 1556, 1557, 1558, 1559, 1560, 1561, 1562, 1563, 1564, 1565] (by decide +kernel) (by decide +kernel)) (goodIn_sub (fun _ h => List.mem_append_left _ (List.mem_append_right _ h)) (by decide +kernel))
set_option maxRecDepth 20000 in
theorem gL_law_L_interestAhead : GoodIn wsL_law (va_wsS RL 298 yL_interestAhead wsL_interestAhead) := goodIn_app (goodIn_of _ (by decide +kernel)) ggL_law_L_interestAhead
set_option maxRecDepth 20000 in
theorem ggL_law_X8_interestAhead : GoodIn wsL_law wsX8_interestAhead := goodIn_r _ [1206, 1017, 1018, 1019, 5, 1020, 505, 715, 716, 717, 718, 394, 529, 530, 531, 532, 457, 458, 459, 460, 417, 418, 419, 420, 1207, 1208, 1209, 1210, 438, 1211, 1212, 1213, 1214, 427, 428, 429, 430, 431, 432, 433, 434, 435, 436, 437, 425, 439, 449, 450, 451, 452, 440, 441, 442, 443, 444, 1519, 1520, 1521, 1522, 1523, 1524, 1525, 1526, 1527, 1528, 1529, 1530, 1531, 1532, 1533, 1534, 1535, 1536, 1537, 1538, 1539, 1540, 1541, 1542, 1543, 1544, 1545, 1546, 1547] (by decide +kernel) (by decide +kernel)
set_option maxRecDepth 20000 in
theorem gL_law_X8_interestAhead : GoodIn wsL_law (wsV RL 300 RX8 yX8_interestAhead wsX8_interestAhead) := goodIn_app (goodIn_of _ (by decide +kernel)) ggL_law_X8_interestAhead
set_option maxRecDepth 20000 in
theorem ggL_law_L_lastDue : GoodIn wsL_law wsL_lastDue := goodIn_ca (goodIn_r _ [1217, 697, 1218, 1219, 1220, 2, 1221, 702, 703, 704, 705, 706, 707, 19, 550, 708, 1222, 1223, 1224, 1225, 35, 1136, 379, 380, 33, 381, 321, 267, 280, 287, 298, 281, 293, 303, 288, 322, 1137, 1138, 1139, 1140, 1141, 284, 285, 286, 289, 290, 291, 292, 282, 294, 295, 296, 297, 299, 300, 301, 302, 1508, 1509, 1510, 1511, 1512, 1513, 1514, 1515, 1516, 1517, 1518, 1548, 1549, 1550, 1556, 1557, 1558, 1559, 1560, 1561, 1562, 1563, 1564, 1565] (by decide +kernel) (by decide +kernel)) (goodIn_sub (fun _ h => List.mem_append_left _ (List.mem_append_right _ h)) (by decide +kernel))
set_option maxRecDepth 20000 in
theorem gL_law_L_lastDue : GoodIn wsL_law (va_wsS RL 301 yL_lastDue wsL_lastDue) := goodIn_app (goodIn_of _ (by decide +kernel)) ggL_law_L_lastDue
set_option maxRecDepth 20000 in
theorem ggL_law_X8_lastDue : GoodIn wsL_law wsX8_lastDue := goodIn_r _ [1229, 1017, 1018, 1019, 5, 1020, 505, 715, 716, 717, 718, 394, 529, 530, 531, 532, 457, 458, 459, 460, 417, 418, 419, 420, 1211, 1212, 1213, 1214, 427, 428, 429, 430, 431, 432, 433, 434, 435, 436, 437, 438, 425, 439, 449, 450, 451, 452, 440, 441, 442, 443, 444, 1519, 1520, 1521, 1522, 1523, 1524, 1525, 1526, 1527, 1528, 1529, 1530, 1531, 1532, 1533, 1534, 1535, 1536, 1537, 1538, 1539, 1540, 1541, 1542, 1543, 1544, 1545, 1546, 1547] (by decide +kernel) (by decide +kernel)
set_option maxRecDepth 20000 in
theorem gL_law_X8_lastDue : GoodIn wsL_law (wsV RL 303 RX8 yX8_lastDue wsX8_lastDue) := goodIn_app (goodIn_of _ (by decide +kernel)) ggL_law_X8_lastDue
set_option maxRecDepth 20000 in
theorem ggL_law_L_monthsToHalf : GoodIn wsL_law wsL_monthsToHalf := goodIn_ca (goodIn_r _ [1232, 697, 1233, 1234, 1235, 2, 1236, 939, 702, 703, 704, 705, 706, 707, 19, 550, 708, 1172, 1173, 1174, 1175, 35, 735, 1136, 379, 380, 33, 381, 321, 267, 280, 287, 298, 281, 293, 303, 288, 322, 1176, 284, 285, 286, 289, 290, 291, 292, 282, 294, 295, 296, 297, 299, 300, 301, 302, 1556, 1557, 1558, 1559, 1560, 1561, 1562, 1563, 1564, 1565, 1508, 1509, 1510, 1511, 1512, 1513, 1514, 1515, 1516, 1517, 1518, 1548, 1549, 1550] (by decide +kernel) (by decide +kernel)) (goodIn_sub (fun _ h => List.mem_append_left _ (List.mem_append_right _ h)) (by decide +kernel))
set_option maxRecDepth 20000 in
theorem gL_law_L_monthsToHalf : GoodIn wsL_law (va_wsS RL 304 yL_monthsToHalf wsL_monthsToHalf) := goodIn_app (goodIn_of _ (by decide +kernel)) ggL_law_L_monthsToHalf
set_option maxRecDepth 20000 in
theorem ggL_law_X8_monthsToHalf : GoodIn wsL_law wsX8_monthsToHalf := goodIn_r _ [1240, 426, 435, 1017, 1018, 1019, 5, 1020, 505, 715, 716, 717, 718, 394, 529, 530, 531, 532, 457, 458, 459, 460, 417, 418, 419, 420, 427, 428, 429, 430, 431, 432, 433, 434, 436, 437, 438, 425, 439, 440, 441, 442, 443, 444, 1519, 1520, 1521, 1522, 1523, 1524, 1525, 1526, 1527, 1528, 1529, 1530, 1531, 1532, 1533, 1534, 1535, 1536, 1537, 1538, 1539, 1540, 1541, 1542, 1543, 1544, 1545, 1546, 1547] (by decide +kernel) (by decide +kernel)
set_option maxRecDepth 20000 in
theorem gL_law_X8_monthsToHalf : GoodIn wsL_law (wsV RL 306 RX8 yX8_monthsToHalf wsX8_monthsToHalf) := goodIn_app (goodIn_of _ (by decide +kernel)) ggL_law_X8_monthsToHalf
set_option maxRecDepth 20000 in
theorem ggL_law_L_installmentFor : GoodIn wsL_law wsL_installmentFor := goodIn_ca (goodIn_ca (goodIn_r _ [1243, 697, 515, 1244, 1245, 1246, 2, 1247, 702, 703, 704, 705, 706, 707, 19, 550, 708, 520, 521, 522, 523, 524, 709, 264, 265, 33, 266, 267, 1248, 324, 325, 326, 327, 277, 278, 279, 280, 281, 282, 328, 329, 330, 331, 1508, 1509, 1510, 1511, 1512, 1513, 1514, 1515, 1516, 1517, 1518, 1548, 1549, 1550, 1556, 1557, 1558, 1559, 1560, 1561, 1562, 1563, 1564, 1565] (by decide +kernel) (by decide +kernel)) (goodIn_sub (fun _ h => List.mem_append_left _ (List.mem_append_right _ h)) (by decide +kernel))) (goodIn_sub (fun _ h => List.mem_append_left _ (List.mem_append_left _ (List.mem_append_left _ (List.mem_append_right _ h)))) (by decide +kernel))
set_option maxRecDepth 20000 in
theorem gL_law_L_installmentFor : GoodIn wsL_law (va_wsS RL 307 yL_installmentFor wsL_installmentFor) := goodIn_app (goodIn_of _ (by decide +kernel)) ggL_law_L_installmentFor
set_option maxRecDepth 20000 in
theorem ggL_law_X8_installmentFor : GoodIn wsL_law wsX8_installmentFor := goodIn_r _ [1252, 505, 715, 716, 717, 5, 718, 394, 529, 530, 531, 532, 457, 458, 459, 460, 417, 418, 419, 420, 421, 422, 423, 424, 425, 426, 427, 428, 429, 430, 431, 432, 433, 434, 435, 436, 437, 438, 439, 440, 441, 442, 443, 444, 445, 446, 447, 448, 449, 450, 451, 452, 1519, 1520, 1521, 1522, 1523, 1524, 1525, 1526, 1527, 1528, 1529, 1530, 1531, 1532, 1533, 1534, 1535, 1536, 1537, 1538, 1539, 1540, 1541, 1542, 1543, 1544, 1545, 1546, 1547] (by decide +kernel) (by decide +kernel)
set_option maxRecDepth 20000 in
theorem gL_law_X8_installmentFor : GoodIn wsL_law (wsV RL 309 RX8 yX8_installmentFor wsX8_installmentFor) := goodIn_app (goodIn_of _ (by decide +kernel)) ggL_law_X8_installmentFor
set_option maxRecDepth 20000 in
theorem ggL_law_L_monthsFor : GoodIn wsL_law wsL_monthsFor := goodIn_ca (goodIn_ca (goodIn_r _ [1255, 697, 515, 1256, 1257, 1258, 2, 1259, 678, 702, 703, 704, 705, 706, 707, 19, 550, 708, 520, 521, 522, 523, 524, 709, 264, 265, 33, 266, 267, 1260, 329, 330, 331, 281, 280, 282, 1508, 1509, 1510, 1511, 1512, 1513, 1514, 1515, 1516, 1517, 1518, 1548, 1549, 1550, 1556, 1557, 1558, 1559, 1560, 1561, 1562, 1563, 1564, 1565] (by decide +kernel) (by decide +kernel)) (goodIn_sub (fun _ h => List.mem_append_left _ (List.mem_append_right _ h)) (by decide +kernel))) (goodIn_sub (fun _ h => List.mem_append_left _ (List.mem_append_left _ (List.mem_append_left _ (List.mem_append_right _ h)))) (by decide +kernel))
set_option maxRecDepth 20000 in
theorem gL_law_L_monthsFor : GoodIn wsL_law (va_wsS RL 310 yL_monthsFor wsL_monthsFor) := goodIn_app (goodIn_of _ (by decide +kernel)) ggL_law_L_monthsFor
set_option maxRecDepth 20000 in
theorem ggL_law_X8_monthsFor : GoodIn wsL_law wsX8_monthsFor := goodIn_r _ [1264, 505, 626, 715, 716, 717, 5, 718, 394, 529, 530, 531, 532, 457, 458, 459, 460, 417, 418, 419, 420, 485, 486, 487, 488, 445, 446, 447, 448, 427, 428, 429, 430, 431, 432, 433, 434, 435, 436, 437, 438, 425, 439, 449, 450, 451, 452, 440, 441, 442, 443, 444, 1519, 1520, 1521, 1522, 1523, 1524, 1525, 1526, 1527, 1528, 1529, 1530, 1531, 1532, 1533, 1534, 1535, 1536, 1537, 1538, 1539, 1540, 1541, 1542, 1543, 1544, 1545, 1546, 1547] (by decide +kernel) (by decide +kernel)
set_option maxRecDepth 20000 in
theorem gL_law_X8_monthsFor : GoodIn wsL_law (wsV RL 312 RX8 yX8_monthsFor wsX8_monthsFor) := goodIn_app (goodIn_of _ (by decide +kernel)) ggL_law_X8_monthsFor
set_option maxRecDepth 20000 in
theorem ggL_law_L_savingOfExtra : GoodIn wsL_law wsL_savingOfExtra := goodIn_ca (goodIn_ca (goodIn_r _ [1267, 697, 515, 1268, 1269, 1270, 2, 1271, 678, 34, 702, 703, 704, 705, 706, 707, 19, 550, 708, 520, 521, 522, 523, 524, 736, 338, 339, 33, 340, 267, 1136, 379, 380, 381, 321, 280, 287, 298, 281, 293, 303, 288, 322, 1272, 363, 364, 365, 299, 300, 301, 302, 323, 324, 325, 326, 327, 277, 278, 279, 282, 328, 329, 330, 331, 1199, 1200, 1201, 1202, 35, 1043, 1137, 1138, 1139, 1140, 1141, 284, 285, 286, 289, 290, 291, 292, 294, 295, 296, 297, 1508, 1509, 1510, 1511, 1512, 1513, 1514, 1515, 1516, 1517, 1518, 1548, 1549, 1550, 1556, 1557, 1558, 1559, 1560, 1561, 1562, 1563, 1564, 1565] (by decide +kernel) (by decide +kernel)) (goodIn_sub (fun _ h => List.mem_append_left _ (List.mem_append_right _ h)) (by decide +kernel))) (goodIn_sub (fun _ h => List.mem_append_left _ (List.mem_append_left _ (List.mem_append_left _ (List.mem_append_right _ h)))) (by decide +kernel))
set_option maxRecDepth 20000 in
theorem gL_law_L_savingOfExtra : GoodIn wsL_law (va_wsS RL 313 yL_savingOfExtra wsL_savingOfExtra) := goodIn_app (goodIn_of _ (by decide +kernel)) ggL_law_L_savingOfExtra
