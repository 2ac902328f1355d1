theorem gp_X7 : GoodIn wsL_law wsX70 := goodIn_sub inlX7 (by decide +kernel)
theorem gp_X8 : GoodIn wsL_law wsX80 := goodIn_sub inlX8 (by decide +kernel)
theorem gp_X3 : GoodIn wsL_law wsX30 := goodIn_sub inlX3 (by decide +kernel)
theorem gp_X1 : GoodIn wsL_law wsX10 := goodIn_sub inlX1 (by decide +kernel)
theorem gp_X4 : GoodIn wsL_law wsX40 := goodIn_sub inlX4 (by decide +kernel)
theorem gp_X2 : GoodIn wsL_law wsX20 := goodIn_sub inlX2 (by decide +kernel)
theorem gp_X5 : GoodIn wsL_law wsX50 := goodIn_sub inlX5 (by decide +kernel)
theorem gp_X0 : GoodIn wsL_law wsX00 := goodIn_sub inlX0 (by decide +kernel)
theorem gp_X6 : GoodIn wsL_law wsX60 := goodIn_sub inlX6 (by decide +kernel)
set_option maxRecDepth 20000 in
theorem gp_wsX7_init_r1 : GoodIn wsL_law wsX7_init_r1 := goodIn_r _ [10, 11, 12, 13, 14, 15, 16, 17, 18, 19, 20, 21, 22, 23, 24, 25, 26, 27, 28, 29, 30, 31, 32, 33] (by decide +kernel) (by decide +kernel)
set_option maxRecDepth 20000 in
theorem gp_wsX7_init_r2 : GoodIn wsL_law wsX7_init_r2 := goodIn_r _ [34, 35, 36, 37, 38, 39, 40, 41, 42, 43, 44, 45, 46, 47, 48, 49, 50, 51, 52, 53, 54, 55, 56, 57] (by decide +kernel) (by decide +kernel)
set_option maxRecDepth 20000 in
theorem gp_wsX7_init_r3 : GoodIn wsL_law wsX7_init_r3 := goodIn_r _ [58, 59, 60, 61, 62, 63, 64, 65, 66, 67, 68, 69, 70, 71, 72, 73, 74, 75, 76, 77, 78, 79, 80, 81] (by decide +kernel) (by decide +kernel)
set_option maxRecDepth 20000 in
theorem gp_wsX7_init_r4 : GoodIn wsL_law wsX7_init_r4 := goodIn_r _ [82, 83, 84, 85, 86, 87, 88, 89, 90, 91, 92, 93, 94, 95, 96, 97, 98, 99, 100, 101, 102, 103, 104, 105] (by decide +kernel) (by decide +kernel)
set_option maxRecDepth 20000 in
theorem gp_wsX7_init_r5 : GoodIn wsL_law wsX7_init_r5 := goodIn_r _ [106, 107, 108, 109, 110, 111, 112, 113, 114, 115, 116, 117, 118, 119, 120, 121, 122, 123, 124, 125, 126, 127, 128, 129] (by decide +kernel) (by decide +kernel)
set_option maxRecDepth 20000 in
theorem gp_wsX7_init_r6 : GoodIn wsL_law wsX7_init_r6 := goodIn_r _ [130, 131, 132, 133, 134, 135, 136, 137, 138, 139, 140, 141, 142, 143, 144, 145, 146, 147, 148, 149, 150, 151, 152, 153] (by decide +kernel) (by decide +kernel)
set_option maxRecDepth 20000 in
theorem gp_wsX7_init_r7 : GoodIn wsL_law wsX7_init_r7 := goodIn_r _ [154, 155, 156, 157, 158, 159, 160, 161, 162, 163, 164, 165, 166, 167, 168, 169, 170, 171, 172, 173, 174, 175, 176, 177] (by decide +kernel) (by decide +kernel)
set_option maxRecDepth 20000 in
theorem gp_wsX7_init_r8 : GoodIn wsL_law wsX7_init_r8 := goodIn_r _ [178, 179, 180, 181, 182, 183, 184, 185, 186, 187, 188, 189, 190, 191, 192, 193, 194, 195, 196, 197, 198, 199, 200, 201] (by decide +kernel) (by decide +kernel)
set_option maxRecDepth 20000 in
theorem gp_wsX7_init_r9 : GoodIn wsL_law wsX7_init_r9 := goodIn_r _ [202, 203, 204, 205, 206, 207, 208, 209, 210, 211, 212, 213, 214, 215, 216, 217, 218, 219, 220, 221, 222, 223, 224, 225] (by decide +kernel) (by decide +kernel)
set_option maxRecDepth 20000 in
theorem gp_wsX7_init_r10 : GoodIn wsL_law wsX7_init_r10 := goodIn_r _ [226, 227, 228, 229, 230, 231, 232, 233, 234, 235, 236, 237, 238, 239, 240, 241, 242, 243, 244, 245, 246, 247, 248, 249] (by decide +kernel) (by decide +kernel)
set_option maxRecDepth 20000 in
theorem gp_wsX7_init_r11 : GoodIn wsL_law wsX7_init_r11 := goodIn_r _ [250, 251, 252, 253, 254, 255, 256, 257, 258, 259, 260, 261, 262, 263, 264, 265, 266, 267, 268, 269, 270, 271, 272, 273] (by decide +kernel) (by decide +kernel)
set_option maxRecDepth 20000 in
theorem gp_wsX7_init_r12 : GoodIn wsL_law wsX7_init_r12 := goodIn_r _ [274, 275, 276, 277, 278, 279, 280, 281, 282, 283, 284, 285, 286, 287, 288, 289, 290, 291, 292, 293, 294, 295, 296, 297] (by decide +kernel) (by decide +kernel)
set_option maxRecDepth 20000 in
theorem gp_wsX7_init_r13 : GoodIn wsL_law wsX7_init_r13 := goodIn_r _ [298, 299, 300, 301, 302, 303, 304, 305, 306, 307, 308, 309, 310, 311, 312, 313, 314, 315, 316, 317, 318, 319, 320, 321] (by decide +kernel) (by decide +kernel)
set_option maxRecDepth 20000 in
theorem gp_wsX7_init_r14 : GoodIn wsL_law wsX7_init_r14 := goodIn_r _ [322, 323, 324, 325, 326, 327, 328, 329, 330, 331, 332, 333, 334, 335, 336, 337, 338, 339, 340, 341, 342, 343, 344, 345] (by decide +kernel) (by decide +kernel)
set_option maxRecDepth 20000 in
theorem gp_wsX7_init_r15 : GoodIn wsL_law wsX7_init_r15 := goodIn_r _ [346, 347, 348, 349, 350, 351, 352, 353, 354, 355, 356, 357, 358, 359, 360, 361, 362, 363, 364, 365, 366, 367, 368, 369] (by decide +kernel) (by decide +kernel)
set_option maxRecDepth 20000 in
theorem gp_wsX7_init_r16 : GoodIn wsL_law wsX7_init_r16 := goodIn_r _ [370, 371, 372, 373, 374, 375, 376, 377, 378, 379, 380, 381, 382, 383, 384, 385, 386, 387, 388, 389] (by decide +kernel) (by decide +kernel)
set_option maxRecDepth 20000 in
theorem gp_X7_init_c : GoodIn wsL_law [.code yX7_init cX7_init 3 none] := goodIn_r _ [9] (by decide +kernel) (by decide +kernel)
theorem ggL_law_X7_init : GoodIn wsL_law wsX7_init := goodIn_app gp_X7_init_c (goodIn_app (goodIn_app (goodIn_app (goodIn_app (goodIn_app (goodIn_app (goodIn_app (goodIn_app (goodIn_app gp_wsX7_init_r1 (goodIn_app gp_wsX7_init_r2 (goodIn_app gp_wsX7_init_r3 (goodIn_app gp_wsX7_init_r4 (goodIn_app gp_wsX7_init_r5 (goodIn_app gp_wsX7_init_r6 (goodIn_app gp_wsX7_init_r7 (goodIn_app gp_wsX7_init_r8 (goodIn_app gp_wsX7_init_r9 (goodIn_app gp_wsX7_init_r10 (goodIn_app gp_wsX7_init_r11 (goodIn_app gp_wsX7_init_r12 (goodIn_app gp_wsX7_init_r13 (goodIn_app gp_wsX7_init_r14 (goodIn_app gp_wsX7_init_r15 gp_wsX7_init_r16))))))))))))))) gp_X7) gp_X3) gp_X1) gp_X4) gp_X2) gp_X5) gp_X0) gp_X6)
set_option maxRecDepth 20000 in
theorem gL_law_X7_init : GoodIn wsL_law (wsX7_init) := ggL_law_X7_init
set_option maxRecDepth 20000 in
theorem ggL_law_X8_init : GoodIn wsL_law wsX8_init := goodIn_r _ [392, 393, 11, 12, 54, 394, 395, 396, 397, 398, 399, 400, 13, 401, 402, 403, 404, 405, 406, 407, 5, 408, 409, 410, 411, 412, 413, 414, 415, 416, 417, 418, 419, 420, 421, 422, 423, 424, 425, 426, 427, 428, 429, 430, 431, 432, 433, 434, 435, 436, 437, 438, 439, 440, 441, 442, 443, 444, 445, 446, 447, 448, 449, 450, 451, 452, 453, 454, 455, 456, 457, 458, 459, 460, 461, 462, 463, 464, 465, 466, 467, 468, 469, 470, 471, 472, 473, 474, 475, 476, 477, 478, 479, 480, 481, 482, 483, 484, 485, 486, 487, 488, 489, 490, 491, 492, 1519, 1520, 1521, 1522, 1523, 1524, 1525, 1526, 1527, 1528, 1529, 1530, 1531, 1532, 1533, 1534, 1535, 1536, 1537, 1538, 1539, 1540, 1541, 1542, 1543, 1544, 1545, 1546, 1547] (by decide +kernel) (by decide +kernel)
set_option maxRecDepth 20000 in
theorem gL_law_X8_init : GoodIn wsL_law (wsX8_init) := ggL_law_X8_init
set_option maxRecDepth 20000 in
theorem ggL_law_X7_append : GoodIn wsL_law wsX7_append := goodIn_r _ [496, 15, 497, 498, 499, 2, 500, 14, 1508, 1509, 1510, 1511, 1512, 1513, 1514, 1515, 1516, 1517, 1518] (by decide +kernel) (by decide +kernel)
set_option maxRecDepth 20000 in
theorem gL_law_X7_append : GoodIn wsL_law (wsV RL 146 RX7 yX7_append wsX7_append) := goodIn_app (goodIn_of _ (by decide +kernel)) ggL_law_X7_append
set_option maxRecDepth 20000 in
theorem ggL_law_X8_append : GoodIn wsL_law wsX8_append := goodIn_r _ [504, 505, 506, 507, 508, 509, 5, 510, 400, 1519, 1520, 1521, 1522, 1523, 1524, 1525, 1526, 1527, 1528, 1529, 1530, 1531, 1532, 1533, 1534, 1535, 1536, 1537, 1538, 1539, 1540, 1541, 1542, 1543, 1544, 1545, 1546, 1547] (by decide +kernel) (by decide +kernel)
set_option maxRecDepth 20000 in
theorem gL_law_X8_append : GoodIn wsL_law (wsV RL 150 RX8 yX8_append wsX8_append) := goodIn_app (goodIn_of _ (by decide +kernel)) ggL_law_X8_append
set_option maxRecDepth 20000 in
theorem ggL_law_L_truncateInput : GoodIn wsL_law wsL_truncateInput := goodIn_ca (goodIn_r _ [514, 515, 516, 517, 518, 2, 519, 15, 520, 521, 522, 523, 524, 1508, 1509, 1510, 1511, 1512, 1513, 1514, 1515, 1516, 1517, 1518] (by decide +kernel) (by decide +kernel)) (goodIn_sub (fun _ h => List.mem_append_left _ (List.mem_append_left _ (List.mem_append_left _ (List.mem_append_right _ h)))) (by decide +kernel))
set_option maxRecDepth 20000 in
theorem gL_law_L_truncateInput : GoodIn wsL_law (va_wsS RL 151 yL_truncateInput wsL_truncateInput) := goodIn_app (goodIn_of _ (by decide +kernel)) ggL_law_L_truncateInput
set_option maxRecDepth 20000 in
theorem ggL_law_X8_truncateInput : GoodIn wsL_law wsX8_truncateInput := goodIn_r _ [528, 505, 506, 529, 530, 531, 5, 532, 1519, 1520, 1521, 1522, 1523, 1524, 1525, 1526, 1527, 1528, 1529, 1530, 1531, 1532, 1533, 1534, 1535, 1536, 1537, 1538, 1539, 1540, 1541, 1542, 1543, 1544, 1545, 1546, 1547] (by decide +kernel) (by decide +kernel)
set_option maxRecDepth 20000 in
theorem gL_law_X8_truncateInput : GoodIn wsL_law (wsV RL 156 RX8 yX8_truncateInput wsX8_truncateInput) := goodIn_app (goodIn_of _ (by decide +kernel)) ggL_law_X8_truncateInput
set_option maxRecDepth 20000 in
theorem ggL_law_X8_thrown : GoodIn wsL_law wsX8_thrown := goodIn_r _ [536, 505, 1519, 1520, 1521, 1522, 1523, 1524, 1525, 1526, 1527, 1528, 1529, 1530, 1531, 1532, 1533, 1534, 1535, 1536, 1537, 1538, 1539, 1540, 1541, 1542, 1543, 1544, 1545, 1546, 1547] (by decide +kernel) (by decide +kernel)
set_option maxRecDepth 20000 in
theorem gL_law_X8_thrown : GoodIn wsL_law (wsV RL 157 RX8 yX8_thrown wsX8_thrown) := goodIn_app (goodIn_of _ (by decide +kernel)) ggL_law_X8_thrown
set_option maxRecDepth 20000 in
theorem ggL_law_X7_inputLength : GoodIn wsL_law wsX7_inputLength := goodIn_r _ [540, 15, 1508, 1509, 1510, 1511, 1512, 1513, 1514, 1515, 1516, 1517, 1518] (by decide +kernel) (by decide +kernel)
set_option maxRecDepth 20000 in
theorem gL_law_X7_inputLength : GoodIn wsL_law (wsV RL 160 RX7 yX7_inputLength wsX7_inputLength) := goodIn_app (goodIn_of _ (by decide +kernel)) ggL_law_X7_inputLength
set_option maxRecDepth 20000 in
theorem ggL_law_X8_inputLength : GoodIn wsL_law wsX8_inputLength := goodIn_r _ [544, 505, 506, 1519, 1520, 1521, 1522, 1523, 1524, 1525, 1526, 1527, 1528, 1529, 1530, 1531, 1532, 1533, 1534, 1535, 1536, 1537, 1538, 1539, 1540, 1541, 1542, 1543, 1544, 1545, 1546, 1547] (by decide +kernel) (by decide +kernel)
set_option maxRecDepth 20000 in
theorem gL_law_X8_inputLength : GoodIn wsL_law (wsV RL 163 RX8 yX8_inputLength wsX8_inputLength) := goodIn_app (goodIn_of _ (by decide +kernel)) ggL_law_X8_inputLength
set_option maxRecDepth 20000 in
theorem gp_wsX7_runScript_r1 : GoodIn wsL_law wsX7_runScript_r1 := goodIn_r _ [39, 15, 549, 23, 19, 30, 550, 157, 158, 159, 38, 160, 96, 97, 81, 82, 83, 91, 92, 161, 162, 163, 164, 95] (by decide +kernel) (by decide +kernel)
set_option maxRecDepth 20000 in
theorem gp_wsX7_runScript_r2 : GoodIn wsL_law wsX7_runScript_r2 := goodIn_r _ [165, 107, 166, 167, 168, 169, 102, 103, 170, 171, 172, 18, 173, 50, 49, 174, 175, 176, 177, 178, 179, 180, 181, 182] (by decide +kernel) (by decide +kernel)
set_option maxRecDepth 20000 in
theorem gp_wsX7_runScript_r3 : GoodIn wsL_law wsX7_runScript_r3 := goodIn_r _ [183, 104, 105, 184, 185, 186, 187, 188, 189, 190, 191, 192, 193, 194, 195, 196, 197, 198, 199, 200, 201, 106, 202, 203] (by decide +kernel) (by decide +kernel)
set_option maxRecDepth 20000 in
theorem gp_wsX7_runScript_r4 : GoodIn wsL_law wsX7_runScript_r4 := goodIn_r _ [204, 205, 206, 109, 110, 111, 112, 113, 114, 115, 116, 117, 118, 119, 207, 121, 122, 123, 124, 125, 126, 127, 128, 129] (by decide +kernel) (by decide +kernel)
set_option maxRecDepth 20000 in
theorem gp_wsX7_runScript_r5 : GoodIn wsL_law wsX7_runScript_r5 := goodIn_r _ [130, 131, 132, 133, 134, 135, 136, 137, 138, 139, 140, 141, 142, 143, 144, 145, 146, 147, 148, 149, 150, 151, 152, 153] (by decide +kernel) (by decide +kernel)
set_option maxRecDepth 20000 in
theorem gp_wsX7_runScript_r6 : GoodIn wsL_law wsX7_runScript_r6 := goodIn_r _ [154, 155, 156, 208, 209, 210, 211, 212, 213, 214, 215, 216, 217, 218, 219, 220, 221, 222, 223, 224, 225, 226, 227, 228] (by decide +kernel) (by decide +kernel)
set_option maxRecDepth 20000 in
theorem gp_wsX7_runScript_r7 : GoodIn wsL_law wsX7_runScript_r7 := goodIn_r _ [229, 230, 231, 232, 233, 85, 86, 84, 234, 235, 236, 237, 238, 239, 240, 241, 242, 243, 244, 245, 246, 247, 248, 87] (by decide +kernel) (by decide +kernel)
set_option maxRecDepth 20000 in
theorem gp_wsX7_runScript_r8 : GoodIn wsL_law wsX7_runScript_r8 := goodIn_r _ [88, 89, 249, 250, 251, 252, 253, 90, 254, 255, 256, 257, 258, 259, 260, 261, 262, 45, 263, 264, 265, 33, 266, 267] (by decide +kernel) (by decide +kernel)
set_option maxRecDepth 20000 in
theorem gp_wsX7_runScript_r9 : GoodIn wsL_law wsX7_runScript_r9 := goodIn_r _ [268, 269, 270, 271, 272, 273, 274, 275, 276, 277, 278, 279, 280, 281, 282, 283, 284, 285, 286, 287, 288, 289, 290, 291] (by decide +kernel) (by decide +kernel)
set_option maxRecDepth 20000 in
theorem gp_wsX7_runScript_r10 : GoodIn wsL_law wsX7_runScript_r10 := goodIn_r _ [292, 293, 294, 295, 296, 297, 298, 299, 300, 301, 302, 303, 304, 305, 306, 48, 307, 58, 55, 56, 57, 59, 308, 309] (by decide +kernel) (by decide +kernel)
set_option maxRecDepth 20000 in
theorem gp_wsX7_runScript_r11 : GoodIn wsL_law wsX7_runScript_r11 := goodIn_r _ [310, 311, 312, 313, 314, 315, 316, 317, 318, 319, 320, 321, 322, 323, 324, 325, 326, 327, 328, 329, 330, 331, 332, 333] (by decide +kernel) (by decide +kernel)
set_option maxRecDepth 20000 in
theorem gp_wsX7_runScript_r12 : GoodIn wsL_law wsX7_runScript_r12 := goodIn_r _ [334, 335, 336, 337, 338, 339, 340, 341, 342, 343, 344, 345, 346, 347, 348, 349, 350, 351, 352, 353, 354, 355, 356, 357] (by decide +kernel) (by decide +kernel)
set_option maxRecDepth 20000 in
theorem gp_wsX7_runScript_r13 : GoodIn wsL_law wsX7_runScript_r13 := goodIn_r _ [358, 359, 360, 361, 362, 363, 364, 365, 366, 367, 368, 369, 370, 371, 372, 373, 551, 552, 553, 22, 554, 69, 68, 70] (by decide +kernel) (by decide +kernel)
set_option maxRecDepth 20000 in
theorem gp_wsX7_runScript_r14 : GoodIn wsL_law wsX7_runScript_r14 := goodIn_r _ [555, 556, 375, 376, 377, 378, 379, 380, 381, 382, 383, 384, 385, 386, 387, 388, 389, 374] (by decide +kernel) (by decide +kernel)
set_option maxRecDepth 20000 in
theorem gp_X7_runScript_c : GoodIn wsL_law [.code yX7_runScript cX7_runScript 1 (some .int)] := goodIn_r _ [548] (by decide +kernel) (by decide +kernel)
theorem ggL_law_X7_runScript : GoodIn wsL_law wsX7_runScript := goodIn_app gp_X7_runScript_c (goodIn_app (goodIn_app (goodIn_app (goodIn_app (goodIn_app (goodIn_app (goodIn_app (goodIn_app gp_wsX7_runScript_r1 (goodIn_app gp_wsX7_runScript_r2 (goodIn_app gp_wsX7_runScript_r3 (goodIn_app gp_wsX7_runScript_r4 (goodIn_app gp_wsX7_runScript_r5 (goodIn_app gp_wsX7_runScript_r6 (goodIn_app gp_wsX7_runScript_r7 (goodIn_app gp_wsX7_runScript_r8 (goodIn_app gp_wsX7_runScript_r9 (goodIn_app gp_wsX7_runScript_r10 (goodIn_app gp_wsX7_runScript_r11 (goodIn_app gp_wsX7_runScript_r12 (goodIn_app gp_wsX7_runScript_r13 gp_wsX7_runScript_r14))))))))))))) gp_X7) gp_X5) gp_X3) gp_X6) gp_X0) gp_X2) gp_X1)
set_option maxRecDepth 20000 in
theorem gL_law_X7_runScript : GoodIn wsL_law (wsV RL 164 RX7 yX7_runScript wsX7_runScript) := goodIn_app (goodIn_of _ (by decide +kernel)) ggL_law_X7_runScript
set_option maxRecDepth 20000 in
theorem gp_wsX8_runScript_r1 : GoodIn wsL_law wsX8_runScript_r1 := goodIn_r _ [505, 394, 398, 561, 562, 563, 564, 565, 566, 506, 567, 402, 568, 569, 5, 570, 571, 572, 573, 574, 400, 575, 576, 577] (by decide +kernel) (by decide +kernel)
set_option maxRecDepth 20000 in
theorem gp_wsX8_runScript_r2 : GoodIn wsL_law wsX8_runScript_r2 := goodIn_r _ [578, 579, 580, 581, 582, 583, 584, 585, 586, 587, 588, 589, 109, 110, 111, 112, 113, 114, 115, 116, 117, 118, 119, 590] (by decide +kernel) (by decide +kernel)
set_option maxRecDepth 20000 in
theorem gp_wsX8_runScript_r3 : GoodIn wsL_law wsX8_runScript_r3 := goodIn_r _ [121, 122, 123, 124, 125, 126, 127, 128, 129, 130, 131, 132, 133, 134, 135, 136, 137, 138, 139, 140, 141, 142, 143, 144] (by decide +kernel) (by decide +kernel)
set_option maxRecDepth 20000 in
theorem gp_wsX8_runScript_r4 : GoodIn wsL_law wsX8_runScript_r4 := goodIn_r _ [145, 146, 147, 148, 149, 150, 151, 152, 153, 154, 155, 156, 591, 592, 593, 594, 595, 596, 597, 598, 599, 600, 601, 602] (by decide +kernel) (by decide +kernel)
set_option maxRecDepth 20000 in
theorem gp_wsX8_runScript_r5 : GoodIn wsL_law wsX8_runScript_r5 := goodIn_r _ [603, 604, 605, 606, 607, 608, 609, 610, 611, 612, 613, 614, 615, 616, 617, 618, 619, 620, 621, 622, 623, 624, 625, 626] (by decide +kernel) (by decide +kernel)
set_option maxRecDepth 20000 in
theorem gp_wsX8_runScript_r6 : GoodIn wsL_law wsX8_runScript_r6 := goodIn_r _ [627, 628, 629, 630, 405, 406, 407, 408, 409, 410, 411, 412, 413, 414, 415, 416, 417, 418, 419, 420, 421, 422, 423, 424] (by decide +kernel) (by decide +kernel)
set_option maxRecDepth 20000 in
theorem gp_wsX8_runScript_r7 : GoodIn wsL_law wsX8_runScript_r7 := goodIn_r _ [425, 426, 427, 428, 429, 430, 431, 432, 433, 434, 435, 436, 437, 438, 439, 440, 441, 442, 443, 444, 445, 446, 447, 448] (by decide +kernel) (by decide +kernel)
set_option maxRecDepth 20000 in
theorem gp_wsX8_runScript_r8 : GoodIn wsL_law wsX8_runScript_r8 := goodIn_r _ [449, 450, 451, 452, 631, 632, 633, 634, 457, 458, 459, 460, 461, 462, 463, 464, 465, 466, 467, 468, 469, 470, 471, 472] (by decide +kernel) (by decide +kernel)
set_option maxRecDepth 20000 in
theorem gp_wsX8_runScript_r9 : GoodIn wsL_law wsX8_runScript_r9 := goodIn_r _ [473, 474, 475, 476, 477, 478, 479, 480, 453, 454, 455, 456, 635, 636, 637, 638, 639, 640, 641, 642, 481, 482, 483, 484] (by decide +kernel) (by decide +kernel)
set_option maxRecDepth 20000 in
theorem gp_wsX8_runScript_r10 : GoodIn wsL_law wsX8_runScript_r10 := goodIn_r _ [485, 486, 487, 488, 643, 644, 645, 646, 647, 648, 649, 650, 651, 489, 490, 491, 492, 652, 653, 654, 655, 656, 657, 658] (by decide +kernel) (by decide +kernel)
set_option maxRecDepth 20000 in
theorem gp_wsX8_runScript_r11 : GoodIn wsL_law wsX8_runScript_r11 := goodIn_r _ [659, 660, 661, 662, 663, 664, 665, 666, 667, 668, 669, 396] (by decide +kernel) (by decide +kernel)
set_option maxRecDepth 20000 in
theorem gp_X8_runScript_c : GoodIn wsL_law [.code yX8_runScript cX8_runScript 1 (some .int)] := goodIn_r _ [560] (by decide +kernel) (by decide +kernel)
theorem ggL_law_X8_runScript : GoodIn wsL_law wsX8_runScript := goodIn_app gp_X8_runScript_c (goodIn_app (goodIn_app gp_wsX8_runScript_r1 (goodIn_app gp_wsX8_runScript_r2 (goodIn_app gp_wsX8_runScript_r3 (goodIn_app gp_wsX8_runScript_r4 (goodIn_app gp_wsX8_runScript_r5 (goodIn_app gp_wsX8_runScript_r6 (goodIn_app gp_wsX8_runScript_r7 (goodIn_app gp_wsX8_runScript_r8 (goodIn_app gp_wsX8_runScript_r9 (goodIn_app gp_wsX8_runScript_r10 gp_wsX8_runScript_r11)))))))))) gp_X8)
set_option maxRecDepth 20000 in
theorem gL_law_X8_runScript : GoodIn wsL_law (wsV RL 167 RX8 yX8_runScript wsX8_runScript) := goodIn_app (goodIn_of _ (by decide +kernel)) ggL_law_X8_runScript
set_option maxRecDepth 20000 in
theorem ggL_law_L_openLoan : GoodIn wsL_law wsL_openLoan := goodIn_ca (goodIn_ca (goodIn_r _ [672, 515, 673, 674, 675, 676, 2, 677, 678, 19, 23, 550, 520, 521, 522, 523, 524, 679, 310, 311, 18, 312, 50, 680, 681, 682, 683, 684, 551, 552, 553, 22, 554, 69, 68, 70, 555, 167, 168, 169, 556, 375, 376, 377, 45, 49, 378, 379, 380, 33, 381, 321, 267, 280, 287, 298, 281, 293, 303, 288, 322, 382, 383, 384, 48, 385, 55, 386, 387, 388, 389, 56, 57, 58, 59, 685, 314, 315, 316, 317, 318, 319, 320, 323, 324, 325, 326, 327, 277, 278, 279, 282, 328, 329, 330, 331, 1508, 1509, 1510, 1511, 1512, 1513, 1514, 1515, 1516, 1517, 1518, 1548, 1549, 1550, 1551, 1552, 1553, 1556, 1557, 1558, 1559, 1560, 1561, 1562, 1563, 1564, 1565, 1580, 1581, 1582, 1583, 1584] (by decide +kernel) (by decide +kernel)) (goodIn_sub (fun _ h => List.mem_append_left _ (List.mem_append_left _ (List.mem_append_left _ (List.mem_append_right _ h)))) (by decide +kernel))) (goodIn_sub (fun _ h => List.mem_append_left _ (List.mem_append_left _ (List.mem_append_right _ h))) (by decide +kernel))
set_option maxRecDepth 20000 in
theorem gL_law_L_openLoan : GoodIn wsL_law (va_wsS RL 168 yL_openLoan wsL_openLoan) := goodIn_app (goodIn_of _ (by decide +kernel)) ggL_law_L_openLoan
set_option maxRecDepth 20000 in
theorem ggL_law_X8_openLoan : GoodIn wsL_law wsX8_openLoan := goodIn_r _ [689, 505, 626, 394, 529, 530, 531, 5, 532, 690, 691, 692, 693, 665, 666, 667, 668, 669, 396, 568, 569, 570, 405, 406, 407, 408, 409, 410, 411, 412, 413, 414, 415, 416, 417, 418, 419, 420, 421, 422, 423, 424, 425, 426, 427, 428, 429, 430, 431, 432, 433, 434, 435, 436, 437, 438, 439, 440, 441, 442, 443, 444, 445, 446, 447, 448, 449, 450, 451, 452, 1519, 1520, 1521, 1522, 1523, 1524, 1525, 1526, 1527, 1528, 1529, 1530, 1531, 1532, 1533, 1534, 1535, 1536, 1537, 1538, 1539, 1540, 1541, 1542, 1543, 1544, 1545, 1546, 1547] (by decide +kernel) (by decide +kernel)
set_option maxRecDepth 20000 in
theorem gL_law_X8_openLoan : GoodIn wsL_law (wsV RL 171 RX8 yX8_openLoan wsX8_openLoan) := goodIn_app (goodIn_of _ (by decide +kernel)) ggL_law_X8_openLoan
set_option maxRecDepth 20000 in
theorem ggL_law_L_pay : GoodIn wsL_law wsL_pay := goodIn_ca (goodIn_ca (goodIn_r _ [696, 697, 673, 698, 699, 700, 2, 701, 23, 19, 702, 703, 704, 705, 706, 707, 550, 708, 709, 264, 265, 33, 266, 267, 680, 681, 682, 683, 684, 551, 552, 553, 22, 554, 69, 68, 70, 555, 167, 168, 169, 556, 375, 376, 18, 377, 50, 45, 49, 378, 379, 380, 381, 321, 280, 287, 298, 281, 293, 303, 288, 322, 382, 383, 384, 48, 385, 55, 386, 387, 388, 389, 56, 57, 58, 59, 710, 269, 270, 271, 272, 273, 274, 275, 276, 277, 278, 279, 282, 283, 284, 285, 286, 289, 290, 291, 292, 294, 295, 296, 297, 299, 300, 301, 302, 304, 305, 306, 307, 308, 1508, 1509, 1510, 1511, 1512, 1513, 1514, 1515, 1516, 1517, 1518, 1548, 1549, 1550, 1556, 1557, 1558, 1559, 1560, 1561, 1562, 1563, 1564, 1565, 1551, 1552, 1553, 1580, 1581, 1582, 1583, 1584] (by decide +kernel) (by decide +kernel)) (goodIn_sub (fun _ h => List.mem_append_left _ (List.mem_append_right _ h)) (by decide +kernel))) (goodIn_sub (fun _ h => List.mem_append_left _ (List.mem_append_left _ (List.mem_append_right _ h))) (by decide +kernel))
set_option maxRecDepth 20000 in
theorem gL_law_L_pay : GoodIn wsL_law (va_wsS RL 172 yL_pay wsL_pay) := goodIn_app (goodIn_of _ (by decide +kernel)) ggL_law_L_pay
set_option maxRecDepth 20000 in
theorem ggL_law_X8_pay : GoodIn wsL_law wsX8_pay := goodIn_r _ [714, 505, 394, 715, 716, 717, 5, 718, 529, 530, 531, 532, 457, 458, 459, 460, 417, 418, 419, 420, 690, 691, 692, 693, 665, 666, 667, 668, 669, 396, 568, 569, 570, 461, 462, 463, 464, 425, 435, 436, 439, 465, 466, 467, 468, 427, 428, 429, 430, 431, 432, 433, 434, 437, 438, 440, 441, 442, 443, 444, 409, 410, 411, 412, 469, 470, 471, 472, 473, 474, 475, 476, 477, 478, 479, 480, 1519, 1520, 1521, 1522, 1523, 1524, 1525, 1526, 1527, 1528, 1529, 1530, 1531, 1532, 1533, 1534, 1535, 1536, 1537, 1538, 1539, 1540, 1541, 1542, 1543, 1544, 1545, 1546, 1547] (by decide +kernel) (by decide +kernel)
set_option maxRecDepth 20000 in
theorem gL_law_X8_pay : GoodIn wsL_law (wsV RL 174 RX8 yX8_pay wsX8_pay) := goodIn_app (goodIn_of _ (by decide +kernel)) ggL_law_X8_pay
set_option maxRecDepth 20000 in
theorem ggL_law_X7_payAll : GoodIn wsL_law wsX7_payAll := goodIn_r _ [722, 23, 19, 551, 552, 553, 22, 554, 69, 68, 70, 555, 167, 168, 169, 556, 375, 376, 18, 377, 50, 45, 49, 378, 379, 380, 33, 381, 321, 267, 280, 287, 298, 281, 293, 303, 288, 322, 382, 383, 384, 48, 385, 55, 386, 387, 388, 389, 56, 57, 58, 59, 723, 260, 261, 262, 263, 264, 265, 266, 268, 269, 270, 271, 272, 273, 274, 275, 276, 277, 278, 279, 282, 283, 284, 285, 286, 289, 290, 291, 292, 294, 295, 296, 297, 299, 300, 301, 302, 304, 305, 306, 307, 308, 1508, 1509, 1510, 1511, 1512, 1513, 1514, 1515, 1516, 1517, 1518, 1551, 1552, 1553, 1548, 1549, 1550, 1556, 1557, 1558, 1559, 1560, 1561, 1562, 1563, 1564, 1565, 1580, 1581, 1582, 1583, 1584] (by decide +kernel) (by decide +kernel)
set_option maxRecDepth 20000 in
theorem gL_law_X7_payAll : GoodIn wsL_law (wsV RL 175 RX7 yX7_payAll wsX7_payAll) := goodIn_app (goodIn_of _ (by decide +kernel)) ggL_law_X7_payAll
set_option maxRecDepth 20000 in
theorem ggL_law_X8_payAll : GoodIn wsL_law wsX8_payAll := goodIn_r _ [727, 505, 394, 665, 666, 667, 5, 668, 669, 396, 568, 569, 570, 453, 454, 455, 456, 457, 458, 459, 460, 417, 418, 419, 420, 461, 462, 463, 464, 425, 435, 436, 439, 465, 466, 467, 468, 427, 428, 429, 430, 431, 432, 433, 434, 437, 438, 440, 441, 442, 443, 444, 409, 410, 411, 412, 469, 470, 471, 472, 473, 474, 475, 476, 477, 478, 479, 480, 1519, 1520, 1521, 1522, 1523, 1524, 1525, 1526, 1527, 1528, 1529, 1530, 1531, 1532, 1533, 1534, 1535, 1536, 1537, 1538, 1539, 1540, 1541, 1542, 1543, 1544, 1545, 1546, 1547] (by decide +kernel) (by decide +kernel)
set_option maxRecDepth 20000 in
theorem gL_law_X8_payAll : GoodIn wsL_law (wsV RL 178 RX8 yX8_payAll wsX8_payAll) := goodIn_app (goodIn_of _ (by decide +kernel)) ggL_law_X8_payAll
set_option maxRecDepth 20000 in
theorem ggL_law_L_payExtra : GoodIn wsL_law wsL_payExtra := goodIn_ca (goodIn_ca (goodIn_ca (goodIn_r _ [730, 697, 515, 673, 731, 732, 733, 2, 734, 678, 23, 19, 735, 702, 703, 704, 705, 706, 707, 550, 708, 520, 521, 522, 523, 524, 736, 338, 339, 33, 340, 267, 680, 681, 682, 683, 684, 551, 552, 553, 22, 554, 69, 68, 70, 555, 167, 168, 169, 556, 375, 376, 18, 377, 50, 45, 49, 378, 379, 380, 381, 321, 280, 287, 298, 281, 293, 303, 288, 322, 382, 383, 384, 48, 385, 55, 386, 387, 388, 389, 56, 57, 58, 59, 737, 359, 360, 361, 272, 273, 274, 275, 362, 363, 364, 365, 299, 300, 301, 302, 323, 324, 325, 326, 327, 277, 278, 279, 282, 328, 329, 330, 331, 304, 305, 306, 307, 308, 1508, 1509, 1510, 1511, 1512, 1513, 1514, 1515, 1516, 1517, 1518, 1556, 1557, 1558, 1559, 1560, 1561, 1562, 1563, 1564, 1565, 1548, 1549, 1550, 1551, 1552, 1553, 1580, 1581, 1582, 1583, 1584] (by decide +kernel) (by decide +kernel)) (goodIn_sub (fun _ h => List.mem_append_left _ (List.mem_append_right _ h)) (by decide +kernel))) (goodIn_sub (fun _ h => List.mem_append_left _ (List.mem_append_left _ (List.mem_append_left _ (List.mem_append_right _ h)))) (by decide +kernel))) (goodIn_sub (fun _ h => List.mem_append_left _ (List.mem_append_left _ (List.mem_append_right _ h))) (by decide +kernel))
set_option maxRecDepth 20000 in
theorem gL_law_L_payExtra : GoodIn wsL_law (va_wsS RL 179 yL_payExtra wsL_payExtra) := goodIn_app (goodIn_of _ (by decide +kernel)) ggL_law_L_payExtra
set_option maxRecDepth 20000 in
theorem ggL_law_X8_payExtra : GoodIn wsL_law wsX8_payExtra := goodIn_r _ [741, 505, 626, 394, 715, 716, 717, 5, 718, 529, 530, 531, 532, 639, 640, 641, 642, 457, 458, 459, 460, 417, 418, 419, 420, 690, 691, 692, 693, 665, 666, 667, 668, 669, 396, 568, 569, 570, 481, 482, 483, 484, 469, 470, 471, 472, 409, 410, 411, 412, 473, 474, 475, 476, 477, 478, 479, 480, 413, 414, 415, 416, 421, 422, 423, 424, 425, 426, 427, 428, 429, 430, 431, 432, 433, 434, 435, 436, 437, 438, 439, 440, 441, 442, 443, 444, 445, 446, 447, 448, 449, 450, 451, 452, 485, 486, 487, 488, 1519, 1520, 1521, 1522, 1523, 1524, 1525, 1526, 1527, 1528, 1529, 1530, 1531, 1532, 1533, 1534, 1535, 1536, 1537, 1538, 1539, 1540, 1541, 1542, 1543, 1544, 1545, 1546, 1547] (by decide +kernel) (by decide +kernel)
set_option maxRecDepth 20000 in
theorem gL_law_X8_payExtra : GoodIn wsL_law (wsV RL 182 RX8 yX8_payExtra wsX8_payExtra) := goodIn_app (goodIn_of _ (by decide +kernel)) ggL_law_X8_payExtra
set_option maxRecDepth 20000 in
theorem ggL_law_L_skipMonth : GoodIn wsL_law wsL_skipMonth := goodIn_ca (goodIn_ca (goodIn_r _ [744, 697, 673, 745, 746, 747, 2, 748, 23, 19, 702, 703, 704, 705, 706, 707, 550, 708, 749, 342, 343, 33, 344, 267, 322, 345, 327, 277, 278, 279, 280, 281, 282, 680, 681, 682, 683, 684, 551, 552, 553, 22, 554, 69, 68, 70, 555, 167, 168, 169, 556, 375, 376, 18, 377, 50, 45, 49, 378, 379, 380, 381, 321, 287, 298, 293, 303, 288, 382, 383, 384, 48, 385, 55, 386, 387, 388, 389, 56, 57, 58, 59, 750, 367, 368, 369, 289, 290, 291, 292, 323, 324, 325, 326, 328, 329, 330, 331, 1508, 1509, 1510, 1511, 1512, 1513, 1514, 1515, 1516, 1517, 1518, 1548, 1549, 1550, 1556, 1557, 1558, 1559, 1560, 1561, 1562, 1563, 1564, 1565, 1551, 1552, 1553, 1580, 1581, 1582, 1583, 1584] (by decide +kernel) (by decide +kernel)) (goodIn_sub (fun _ h => List.mem_append_left _ (List.mem_append_right _ h)) (by decide +kernel))) (goodIn_sub (fun _ h => List.mem_append_left _ (List.mem_append_left _ (List.mem_append_right _ h))) (by decide +kernel))
set_option maxRecDepth 20000 in
theorem gL_law_L_skipMonth : GoodIn wsL_law (va_wsS RL 183 yL_skipMonth wsL_skipMonth) := goodIn_app (goodIn_of _ (by decide +kernel)) ggL_law_L_skipMonth
set_option maxRecDepth 20000 in
theorem ggL_law_X8_skipMonth : GoodIn wsL_law wsX8_skipMonth := goodIn_r _ [754, 505, 394, 715, 716, 717, 5, 718, 529, 530, 531, 532, 647, 648, 649, 650, 439, 651, 457, 458, 459, 460, 417, 418, 419, 420, 465, 466, 467, 468, 427, 428, 429, 430, 431, 432, 433, 434, 435, 436, 437, 438, 425, 440, 441, 442, 443, 444, 690, 691, 692, 693, 665, 666, 667, 668, 669, 396, 568, 569, 570, 489, 490, 491, 492, 409, 410, 411, 412, 469, 470, 471, 472, 413, 414, 415, 416, 421, 422, 423, 424, 426, 445, 446, 447, 448, 449, 450, 451, 452, 1519, 1520, 1521, 1522, 1523, 1524, 1525, 1526, 1527, 1528, 1529, 1530, 1531, 1532, 1533, 1534, 1535, 1536, 1537, 1538, 1539, 1540, 1541, 1542, 1543, 1544, 1545, 1546, 1547] (by decide +kernel) (by decide +kernel)
set_option maxRecDepth 20000 in
theorem gL_law_X8_skipMonth : GoodIn wsL_law (wsV RL 185 RX8 yX8_skipMonth wsX8_skipMonth) := goodIn_app (goodIn_of _ (by decide +kernel)) ggL_law_X8_skipMonth
set_option maxRecDepth 20000 in
theorem ggL_law_L_changeRate : GoodIn wsL_law wsL_changeRate := goodIn_ca (goodIn_ca (goodIn_ca (goodIn_r _ [757, 697, 515, 673, 758, 759, 760, 2, 761, 23, 19, 762, 702, 703, 704, 705, 706, 707, 550, 708, 520, 521, 522, 523, 524, 709, 264, 265, 33, 266, 267, 680, 681, 682, 683, 684, 551, 552, 553, 22, 554, 69, 68, 70, 555, 167, 168, 169, 556, 375, 376, 18, 377, 50, 45, 49, 378, 379, 380, 381, 321, 280, 287, 298, 281, 293, 303, 288, 322, 382, 383, 384, 48, 385, 55, 386, 387, 388, 389, 56, 57, 58, 59, 763, 371, 372, 373, 323, 324, 325, 326, 327, 277, 278, 279, 282, 328, 329, 330, 331, 1508, 1509, 1510, 1511, 1512, 1513, 1514, 1515, 1516, 1517, 1518, 1556, 1557, 1558, 1559, 1560, 1561, 1562, 1563, 1564, 1565, 1548, 1549, 1550, 1551, 1552, 1553, 1580, 1581, 1582, 1583, 1584] (by decide +kernel) (by decide +kernel)) (goodIn_sub (fun _ h => List.mem_append_left _ (List.mem_append_right _ h)) (by decide +kernel))) (goodIn_sub (fun _ h => List.mem_append_left _ (List.mem_append_left _ (List.mem_append_left _ (List.mem_append_right _ h)))) (by decide +kernel))) (goodIn_sub (fun _ h => List.mem_append_left _ (List.mem_append_left _ (List.mem_append_right _ h))) (by decide +kernel))
set_option maxRecDepth 20000 in
theorem gL_law_L_changeRate : GoodIn wsL_law (va_wsS RL 186 yL_changeRate wsL_changeRate) := goodIn_app (goodIn_of _ (by decide +kernel)) ggL_law_L_changeRate
set_option maxRecDepth 20000 in
theorem ggL_law_X8_changeRate : GoodIn wsL_law wsX8_changeRate := goodIn_r _ [767, 505, 394, 715, 716, 717, 5, 718, 529, 530, 531, 532, 457, 458, 459, 460, 417, 418, 419, 420, 690, 691, 692, 693, 665, 666, 667, 668, 669, 396, 568, 569, 570, 652, 653, 654, 655, 409, 410, 411, 412, 413, 414, 415, 416, 421, 422, 423, 424, 425, 426, 427, 428, 429, 430, 431, 432, 433, 434, 435, 436, 437, 438, 439, 440, 441, 442, 443, 444, 445, 446, 447, 448, 449, 450, 451, 452, 1519, 1520, 1521, 1522, 1523, 1524, 1525, 1526, 1527, 1528, 1529, 1530, 1531, 1532, 1533, 1534, 1535, 1536, 1537, 1538, 1539, 1540, 1541, 1542, 1543, 1544, 1545, 1546, 1547] (by decide +kernel) (by decide +kernel)
set_option maxRecDepth 20000 in
theorem gL_law_X8_changeRate : GoodIn wsL_law (wsV RL 189 RX8 yX8_changeRate wsX8_changeRate) := goodIn_app (goodIn_of _ (by decide +kernel)) ggL_law_X8_changeRate
set_option maxRecDepth 20000 in
theorem ggL_law_L_extendTerm : GoodIn wsL_law wsL_extendTerm := goodIn_ca (goodIn_ca (goodIn_ca (goodIn_r _ [770, 697, 515, 673, 771, 772, 773, 2, 774, 23, 19, 775, 762, 702, 703, 704, 705, 706, 707, 550, 708, 520, 521, 522, 523, 524, 776, 347, 348, 33, 349, 267, 287, 680, 681, 682, 683, 684, 551, 552, 553, 22, 554, 69, 68, 70, 555, 167, 168, 169, 556, 375, 376, 18, 377, 50, 45, 49, 378, 379, 380, 381, 321, 280, 298, 281, 293, 303, 288, 322, 382, 383, 384, 48, 385, 55, 386, 387, 388, 389, 56, 57, 58, 59, 763, 371, 372, 373, 323, 324, 325, 326, 327, 277, 278, 279, 282, 328, 329, 330, 331, 1508, 1509, 1510, 1511, 1512, 1513, 1514, 1515, 1516, 1517, 1518, 1556, 1557, 1558, 1559, 1560, 1561, 1562, 1563, 1564, 1565, 1548, 1549, 1550, 1551, 1552, 1553, 1580, 1581, 1582, 1583, 1584] (by decide +kernel) (by decide +kernel)) (goodIn_sub (fun _ h => List.mem_append_left _ (List.mem_append_right _ h)) (by decide +kernel))) (goodIn_sub (fun _ h => List.mem_append_left _ (List.mem_append_left _ (List.mem_append_left _ (List.mem_append_right _ h)))) (by decide +kernel))) (goodIn_sub (fun _ h => List.mem_append_left _ (List.mem_append_left _ (List.mem_append_right _ h))) (by decide +kernel))
set_option maxRecDepth 20000 in
theorem gL_law_L_extendTerm : GoodIn wsL_law (va_wsS RL 190 yL_extendTerm wsL_extendTerm) := goodIn_app (goodIn_of _ (by decide +kernel)) ggL_law_L_extendTerm
set_option maxRecDepth 20000 in
theorem ggL_law_X8_extendTerm : GoodIn wsL_law wsX8_extendTerm := goodIn_r _ [780, 505, 394, 715, 716, 717, 5, 718, 529, 530, 531, 532, 656, 657, 658, 659, 457, 458, 459, 460, 417, 418, 419, 420, 690, 691, 692, 693, 665, 666, 667, 668, 669, 396, 568, 569, 570, 660, 661, 662, 663, 469, 470, 471, 472, 409, 410, 411, 412, 413, 414, 415, 416, 421, 422, 423, 424, 425, 426, 427, 428, 429, 430, 431, 432, 433, 434, 435, 436, 437, 438, 439, 440, 441, 442, 443, 444, 445, 446, 447, 448, 449, 450, 451, 452, 1519, 1520, 1521, 1522, 1523, 1524, 1525, 1526, 1527, 1528, 1529, 1530, 1531, 1532, 1533, 1534, 1535, 1536, 1537, 1538, 1539, 1540, 1541, 1542, 1543, 1544, 1545, 1546, 1547] (by decide +kernel) (by decide +kernel)
set_option maxRecDepth 20000 in
theorem gL_law_X8_extendTerm : GoodIn wsL_law (wsV RL 192 RX8 yX8_extendTerm wsX8_extendTerm) := goodIn_app (goodIn_of _ (by decide +kernel)) ggL_law_X8_extendTerm
set_option maxRecDepth 20000 in
theorem ggL_law_L_refinance : GoodIn wsL_law wsL_refinance := goodIn_ca (goodIn_ca (goodIn_ca (goodIn_r _ [783, 697, 515, 673, 784, 785, 786, 2, 787, 23, 19, 702, 703, 704, 705, 706, 707, 550, 708, 520, 521, 522, 523, 524, 709, 264, 265, 33, 266, 267, 680, 681, 682, 683, 684, 551, 552, 553, 22, 554, 69, 68, 70, 555, 167, 168, 169, 556, 375, 376, 18, 377, 50, 45, 49, 378, 379, 380, 381, 321, 280, 287, 298, 281, 293, 303, 288, 322, 382, 383, 384, 48, 385, 55, 386, 387, 388, 389, 56, 57, 58, 59, 763, 371, 372, 373, 323, 324, 325, 326, 327, 277, 278, 279, 282, 328, 329, 330, 331, 1508, 1509, 1510, 1511, 1512, 1513, 1514, 1515, 1516, 1517, 1518, 1548, 1549, 1550, 1556, 1557, 1558, 1559, 1560, 1561, 1562, 1563, 1564, 1565, 1551, 1552, 1553, 1580, 1581, 1582, 1583, 1584] (by decide +kernel) (by decide +kernel)) (goodIn_sub (fun _ h => List.mem_append_left _ (List.mem_append_right _ h)) (by decide +kernel))) (goodIn_sub (fun _ h => List.mem_append_left _ (List.mem_append_left _ (List.mem_append_left _ (List.mem_append_right _ h)))) (by decide +kernel))) (goodIn_sub (fun _ h => List.mem_append_left _ (List.mem_append_left _ (List.mem_append_right _ h))) (by decide +kernel))
set_option maxRecDepth 20000 in
theorem gL_law_L_refinance : GoodIn wsL_law (va_wsS RL 193 yL_refinance wsL_refinance) := goodIn_app (goodIn_of _ (by decide +kernel)) ggL_law_L_refinance
set_option maxRecDepth 20000 in
theorem ggL_law_X8_refinance : GoodIn wsL_law wsX8_refinance := goodIn_r _ [791, 505, 394, 715, 716, 717, 5, 718, 529, 530, 531, 532, 792, 793, 794, 795, 457, 458, 459, 460, 417, 418, 419, 420, 690, 691, 692, 693, 665, 666, 667, 668, 669, 396, 568, 569, 570, 796, 797, 798, 799, 409, 410, 411, 412, 413, 414, 415, 416, 421, 422, 423, 424, 425, 426, 427, 428, 429, 430, 431, 432, 433, 434, 435, 436, 437, 438, 439, 440, 441, 442, 443, 444, 445, 446, 447, 448, 449, 450, 451, 452, 1519, 1520, 1521, 1522, 1523, 1524, 1525, 1526, 1527, 1528, 1529, 1530, 1531, 1532, 1533, 1534, 1535, 1536, 1537, 1538, 1539, 1540, 1541, 1542, 1543, 1544, 1545, 1546, 1547] (by decide +kernel) (by decide +kernel)
set_option maxRecDepth 20000 in
theorem gL_law_X8_refinance : GoodIn wsL_law (wsV RL 195 RX8 yX8_refinance wsX8_refinance) := goodIn_app (goodIn_of _ (by decide +kernel)) ggL_law_X8_refinance
set_option maxRecDepth 20000 in
theorem ggL_law_L_spendExtra : GoodIn wsL_law wsL_spendExtra := goodIn_ca (goodIn_r _ [802, 515, 803, 804, 805, 2, 806, 678, 23, 19, 520, 521, 522, 523, 524, 551, 552, 553, 22, 554, 69, 68, 70, 555, 167, 168, 169, 556, 375, 376, 18, 377, 50, 45, 49, 378, 379, 380, 33, 381, 321, 267, 280, 287, 298, 281, 293, 303, 288, 322, 382, 383, 384, 48, 385, 55, 386, 387, 388, 389, 56, 57, 58, 59, 807, 808, 809, 810, 811, 812, 813, 814, 815, 816, 817, 263, 264, 265, 266, 818, 819, 820, 821, 822, 272, 273, 274, 275, 823, 359, 360, 361, 362, 363, 364, 365, 299, 300, 301, 302, 323, 324, 325, 326, 327, 277, 278, 279, 282, 328, 329, 330, 331, 304, 305, 306, 307, 308, 1508, 1509, 1510, 1511, 1512, 1513, 1514, 1515, 1516, 1517, 1518, 1551, 1552, 1553, 1548, 1549, 1550, 1556, 1557, 1558, 1559, 1560, 1561, 1562, 1563, 1564, 1565, 1580, 1581, 1582, 1583, 1584] (by decide +kernel) (by decide +kernel)) (goodIn_sub (fun _ h => List.mem_append_left _ (List.mem_append_left _ (List.mem_append_left _ (List.mem_append_right _ h)))) (by decide +kernel))
set_option maxRecDepth 20000 in
theorem gL_law_L_spendExtra : GoodIn wsL_law (va_wsS RL 196 yL_spendExtra wsL_spendExtra) := goodIn_app (goodIn_of _ (by decide +kernel)) ggL_law_L_spendExtra
set_option maxRecDepth 20000 in
theorem ggL_law_X8_spendExtra : GoodIn wsL_law wsX8_spendExtra := goodIn_r _ [827, 505, 626, 394, 529, 530, 531, 5, 532, 665, 666, 667, 668, 669, 396, 568, 569, 570, 828, 829, 830, 831, 457, 458, 459, 460, 417, 418, 419, 420, 481, 482, 483, 484, 469, 470, 471, 472, 409, 410, 411, 412, 473, 474, 475, 476, 477, 478, 479, 480, 413, 414, 415, 416, 421, 422, 423, 424, 425, 426, 427, 428, 429, 430, 431, 432, 433, 434, 435, 436, 437, 438, 439, 440, 441, 442, 443, 444, 445, 446, 447, 448, 449, 450, 451, 452, 485, 486, 487, 488, 1519, 1520, 1521, 1522, 1523, 1524, 1525, 1526, 1527, 1528, 1529, 1530, 1531, 1532, 1533, 1534, 1535, 1536, 1537, 1538, 1539, 1540, 1541, 1542, 1543, 1544, 1545, 1546, 1547] (by decide +kernel) (by decide +kernel)
set_option maxRecDepth 20000 in
theorem gL_law_X8_spendExtra : GoodIn wsL_law (wsV RL 198 RX8 yX8_spendExtra wsX8_spendExtra) := goodIn_app (goodIn_of _ (by decide +kernel)) ggL_law_X8_spendExtra
set_option maxRecDepth 20000 in
theorem ggL_law_X7_undo : GoodIn wsL_law wsX7_undo := goodIn_r _ [835, 23, 19, 836, 837, 838, 839, 22, 840, 69, 70, 68, 556, 375, 376, 18, 377, 50, 45, 49, 378, 379, 380, 33, 381, 321, 267, 280, 287, 298, 281, 293, 303, 288, 322, 382, 383, 384, 48, 385, 55, 386, 387, 388, 389, 56, 57, 58, 59, 1508, 1509, 1510, 1511, 1512, 1513, 1514, 1515, 1516, 1517, 1518, 1551, 1552, 1553, 1548, 1549, 1550, 1556, 1557, 1558, 1559, 1560, 1561, 1562, 1563, 1564, 1565, 1580, 1581, 1582, 1583, 1584] (by decide +kernel) (by decide +kernel)
set_option maxRecDepth 20000 in
theorem gL_law_X7_undo : GoodIn wsL_law (wsV RL 199 RX7 yX7_undo wsX7_undo) := goodIn_app (goodIn_of _ (by decide +kernel)) ggL_law_X7_undo
set_option maxRecDepth 20000 in
theorem ggL_law_X8_undo : GoodIn wsL_law wsX8_undo := goodIn_r _ [844, 505, 669, 396, 394, 568, 569, 5, 570, 1519, 1520, 1521, 1522, 1523, 1524, 1525, 1526, 1527, 1528, 1529, 1530, 1531, 1532, 1533, 1534, 1535, 1536, 1537, 1538, 1539, 1540, 1541, 1542, 1543, 1544, 1545, 1546, 1547] (by decide +kernel) (by decide +kernel)
set_option maxRecDepth 20000 in
theorem gL_law_X8_undo : GoodIn wsL_law (wsV RL 202 RX8 yX8_undo wsX8_undo) := goodIn_app (goodIn_of _ (by decide +kernel)) ggL_law_X8_undo
set_option maxRecDepth 20000 in
theorem ggL_law_X7_undoCount : GoodIn wsL_law wsX7_undoCount := goodIn_r _ [848, 23, 836, 1508, 1509, 1510, 1511, 1512, 1513, 1514, 1515, 1516, 1517, 1518, 1551, 1552, 1553] (by decide +kernel) (by decide +kernel)
set_option maxRecDepth 20000 in
theorem gL_law_X7_undoCount : GoodIn wsL_law (wsV RL 203 RX7 yX7_undoCount wsX7_undoCount) := goodIn_app (goodIn_of _ (by decide +kernel)) ggL_law_X7_undoCount
set_option maxRecDepth 20000 in
theorem ggL_law_X8_undoCount : GoodIn wsL_law wsX8_undoCount := goodIn_r _ [852, 505, 669, 1519, 1520, 1521, 1522, 1523, 1524, 1525, 1526, 1527, 1528, 1529, 1530, 1531, 1532, 1533, 1534, 1535, 1536, 1537, 1538, 1539, 1540, 1541, 1542, 1543, 1544, 1545, 1546, 1547] (by decide +kernel) (by decide +kernel)
