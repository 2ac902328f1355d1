set_option maxRecDepth 20000 in
theorem gp_wsL_began_r9 : GoodIn wsL_law wsL_began_r9 := goodIn_r _ [251, 252, 253, 254, 255, 256, 257, 258, 259, 42, 260, 261, 262, 30, 263, 264, 265, 266, 267, 268, 269, 270, 271, 272] (by decide +kernel) (by decide +kernel)
set_option maxRecDepth 20000 in
theorem gp_wsL_began_r10 : GoodIn wsL_law wsL_began_r10 := goodIn_r _ [273, 274, 275, 276, 277, 278, 279, 280, 281, 282, 283, 284, 285, 286, 287, 288, 289, 290, 291, 292, 293, 294, 295, 296] (by decide +kernel) (by decide +kernel)
set_option maxRecDepth 20000 in
theorem gp_wsL_began_r11 : GoodIn wsL_law wsL_began_r11 := goodIn_r _ [297, 298, 299, 300, 301, 302, 303, 45, 304, 55, 52, 53, 54, 56, 305, 306, 307, 308, 309, 310, 311, 312, 313, 314] (by decide +kernel) (by decide +kernel)
set_option maxRecDepth 20000 in
theorem gp_wsL_began_r12 : GoodIn wsL_law wsL_began_r12 := goodIn_r _ [315, 316, 317, 318, 319, 320, 321, 322, 323, 324, 325, 326, 327, 328, 329, 330, 331, 332, 333, 334, 335, 336, 337, 338] (by decide +kernel) (by decide +kernel)
set_option maxRecDepth 20000 in
theorem gp_wsL_began_r13 : GoodIn wsL_law wsL_began_r13 := goodIn_r _ [339, 340, 341, 342, 343, 344, 345, 346, 347, 348, 349, 350, 351, 352, 353, 354, 355, 356, 357, 358, 359, 360, 361, 362] (by decide +kernel) (by decide +kernel)
set_option maxRecDepth 20000 in
theorem gp_wsL_began_r14 : GoodIn wsL_law wsL_began_r14 := goodIn_r _ [363, 364, 365, 366, 367, 368, 369, 370, 623, 624, 625, 19, 626, 66, 65, 67, 627, 628, 372, 373, 374, 375, 376, 377] (by decide +kernel) (by decide +kernel)
set_option maxRecDepth 20000 in
theorem gp_wsL_began_r15 : GoodIn wsL_law wsL_began_r15 := goodIn_r _ [378, 379, 380, 381, 382, 383, 384, 385, 386, 371] (by decide +kernel) (by decide +kernel)
set_option maxRecDepth 20000 in
theorem gp_L_began_c : GoodIn wsL_law [.code yL_began cL_began 4 (some .int)] := goodIn_r _ [608] (by decide +kernel) (by decide +kernel)
set_option maxRecDepth 20000 in
theorem ggL_law_L_began : GoodIn wsL_law wsL_began := goodIn_app gp_L_began_c (goodIn_app (goodIn_app (goodIn_app (goodIn_app (goodIn_app (goodIn_app (goodIn_app (goodIn_app gp_wsL_began_r1 (goodIn_app gp_wsL_began_r2 (goodIn_app gp_wsL_began_r3 (goodIn_app gp_wsL_began_r4 (goodIn_app gp_wsL_began_r5 (goodIn_app gp_wsL_began_r6 (goodIn_app gp_wsL_began_r7 (goodIn_app gp_wsL_began_r8 (goodIn_app gp_wsL_began_r9 (goodIn_app gp_wsL_began_r10 (goodIn_app gp_wsL_began_r11 (goodIn_app gp_wsL_began_r12 (goodIn_app gp_wsL_began_r13 (goodIn_app gp_wsL_began_r14 gp_wsL_began_r15)))))))))))))) gp_X7) gp_X5) gp_X3) gp_X6) gp_X0) gp_X2) gp_X1)
set_option maxRecDepth 20000 in
theorem gL_law_L_began : GoodIn wsL_law (va_wsS RL 256 yL_began wsL_began) := goodIn_app (goodIn_of _ (by decide +kernel)) ggL_law_L_began
set_option maxRecDepth 20000 in
theorem gp_wsL_act_r1 : GoodIn wsL_law wsL_act_r1 := goodIn_r _ [632, 633, 634, 165, 635, 636, 637, 638, 389, 639, 417, 418, 419, 2, 420, 16, 397, 640, 641, 642, 643, 644, 645, 646] (by decide +kernel) (by decide +kernel)
set_option maxRecDepth 20000 in
theorem gp_wsL_act_r2 : GoodIn wsL_law wsL_act_r2 := goodIn_r _ [647, 648, 649, 650, 651, 652, 653, 654, 582, 655, 656, 657, 658, 659, 660, 20, 587, 588, 589, 590, 591, 661, 307, 308] (by decide +kernel) (by decide +kernel)
set_option maxRecDepth 20000 in
theorem gp_wsL_act_r3 : GoodIn wsL_law wsL_act_r3 := goodIn_r _ [15, 309, 47, 662, 663, 664, 665, 666, 623, 624, 625, 19, 626, 66, 65, 67, 627, 164, 166, 628, 372, 373, 374, 42] (by decide +kernel) (by decide +kernel)
set_option maxRecDepth 20000 in
theorem gp_wsL_act_r4 : GoodIn wsL_law wsL_act_r4 := goodIn_r _ [46, 375, 376, 377, 30, 378, 318, 264, 277, 284, 295, 278, 290, 300, 285, 319, 379, 380, 381, 45, 382, 52, 383, 384] (by decide +kernel) (by decide +kernel)
set_option maxRecDepth 20000 in
theorem gp_wsL_act_r5 : GoodIn wsL_law wsL_act_r5 := goodIn_r _ [385, 386, 53, 54, 55, 56, 667, 311, 312, 313, 314, 315, 316, 317, 320, 321, 322, 323, 324, 274, 275, 276, 279, 325] (by decide +kernel) (by decide +kernel)
set_option maxRecDepth 20000 in
theorem gp_wsL_act_r6 : GoodIn wsL_law wsL_act_r6 := goodIn_r _ [326, 327, 328, 668, 669, 670, 424, 671, 672, 673, 674, 429, 430, 431, 432, 433, 434, 398, 406, 261, 262, 263, 675, 266] (by decide +kernel) (by decide +kernel)
set_option maxRecDepth 20000 in
theorem gp_wsL_act_r7 : GoodIn wsL_law wsL_act_r7 := goodIn_r _ [267, 268, 269, 270, 271, 272, 273, 280, 281, 282, 283, 286, 287, 288, 289, 291, 292, 293, 294, 296, 297, 298, 299, 301] (by decide +kernel) (by decide +kernel)
set_option maxRecDepth 20000 in
theorem gp_wsL_act_r8 : GoodIn wsL_law wsL_act_r8 := goodIn_r _ [302, 303, 304, 305, 676, 677, 678, 679, 680, 257, 258, 259, 260, 265, 681, 682, 683, 684, 685, 686, 687, 402, 688, 335] (by decide +kernel) (by decide +kernel)
set_option maxRecDepth 20000 in
theorem gp_wsL_act_r9 : GoodIn wsL_law wsL_act_r9 := goodIn_r _ [336, 337, 689, 356, 357, 358, 359, 360, 361, 362, 690, 691, 692, 693, 694, 695, 696, 697, 339, 340, 341, 342, 698, 364] (by decide +kernel) (by decide +kernel)
set_option maxRecDepth 20000 in
theorem gp_wsL_act_r10 : GoodIn wsL_law wsL_act_r10 := goodIn_r _ [365, 366, 699, 700, 701, 702, 703, 704, 705, 493, 706, 368, 369, 370, 707, 708, 709, 710, 711, 712, 713, 545, 714, 344] (by decide +kernel) (by decide +kernel)
set_option maxRecDepth 20000 in
theorem gp_wsL_act_r11 : GoodIn wsL_law wsL_act_r11 := goodIn_r _ [345, 346, 715, 716, 717, 718, 719, 720, 721, 722, 723, 724, 725, 726, 727, 728, 729, 730, 731, 732, 562, 733, 734, 735] (by decide +kernel) (by decide +kernel)
set_option maxRecDepth 20000 in
theorem gp_wsL_act_r12 : GoodIn wsL_law wsL_act_r12 := goodIn_r _ [736, 737, 738, 739, 740, 741, 742, 743, 744] (by decide +kernel) (by decide +kernel)
set_option maxRecDepth 20000 in
theorem gp_L_act_c : GoodIn wsL_law [.code yL_act cL_act 8 none] := goodIn_r _ [631] (by decide +kernel) (by decide +kernel)
set_option maxRecDepth 20000 in
theorem ggL_law_L_act : GoodIn wsL_law wsL_act := goodIn_ca (goodIn_ca (goodIn_ca (goodIn_app gp_L_act_c (goodIn_app (goodIn_app (goodIn_app (goodIn_app (goodIn_app (goodIn_app gp_wsL_act_r1 (goodIn_app gp_wsL_act_r2 (goodIn_app gp_wsL_act_r3 (goodIn_app gp_wsL_act_r4 (goodIn_app gp_wsL_act_r5 (goodIn_app gp_wsL_act_r6 (goodIn_app gp_wsL_act_r7 (goodIn_app gp_wsL_act_r8 (goodIn_app gp_wsL_act_r9 (goodIn_app gp_wsL_act_r10 (goodIn_app gp_wsL_act_r11 gp_wsL_act_r12))))))))))) gp_X7) gp_X3) gp_X1) gp_X2) gp_X0)) (goodIn_sub (fun _ h => List.mem_append_left _ (List.mem_append_right _ h)) (by decide +kernel))) (goodIn_sub (fun _ h => List.mem_append_right _ h) (by decide +kernel))) (goodIn_sub (fun _ h => List.mem_append_left _ (List.mem_append_left _ (List.mem_append_right _ h))) (by decide +kernel))
set_option maxRecDepth 20000 in
theorem gL_law_L_act : GoodIn wsL_law (va_wsS RL 260 yL_act wsL_act) := goodIn_app (goodIn_of _ (by decide +kernel)) ggL_law_L_act
set_option maxRecDepth 20000 in
theorem ggL_law_X7_loanCount : GoodIn wsL_law wsX7_loanCount := goodIn_r _ [420, 16, 397, 745, 746, 747, 748, 749, 750, 751, 752, 753, 754, 755, 756, 757, 758] (by decide +kernel) (by decide +kernel)
set_option maxRecDepth 20000 in
theorem gL_law_X7_loanCount : GoodIn wsL_law (wsV RL 156 RX7 yX7_loanCount wsX7_loanCount) := goodIn_app (goodIn_of _ (by decide +kernel)) ggL_law_X7_loanCount
set_option maxRecDepth 20000 in
theorem ggL_law_L_cell : GoodIn wsL_law wsL_cell := goodIn_r _ [639] (by decide +kernel) (by decide +kernel)
set_option maxRecDepth 20000 in
theorem gL_law_L_cell : GoodIn wsL_law (va_wsS RL 7 yL_cell wsL_cell) := goodIn_app (goodIn_of _ (by decide +kernel)) ggL_law_L_cell
