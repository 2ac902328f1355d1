set_option maxRecDepth 20000 in
theorem gp_wsL_isSound_r2 : GoodIn wsL_law wsL_isSound_r2 := goodIn_r _ [408, 409, 410, 32, 411, 376, 377, 378, 318, 277, 284, 295, 278, 290, 300, 285, 319, 412, 413, 414, 415, 416, 281, 282] (by decide +kernel) (by decide +kernel)
set_option maxRecDepth 20000 in
theorem gp_wsL_isSound_r3 : GoodIn wsL_law wsL_isSound_r3 := goodIn_r _ [283, 286, 287, 288, 289, 279, 291, 292, 293, 294, 296, 297, 298, 299, 417, 418, 419, 420, 421, 422, 389, 423, 424, 425] (by decide +kernel) (by decide +kernel)
set_option maxRecDepth 20000 in
theorem gp_wsL_isSound_r4 : GoodIn wsL_law wsL_isSound_r4 := goodIn_r _ [426, 427, 428, 429, 430, 431, 432, 433, 434, 435, 436, 437, 438, 439, 440, 441, 442, 443, 444, 445, 446, 447, 448, 449] (by decide +kernel) (by decide +kernel)
set_option maxRecDepth 20000 in
theorem gp_wsL_isSound_r5 : GoodIn wsL_law wsL_isSound_r5 := goodIn_r _ [450, 451, 452, 453, 454, 455, 456, 457, 458, 459, 460, 461, 462, 463, 464, 465, 466, 467, 468, 469, 470, 471, 472, 473] (by decide +kernel) (by decide +kernel)
set_option maxRecDepth 20000 in
theorem gp_wsL_isSound_r6 : GoodIn wsL_law wsL_isSound_r6 := goodIn_r _ [474, 475, 476, 477, 478, 479, 480, 481, 482, 483, 484, 485, 486, 487, 488, 489, 490, 491, 492, 493, 494, 495, 496, 497] (by decide +kernel) (by decide +kernel)
set_option maxRecDepth 20000 in
theorem gp_wsL_isSound_r7 : GoodIn wsL_law wsL_isSound_r7 := goodIn_r _ [498, 499, 500, 501, 502, 503, 504, 505, 506, 507, 508, 509, 510, 511, 324, 274, 275, 276, 512, 513, 514, 515, 516, 517] (by decide +kernel) (by decide +kernel)
set_option maxRecDepth 20000 in
theorem gp_wsL_isSound_r8 : GoodIn wsL_law wsL_isSound_r8 := goodIn_r _ [518, 519, 520, 521, 522, 523, 524, 525, 526, 527, 528, 529, 530, 531, 532, 533, 534, 535, 536, 537, 538, 539, 540, 541] (by decide +kernel) (by decide +kernel)
set_option maxRecDepth 20000 in
theorem gp_wsL_isSound_r9 : GoodIn wsL_law wsL_isSound_r9 := goodIn_r _ [542, 543, 544, 545, 546, 547, 548, 549, 550, 551, 552, 15, 553, 47, 42, 260, 554, 555, 556, 557, 558, 559, 560, 561] (by decide +kernel) (by decide +kernel)
set_option maxRecDepth 20000 in
theorem gp_wsL_isSound_r10 : GoodIn wsL_law wsL_isSound_r10 := goodIn_r _ [562, 563, 564, 565, 566, 567, 568, 569, 570, 571, 572, 573, 574, 575] (by decide +kernel) (by decide +kernel)
set_option maxRecDepth 20000 in
theorem gp_L_isSound_c : GoodIn wsL_law [.code yL_isSound cL_isSound 11 (some .boolean)] := goodIn_r _ [390] (by decide +kernel) (by decide +kernel)
set_option maxRecDepth 20000 in
theorem ggL_law_L_isSound : GoodIn wsL_law wsL_isSound := goodIn_ca (goodIn_app gp_L_isSound_c (goodIn_app (goodIn_app (goodIn_app (goodIn_app gp_wsL_isSound_r1 (goodIn_app gp_wsL_isSound_r2 (goodIn_app gp_wsL_isSound_r3 (goodIn_app gp_wsL_isSound_r4 (goodIn_app gp_wsL_isSound_r5 (goodIn_app gp_wsL_isSound_r6 (goodIn_app gp_wsL_isSound_r7 (goodIn_app gp_wsL_isSound_r8 (goodIn_app gp_wsL_isSound_r9 gp_wsL_isSound_r10))))))))) gp_X7) gp_X3) gp_X2)) (goodIn_sub (fun _ h => List.mem_append_left _ (List.mem_append_left _ (List.mem_append_right _ h))) (by decide +kernel))
set_option maxRecDepth 20000 in
theorem gL_law_L_isSound : GoodIn wsL_law (va_wsS RL 249 yL_isSound wsL_isSound) := goodIn_app (goodIn_of _ (by decide +kernel)) ggL_law_L_isSound
set_option maxRecDepth 20000 in
theorem gp_wsL_isPaid_r1 : GoodIn wsL_law wsL_isPaid_r1 := goodIn_r _ [392, 421, 422, 389, 423, 424, 425, 426, 427, 2, 428, 402, 429, 430, 431, 432, 433, 434, 16, 397, 398, 463, 464, 465] (by decide +kernel) (by decide +kernel)
set_option maxRecDepth 20000 in
theorem gp_wsL_isPaid_r2 : GoodIn wsL_law wsL_isPaid_r2 := goodIn_r _ [466, 467, 468, 469, 403, 486, 487, 488, 489, 490, 491, 492, 493, 538, 539, 540, 541, 542, 543, 544, 545, 494, 495, 496] (by decide +kernel) (by decide +kernel)
set_option maxRecDepth 20000 in
theorem gp_wsL_isPaid_r3 : GoodIn wsL_law wsL_isPaid_r3 := goodIn_r _ [497, 498, 499, 500, 405, 579, 580, 581, 582, 583, 584, 585, 586, 32, 411, 376, 377, 30, 378, 318, 264, 277, 284, 295] (by decide +kernel) (by decide +kernel)
set_option maxRecDepth 20000 in
theorem gp_wsL_isPaid_r4 : GoodIn wsL_law wsL_isPaid_r4 := goodIn_r _ [278, 290, 300, 285, 319, 587, 588, 589, 590, 591, 412, 413, 414, 415, 416, 281, 282, 283, 286, 287, 288, 289, 279, 291] (by decide +kernel) (by decide +kernel)
set_option maxRecDepth 20000 in
theorem gp_wsL_isPaid_r5 : GoodIn wsL_law wsL_isPaid_r5 := goodIn_r _ [292, 293, 294, 296, 297, 298, 299, 406, 261, 262, 263, 508, 509, 510, 511, 324, 274, 275, 276, 592, 593, 594, 595, 596] (by decide +kernel) (by decide +kernel)
set_option maxRecDepth 20000 in
theorem gp_wsL_isPaid_r6 : GoodIn wsL_law wsL_isPaid_r6 := goodIn_r _ [597, 598, 519, 599, 600, 601, 602, 603, 604, 605, 520, 521, 522, 523, 524, 525, 526, 527, 528, 529, 530, 400] (by decide +kernel) (by decide +kernel)
set_option maxRecDepth 20000 in
theorem gp_L_isPaid_c : GoodIn wsL_law [.code yL_isPaid cL_isPaid 21 (some .boolean)] := goodIn_r _ [578] (by decide +kernel) (by decide +kernel)
set_option maxRecDepth 20000 in
theorem ggL_law_L_isPaid : GoodIn wsL_law wsL_isPaid := goodIn_ca (goodIn_ca (goodIn_app gp_L_isPaid_c (goodIn_app (goodIn_app (goodIn_app (goodIn_app gp_wsL_isPaid_r1 (goodIn_app gp_wsL_isPaid_r2 (goodIn_app gp_wsL_isPaid_r3 (goodIn_app gp_wsL_isPaid_r4 (goodIn_app gp_wsL_isPaid_r5 gp_wsL_isPaid_r6))))) gp_X2) gp_X7) gp_X3)) (goodIn_sub (fun _ h => List.mem_append_left _ (List.mem_append_left _ (List.mem_append_right _ h))) (by decide +kernel))) (goodIn_sub (fun _ h => List.mem_append_left _ (List.mem_append_right _ h)) (by decide +kernel))
set_option maxRecDepth 20000 in
theorem gL_law_L_isPaid : GoodIn wsL_law (va_wsS RL 253 yL_isPaid wsL_isPaid) := goodIn_app (goodIn_of _ (by decide +kernel)) ggL_law_L_isPaid
set_option maxRecDepth 20000 in
theorem gp_wsL_began_r1 : GoodIn wsL_law wsL_began_r1 := goodIn_r _ [51, 609, 118, 119, 108, 120, 110, 121, 122, 123, 124, 115, 116, 125, 126, 127, 128, 129, 130, 131, 132, 133, 134, 135] (by decide +kernel) (by decide +kernel)
set_option maxRecDepth 20000 in
theorem gp_wsL_began_r2 : GoodIn wsL_law wsL_began_r2 := goodIn_r _ [136, 137, 138, 139, 140, 141, 142, 143, 144, 145, 146, 147, 148, 149, 150, 151, 152, 153, 610, 611, 612, 2, 613, 12] (by decide +kernel) (by decide +kernel)
set_option maxRecDepth 20000 in
theorem gp_wsL_began_r3 : GoodIn wsL_law wsL_began_r3 := goodIn_r _ [614, 615, 616, 617, 11, 618, 619, 620, 621, 36, 622, 20, 16, 27, 397, 154, 155, 156, 35, 157, 93, 94, 78, 79] (by decide +kernel) (by decide +kernel)
set_option maxRecDepth 20000 in
theorem gp_wsL_began_r4 : GoodIn wsL_law wsL_began_r4 := goodIn_r _ [80, 88, 89, 158, 159, 160, 161, 92, 162, 104, 163, 164, 165, 166, 99, 100, 167, 168, 169, 15, 170, 47, 46, 171] (by decide +kernel) (by decide +kernel)
set_option maxRecDepth 20000 in
theorem gp_wsL_began_r5 : GoodIn wsL_law wsL_began_r5 := goodIn_r _ [172, 173, 174, 175, 176, 177, 178, 179, 180, 101, 102, 181, 182, 183, 184, 185, 186, 187, 188, 189, 190, 191, 192, 193] (by decide +kernel) (by decide +kernel)
set_option maxRecDepth 20000 in
theorem gp_wsL_began_r6 : GoodIn wsL_law wsL_began_r6 := goodIn_r _ [194, 195, 196, 197, 198, 103, 199, 200, 201, 202, 203, 106, 107, 109, 111, 112, 113, 114, 204, 205, 206, 207, 208, 209] (by decide +kernel) (by decide +kernel)
set_option maxRecDepth 20000 in
theorem gp_wsL_began_r7 : GoodIn wsL_law wsL_began_r7 := goodIn_r _ [210, 211, 212, 213, 214, 215, 216, 217, 218, 219, 220, 221, 222, 223, 224, 225, 226, 227, 228, 229, 230, 82, 83, 81] (by decide +kernel) (by decide +kernel)
set_option maxRecDepth 20000 in
theorem gp_wsL_began_r8 : GoodIn wsL_law wsL_began_r8 := goodIn_r _ [231, 232, 233, 234, 235, 236, 237, 238, 239, 240, 241, 242, 243, 244, 245, 84, 85, 86, 246, 247, 248, 249, 250, 87] (by decide +kernel) (by decide +kernel)
