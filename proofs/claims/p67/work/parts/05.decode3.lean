/-! printed: decode rows, words among words -/
theorem dX6_readDigits_54 : decode cX6_readDigits 54 = .ok (.getfield 15, 3) := by decide +kernel
theorem dX6_readDigits_57 : decode cX6_readDigits 57 = .ok (.invokevirtual 37, 3) := by decide +kernel
theorem dX6_readDigits_60 : decode cX6_readDigits 60 = .ok (.iadd, 1) := by decide +kernel
theorem dX6_readDigits_61 : decode cX6_readDigits 61 = .ok (.bipush 48, 2) := by decide +kernel
theorem dX6_readDigits_63 : decode cX6_readDigits 63 = .ok (.isub, 1) := by decide +kernel
theorem dX6_readDigits_64 : decode cX6_readDigits 64 = .ok (.putfield 24, 3) := by decide +kernel
theorem dX6_readDigits_67 : decode cX6_readDigits 67 = .ok (.aload_n 0, 1) := by decide +kernel
theorem dX6_readDigits_68 : decode cX6_readDigits 68 = .ok (.dup, 1) := by decide +kernel
theorem dX6_readDigits_69 : decode cX6_readDigits 69 = .ok (.getfield 15, 3) := by decide +kernel
theorem dX6_readDigits_72 : decode cX6_readDigits 72 = .ok (.iconst 1, 1) := by decide +kernel
theorem dX6_readDigits_73 : decode cX6_readDigits 73 = .ok (.iadd, 1) := by decide +kernel
theorem dX6_readDigits_74 : decode cX6_readDigits 74 = .ok (.putfield 15, 3) := by decide +kernel
theorem dX6_readDigits_77 : decode cX6_readDigits 77 = .ok (.goto (-72), 3) := by decide +kernel
theorem dX6_readDigits_80 : decode cX6_readDigits 80 = .ok (.aload_n 0, 1) := by decide +kernel
theorem dX6_readDigits_81 : decode cX6_readDigits 81 = .ok (.aload_n 0, 1) := by decide +kernel
theorem dX6_readDigits_82 : decode cX6_readDigits 82 = .ok (.getfield 15, 3) := by decide +kernel
theorem dX6_readDigits_85 : decode cX6_readDigits 85 = .ok (.aload_n 0, 1) := by decide +kernel
theorem dX6_readDigits_86 : decode cX6_readDigits 86 = .ok (.getfield 18, 3) := by decide +kernel
theorem dX6_readDigits_89 : decode cX6_readDigits 89 = .ok (.isub, 1) := by decide +kernel
theorem dX6_readDigits_90 : decode cX6_readDigits 90 = .ok (.bipush 7, 2) := by decide +kernel
theorem dX6_readDigits_92 : decode cX6_readDigits 92 = .ok (.if_icmp .le 7, 3) := by decide +kernel
theorem dX6_readDigits_95 : decode cX6_readDigits 95 = .ok (.iconst 4, 1) := by decide +kernel
theorem dX6_readDigits_96 : decode cX6_readDigits 96 = .ok (.goto 4, 3) := by decide +kernel
theorem dX6_readDigits_99 : decode cX6_readDigits 99 = .ok (.iconst 2, 1) := by decide +kernel
theorem dX6_readDigits_100 : decode cX6_readDigits 100 = .ok (.putfield 21, 3) := by decide +kernel
theorem dX6_readDigits_103 : decode cX6_readDigits 103 = .ok (.return_, 1) := by decide +kernel
theorem dX6_byteAt_0 : decode cX6_byteAt 0 = .ok (.iload_n 1, 1) := by decide +kernel
theorem dX6_byteAt_1 : decode cX6_byteAt 1 = .ok (.ifCond .lt 20, 3) := by decide +kernel
theorem dX6_byteAt_4 : decode cX6_byteAt 4 = .ok (.iload_n 1, 1) := by decide +kernel
theorem dX6_byteAt_5 : decode cX6_byteAt 5 = .ok (.aload_n 0, 1) := by decide +kernel
theorem dX6_byteAt_6 : decode cX6_byteAt 6 = .ok (.getfield 9, 3) := by decide +kernel
theorem dX6_byteAt_9 : decode cX6_byteAt 9 = .ok (.if_icmp .ge 12, 3) := by decide +kernel
theorem dX6_byteAt_12 : decode cX6_byteAt 12 = .ok (.iload_n 1, 1) := by decide +kernel
theorem dX6_byteAt_13 : decode cX6_byteAt 13 = .ok (.aload_n 0, 1) := by decide +kernel
theorem dX6_byteAt_14 : decode cX6_byteAt 14 = .ok (.getfield 27, 3) := by decide +kernel
theorem dX6_byteAt_17 : decode cX6_byteAt 17 = .ok (.arraylength, 1) := by decide +kernel
theorem dX6_byteAt_18 : decode cX6_byteAt 18 = .ok (.if_icmp .lt 7, 3) := by decide +kernel
theorem dX6_byteAt_21 : decode cX6_byteAt 21 = .ok (.iconst (-1), 1) := by decide +kernel
theorem dX6_byteAt_22 : decode cX6_byteAt 22 = .ok (.goto 9, 3) := by decide +kernel
theorem dX6_byteAt_25 : decode cX6_byteAt 25 = .ok (.aload_n 0, 1) := by decide +kernel
theorem dX6_byteAt_26 : decode cX6_byteAt 26 = .ok (.getfield 27, 3) := by decide +kernel
theorem dX6_byteAt_29 : decode cX6_byteAt 29 = .ok (.iload_n 1, 1) := by decide +kernel
theorem dX6_byteAt_30 : decode cX6_byteAt 30 = .ok (.baload, 1) := by decide +kernel
theorem dX6_byteAt_31 : decode cX6_byteAt 31 = .ok (.ireturn, 1) := by decide +kernel
theorem dX6_isLetter_0 : decode cX6_isLetter 0 = .ok (.iload_n 0, 1) := by decide +kernel
theorem dX6_isLetter_1 : decode cX6_isLetter 1 = .ok (.bipush 97, 2) := by decide +kernel
theorem dX6_isLetter_3 : decode cX6_isLetter 3 = .ok (.if_icmp .lt 13, 3) := by decide +kernel
theorem dX6_isLetter_6 : decode cX6_isLetter 6 = .ok (.iload_n 0, 1) := by decide +kernel
theorem dX6_isLetter_7 : decode cX6_isLetter 7 = .ok (.bipush 122, 2) := by decide +kernel
theorem dX6_isLetter_9 : decode cX6_isLetter 9 = .ok (.if_icmp .gt 7, 3) := by decide +kernel
theorem dX6_isLetter_12 : decode cX6_isLetter 12 = .ok (.iconst 1, 1) := by decide +kernel
theorem dX6_isLetter_13 : decode cX6_isLetter 13 = .ok (.goto 4, 3) := by decide +kernel
theorem dX6_isLetter_16 : decode cX6_isLetter 16 = .ok (.iconst 0, 1) := by decide +kernel
theorem dX6_isLetter_17 : decode cX6_isLetter 17 = .ok (.ireturn, 1) := by decide +kernel
theorem dX6_isDigit_0 : decode cX6_isDigit 0 = .ok (.iload_n 0, 1) := by decide +kernel
theorem dX6_isDigit_1 : decode cX6_isDigit 1 = .ok (.bipush 48, 2) := by decide +kernel
theorem dX6_isDigit_3 : decode cX6_isDigit 3 = .ok (.if_icmp .lt 13, 3) := by decide +kernel
theorem dX6_isDigit_6 : decode cX6_isDigit 6 = .ok (.iload_n 0, 1) := by decide +kernel
theorem dX6_isDigit_7 : decode cX6_isDigit 7 = .ok (.bipush 57, 2) := by decide +kernel
theorem dX6_isDigit_9 : decode cX6_isDigit 9 = .ok (.if_icmp .gt 7, 3) := by decide +kernel
theorem dX6_isDigit_12 : decode cX6_isDigit 12 = .ok (.iconst 1, 1) := by decide +kernel
theorem dX6_isDigit_13 : decode cX6_isDigit 13 = .ok (.goto 4, 3) := by decide +kernel
theorem dX6_isDigit_16 : decode cX6_isDigit 16 = .ok (.iconst 0, 1) := by decide +kernel
theorem dX6_isDigit_17 : decode cX6_isDigit 17 = .ok (.ireturn, 1) := by decide +kernel
set_option maxRecDepth 20000 in
theorem ggX7_init_X3_init : GoodIn wsX7_init wsX3_init := goodIn_r _ [33, 34, 2, 3, 35, 36, 37, 38, 39, 40, 41, 23, 24, 42, 43, 44, 45, 46, 47, 48, 49, 50, 51, 52, 53, 392, 393, 394, 424, 425, 426, 427, 428, 400, 401, 402, 403, 404, 405, 406, 407, 408, 409] (by decide +kernel) (by decide +kernel)
set_option maxRecDepth 20000 in
theorem gX7_init_X3_init : GoodIn wsX7_init (wsX3_init) := ggX7_init_X3_init
set_option maxRecDepth 20000 in
theorem ggX7_init_X1_init : GoodIn wsX7_init wsX1_init := goodIn_r _ [56, 57, 2, 3, 58, 59, 60, 61, 8, 9, 62, 32, 33, 34, 35, 36, 37, 38, 39, 40, 41, 23, 24, 42, 43, 44, 45, 46, 47, 48, 49, 50, 51, 52, 53, 395, 396, 397, 392, 393, 394, 424, 425, 426, 427, 428, 400, 401, 402, 403, 404, 405, 406, 407, 408, 409] (by decide +kernel) (by decide +kernel)
set_option maxRecDepth 20000 in
theorem gX7_init_X1_init : GoodIn wsX7_init (wsX1_init) := ggX7_init_X1_init
set_option maxRecDepth 20000 in
theorem ggX7_init_X4_init : GoodIn wsX7_init wsX4_init := goodIn_r _ [64, 65, 2, 3, 4, 66, 67, 398, 399] (by decide +kernel) (by decide +kernel)
set_option maxRecDepth 20000 in
theorem gX7_init_X4_init_n40 : GoodIn wsX7_init (wsX4_init) := ggX7_init_X4_init
set_option maxRecDepth 20000 in
theorem ggX7_init_X2_init : GoodIn wsX7_init wsX2_init := goodIn_r _ [52, 53, 2, 3] (by decide +kernel) (by decide +kernel)
set_option maxRecDepth 20000 in
theorem gX7_init_X2_init_n50 : GoodIn wsX7_init (wsX2_init) := ggX7_init_X2_init
set_option maxRecDepth 20000 in
theorem ggX7_init_X5_init : GoodIn wsX7_init wsX5_init := goodIn_r _ [70, 71, 2, 3, 72, 73, 74, 45, 75, 76, 77, 78, 79, 80, 81, 82, 83, 84, 85, 86, 87, 88, 89, 90, 91, 92, 93, 94, 95, 96, 97, 98, 410, 411, 412, 413, 414, 415, 416, 417, 418, 419, 420, 421, 422, 423, 429, 430, 431, 432, 433, 434] (by decide +kernel) (by decide +kernel)
set_option maxRecDepth 20000 in
theorem gX7_init_X5_init : GoodIn wsX7_init (wsX5_init) := ggX7_init_X5_init
set_option maxRecDepth 20000 in
theorem ggX7_init_J0_length_8abf5 : GoodIn wsX7_init wsJ0_length_8abf5 := goodIn_r _ [103, 104, 105, 106, 107, 102, 108, 109, 110] (by decide +kernel) (by decide +kernel)
set_option maxRecDepth 20000 in
theorem gX7_init_J0_length_8abf5 : GoodIn wsX7_init (wsV RX7 69 RJ0 yJ0_length_8abf5 wsJ0_length_8abf5) := goodIn_app (goodIn_of _ (by decide +kernel)) ggX7_init_J0_length_8abf5
set_option maxRecDepth 20000 in
theorem ggX7_init_J0_charAt_5068e : GoodIn wsX7_init wsJ0_charAt_5068e := goodIn_r _ [114, 104, 115, 116, 117, 102, 118, 109, 110, 119, 120, 121, 122, 123, 124, 125, 126, 127, 128, 129, 130, 131, 132, 133, 134, 135, 136, 137, 138, 139, 140, 141, 142, 143, 144, 145, 146, 147] (by decide +kernel) (by decide +kernel)
set_option maxRecDepth 20000 in
theorem gX7_init_J0_charAt_5068e : GoodIn wsX7_init (wsV RX7 75 RJ0 yJ0_charAt_5068e wsJ0_charAt_5068e) := goodIn_app (goodIn_of _ (by decide +kernel)) ggX7_init_J0_charAt_5068e
set_option maxRecDepth 20000 in
theorem ggX7_init_X5_run : GoodIn wsX7_init wsX5_run := goodIn_r _ [151, 87, 88, 72, 73, 74, 82, 83, 152, 153, 154, 155, 86, 156, 98, 157, 158, 159, 160, 93, 94, 161, 162, 163, 9, 164, 41, 40, 165, 166, 167, 168, 169, 29, 170, 171, 172, 173, 174, 95, 96, 175, 176, 177, 178, 179, 180, 181, 182, 183, 184, 185, 186, 187, 188, 189, 190, 191, 192, 97, 193, 194, 195, 196, 197, 100, 101, 102, 103, 104, 105, 106, 107, 108, 109, 110, 198, 112, 113, 114, 115, 116, 117, 118, 119, 120, 121, 122, 123, 124, 125, 126, 127, 128, 129, 130, 131, 132, 133, 134, 135, 136, 137, 138, 139, 140, 141, 142, 143, 144, 145, 146, 147, 199, 200, 201, 202, 203, 204, 205, 206, 207, 208, 209, 210, 211, 212, 213, 214, 215, 216, 217, 218, 219, 220, 221, 222, 223, 224, 76, 77, 75, 225, 226, 227, 228, 229, 230, 231, 232, 233, 234, 235, 236, 237, 238, 239, 78, 79, 80, 240, 241, 242, 243, 244, 81, 245, 246, 247, 248, 249, 250, 251, 252, 253, 36, 254, 255, 256, 24, 257, 258, 259, 260, 261, 262, 263, 264, 265, 266, 267, 268, 269, 270, 271, 272, 273, 274, 275, 276, 277, 278, 279, 280, 281, 282, 283, 284, 285, 286, 287, 288, 289, 290, 291, 292, 293, 294, 295, 296, 297, 39, 298, 49, 46, 47, 48, 50, 299, 300, 301, 302, 303, 304, 305, 306, 307, 308, 309, 310, 311, 312, 313, 314, 315, 316, 317, 318, 319, 320, 321, 322, 323, 324, 325, 326, 327, 328, 329, 330, 331, 332, 333, 334, 335, 336, 337, 338, 339, 340, 341, 342, 343, 344, 345, 346, 347, 348, 349, 350, 351, 352, 353, 354, 355, 356, 357, 358, 359, 360, 361, 362, 363, 364, 410, 411, 412, 413, 414, 415, 416, 417, 418, 419, 420, 421, 422, 423, 429, 430, 431, 432, 433, 434, 392, 393, 394, 424, 425, 426, 427, 428, 400, 401, 402, 403, 404, 405, 406, 407, 408, 409] (by decide +kernel) (by decide +kernel)
set_option maxRecDepth 20000 in
theorem gX7_init_X5_run : GoodIn wsX7_init (wsV RX7 79 RX5 yX5_run wsX5_run) := goodIn_app (goodIn_of _ (by decide +kernel)) ggX7_init_X5_run
set_option maxRecDepth 20000 in
theorem ggX7_init_X3_copyFrom : GoodIn wsX7_init wsX3_copyFrom := goodIn_r _ [368, 41, 36, 40, 369, 370, 371, 24, 372, 312, 258, 271, 278, 289, 272, 284, 294, 279, 313, 373, 374, 375, 39, 376, 46, 377, 378, 379, 380, 47, 48, 49, 50, 392, 393, 394, 400, 401, 402, 403, 404, 405, 406, 407, 408, 409, 424, 425, 426, 427, 428] (by decide +kernel) (by decide +kernel)
set_option maxRecDepth 20000 in
theorem gX7_init_X3_copyFrom : GoodIn wsX7_init (wsV RX7 83 RX3 yX3_copyFrom wsX3_copyFrom) := goodIn_app (goodIn_of _ (by decide +kernel)) ggX7_init_X3_copyFrom
theorem dX7_init_0 : decode cX7_init 0 = .ok (.aload_n 0, 1) := by decide +kernel
theorem dX7_init_1 : decode cX7_init 1 = .ok (.invokespecial 1, 3) := by decide +kernel
theorem dX7_init_4 : decode cX7_init 4 = .ok (.aload_n 0, 1) := by decide +kernel
theorem dX7_init_5 : decode cX7_init 5 = .ok (.sipush 500, 3) := by decide +kernel
theorem dX7_init_8 : decode cX7_init 8 = .ok (.newarray .byte, 2) := by decide +kernel
theorem dX7_init_10 : decode cX7_init 10 = .ok (.putfield 9, 3) := by decide +kernel
theorem dX7_init_13 : decode cX7_init 13 = .ok (.aload_n 0, 1) := by decide +kernel
theorem dX7_init_14 : decode cX7_init 14 = .ok (.iconst 0, 1) := by decide +kernel
theorem dX7_init_15 : decode cX7_init 15 = .ok (.putfield 13, 3) := by decide +kernel
theorem dX7_init_18 : decode cX7_init 18 = .ok (.aload_n 0, 1) := by decide +kernel
theorem dX7_init_19 : decode cX7_init 19 = .ok (.new 17, 3) := by decide +kernel
theorem dX7_init_22 : decode cX7_init 22 = .ok (.dup, 1) := by decide +kernel
theorem dX7_init_23 : decode cX7_init 23 = .ok (.invokespecial 19, 3) := by decide +kernel
theorem dX7_init_26 : decode cX7_init 26 = .ok (.putfield 20, 3) := by decide +kernel
theorem dX7_init_29 : decode cX7_init 29 = .ok (.aload_n 0, 1) := by decide +kernel
theorem dX7_init_30 : decode cX7_init 30 = .ok (.new 24, 3) := by decide +kernel
theorem dX7_init_33 : decode cX7_init 33 = .ok (.dup, 1) := by decide +kernel
theorem dX7_init_34 : decode cX7_init 34 = .ok (.invokespecial 26, 3) := by decide +kernel
theorem dX7_init_37 : decode cX7_init 37 = .ok (.putfield 27, 3) := by decide +kernel
theorem dX7_init_40 : decode cX7_init 40 = .ok (.aload_n 0, 1) := by decide +kernel
theorem dX7_init_41 : decode cX7_init 41 = .ok (.new 17, 3) := by decide +kernel
theorem dX7_init_44 : decode cX7_init 44 = .ok (.dup, 1) := by decide +kernel
theorem dX7_init_45 : decode cX7_init 45 = .ok (.invokespecial 19, 3) := by decide +kernel
theorem dX7_init_48 : decode cX7_init 48 = .ok (.putfield 31, 3) := by decide +kernel
theorem dX7_init_51 : decode cX7_init 51 = .ok (.aload_n 0, 1) := by decide +kernel
theorem dX7_init_52 : decode cX7_init 52 = .ok (.iconst 0, 1) := by decide +kernel
theorem dX7_init_53 : decode cX7_init 53 = .ok (.putfield 34, 3) := by decide +kernel
theorem dX7_init_56 : decode cX7_init 56 = .ok (.aload_n 0, 1) := by decide +kernel
theorem dX7_init_57 : decode cX7_init 57 = .ok (.new 38, 3) := by decide +kernel
theorem dX7_init_60 : decode cX7_init 60 = .ok (.dup, 1) := by decide +kernel
theorem dX7_init_61 : decode cX7_init 61 = .ok (.invokespecial 40, 3) := by decide +kernel
theorem dX7_init_64 : decode cX7_init 64 = .ok (.putfield 41, 3) := by decide +kernel
theorem dX7_init_67 : decode cX7_init 67 = .ok (.aload_n 0, 1) := by decide +kernel
theorem dX7_init_68 : decode cX7_init 68 = .ok (.new 17, 3) := by decide +kernel
theorem dX7_init_71 : decode cX7_init 71 = .ok (.dup, 1) := by decide +kernel
theorem dX7_init_72 : decode cX7_init 72 = .ok (.invokespecial 19, 3) := by decide +kernel
theorem dX7_init_75 : decode cX7_init 75 = .ok (.putfield 45, 3) := by decide +kernel
theorem dX7_init_78 : decode cX7_init 78 = .ok (.aload_n 0, 1) := by decide +kernel
theorem dX7_init_79 : decode cX7_init 79 = .ok (.new 48, 3) := by decide +kernel
theorem dX7_init_82 : decode cX7_init 82 = .ok (.dup, 1) := by decide +kernel
theorem dX7_init_83 : decode cX7_init 83 = .ok (.invokespecial 50, 3) := by decide +kernel
theorem dX7_init_86 : decode cX7_init 86 = .ok (.putfield 51, 3) := by decide +kernel
theorem dX7_init_89 : decode cX7_init 89 = .ok (.aload_n 0, 1) := by decide +kernel
theorem dX7_init_90 : decode cX7_init 90 = .ok (.new 48, 3) := by decide +kernel
theorem dX7_init_93 : decode cX7_init 93 = .ok (.dup, 1) := by decide +kernel
theorem dX7_init_94 : decode cX7_init 94 = .ok (.invokespecial 50, 3) := by decide +kernel
theorem dX7_init_97 : decode cX7_init 97 = .ok (.putfield 55, 3) := by decide +kernel
theorem dX7_init_100 : decode cX7_init 100 = .ok (.aload_n 0, 1) := by decide +kernel
theorem dX7_init_101 : decode cX7_init 101 = .ok (.new 58, 3) := by decide +kernel
theorem dX7_init_104 : decode cX7_init 104 = .ok (.dup, 1) := by decide +kernel
theorem dX7_init_105 : decode cX7_init 105 = .ok (.aload_n 0, 1) := by decide +kernel
theorem dX7_init_106 : decode cX7_init 106 = .ok (.getfield 9, 3) := by decide +kernel
theorem dX7_init_109 : decode cX7_init 109 = .ok (.aload_n 0, 1) := by decide +kernel
theorem dX7_init_110 : decode cX7_init 110 = .ok (.getfield 45, 3) := by decide +kernel
theorem dX7_init_113 : decode cX7_init 113 = .ok (.invokespecial 60, 3) := by decide +kernel
theorem dX7_init_116 : decode cX7_init 116 = .ok (.putfield 63, 3) := by decide +kernel
theorem dX7_init_119 : decode cX7_init 119 = .ok (.ldc 67, 2) := by decide +kernel
theorem dX7_init_121 : decode cX7_init 121 = .ok (.invokevirtual 69, 3) := by decide +kernel
theorem dX7_init_124 : decode cX7_init 124 = .ok (.istore_n 1, 1) := by decide +kernel
theorem dX7_init_125 : decode cX7_init 125 = .ok (.iconst 0, 1) := by decide +kernel
theorem dX7_init_126 : decode cX7_init 126 = .ok (.istore_n 2, 1) := by decide +kernel
theorem dX7_init_127 : decode cX7_init 127 = .ok (.iload_n 2, 1) := by decide +kernel
theorem dX7_init_128 : decode cX7_init 128 = .ok (.iload_n 1, 1) := by decide +kernel
theorem dX7_init_129 : decode cX7_init 129 = .ok (.if_icmp .ge 29, 3) := by decide +kernel
theorem dX7_init_132 : decode cX7_init 132 = .ok (.iload_n 2, 1) := by decide +kernel
theorem dX7_init_133 : decode cX7_init 133 = .ok (.sipush 500, 3) := by decide +kernel
theorem dX7_init_136 : decode cX7_init 136 = .ok (.if_icmp .ge 22, 3) := by decide +kernel
theorem dX7_init_139 : decode cX7_init 139 = .ok (.aload_n 0, 1) := by decide +kernel
theorem dX7_init_140 : decode cX7_init 140 = .ok (.getfield 9, 3) := by decide +kernel
theorem dX7_init_143 : decode cX7_init 143 = .ok (.iload_n 2, 1) := by decide +kernel
theorem dX7_init_144 : decode cX7_init 144 = .ok (.ldc 67, 2) := by decide +kernel
theorem dX7_init_146 : decode cX7_init 146 = .ok (.iload_n 2, 1) := by decide +kernel
theorem dX7_init_147 : decode cX7_init 147 = .ok (.invokevirtual 75, 3) := by decide +kernel
theorem dX7_init_150 : decode cX7_init 150 = .ok (.i2b, 1) := by decide +kernel
theorem dX7_init_151 : decode cX7_init 151 = .ok (.bastore, 1) := by decide +kernel
theorem dX7_init_152 : decode cX7_init 152 = .ok (.iinc 2 1, 3) := by decide +kernel
theorem dX7_init_155 : decode cX7_init 155 = .ok (.goto (-28), 3) := by decide +kernel
theorem dX7_init_158 : decode cX7_init 158 = .ok (.aload_n 0, 1) := by decide +kernel
theorem dX7_init_159 : decode cX7_init 159 = .ok (.getfield 63, 3) := by decide +kernel
theorem dX7_init_162 : decode cX7_init 162 = .ok (.iload_n 1, 1) := by decide +kernel
theorem dX7_init_163 : decode cX7_init 163 = .ok (.invokevirtual 79, 3) := by decide +kernel
theorem dX7_init_166 : decode cX7_init 166 = .ok (.aload_n 0, 1) := by decide +kernel
theorem dX7_init_167 : decode cX7_init 167 = .ok (.getfield 20, 3) := by decide +kernel
theorem dX7_init_170 : decode cX7_init 170 = .ok (.aload_n 0, 1) := by decide +kernel
theorem dX7_init_171 : decode cX7_init 171 = .ok (.getfield 45, 3) := by decide +kernel
theorem dX7_init_174 : decode cX7_init 174 = .ok (.invokevirtual 83, 3) := by decide +kernel
theorem dX7_init_177 : decode cX7_init 177 = .ok (.return_, 1) := by decide +kernel
set_option maxRecDepth 20000 in
theorem ggX7_append_X7_putWord : GoodIn wsX7_append wsX7_putWord := goodIn_r _ [6, 1, 7, 8, 9, 10, 11, 12, 13, 14, 15, 16, 17, 18] (by decide +kernel) (by decide +kernel)
set_option maxRecDepth 20000 in
theorem gX7_append_X7_putWord : GoodIn wsX7_append (wsV RX7 87 RX7 yX7_putWord wsX7_putWord) := goodIn_app (goodIn_of _ (by decide +kernel)) ggX7_append_X7_putWord
theorem dX7_append_0 : decode cX7_append 0 = .ok (.aload_n 0, 1) := by decide +kernel
theorem dX7_append_1 : decode cX7_append 1 = .ok (.getfield 13, 3) := by decide +kernel
theorem dX7_append_4 : decode cX7_append 4 = .ok (.bipush 20, 2) := by decide +kernel
theorem dX7_append_6 : decode cX7_append 6 = .ok (.iadd, 1) := by decide +kernel
theorem dX7_append_7 : decode cX7_append 7 = .ok (.sipush 500, 3) := by decide +kernel
theorem dX7_append_10 : decode cX7_append 10 = .ok (.if_icmp .le 6, 3) := by decide +kernel
theorem dX7_append_13 : decode cX7_append 13 = .ok (.bipush (-2), 2) := by decide +kernel
theorem dX7_append_15 : decode cX7_append 15 = .ok (.ireturn, 1) := by decide +kernel
theorem dX7_append_16 : decode cX7_append 16 = .ok (.aload_n 0, 1) := by decide +kernel
theorem dX7_append_17 : decode cX7_append 17 = .ok (.iload_n 1, 1) := by decide +kernel
theorem dX7_append_18 : decode cX7_append 18 = .ok (.invokevirtual 87, 3) := by decide +kernel
theorem dX7_append_21 : decode cX7_append 21 = .ok (.aload_n 0, 1) := by decide +kernel
theorem dX7_append_22 : decode cX7_append 22 = .ok (.iload_n 2, 1) := by decide +kernel
theorem dX7_append_23 : decode cX7_append 23 = .ok (.invokevirtual 87, 3) := by decide +kernel
theorem dX7_append_26 : decode cX7_append 26 = .ok (.aload_n 0, 1) := by decide +kernel
theorem dX7_append_27 : decode cX7_append 27 = .ok (.iload_n 3, 1) := by decide +kernel
theorem dX7_append_28 : decode cX7_append 28 = .ok (.invokevirtual 87, 3) := by decide +kernel
theorem dX7_append_31 : decode cX7_append 31 = .ok (.aload_n 0, 1) := by decide +kernel
theorem dX7_append_32 : decode cX7_append 32 = .ok (.iload 4, 2) := by decide +kernel
theorem dX7_append_34 : decode cX7_append 34 = .ok (.invokevirtual 87, 3) := by decide +kernel
theorem dX7_append_37 : decode cX7_append 37 = .ok (.aload_n 0, 1) := by decide +kernel
theorem dX7_append_38 : decode cX7_append 38 = .ok (.iload 5, 2) := by decide +kernel
theorem dX7_append_40 : decode cX7_append 40 = .ok (.invokevirtual 87, 3) := by decide +kernel
theorem dX7_append_43 : decode cX7_append 43 = .ok (.aload_n 0, 1) := by decide +kernel
theorem dX7_append_44 : decode cX7_append 44 = .ok (.getfield 13, 3) := by decide +kernel
theorem dX7_append_47 : decode cX7_append 47 = .ok (.ireturn, 1) := by decide +kernel
theorem dX7_putWord_0 : decode cX7_putWord 0 = .ok (.bipush 24, 2) := by decide +kernel
theorem dX7_putWord_2 : decode cX7_putWord 2 = .ok (.istore_n 2, 1) := by decide +kernel
theorem dX7_putWord_3 : decode cX7_putWord 3 = .ok (.iload_n 2, 1) := by decide +kernel
theorem dX7_putWord_4 : decode cX7_putWord 4 = .ok (.ifCond .lt 42, 3) := by decide +kernel
theorem dX7_putWord_7 : decode cX7_putWord 7 = .ok (.aload_n 0, 1) := by decide +kernel
theorem dX7_putWord_8 : decode cX7_putWord 8 = .ok (.getfield 13, 3) := by decide +kernel
theorem dX7_putWord_11 : decode cX7_putWord 11 = .ok (.sipush 500, 3) := by decide +kernel
theorem dX7_putWord_14 : decode cX7_putWord 14 = .ok (.if_icmp .ge 32, 3) := by decide +kernel
theorem dX7_putWord_17 : decode cX7_putWord 17 = .ok (.aload_n 0, 1) := by decide +kernel
theorem dX7_putWord_18 : decode cX7_putWord 18 = .ok (.getfield 9, 3) := by decide +kernel
theorem dX7_putWord_21 : decode cX7_putWord 21 = .ok (.aload_n 0, 1) := by decide +kernel
theorem dX7_putWord_22 : decode cX7_putWord 22 = .ok (.getfield 13, 3) := by decide +kernel
theorem dX7_putWord_25 : decode cX7_putWord 25 = .ok (.iload_n 1, 1) := by decide +kernel
theorem dX7_putWord_26 : decode cX7_putWord 26 = .ok (.iload_n 2, 1) := by decide +kernel
theorem dX7_putWord_27 : decode cX7_putWord 27 = .ok (.ishr, 1) := by decide +kernel
theorem dX7_putWord_28 : decode cX7_putWord 28 = .ok (.i2b, 1) := by decide +kernel
theorem dX7_putWord_29 : decode cX7_putWord 29 = .ok (.bastore, 1) := by decide +kernel
theorem dX7_putWord_30 : decode cX7_putWord 30 = .ok (.aload_n 0, 1) := by decide +kernel
theorem dX7_putWord_31 : decode cX7_putWord 31 = .ok (.dup, 1) := by decide +kernel
theorem dX7_putWord_32 : decode cX7_putWord 32 = .ok (.getfield 13, 3) := by decide +kernel
theorem dX7_putWord_35 : decode cX7_putWord 35 = .ok (.iconst 1, 1) := by decide +kernel
theorem dX7_putWord_36 : decode cX7_putWord 36 = .ok (.iadd, 1) := by decide +kernel
theorem dX7_putWord_37 : decode cX7_putWord 37 = .ok (.putfield 13, 3) := by decide +kernel
theorem dX7_putWord_40 : decode cX7_putWord 40 = .ok (.iinc 2 (-8), 3) := by decide +kernel
theorem dX7_putWord_43 : decode cX7_putWord 43 = .ok (.goto (-40), 3) := by decide +kernel
theorem dX7_putWord_46 : decode cX7_putWord 46 = .ok (.return_, 1) := by decide +kernel
set_option maxRecDepth 20000 in
theorem ggX7_runScript_X5_run : GoodIn wsX7_runScript wsX5_run := goodIn_r _ [12, 13, 14, 15, 16, 17, 18, 19, 20, 21, 22, 23, 24, 25, 26, 27, 28, 29, 30, 31, 32, 33, 34, 35, 36, 37, 38, 39, 40, 41, 42, 43, 44, 11, 45, 46, 47, 48, 49, 50, 51, 52, 53, 54, 55, 56, 57, 58, 59, 60, 61, 62, 63, 64, 65, 66, 67, 68, 69, 70, 71, 72, 73, 74, 75, 76, 77, 78, 79, 80, 81, 82, 83, 84, 85, 86, 87, 88, 89, 90, 91, 92, 93, 94, 95, 96, 97, 98, 99, 100, 101, 102, 103, 104, 105, 106, 107, 108, 109, 110, 111, 112, 113, 114, 115, 116, 117, 118, 119, 120, 121, 122, 123, 124, 125, 126, 127, 128, 129, 130, 131, 132, 133, 134, 135, 136, 137, 138, 139, 140, 141, 142, 143, 144, 145, 146, 147, 148, 149, 150, 151, 152, 153, 154, 155, 156, 157, 158, 159, 160, 161, 162, 163, 164, 165, 166, 167, 168, 169, 170, 171, 172, 173, 174, 175, 176, 177, 178, 179, 180, 181, 182, 183, 184, 185, 186, 187, 188, 189, 190, 191, 192, 193, 194, 195, 196, 197, 198, 199, 200, 201, 202, 203, 204, 205, 206, 207, 208, 209, 210, 211, 212, 213, 214, 215, 216, 217, 218, 219, 220, 221, 222, 223, 224, 225, 226, 227, 228, 229, 230, 231, 232, 233, 234, 235, 236, 237, 238, 239, 240, 241, 242, 243, 244, 245, 246, 247, 248, 249, 250, 251, 252, 253, 254, 255, 256, 257, 258, 259, 260, 261, 262, 263, 264, 265, 266, 267, 268, 269, 270, 271, 272, 273, 274, 275, 276, 277, 278, 279, 280, 281, 282, 283, 284, 285, 286, 287, 288, 289, 290, 291, 292, 293, 294, 295, 296, 297, 298, 299, 300, 301, 302, 303, 304, 342, 343, 344, 345, 346, 347, 348, 349, 350, 351, 352, 353, 354, 355, 359, 360, 361, 362, 363, 364, 356, 357, 358, 365, 366, 367, 368, 369, 370, 371, 372, 373, 374, 375, 376, 377, 378, 379] (by decide +kernel) (by decide +kernel)
set_option maxRecDepth 20000 in
theorem gX7_runScript_X5_run : GoodIn wsX7_runScript (wsV RX7 79 RX5 yX5_run wsX5_run) := goodIn_app (goodIn_of _ (by decide +kernel)) ggX7_runScript_X5_run
set_option maxRecDepth 20000 in
theorem ggX7_runScript_X1_remember : GoodIn wsX7_runScript wsX1_remember := goodIn_r _ [309, 310, 311, 312, 313, 28, 29, 30, 314, 315, 316, 36, 317, 38, 186, 39, 318, 319, 320, 190, 321, 252, 192, 205, 212, 223, 206, 218, 228, 213, 253, 322, 323, 324, 232, 325, 235, 326, 327, 328, 329, 236, 237, 234, 238, 380, 381, 382, 356, 357, 358, 370, 371, 372, 373, 374, 375, 376, 377, 378, 379, 365, 366, 367, 368, 369] (by decide +kernel) (by decide +kernel)
set_option maxRecDepth 20000 in
theorem gX7_runScript_X1_remember : GoodIn wsX7_runScript (wsV RX7 97 RX1 yX1_remember wsX1_remember) := goodIn_app (goodIn_of _ (by decide +kernel)) ggX7_runScript_X1_remember
set_option maxRecDepth 20000 in
theorem ggX7_runScript_X3_copyFrom : GoodIn wsX7_runScript wsX3_copyFrom := goodIn_r _ [317, 38, 186, 39, 318, 319, 320, 190, 321, 252, 192, 205, 212, 223, 206, 218, 228, 213, 253, 322, 323, 324, 232, 325, 235, 326, 327, 328, 329, 236, 237, 234, 238, 356, 357, 358, 370, 371, 372, 373, 374, 375, 376, 377, 378, 379, 365, 366, 367, 368, 369] (by decide +kernel) (by decide +kernel)
set_option maxRecDepth 20000 in
theorem gX7_runScript_X3_copyFrom : GoodIn wsX7_runScript (wsV RX7 83 RX3 yX3_copyFrom wsX3_copyFrom) := goodIn_app (goodIn_of _ (by decide +kernel)) ggX7_runScript_X3_copyFrom
theorem dX7_runScript_0 : decode cX7_runScript 0 = .ok (.aload_n 0, 1) := by decide +kernel
theorem dX7_runScript_1 : decode cX7_runScript 1 = .ok (.getfield 63, 3) := by decide +kernel
theorem dX7_runScript_4 : decode cX7_runScript 4 = .ok (.aload_n 0, 1) := by decide +kernel
theorem dX7_runScript_5 : decode cX7_runScript 5 = .ok (.getfield 13, 3) := by decide +kernel
theorem dX7_runScript_8 : decode cX7_runScript 8 = .ok (.invokevirtual 79, 3) := by decide +kernel
theorem dX7_runScript_11 : decode cX7_runScript 11 = .ok (.aload_n 0, 1) := by decide +kernel
theorem dX7_runScript_12 : decode cX7_runScript 12 = .ok (.iconst 0, 1) := by decide +kernel
theorem dX7_runScript_13 : decode cX7_runScript 13 = .ok (.putfield 13, 3) := by decide +kernel
theorem dX7_runScript_16 : decode cX7_runScript 16 = .ok (.aload_n 0, 1) := by decide +kernel
theorem dX7_runScript_17 : decode cX7_runScript 17 = .ok (.getfield 63, 3) := by decide +kernel
theorem dX7_runScript_20 : decode cX7_runScript 20 = .ok (.getfield 94, 3) := by decide +kernel
theorem dX7_runScript_23 : decode cX7_runScript 23 = .ok (.ifCond .eq 5, 3) := by decide +kernel
theorem dX7_runScript_26 : decode cX7_runScript 26 = .ok (.iconst (-1), 1) := by decide +kernel
theorem dX7_runScript_27 : decode cX7_runScript 27 = .ok (.ireturn, 1) := by decide +kernel
theorem dX7_runScript_28 : decode cX7_runScript 28 = .ok (.aload_n 0, 1) := by decide +kernel
theorem dX7_runScript_29 : decode cX7_runScript 29 = .ok (.getfield 27, 3) := by decide +kernel
theorem dX7_runScript_32 : decode cX7_runScript 32 = .ok (.aload_n 0, 1) := by decide +kernel
theorem dX7_runScript_33 : decode cX7_runScript 33 = .ok (.getfield 20, 3) := by decide +kernel
theorem dX7_runScript_36 : decode cX7_runScript 36 = .ok (.invokevirtual 97, 3) := by decide +kernel
theorem dX7_runScript_39 : decode cX7_runScript 39 = .ok (.aload_n 0, 1) := by decide +kernel
theorem dX7_runScript_40 : decode cX7_runScript 40 = .ok (.getfield 20, 3) := by decide +kernel
theorem dX7_runScript_43 : decode cX7_runScript 43 = .ok (.aload_n 0, 1) := by decide +kernel
theorem dX7_runScript_44 : decode cX7_runScript 44 = .ok (.getfield 45, 3) := by decide +kernel
theorem dX7_runScript_47 : decode cX7_runScript 47 = .ok (.invokevirtual 83, 3) := by decide +kernel
theorem dX7_runScript_50 : decode cX7_runScript 50 = .ok (.aload_n 0, 1) := by decide +kernel
theorem dX7_runScript_51 : decode cX7_runScript 51 = .ok (.getfield 20, 3) := by decide +kernel
theorem dX7_runScript_54 : decode cX7_runScript 54 = .ok (.getfield 100, 3) := by decide +kernel
theorem dX7_runScript_57 : decode cX7_runScript 57 = .ok (.ireturn, 1) := by decide +kernel
set_option maxRecDepth 20000 in
theorem ggX7_openLoan_X7_requireRange : GoodIn wsX7_openLoan wsX7_requireRange := goodIn_ca (goodIn_r _ [8, 9, 10] (by decide +kernel) (by decide +kernel)) (goodIn_sub (fun _ h => List.mem_cons_of_mem _ (List.mem_append_left _ (List.mem_append_right _ h))) (by decide +kernel))
set_option maxRecDepth 20000 in
theorem gX7_openLoan_X7_requireRange : GoodIn wsX7_openLoan (va_wsS RX7 90 yX7_requireRange wsX7_requireRange) := goodIn_app (goodIn_of _ (by decide +kernel)) ggX7_openLoan_X7_requireRange
set_option maxRecDepth 20000 in
theorem ggX7_openLoan_X3_hasRoom : GoodIn wsX7_openLoan wsX3_hasRoom := goodIn_r _ [15, 16, 101, 102, 103] (by decide +kernel) (by decide +kernel)
set_option maxRecDepth 20000 in
theorem gX7_openLoan_X3_hasRoom : GoodIn wsX7_openLoan (wsV RX7 104 RX3 yX3_hasRoom wsX3_hasRoom) := goodIn_app (goodIn_of _ (by decide +kernel)) ggX7_openLoan_X3_hasRoom
set_option maxRecDepth 20000 in
theorem ggX7_openLoan_X7_requireState : GoodIn wsX7_openLoan wsX7_requireState := goodIn_ca (goodIn_r _ [19, 20, 21] (by decide +kernel) (by decide +kernel)) (goodIn_sub (fun _ h => List.mem_cons_of_mem _ (List.mem_append_right _ h)) (by decide +kernel))
set_option maxRecDepth 20000 in
theorem gX7_openLoan_X7_requireState : GoodIn wsX7_openLoan (va_wsS RX7 108 yX7_requireState wsX7_requireState) := goodIn_app (goodIn_of _ (by decide +kernel)) ggX7_openLoan_X7_requireState
set_option maxRecDepth 20000 in
theorem ggX7_openLoan_X1_remember : GoodIn wsX7_openLoan wsX1_remember := goodIn_r _ [26, 27, 28, 29, 30, 31, 32, 33, 34, 35, 36, 14, 37, 16, 38, 39, 40, 41, 42, 43, 44, 45, 46, 47, 48, 49, 50, 51, 52, 53, 54, 55, 56, 57, 58, 59, 60, 61, 62, 63, 64, 65, 66, 67, 68, 104, 105, 106, 101, 102, 103, 107, 108, 109, 110, 111, 112, 113, 114, 115, 116, 117, 118, 119, 120, 121] (by decide +kernel) (by decide +kernel)
set_option maxRecDepth 20000 in
theorem gX7_openLoan_X1_remember : GoodIn wsX7_openLoan (wsV RX7 97 RX1 yX1_remember wsX1_remember) := goodIn_app (goodIn_of _ (by decide +kernel)) ggX7_openLoan_X1_remember
set_option maxRecDepth 20000 in
theorem ggX7_openLoan_X3_addLoan : GoodIn wsX7_openLoan wsX3_addLoan := goodIn_r _ [72, 16, 38, 73, 74, 75, 43, 76, 45, 46, 50, 51, 52, 53, 54, 47, 48, 49, 77, 78, 79, 80, 81, 82, 83, 84, 85, 86, 87, 88, 89, 101, 102, 103, 107, 108, 109, 110, 111, 112, 113, 114, 115, 116] (by decide +kernel) (by decide +kernel)
set_option maxRecDepth 20000 in
theorem gX7_openLoan_X3_addLoan : GoodIn wsX7_openLoan (wsV RX7 112 RX3 yX3_addLoan wsX3_addLoan) := goodIn_app (goodIn_of _ (by decide +kernel)) ggX7_openLoan_X3_addLoan
theorem dX7_openLoan_0 : decode cX7_openLoan 0 = .ok (.iload_n 1, 1) := by decide +kernel
theorem dX7_openLoan_1 : decode cX7_openLoan 1 = .ok (.iconst 1, 1) := by decide +kernel
theorem dX7_openLoan_2 : decode cX7_openLoan 2 = .ok (.ldc 103, 2) := by decide +kernel
theorem dX7_openLoan_4 : decode cX7_openLoan 4 = .ok (.invokestatic 90, 3) := by decide +kernel
theorem dX7_openLoan_7 : decode cX7_openLoan 7 = .ok (.iload_n 2, 1) := by decide +kernel
theorem dX7_openLoan_8 : decode cX7_openLoan 8 = .ok (.iconst 0, 1) := by decide +kernel
theorem dX7_openLoan_9 : decode cX7_openLoan 9 = .ok (.sipush 3000, 3) := by decide +kernel
theorem dX7_openLoan_12 : decode cX7_openLoan 12 = .ok (.invokestatic 90, 3) := by decide +kernel
theorem dX7_openLoan_15 : decode cX7_openLoan 15 = .ok (.iload_n 3, 1) := by decide +kernel
theorem dX7_openLoan_16 : decode cX7_openLoan 16 = .ok (.iconst 1, 1) := by decide +kernel
theorem dX7_openLoan_17 : decode cX7_openLoan 17 = .ok (.bipush 120, 2) := by decide +kernel
theorem dX7_openLoan_19 : decode cX7_openLoan 19 = .ok (.invokestatic 90, 3) := by decide +kernel
theorem dX7_openLoan_22 : decode cX7_openLoan 22 = .ok (.aload_n 0, 1) := by decide +kernel
theorem dX7_openLoan_23 : decode cX7_openLoan 23 = .ok (.getfield 20, 3) := by decide +kernel
theorem dX7_openLoan_26 : decode cX7_openLoan 26 = .ok (.invokevirtual 104, 3) := by decide +kernel
theorem dX7_openLoan_29 : decode cX7_openLoan 29 = .ok (.invokestatic 108, 3) := by decide +kernel
theorem dX7_openLoan_32 : decode cX7_openLoan 32 = .ok (.aload_n 0, 1) := by decide +kernel
theorem dX7_openLoan_33 : decode cX7_openLoan 33 = .ok (.getfield 27, 3) := by decide +kernel
theorem dX7_openLoan_36 : decode cX7_openLoan 36 = .ok (.aload_n 0, 1) := by decide +kernel
theorem dX7_openLoan_37 : decode cX7_openLoan 37 = .ok (.getfield 20, 3) := by decide +kernel
theorem dX7_openLoan_40 : decode cX7_openLoan 40 = .ok (.invokevirtual 97, 3) := by decide +kernel
theorem dX7_openLoan_43 : decode cX7_openLoan 43 = .ok (.aload_n 0, 1) := by decide +kernel
theorem dX7_openLoan_44 : decode cX7_openLoan 44 = .ok (.getfield 20, 3) := by decide +kernel
theorem dX7_openLoan_47 : decode cX7_openLoan 47 = .ok (.iload_n 1, 1) := by decide +kernel
theorem dX7_openLoan_48 : decode cX7_openLoan 48 = .ok (.iload_n 2, 1) := by decide +kernel
theorem dX7_openLoan_49 : decode cX7_openLoan 49 = .ok (.iload_n 3, 1) := by decide +kernel
theorem dX7_openLoan_50 : decode cX7_openLoan 50 = .ok (.invokevirtual 112, 3) := by decide +kernel
theorem dX7_openLoan_53 : decode cX7_openLoan 53 = .ok (.aload_n 0, 1) := by decide +kernel
theorem dX7_openLoan_54 : decode cX7_openLoan 54 = .ok (.getfield 20, 3) := by decide +kernel
theorem dX7_openLoan_57 : decode cX7_openLoan 57 = .ok (.getfield 100, 3) := by decide +kernel
theorem dX7_openLoan_60 : decode cX7_openLoan 60 = .ok (.iconst 1, 1) := by decide +kernel
theorem dX7_openLoan_61 : decode cX7_openLoan 61 = .ok (.isub, 1) := by decide +kernel
theorem dX7_openLoan_62 : decode cX7_openLoan 62 = .ok (.ireturn, 1) := by decide +kernel
set_option maxRecDepth 20000 in
theorem ggX7_pay_X7_loanAt : GoodIn wsX7_pay wsX7_loanAt := goodIn_ca (goodIn_r _ [7, 8, 9, 2, 10, 11, 104, 105, 106, 107, 108, 109, 110, 111, 112, 113, 114, 115, 116, 117] (by decide +kernel) (by decide +kernel)) (goodIn_sub (fun _ h => List.mem_cons_of_mem _ (List.mem_append_left _ (List.mem_append_right _ h))) (by decide +kernel))
set_option maxRecDepth 20000 in
theorem gX7_pay_X7_loanAt : GoodIn wsX7_pay (wsV RX7 115 RX7 yX7_loanAt wsX7_loanAt) := goodIn_app (goodIn_of _ (by decide +kernel)) ggX7_pay_X7_loanAt
set_option maxRecDepth 20000 in
theorem ggX7_pay_X2_isRunning : GoodIn wsX7_pay wsX2_isRunning := goodIn_r _ [16, 17, 118, 119, 120, 121, 122, 123, 124, 125, 126, 127] (by decide +kernel) (by decide +kernel)
set_option maxRecDepth 20000 in
theorem gX7_pay_X2_isRunning : GoodIn wsX7_pay (wsV RX7 119 RX2 yX2_isRunning wsX2_isRunning) := goodIn_app (goodIn_of _ (by decide +kernel)) ggX7_pay_X2_isRunning
set_option maxRecDepth 20000 in
theorem ggX7_pay_X7_requireState : GoodIn wsX7_pay wsX7_requireState := goodIn_ca (goodIn_r _ [20, 21, 22] (by decide +kernel) (by decide +kernel)) (goodIn_sub (fun _ h => List.mem_cons_of_mem _ (List.mem_append_right _ h)) (by decide +kernel))
set_option maxRecDepth 20000 in
theorem gX7_pay_X7_requireState : GoodIn wsX7_pay (va_wsS RX7 108 yX7_requireState wsX7_requireState) := goodIn_app (goodIn_of _ (by decide +kernel)) ggX7_pay_X7_requireState
set_option maxRecDepth 20000 in
theorem ggX7_pay_X1_remember : GoodIn wsX7_pay wsX1_remember := goodIn_r _ [27, 28, 29, 30, 31, 32, 33, 34, 35, 36, 37, 38, 39, 40, 41, 42, 43, 44, 45, 15, 46, 47, 17, 48, 49, 50, 51, 52, 53, 54, 55, 56, 57, 58, 59, 60, 61, 62, 63, 64, 65, 66, 67, 68, 69, 128, 129, 130, 115, 116, 117, 118, 119, 120, 121, 122, 123, 124, 125, 126, 127, 131, 132, 133, 134, 135] (by decide +kernel) (by decide +kernel)
set_option maxRecDepth 20000 in
theorem gX7_pay_X1_remember : GoodIn wsX7_pay (wsV RX7 97 RX1 yX1_remember wsX1_remember) := goodIn_app (goodIn_of _ (by decide +kernel)) ggX7_pay_X1_remember
set_option maxRecDepth 20000 in
theorem ggX7_pay_X3_settle : GoodIn wsX7_pay wsX3_settle := goodIn_r _ [73, 41, 42, 74, 75, 76, 38, 77, 40, 78, 79, 80, 15, 81, 17, 48, 51, 82, 83, 84, 85, 86, 49, 54, 87, 88, 89, 90, 52, 91, 92, 93, 94, 50, 95, 96, 97, 98, 53, 99, 100, 101, 59, 102, 68, 61, 66, 67, 69, 103, 32, 33, 34, 115, 116, 117, 118, 119, 120, 121, 122, 123, 124, 125, 126, 127, 131, 132, 133, 134, 135] (by decide +kernel) (by decide +kernel)
set_option maxRecDepth 20000 in
theorem gX7_pay_X3_settle : GoodIn wsX7_pay (wsV RX7 122 RX3 yX3_settle wsX3_settle) := goodIn_app (goodIn_of _ (by decide +kernel)) ggX7_pay_X3_settle
theorem dX7_pay_0 : decode cX7_pay 0 = .ok (.aload_n 0, 1) := by decide +kernel
theorem dX7_pay_1 : decode cX7_pay 1 = .ok (.iload_n 1, 1) := by decide +kernel
theorem dX7_pay_2 : decode cX7_pay 2 = .ok (.invokevirtual 115, 3) := by decide +kernel
theorem dX7_pay_5 : decode cX7_pay 5 = .ok (.invokevirtual 119, 3) := by decide +kernel
theorem dX7_pay_8 : decode cX7_pay 8 = .ok (.invokestatic 108, 3) := by decide +kernel
theorem dX7_pay_11 : decode cX7_pay 11 = .ok (.aload_n 0, 1) := by decide +kernel
theorem dX7_pay_12 : decode cX7_pay 12 = .ok (.getfield 27, 3) := by decide +kernel
theorem dX7_pay_15 : decode cX7_pay 15 = .ok (.aload_n 0, 1) := by decide +kernel
theorem dX7_pay_16 : decode cX7_pay 16 = .ok (.getfield 20, 3) := by decide +kernel
theorem dX7_pay_19 : decode cX7_pay 19 = .ok (.invokevirtual 97, 3) := by decide +kernel
theorem dX7_pay_22 : decode cX7_pay 22 = .ok (.aload_n 0, 1) := by decide +kernel
theorem dX7_pay_23 : decode cX7_pay 23 = .ok (.getfield 20, 3) := by decide +kernel
theorem dX7_pay_26 : decode cX7_pay 26 = .ok (.iload_n 1, 1) := by decide +kernel
theorem dX7_pay_27 : decode cX7_pay 27 = .ok (.invokevirtual 122, 3) := by decide +kernel
theorem dX7_pay_30 : decode cX7_pay 30 = .ok (.ireturn, 1) := by decide +kernel
set_option maxRecDepth 20000 in
theorem ggX7_payAll_X1_remember : GoodIn wsX7_payAll wsX1_remember := goodIn_r _ [7, 8, 9, 10, 11, 12, 13, 14, 15, 16, 17, 18, 19, 20, 21, 22, 23, 24, 25, 26, 27, 28, 29, 30, 31, 32, 33, 34, 35, 36, 37, 38, 39, 40, 41, 42, 43, 44, 45, 46, 47, 48, 49, 50, 51, 105, 106, 107, 108, 109, 110, 111, 112, 113, 114, 115, 116, 117, 118, 119, 120, 121, 122, 123, 124, 125] (by decide +kernel) (by decide +kernel)
set_option maxRecDepth 20000 in
theorem gX7_payAll_X1_remember : GoodIn wsX7_payAll (wsV RX7 97 RX1 yX1_remember wsX1_remember) := goodIn_app (goodIn_of _ (by decide +kernel)) ggX7_payAll_X1_remember
set_option maxRecDepth 20000 in
theorem ggX7_payAll_X3_settleAll : GoodIn wsX7_payAll wsX3_settleAll := goodIn_r _ [55, 20, 21, 56, 57, 58, 26, 59, 29, 60, 61, 62, 18, 63, 22, 64, 65, 66, 67, 68, 69, 70, 71, 30, 33, 72, 73, 74, 75, 76, 31, 36, 77, 78, 79, 80, 34, 81, 82, 83, 84, 32, 85, 86, 87, 88, 35, 89, 90, 91, 41, 92, 50, 43, 48, 49, 51, 93, 12, 13, 14, 108, 109, 110, 111, 112, 113, 114, 115, 116, 117, 118, 119, 120, 121, 122, 123, 124, 125] (by decide +kernel) (by decide +kernel)
set_option maxRecDepth 20000 in
theorem gX7_payAll_X3_settleAll : GoodIn wsX7_payAll (wsV RX7 126 RX3 yX3_settleAll wsX3_settleAll) := goodIn_app (goodIn_of _ (by decide +kernel)) ggX7_payAll_X3_settleAll
theorem dX7_payAll_0 : decode cX7_payAll 0 = .ok (.aload_n 0, 1) := by decide +kernel
theorem dX7_payAll_1 : decode cX7_payAll 1 = .ok (.getfield 27, 3) := by decide +kernel
theorem dX7_payAll_4 : decode cX7_payAll 4 = .ok (.aload_n 0, 1) := by decide +kernel
theorem dX7_payAll_5 : decode cX7_payAll 5 = .ok (.getfield 20, 3) := by decide +kernel
theorem dX7_payAll_8 : decode cX7_payAll 8 = .ok (.invokevirtual 97, 3) := by decide +kernel
theorem dX7_payAll_11 : decode cX7_payAll 11 = .ok (.aload_n 0, 1) := by decide +kernel
theorem dX7_payAll_12 : decode cX7_payAll 12 = .ok (.getfield 20, 3) := by decide +kernel
theorem dX7_payAll_15 : decode cX7_payAll 15 = .ok (.invokevirtual 126, 3) := by decide +kernel
theorem dX7_payAll_18 : decode cX7_payAll 18 = .ok (.ireturn, 1) := by decide +kernel
set_option maxRecDepth 20000 in
theorem ggX7_payExtra_X7_loanAt : GoodIn wsX7_payExtra wsX7_loanAt := goodIn_ca (goodIn_r _ [9, 10, 11, 3, 12, 13, 111, 112, 113, 114, 115, 116, 117, 118, 119, 120, 121, 132, 133, 134] (by decide +kernel) (by decide +kernel)) (goodIn_sub (fun _ h => List.mem_cons_of_mem _ (List.mem_append_left _ (List.mem_append_left _ (List.mem_append_right _ h)))) (by decide +kernel))
set_option maxRecDepth 20000 in
theorem gX7_payExtra_X7_loanAt : GoodIn wsX7_payExtra (wsV RX7 115 RX7 yX7_loanAt wsX7_loanAt) := goodIn_app (goodIn_of _ (by decide +kernel)) ggX7_payExtra_X7_loanAt
set_option maxRecDepth 20000 in
theorem ggX7_payExtra_X7_requireRange : GoodIn wsX7_payExtra wsX7_requireRange := goodIn_ca (goodIn_r _ [16, 17, 18] (by decide +kernel) (by decide +kernel)) (goodIn_sub (fun _ h => List.mem_cons_of_mem _ (List.mem_append_left _ (List.mem_append_right _ h))) (by decide +kernel))
set_option maxRecDepth 20000 in
theorem gX7_payExtra_X7_requireRange : GoodIn wsX7_payExtra (va_wsS RX7 90 yX7_requireRange wsX7_requireRange) := goodIn_app (goodIn_of _ (by decide +kernel)) ggX7_payExtra_X7_requireRange
set_option maxRecDepth 20000 in
theorem ggX7_payExtra_X2_canReduce : GoodIn wsX7_payExtra wsX2_canReduce := goodIn_r _ [23, 24, 122, 123, 124, 125, 126, 127, 128, 129, 130, 131] (by decide +kernel) (by decide +kernel)
set_option maxRecDepth 20000 in
theorem gX7_payExtra_X2_canReduce : GoodIn wsX7_payExtra (wsV RX7 129 RX2 yX2_canReduce wsX2_canReduce) := goodIn_app (goodIn_of _ (by decide +kernel)) ggX7_payExtra_X2_canReduce
set_option maxRecDepth 20000 in
theorem ggX7_payExtra_X7_requireState : GoodIn wsX7_payExtra wsX7_requireState := goodIn_ca (goodIn_r _ [27, 28, 29] (by decide +kernel) (by decide +kernel)) (goodIn_sub (fun _ h => List.mem_cons_of_mem _ (List.mem_append_right _ h)) (by decide +kernel))
set_option maxRecDepth 20000 in
theorem gX7_payExtra_X7_requireState : GoodIn wsX7_payExtra (va_wsS RX7 108 yX7_requireState wsX7_requireState) := goodIn_app (goodIn_of _ (by decide +kernel)) ggX7_payExtra_X7_requireState
set_option maxRecDepth 20000 in
theorem ggX7_payExtra_X1_remember : GoodIn wsX7_payExtra wsX1_remember := goodIn_r _ [34, 35, 36, 37, 38, 39, 40, 41, 42, 43, 44, 45, 46, 47, 48, 49, 50, 51, 52, 22, 53, 54, 24, 55, 56, 57, 58, 59, 60, 61, 62, 63, 64, 65, 66, 67, 68, 69, 70, 71, 72, 73, 74, 75, 76, 135, 136, 137, 132, 133, 134, 122, 123, 124, 125, 126, 127, 128, 129, 130, 131, 138, 139, 140, 141, 142] (by decide +kernel) (by decide +kernel)
set_option maxRecDepth 20000 in
theorem gX7_payExtra_X1_remember : GoodIn wsX7_payExtra (wsV RX7 97 RX1 yX1_remember wsX1_remember) := goodIn_app (goodIn_of _ (by decide +kernel)) ggX7_payExtra_X1_remember
set_option maxRecDepth 20000 in
theorem ggX7_payExtra_X3_reduce : GoodIn wsX7_payExtra wsX3_reduce := goodIn_r _ [80, 48, 49, 81, 82, 83, 45, 84, 47, 85, 86, 87, 22, 88, 24, 56, 57, 89, 90, 91, 92, 60, 58, 93, 94, 95, 96, 97, 98, 99, 100, 55, 101, 102, 103, 104, 105, 106, 107, 108, 66, 109, 75, 68, 73, 74, 76, 110, 39, 40, 41, 132, 133, 134, 122, 123, 124, 125, 126, 127, 128, 129, 130, 131, 138, 139, 140, 141, 142] (by decide +kernel) (by decide +kernel)
set_option maxRecDepth 20000 in
theorem gX7_payExtra_X3_reduce : GoodIn wsX7_payExtra (wsV RX7 133 RX3 yX3_reduce wsX3_reduce) := goodIn_app (goodIn_of _ (by decide +kernel)) ggX7_payExtra_X3_reduce
theorem dX7_payExtra_0 : decode cX7_payExtra 0 = .ok (.aload_n 0, 1) := by decide +kernel
theorem dX7_payExtra_1 : decode cX7_payExtra 1 = .ok (.iload_n 1, 1) := by decide +kernel
theorem dX7_payExtra_2 : decode cX7_payExtra 2 = .ok (.invokevirtual 115, 3) := by decide +kernel
theorem dX7_payExtra_5 : decode cX7_payExtra 5 = .ok (.astore 4, 2) := by decide +kernel
theorem dX7_payExtra_7 : decode cX7_payExtra 7 = .ok (.iload_n 2, 1) := by decide +kernel
theorem dX7_payExtra_8 : decode cX7_payExtra 8 = .ok (.iconst 1, 1) := by decide +kernel
theorem dX7_payExtra_9 : decode cX7_payExtra 9 = .ok (.ldc 103, 2) := by decide +kernel
theorem dX7_payExtra_11 : decode cX7_payExtra 11 = .ok (.invokestatic 90, 3) := by decide +kernel
theorem dX7_payExtra_14 : decode cX7_payExtra 14 = .ok (.aload 4, 2) := by decide +kernel
theorem dX7_payExtra_16 : decode cX7_payExtra 16 = .ok (.iload_n 2, 1) := by decide +kernel
theorem dX7_payExtra_17 : decode cX7_payExtra 17 = .ok (.invokevirtual 129, 3) := by decide +kernel
theorem dX7_payExtra_20 : decode cX7_payExtra 20 = .ok (.invokestatic 108, 3) := by decide +kernel
theorem dX7_payExtra_23 : decode cX7_payExtra 23 = .ok (.aload_n 0, 1) := by decide +kernel
theorem dX7_payExtra_24 : decode cX7_payExtra 24 = .ok (.getfield 27, 3) := by decide +kernel
theorem dX7_payExtra_27 : decode cX7_payExtra 27 = .ok (.aload_n 0, 1) := by decide +kernel
theorem dX7_payExtra_28 : decode cX7_payExtra 28 = .ok (.getfield 20, 3) := by decide +kernel
theorem dX7_payExtra_31 : decode cX7_payExtra 31 = .ok (.invokevirtual 97, 3) := by decide +kernel
theorem dX7_payExtra_34 : decode cX7_payExtra 34 = .ok (.aload_n 0, 1) := by decide +kernel
theorem dX7_payExtra_35 : decode cX7_payExtra 35 = .ok (.getfield 20, 3) := by decide +kernel
theorem dX7_payExtra_38 : decode cX7_payExtra 38 = .ok (.iload_n 1, 1) := by decide +kernel
theorem dX7_payExtra_39 : decode cX7_payExtra 39 = .ok (.iload_n 2, 1) := by decide +kernel
theorem dX7_payExtra_40 : decode cX7_payExtra 40 = .ok (.iload_n 3, 1) := by decide +kernel
theorem dX7_payExtra_41 : decode cX7_payExtra 41 = .ok (.invokevirtual 133, 3) := by decide +kernel
theorem dX7_payExtra_44 : decode cX7_payExtra 44 = .ok (.aload 4, 2) := by decide +kernel
theorem dX7_payExtra_46 : decode cX7_payExtra 46 = .ok (.getfield 137, 3) := by decide +kernel
theorem dX7_payExtra_49 : decode cX7_payExtra 49 = .ok (.ireturn, 1) := by decide +kernel
set_option maxRecDepth 20000 in
theorem ggX7_skipMonth_X7_loanAt : GoodIn wsX7_skipMonth wsX7_loanAt := goodIn_ca (goodIn_r _ [7, 8, 9, 2, 10, 11, 92, 93, 94, 95, 96, 97, 98, 99, 100, 101, 102, 103, 104, 105] (by decide +kernel) (by decide +kernel)) (goodIn_sub (fun _ h => List.mem_cons_of_mem _ (List.mem_append_left _ (List.mem_append_right _ h))) (by decide +kernel))
set_option maxRecDepth 20000 in
theorem gX7_skipMonth_X7_loanAt : GoodIn wsX7_skipMonth (wsV RX7 115 RX7 yX7_loanAt wsX7_loanAt) := goodIn_app (goodIn_of _ (by decide +kernel)) ggX7_skipMonth_X7_loanAt
set_option maxRecDepth 20000 in
theorem ggX7_skipMonth_X2_canDefer : GoodIn wsX7_skipMonth wsX2_canDefer := goodIn_r _ [16, 17, 18, 19, 20, 21, 22, 15, 23, 24, 25, 26, 106, 107, 108, 109, 110, 111, 112, 113, 114, 115] (by decide +kernel) (by decide +kernel)
set_option maxRecDepth 20000 in
theorem gX7_skipMonth_X2_canDefer : GoodIn wsX7_skipMonth (wsV RX7 140 RX2 yX2_canDefer wsX2_canDefer) := goodIn_app (goodIn_of _ (by decide +kernel)) ggX7_skipMonth_X2_canDefer
set_option maxRecDepth 20000 in
theorem ggX7_skipMonth_X7_requireState : GoodIn wsX7_skipMonth wsX7_requireState := goodIn_ca (goodIn_r _ [29, 30, 31] (by decide +kernel) (by decide +kernel)) (goodIn_sub (fun _ h => List.mem_cons_of_mem _ (List.mem_append_right _ h)) (by decide +kernel))
set_option maxRecDepth 20000 in
theorem gX7_skipMonth_X7_requireState : GoodIn wsX7_skipMonth (va_wsS RX7 108 yX7_requireState wsX7_requireState) := goodIn_app (goodIn_of _ (by decide +kernel)) ggX7_skipMonth_X7_requireState
set_option maxRecDepth 20000 in
theorem ggX7_skipMonth_X1_remember : GoodIn wsX7_skipMonth wsX1_remember := goodIn_r _ [36, 37, 38, 39, 40, 41, 42, 43, 44, 45, 46, 47, 48, 49, 50, 51, 52, 53, 54, 15, 55, 56, 17, 24, 57, 58, 25, 59, 60, 61, 18, 62, 63, 64, 65, 66, 67, 68, 69, 70, 71, 72, 73, 74, 75, 116, 117, 118, 103, 104, 105, 106, 107, 108, 109, 110, 111, 112, 113, 114, 115, 119, 120, 121, 122, 123] (by decide +kernel) (by decide +kernel)
set_option maxRecDepth 20000 in
theorem gX7_skipMonth_X1_remember : GoodIn wsX7_skipMonth (wsV RX7 97 RX1 yX1_remember wsX1_remember) := goodIn_app (goodIn_of _ (by decide +kernel)) ggX7_skipMonth_X1_remember
set_option maxRecDepth 20000 in
theorem ggX7_skipMonth_X2_defer : GoodIn wsX7_skipMonth wsX2_defer := goodIn_r _ [79, 18, 57, 58, 80, 81, 82, 15, 83, 17, 24, 25, 26, 59, 84, 85, 86, 87, 20, 21, 22, 23, 88, 89, 90, 91, 106, 107, 108, 109, 110, 111, 112, 113, 114, 115] (by decide +kernel) (by decide +kernel)
set_option maxRecDepth 20000 in
theorem gX7_skipMonth_X2_defer : GoodIn wsX7_skipMonth (wsV RX7 143 RX2 yX2_defer wsX2_defer) := goodIn_app (goodIn_of _ (by decide +kernel)) ggX7_skipMonth_X2_defer
theorem dX7_skipMonth_0 : decode cX7_skipMonth 0 = .ok (.aload_n 0, 1) := by decide +kernel
theorem dX7_skipMonth_1 : decode cX7_skipMonth 1 = .ok (.iload_n 1, 1) := by decide +kernel
theorem dX7_skipMonth_2 : decode cX7_skipMonth 2 = .ok (.invokevirtual 115, 3) := by decide +kernel
theorem dX7_skipMonth_5 : decode cX7_skipMonth 5 = .ok (.astore_n 2, 1) := by decide +kernel
theorem dX7_skipMonth_6 : decode cX7_skipMonth 6 = .ok (.aload_n 2, 1) := by decide +kernel
theorem dX7_skipMonth_7 : decode cX7_skipMonth 7 = .ok (.invokevirtual 140, 3) := by decide +kernel
theorem dX7_skipMonth_10 : decode cX7_skipMonth 10 = .ok (.invokestatic 108, 3) := by decide +kernel
theorem dX7_skipMonth_13 : decode cX7_skipMonth 13 = .ok (.aload_n 0, 1) := by decide +kernel
theorem dX7_skipMonth_14 : decode cX7_skipMonth 14 = .ok (.getfield 27, 3) := by decide +kernel
theorem dX7_skipMonth_17 : decode cX7_skipMonth 17 = .ok (.aload_n 0, 1) := by decide +kernel
theorem dX7_skipMonth_18 : decode cX7_skipMonth 18 = .ok (.getfield 20, 3) := by decide +kernel
theorem dX7_skipMonth_21 : decode cX7_skipMonth 21 = .ok (.invokevirtual 97, 3) := by decide +kernel
theorem dX7_skipMonth_24 : decode cX7_skipMonth 24 = .ok (.aload_n 2, 1) := by decide +kernel
theorem dX7_skipMonth_25 : decode cX7_skipMonth 25 = .ok (.invokevirtual 143, 3) := by decide +kernel
theorem dX7_skipMonth_28 : decode cX7_skipMonth 28 = .ok (.ireturn, 1) := by decide +kernel
set_option maxRecDepth 20000 in
theorem ggX7_changeRate_X7_loanAt : GoodIn wsX7_changeRate wsX7_loanAt := goodIn_ca (goodIn_r _ [8, 9, 10, 2, 11, 12, 93, 94, 95, 96, 97, 98, 99, 100, 101, 102, 103, 114, 115, 116] (by decide +kernel) (by decide +kernel)) (goodIn_sub (fun _ h => List.mem_cons_of_mem _ (List.mem_append_left _ (List.mem_append_left _ (List.mem_append_right _ h)))) (by decide +kernel))
set_option maxRecDepth 20000 in
theorem gX7_changeRate_X7_loanAt : GoodIn wsX7_changeRate (wsV RX7 115 RX7 yX7_loanAt wsX7_loanAt) := goodIn_app (goodIn_of _ (by decide +kernel)) ggX7_changeRate_X7_loanAt
set_option maxRecDepth 20000 in
theorem ggX7_changeRate_X7_requireRange : GoodIn wsX7_changeRate wsX7_requireRange := goodIn_ca (goodIn_r _ [15, 16, 17] (by decide +kernel) (by decide +kernel)) (goodIn_sub (fun _ h => List.mem_cons_of_mem _ (List.mem_append_left _ (List.mem_append_right _ h))) (by decide +kernel))
set_option maxRecDepth 20000 in
theorem gX7_changeRate_X7_requireRange : GoodIn wsX7_changeRate (va_wsS RX7 90 yX7_requireRange wsX7_requireRange) := goodIn_app (goodIn_of _ (by decide +kernel)) ggX7_changeRate_X7_requireRange
set_option maxRecDepth 20000 in
theorem ggX7_changeRate_X2_isRunning : GoodIn wsX7_changeRate wsX2_isRunning := goodIn_r _ [22, 23, 104, 105, 106, 107, 108, 109, 110, 111, 112, 113] (by decide +kernel) (by decide +kernel)
set_option maxRecDepth 20000 in
theorem gX7_changeRate_X2_isRunning : GoodIn wsX7_changeRate (wsV RX7 119 RX2 yX2_isRunning wsX2_isRunning) := goodIn_app (goodIn_of _ (by decide +kernel)) ggX7_changeRate_X2_isRunning
set_option maxRecDepth 20000 in
theorem ggX7_changeRate_X7_requireState : GoodIn wsX7_changeRate wsX7_requireState := goodIn_ca (goodIn_r _ [26, 27, 28] (by decide +kernel) (by decide +kernel)) (goodIn_sub (fun _ h => List.mem_cons_of_mem _ (List.mem_append_right _ h)) (by decide +kernel))
set_option maxRecDepth 20000 in
theorem gX7_changeRate_X7_requireState : GoodIn wsX7_changeRate (va_wsS RX7 108 yX7_requireState wsX7_requireState) := goodIn_app (goodIn_of _ (by decide +kernel)) ggX7_changeRate_X7_requireState
set_option maxRecDepth 20000 in
theorem ggX7_changeRate_X1_remember : GoodIn wsX7_changeRate wsX1_remember := goodIn_r _ [33, 34, 35, 36, 37, 38, 39, 40, 41, 42, 43, 44, 45, 46, 47, 48, 49, 50, 51, 21, 52, 53, 23, 54, 55, 56, 57, 58, 59, 60, 61, 62, 63, 64, 65, 66, 67, 68, 69, 70, 71, 72, 73, 74, 75, 117, 118, 119, 114, 115, 116, 104, 105, 106, 107, 108, 109, 110, 111, 112, 113, 120, 121, 122, 123, 124] (by decide +kernel) (by decide +kernel)
set_option maxRecDepth 20000 in
theorem gX7_changeRate_X1_remember : GoodIn wsX7_changeRate (wsV RX7 97 RX1 yX1_remember wsX1_remember) := goodIn_app (goodIn_of _ (by decide +kernel)) ggX7_changeRate_X1_remember
set_option maxRecDepth 20000 in
theorem ggX7_changeRate_X2_setTerms : GoodIn wsX7_changeRate wsX2_setTerms := goodIn_r _ [79, 54, 55, 56, 80, 81, 82, 21, 83, 23, 84, 85, 86, 87, 57, 88, 89, 90, 91, 92, 104, 105, 106, 107, 108, 109, 110, 111, 112, 113] (by decide +kernel) (by decide +kernel)
set_option maxRecDepth 20000 in
theorem gX7_changeRate_X2_setTerms : GoodIn wsX7_changeRate (wsV RX7 149 RX2 yX2_setTerms wsX2_setTerms) := goodIn_app (goodIn_of _ (by decide +kernel)) ggX7_changeRate_X2_setTerms
theorem dX7_changeRate_0 : decode cX7_changeRate 0 = .ok (.aload_n 0, 1) := by decide +kernel
theorem dX7_changeRate_1 : decode cX7_changeRate 1 = .ok (.iload_n 1, 1) := by decide +kernel
theorem dX7_changeRate_2 : decode cX7_changeRate 2 = .ok (.invokevirtual 115, 3) := by decide +kernel
theorem dX7_changeRate_5 : decode cX7_changeRate 5 = .ok (.astore_n 3, 1) := by decide +kernel
theorem dX7_changeRate_6 : decode cX7_changeRate 6 = .ok (.iload_n 2, 1) := by decide +kernel
theorem dX7_changeRate_7 : decode cX7_changeRate 7 = .ok (.iconst 0, 1) := by decide +kernel
theorem dX7_changeRate_8 : decode cX7_changeRate 8 = .ok (.sipush 3000, 3) := by decide +kernel
theorem dX7_changeRate_11 : decode cX7_changeRate 11 = .ok (.invokestatic 90, 3) := by decide +kernel
theorem dX7_changeRate_14 : decode cX7_changeRate 14 = .ok (.aload_n 3, 1) := by decide +kernel
theorem dX7_changeRate_15 : decode cX7_changeRate 15 = .ok (.invokevirtual 119, 3) := by decide +kernel
theorem dX7_changeRate_18 : decode cX7_changeRate 18 = .ok (.invokestatic 108, 3) := by decide +kernel
theorem dX7_changeRate_21 : decode cX7_changeRate 21 = .ok (.aload_n 0, 1) := by decide +kernel
theorem dX7_changeRate_22 : decode cX7_changeRate 22 = .ok (.getfield 27, 3) := by decide +kernel
theorem dX7_changeRate_25 : decode cX7_changeRate 25 = .ok (.aload_n 0, 1) := by decide +kernel
theorem dX7_changeRate_26 : decode cX7_changeRate 26 = .ok (.getfield 20, 3) := by decide +kernel
theorem dX7_changeRate_29 : decode cX7_changeRate 29 = .ok (.invokevirtual 97, 3) := by decide +kernel
theorem dX7_changeRate_32 : decode cX7_changeRate 32 = .ok (.aload_n 3, 1) := by decide +kernel
theorem dX7_changeRate_33 : decode cX7_changeRate 33 = .ok (.iload_n 2, 1) := by decide +kernel
theorem dX7_changeRate_34 : decode cX7_changeRate 34 = .ok (.aload_n 3, 1) := by decide +kernel
theorem dX7_changeRate_35 : decode cX7_changeRate 35 = .ok (.getfield 146, 3) := by decide +kernel
theorem dX7_changeRate_38 : decode cX7_changeRate 38 = .ok (.invokevirtual 149, 3) := by decide +kernel
theorem dX7_changeRate_41 : decode cX7_changeRate 41 = .ok (.ireturn, 1) := by decide +kernel
set_option maxRecDepth 20000 in
theorem ggX7_extendTerm_X7_loanAt : GoodIn wsX7_extendTerm wsX7_loanAt := goodIn_ca (goodIn_r _ [9, 10, 11, 2, 12, 13, 94, 95, 96, 97, 98, 99, 100, 101, 102, 103, 104, 115, 116, 117] (by decide +kernel) (by decide +kernel)) (goodIn_sub (fun _ h => List.mem_cons_of_mem _ (List.mem_append_left _ (List.mem_append_left _ (List.mem_append_right _ h)))) (by decide +kernel))
set_option maxRecDepth 20000 in
theorem gX7_extendTerm_X7_loanAt : GoodIn wsX7_extendTerm (wsV RX7 115 RX7 yX7_loanAt wsX7_loanAt) := goodIn_app (goodIn_of _ (by decide +kernel)) ggX7_extendTerm_X7_loanAt
set_option maxRecDepth 20000 in
theorem ggX7_extendTerm_X7_requireRange : GoodIn wsX7_extendTerm wsX7_requireRange := goodIn_ca (goodIn_r _ [16, 17, 18] (by decide +kernel) (by decide +kernel)) (goodIn_sub (fun _ h => List.mem_cons_of_mem _ (List.mem_append_left _ (List.mem_append_right _ h))) (by decide +kernel))
set_option maxRecDepth 20000 in
theorem gX7_extendTerm_X7_requireRange : GoodIn wsX7_extendTerm (va_wsS RX7 90 yX7_requireRange wsX7_requireRange) := goodIn_app (goodIn_of _ (by decide +kernel)) ggX7_extendTerm_X7_requireRange
set_option maxRecDepth 20000 in
theorem ggX7_extendTerm_X2_canLengthen : GoodIn wsX7_extendTerm wsX2_canLengthen := goodIn_r _ [23, 24, 25, 105, 106, 107, 108, 109, 110, 111, 112, 113, 114] (by decide +kernel) (by decide +kernel)
set_option maxRecDepth 20000 in
theorem gX7_extendTerm_X2_canLengthen : GoodIn wsX7_extendTerm (wsV RX7 153 RX2 yX2_canLengthen wsX2_canLengthen) := goodIn_app (goodIn_of _ (by decide +kernel)) ggX7_extendTerm_X2_canLengthen
set_option maxRecDepth 20000 in
theorem ggX7_extendTerm_X7_requireState : GoodIn wsX7_extendTerm wsX7_requireState := goodIn_ca (goodIn_r _ [28, 29, 30] (by decide +kernel) (by decide +kernel)) (goodIn_sub (fun _ h => List.mem_cons_of_mem _ (List.mem_append_right _ h)) (by decide +kernel))
set_option maxRecDepth 20000 in
theorem gX7_extendTerm_X7_requireState : GoodIn wsX7_extendTerm (va_wsS RX7 108 yX7_requireState wsX7_requireState) := goodIn_app (goodIn_of _ (by decide +kernel)) ggX7_extendTerm_X7_requireState
set_option maxRecDepth 20000 in
theorem ggX7_extendTerm_X1_remember : GoodIn wsX7_extendTerm wsX1_remember := goodIn_r _ [35, 36, 37, 38, 39, 40, 41, 42, 43, 44, 45, 46, 47, 48, 49, 50, 51, 52, 53, 22, 54, 55, 24, 56, 25, 57, 58, 59, 60, 61, 62, 63, 64, 65, 66, 67, 68, 69, 70, 71, 72, 73, 74, 75, 76, 118, 119, 120, 115, 116, 117, 105, 106, 107, 108, 109, 110, 111, 112, 113, 114, 121, 122, 123, 124, 125] (by decide +kernel) (by decide +kernel)
set_option maxRecDepth 20000 in
theorem gX7_extendTerm_X1_remember : GoodIn wsX7_extendTerm (wsV RX7 97 RX1 yX1_remember wsX1_remember) := goodIn_app (goodIn_of _ (by decide +kernel)) ggX7_extendTerm_X1_remember
set_option maxRecDepth 20000 in
theorem ggX7_extendTerm_X2_setTerms : GoodIn wsX7_extendTerm wsX2_setTerms := goodIn_r _ [80, 56, 25, 57, 81, 82, 83, 22, 84, 24, 85, 86, 87, 88, 58, 89, 90, 91, 92, 93, 105, 106, 107, 108, 109, 110, 111, 112, 113, 114] (by decide +kernel) (by decide +kernel)
set_option maxRecDepth 20000 in
theorem gX7_extendTerm_X2_setTerms : GoodIn wsX7_extendTerm (wsV RX7 149 RX2 yX2_setTerms wsX2_setTerms) := goodIn_app (goodIn_of _ (by decide +kernel)) ggX7_extendTerm_X2_setTerms
theorem dX7_extendTerm_0 : decode cX7_extendTerm 0 = .ok (.aload_n 0, 1) := by decide +kernel
theorem dX7_extendTerm_1 : decode cX7_extendTerm 1 = .ok (.iload_n 1, 1) := by decide +kernel
theorem dX7_extendTerm_2 : decode cX7_extendTerm 2 = .ok (.invokevirtual 115, 3) := by decide +kernel
theorem dX7_extendTerm_5 : decode cX7_extendTerm 5 = .ok (.astore_n 3, 1) := by decide +kernel
theorem dX7_extendTerm_6 : decode cX7_extendTerm 6 = .ok (.iload_n 2, 1) := by decide +kernel
theorem dX7_extendTerm_7 : decode cX7_extendTerm 7 = .ok (.iconst 1, 1) := by decide +kernel
theorem dX7_extendTerm_8 : decode cX7_extendTerm 8 = .ok (.bipush 60, 2) := by decide +kernel
theorem dX7_extendTerm_10 : decode cX7_extendTerm 10 = .ok (.invokestatic 90, 3) := by decide +kernel
theorem dX7_extendTerm_13 : decode cX7_extendTerm 13 = .ok (.aload_n 3, 1) := by decide +kernel
theorem dX7_extendTerm_14 : decode cX7_extendTerm 14 = .ok (.iload_n 2, 1) := by decide +kernel
theorem dX7_extendTerm_15 : decode cX7_extendTerm 15 = .ok (.invokevirtual 153, 3) := by decide +kernel
theorem dX7_extendTerm_18 : decode cX7_extendTerm 18 = .ok (.invokestatic 108, 3) := by decide +kernel
theorem dX7_extendTerm_21 : decode cX7_extendTerm 21 = .ok (.aload_n 0, 1) := by decide +kernel
theorem dX7_extendTerm_22 : decode cX7_extendTerm 22 = .ok (.getfield 27, 3) := by decide +kernel
theorem dX7_extendTerm_25 : decode cX7_extendTerm 25 = .ok (.aload_n 0, 1) := by decide +kernel
theorem dX7_extendTerm_26 : decode cX7_extendTerm 26 = .ok (.getfield 20, 3) := by decide +kernel
theorem dX7_extendTerm_29 : decode cX7_extendTerm 29 = .ok (.invokevirtual 97, 3) := by decide +kernel
theorem dX7_extendTerm_32 : decode cX7_extendTerm 32 = .ok (.aload_n 3, 1) := by decide +kernel
theorem dX7_extendTerm_33 : decode cX7_extendTerm 33 = .ok (.aload_n 3, 1) := by decide +kernel
theorem dX7_extendTerm_34 : decode cX7_extendTerm 34 = .ok (.getfield 156, 3) := by decide +kernel
theorem dX7_extendTerm_37 : decode cX7_extendTerm 37 = .ok (.aload_n 3, 1) := by decide +kernel
theorem dX7_extendTerm_38 : decode cX7_extendTerm 38 = .ok (.getfield 146, 3) := by decide +kernel
theorem dX7_extendTerm_41 : decode cX7_extendTerm 41 = .ok (.iload_n 2, 1) := by decide +kernel
theorem dX7_extendTerm_42 : decode cX7_extendTerm 42 = .ok (.iadd, 1) := by decide +kernel
theorem dX7_extendTerm_43 : decode cX7_extendTerm 43 = .ok (.invokevirtual 149, 3) := by decide +kernel
theorem dX7_extendTerm_46 : decode cX7_extendTerm 46 = .ok (.ireturn, 1) := by decide +kernel
set_option maxRecDepth 20000 in
theorem ggX7_refinance_X7_loanAt : GoodIn wsX7_refinance wsX7_loanAt := goodIn_ca (goodIn_r _ [7, 8, 9, 2, 10, 11, 92, 93, 94, 95, 96, 97, 98, 99, 100, 101, 102, 103, 104, 105] (by decide +kernel) (by decide +kernel)) (goodIn_sub (fun _ h => List.mem_cons_of_mem _ (List.mem_append_left _ (List.mem_append_left _ (List.mem_append_right _ h)))) (by decide +kernel))
set_option maxRecDepth 20000 in
theorem gX7_refinance_X7_loanAt : GoodIn wsX7_refinance (wsV RX7 115 RX7 yX7_loanAt wsX7_loanAt) := goodIn_app (goodIn_of _ (by decide +kernel)) ggX7_refinance_X7_loanAt
set_option maxRecDepth 20000 in
theorem ggX7_refinance_X7_requireRange : GoodIn wsX7_refinance wsX7_requireRange := goodIn_ca (goodIn_r _ [14, 15, 16] (by decide +kernel) (by decide +kernel)) (goodIn_sub (fun _ h => List.mem_cons_of_mem _ (List.mem_append_left _ (List.mem_append_right _ h))) (by decide +kernel))
set_option maxRecDepth 20000 in
theorem gX7_refinance_X7_requireRange : GoodIn wsX7_refinance (va_wsS RX7 90 yX7_requireRange wsX7_requireRange) := goodIn_app (goodIn_of _ (by decide +kernel)) ggX7_refinance_X7_requireRange
set_option maxRecDepth 20000 in
theorem ggX7_refinance_X2_isRunning : GoodIn wsX7_refinance wsX2_isRunning := goodIn_r _ [21, 22, 106, 107, 108, 109, 110, 111, 112, 113, 114, 115] (by decide +kernel) (by decide +kernel)
set_option maxRecDepth 20000 in
theorem gX7_refinance_X2_isRunning : GoodIn wsX7_refinance (wsV RX7 119 RX2 yX2_isRunning wsX2_isRunning) := goodIn_app (goodIn_of _ (by decide +kernel)) ggX7_refinance_X2_isRunning
set_option maxRecDepth 20000 in
theorem ggX7_refinance_X7_requireState : GoodIn wsX7_refinance wsX7_requireState := goodIn_ca (goodIn_r _ [25, 26, 27] (by decide +kernel) (by decide +kernel)) (goodIn_sub (fun _ h => List.mem_cons_of_mem _ (List.mem_append_right _ h)) (by decide +kernel))
set_option maxRecDepth 20000 in
theorem gX7_refinance_X7_requireState : GoodIn wsX7_refinance (va_wsS RX7 108 yX7_requireState wsX7_requireState) := goodIn_app (goodIn_of _ (by decide +kernel)) ggX7_refinance_X7_requireState
set_option maxRecDepth 20000 in
theorem ggX7_refinance_X1_remember : GoodIn wsX7_refinance wsX1_remember := goodIn_r _ [32, 33, 34, 35, 36, 37, 38, 39, 40, 41, 42, 43, 44, 45, 46, 47, 48, 49, 50, 20, 51, 52, 22, 53, 54, 55, 56, 57, 58, 59, 60, 61, 62, 63, 64, 65, 66, 67, 68, 69, 70, 71, 72, 73, 74, 116, 117, 118, 103, 104, 105, 106, 107, 108, 109, 110, 111, 112, 113, 114, 115, 119, 120, 121, 122, 123] (by decide +kernel) (by decide +kernel)
set_option maxRecDepth 20000 in
theorem gX7_refinance_X1_remember : GoodIn wsX7_refinance (wsV RX7 97 RX1 yX1_remember wsX1_remember) := goodIn_app (goodIn_of _ (by decide +kernel)) ggX7_refinance_X1_remember
set_option maxRecDepth 20000 in
theorem ggX7_refinance_X2_setTerms : GoodIn wsX7_refinance wsX2_setTerms := goodIn_r _ [78, 53, 54, 55, 79, 80, 81, 20, 82, 22, 83, 84, 85, 86, 56, 87, 88, 89, 90, 91, 106, 107, 108, 109, 110, 111, 112, 113, 114, 115] (by decide +kernel) (by decide +kernel)
set_option maxRecDepth 20000 in
theorem gX7_refinance_X2_setTerms : GoodIn wsX7_refinance (wsV RX7 149 RX2 yX2_setTerms wsX2_setTerms) := goodIn_app (goodIn_of _ (by decide +kernel)) ggX7_refinance_X2_setTerms
theorem dX7_refinance_0 : decode cX7_refinance 0 = .ok (.aload_n 0, 1) := by decide +kernel
theorem dX7_refinance_1 : decode cX7_refinance 1 = .ok (.iload_n 1, 1) := by decide +kernel
theorem dX7_refinance_2 : decode cX7_refinance 2 = .ok (.invokevirtual 115, 3) := by decide +kernel
theorem dX7_refinance_5 : decode cX7_refinance 5 = .ok (.astore 4, 2) := by decide +kernel
theorem dX7_refinance_7 : decode cX7_refinance 7 = .ok (.iload_n 2, 1) := by decide +kernel
theorem dX7_refinance_8 : decode cX7_refinance 8 = .ok (.iconst 0, 1) := by decide +kernel
theorem dX7_refinance_9 : decode cX7_refinance 9 = .ok (.sipush 3000, 3) := by decide +kernel
theorem dX7_refinance_12 : decode cX7_refinance 12 = .ok (.invokestatic 90, 3) := by decide +kernel
theorem dX7_refinance_15 : decode cX7_refinance 15 = .ok (.iload_n 3, 1) := by decide +kernel
theorem dX7_refinance_16 : decode cX7_refinance 16 = .ok (.iconst 1, 1) := by decide +kernel
theorem dX7_refinance_17 : decode cX7_refinance 17 = .ok (.bipush 120, 2) := by decide +kernel
theorem dX7_refinance_19 : decode cX7_refinance 19 = .ok (.invokestatic 90, 3) := by decide +kernel
theorem dX7_refinance_22 : decode cX7_refinance 22 = .ok (.aload 4, 2) := by decide +kernel
theorem dX7_refinance_24 : decode cX7_refinance 24 = .ok (.invokevirtual 119, 3) := by decide +kernel
theorem dX7_refinance_27 : decode cX7_refinance 27 = .ok (.invokestatic 108, 3) := by decide +kernel
theorem dX7_refinance_30 : decode cX7_refinance 30 = .ok (.aload_n 0, 1) := by decide +kernel
theorem dX7_refinance_31 : decode cX7_refinance 31 = .ok (.getfield 27, 3) := by decide +kernel
theorem dX7_refinance_34 : decode cX7_refinance 34 = .ok (.aload_n 0, 1) := by decide +kernel
theorem dX7_refinance_35 : decode cX7_refinance 35 = .ok (.getfield 20, 3) := by decide +kernel
theorem dX7_refinance_38 : decode cX7_refinance 38 = .ok (.invokevirtual 97, 3) := by decide +kernel
theorem dX7_refinance_41 : decode cX7_refinance 41 = .ok (.aload 4, 2) := by decide +kernel
theorem dX7_refinance_43 : decode cX7_refinance 43 = .ok (.iload_n 2, 1) := by decide +kernel
theorem dX7_refinance_44 : decode cX7_refinance 44 = .ok (.iload_n 3, 1) := by decide +kernel
theorem dX7_refinance_45 : decode cX7_refinance 45 = .ok (.invokevirtual 149, 3) := by decide +kernel
theorem dX7_refinance_48 : decode cX7_refinance 48 = .ok (.ireturn, 1) := by decide +kernel
set_option maxRecDepth 20000 in
theorem ggX7_spendExtra_X7_requireRange : GoodIn wsX7_spendExtra wsX7_requireRange := goodIn_ca (goodIn_r _ [7, 8, 9] (by decide +kernel) (by decide +kernel)) (goodIn_sub (fun _ h => List.mem_cons_of_mem _ (List.mem_append_right _ h)) (by decide +kernel))
set_option maxRecDepth 20000 in
theorem gX7_spendExtra_X7_requireRange : GoodIn wsX7_spendExtra (va_wsS RX7 90 yX7_requireRange wsX7_requireRange) := goodIn_app (goodIn_of _ (by decide +kernel)) ggX7_spendExtra_X7_requireRange
set_option maxRecDepth 20000 in
theorem ggX7_spendExtra_X1_remember : GoodIn wsX7_spendExtra wsX1_remember := goodIn_r _ [14, 15, 16, 17, 18, 19, 20, 21, 22, 23, 24, 25, 26, 27, 28, 29, 30, 31, 32, 33, 34, 35, 36, 37, 38, 39, 40, 41, 42, 43, 44, 45, 46, 47, 48, 49, 50, 51, 52, 53, 54, 55, 56, 57, 58, 124, 125, 126, 127, 128, 129, 130, 131, 132, 133, 134, 135, 136, 137, 138, 139, 140, 141, 142, 143, 144] (by decide +kernel) (by decide +kernel)
set_option maxRecDepth 20000 in
theorem gX7_spendExtra_X1_remember : GoodIn wsX7_spendExtra (wsV RX7 97 RX1 yX1_remember wsX1_remember) := goodIn_app (goodIn_of _ (by decide +kernel)) ggX7_spendExtra_X1_remember
set_option maxRecDepth 20000 in
theorem ggX7_spendExtra_X3_spend : GoodIn wsX7_spendExtra wsX3_spend := goodIn_r _ [62, 28, 63, 64, 19, 20, 21, 65, 66, 67, 25, 68, 27, 69, 70, 71, 72, 33, 73, 36, 74, 75, 76, 77, 78, 79, 80, 81, 82, 83, 84, 85, 86, 29, 87, 88, 89, 90, 38, 39, 91, 92, 93, 94, 42, 40, 95, 96, 97, 98, 99, 100, 101, 102, 37, 103, 104, 105, 106, 107, 108, 109, 110, 48, 111, 57, 50, 55, 56, 58, 112, 127, 128, 129, 130, 131, 132, 133, 134, 135, 136, 137, 138, 139, 140, 141, 142, 143, 144] (by decide +kernel) (by decide +kernel)
set_option maxRecDepth 20000 in
theorem gX7_spendExtra_X3_spend : GoodIn wsX7_spendExtra (wsV RX7 159 RX3 yX3_spend wsX3_spend) := goodIn_app (goodIn_of _ (by decide +kernel)) ggX7_spendExtra_X3_spend
theorem dX7_spendExtra_0 : decode cX7_spendExtra 0 = .ok (.iload_n 1, 1) := by decide +kernel
theorem dX7_spendExtra_1 : decode cX7_spendExtra 1 = .ok (.iconst 1, 1) := by decide +kernel
theorem dX7_spendExtra_2 : decode cX7_spendExtra 2 = .ok (.ldc 103, 2) := by decide +kernel
theorem dX7_spendExtra_4 : decode cX7_spendExtra 4 = .ok (.invokestatic 90, 3) := by decide +kernel
theorem dX7_spendExtra_7 : decode cX7_spendExtra 7 = .ok (.aload_n 0, 1) := by decide +kernel
theorem dX7_spendExtra_8 : decode cX7_spendExtra 8 = .ok (.getfield 27, 3) := by decide +kernel
theorem dX7_spendExtra_11 : decode cX7_spendExtra 11 = .ok (.aload_n 0, 1) := by decide +kernel
theorem dX7_spendExtra_12 : decode cX7_spendExtra 12 = .ok (.getfield 20, 3) := by decide +kernel
theorem dX7_spendExtra_15 : decode cX7_spendExtra 15 = .ok (.invokevirtual 97, 3) := by decide +kernel
theorem dX7_spendExtra_18 : decode cX7_spendExtra 18 = .ok (.aload_n 0, 1) := by decide +kernel
theorem dX7_spendExtra_19 : decode cX7_spendExtra 19 = .ok (.getfield 20, 3) := by decide +kernel
theorem dX7_spendExtra_22 : decode cX7_spendExtra 22 = .ok (.iload_n 1, 1) := by decide +kernel
theorem dX7_spendExtra_23 : decode cX7_spendExtra 23 = .ok (.iconst 1, 1) := by decide +kernel
theorem dX7_spendExtra_24 : decode cX7_spendExtra 24 = .ok (.invokevirtual 159, 3) := by decide +kernel
theorem dX7_spendExtra_27 : decode cX7_spendExtra 27 = .ok (.ireturn, 1) := by decide +kernel
theorem dX7_loanCount_0 : decode cX7_loanCount 0 = .ok (.aload_n 0, 1) := by decide +kernel
theorem dX7_loanCount_1 : decode cX7_loanCount 1 = .ok (.getfield 20, 3) := by decide +kernel
theorem dX7_loanCount_4 : decode cX7_loanCount 4 = .ok (.getfield 100, 3) := by decide +kernel
theorem dX7_loanCount_7 : decode cX7_loanCount 7 = .ok (.ireturn, 1) := by decide +kernel
set_option maxRecDepth 20000 in
theorem ggX7_openCount_X3_countRunning : GoodIn wsX7_openCount wsX3_countRunning := goodIn_r _ [6, 7, 8, 9, 10, 11, 12, 13, 14, 26, 27, 28, 29, 30, 31, 32, 33, 34, 35, 36, 37, 38] (by decide +kernel) (by decide +kernel)
set_option maxRecDepth 20000 in
theorem gX7_openCount_X3_countRunning : GoodIn wsX7_openCount (wsV RX7 179 RX3 yX3_countRunning wsX3_countRunning) := goodIn_app (goodIn_of _ (by decide +kernel)) ggX7_openCount_X3_countRunning
theorem dX7_openCount_0 : decode cX7_openCount 0 = .ok (.aload_n 0, 1) := by decide +kernel
theorem dX7_openCount_1 : decode cX7_openCount 1 = .ok (.getfield 20, 3) := by decide +kernel
theorem dX7_openCount_4 : decode cX7_openCount 4 = .ok (.invokevirtual 179, 3) := by decide +kernel
theorem dX7_openCount_7 : decode cX7_openCount 7 = .ok (.ireturn, 1) := by decide +kernel
set_option maxRecDepth 20000 in
theorem ggX7_isOpen_X7_loanAt : GoodIn wsX7_isOpen wsX7_loanAt := goodIn_ca (goodIn_r _ [5, 6, 7, 8, 9, 10, 17, 18, 19, 20, 21, 22, 23, 24, 25, 26, 27, 28, 29, 30] (by decide +kernel) (by decide +kernel)) (goodIn_sub (fun _ h => List.mem_cons_of_mem _ (List.mem_append_right _ h)) (by decide +kernel))
set_option maxRecDepth 20000 in
theorem gX7_isOpen_X7_loanAt : GoodIn wsX7_isOpen (wsV RX7 115 RX7 yX7_loanAt wsX7_loanAt) := goodIn_app (goodIn_of _ (by decide +kernel)) ggX7_isOpen_X7_loanAt
set_option maxRecDepth 20000 in
theorem ggX7_isOpen_X2_isRunning : GoodIn wsX7_isOpen wsX2_isRunning := goodIn_r _ [15, 16, 31, 32, 33, 34, 35, 36, 37, 38, 39, 40] (by decide +kernel) (by decide +kernel)
set_option maxRecDepth 20000 in
theorem gX7_isOpen_X2_isRunning : GoodIn wsX7_isOpen (wsV RX7 119 RX2 yX2_isRunning wsX2_isRunning) := goodIn_app (goodIn_of _ (by decide +kernel)) ggX7_isOpen_X2_isRunning
theorem dX7_isOpen_0 : decode cX7_isOpen 0 = .ok (.aload_n 0, 1) := by decide +kernel
theorem dX7_isOpen_1 : decode cX7_isOpen 1 = .ok (.iload_n 1, 1) := by decide +kernel
theorem dX7_isOpen_2 : decode cX7_isOpen 2 = .ok (.invokevirtual 115, 3) := by decide +kernel
theorem dX7_isOpen_5 : decode cX7_isOpen 5 = .ok (.invokevirtual 119, 3) := by decide +kernel
theorem dX7_isOpen_8 : decode cX7_isOpen 8 = .ok (.ireturn, 1) := by decide +kernel
set_option maxRecDepth 20000 in
theorem ggX7_principal_X7_loanAt : GoodIn wsX7_principal wsX7_loanAt := goodIn_ca (goodIn_r _ [6, 7, 8, 9, 10, 11, 22, 23, 24, 25, 26, 27, 28, 29, 30, 31, 32, 33, 34, 35] (by decide +kernel) (by decide +kernel)) (goodIn_sub (fun _ h => List.mem_cons_of_mem _ (List.mem_append_right _ h)) (by decide +kernel))
set_option maxRecDepth 20000 in
theorem gX7_principal_X7_loanAt : GoodIn wsX7_principal (wsV RX7 115 RX7 yX7_loanAt wsX7_loanAt) := goodIn_app (goodIn_of _ (by decide +kernel)) ggX7_principal_X7_loanAt
theorem dX7_principal_0 : decode cX7_principal 0 = .ok (.aload_n 0, 1) := by decide +kernel
theorem dX7_principal_1 : decode cX7_principal 1 = .ok (.iload_n 1, 1) := by decide +kernel
theorem dX7_principal_2 : decode cX7_principal 2 = .ok (.invokevirtual 115, 3) := by decide +kernel
theorem dX7_principal_5 : decode cX7_principal 5 = .ok (.getfield 182, 3) := by decide +kernel
theorem dX7_principal_8 : decode cX7_principal 8 = .ok (.ireturn, 1) := by decide +kernel
set_option maxRecDepth 20000 in
theorem ggX7_balance_X7_loanAt : GoodIn wsX7_balance wsX7_loanAt := goodIn_ca (goodIn_r _ [6, 7, 8, 9, 10, 11, 22, 23, 24, 25, 26, 27, 28, 29, 30, 31, 32, 33, 34, 35] (by decide +kernel) (by decide +kernel)) (goodIn_sub (fun _ h => List.mem_cons_of_mem _ (List.mem_append_right _ h)) (by decide +kernel))
set_option maxRecDepth 20000 in
theorem gX7_balance_X7_loanAt : GoodIn wsX7_balance (wsV RX7 115 RX7 yX7_loanAt wsX7_loanAt) := goodIn_app (goodIn_of _ (by decide +kernel)) ggX7_balance_X7_loanAt
theorem dX7_balance_0 : decode cX7_balance 0 = .ok (.aload_n 0, 1) := by decide +kernel
theorem dX7_balance_1 : decode cX7_balance 1 = .ok (.iload_n 1, 1) := by decide +kernel
theorem dX7_balance_2 : decode cX7_balance 2 = .ok (.invokevirtual 115, 3) := by decide +kernel
theorem dX7_balance_5 : decode cX7_balance 5 = .ok (.getfield 137, 3) := by decide +kernel
theorem dX7_balance_8 : decode cX7_balance 8 = .ok (.ireturn, 1) := by decide +kernel
set_option maxRecDepth 20000 in
theorem ggX7_rate_X7_loanAt : GoodIn wsX7_rate wsX7_loanAt := goodIn_ca (goodIn_r _ [6, 7, 8, 9, 10, 11, 22, 23, 24, 25, 26, 27, 28, 29, 30, 31, 32, 33, 34, 35] (by decide +kernel) (by decide +kernel)) (goodIn_sub (fun _ h => List.mem_cons_of_mem _ (List.mem_append_right _ h)) (by decide +kernel))
set_option maxRecDepth 20000 in
theorem gX7_rate_X7_loanAt : GoodIn wsX7_rate (wsV RX7 115 RX7 yX7_loanAt wsX7_loanAt) := goodIn_app (goodIn_of _ (by decide +kernel)) ggX7_rate_X7_loanAt
theorem dX7_rate_0 : decode cX7_rate 0 = .ok (.aload_n 0, 1) := by decide +kernel
theorem dX7_rate_1 : decode cX7_rate 1 = .ok (.iload_n 1, 1) := by decide +kernel
theorem dX7_rate_2 : decode cX7_rate 2 = .ok (.invokevirtual 115, 3) := by decide +kernel
theorem dX7_rate_5 : decode cX7_rate 5 = .ok (.getfield 156, 3) := by decide +kernel
theorem dX7_rate_8 : decode cX7_rate 8 = .ok (.ireturn, 1) := by decide +kernel
set_option maxRecDepth 20000 in
theorem ggX7_monthsLeft_X7_loanAt : GoodIn wsX7_monthsLeft wsX7_loanAt := goodIn_ca (goodIn_r _ [6, 7, 8, 9, 10, 11, 22, 23, 24, 25, 26, 27, 28, 29, 30, 31, 32, 33, 34, 35] (by decide +kernel) (by decide +kernel)) (goodIn_sub (fun _ h => List.mem_cons_of_mem _ (List.mem_append_right _ h)) (by decide +kernel))
set_option maxRecDepth 20000 in
theorem gX7_monthsLeft_X7_loanAt : GoodIn wsX7_monthsLeft (wsV RX7 115 RX7 yX7_loanAt wsX7_loanAt) := goodIn_app (goodIn_of _ (by decide +kernel)) ggX7_monthsLeft_X7_loanAt
theorem dX7_monthsLeft_0 : decode cX7_monthsLeft 0 = .ok (.aload_n 0, 1) := by decide +kernel
theorem dX7_monthsLeft_1 : decode cX7_monthsLeft 1 = .ok (.iload_n 1, 1) := by decide +kernel
theorem dX7_monthsLeft_2 : decode cX7_monthsLeft 2 = .ok (.invokevirtual 115, 3) := by decide +kernel
theorem dX7_monthsLeft_5 : decode cX7_monthsLeft 5 = .ok (.getfield 146, 3) := by decide +kernel
theorem dX7_monthsLeft_8 : decode cX7_monthsLeft 8 = .ok (.ireturn, 1) := by decide +kernel
set_option maxRecDepth 20000 in
theorem ggX7_installment_X7_loanAt : GoodIn wsX7_installment wsX7_loanAt := goodIn_ca (goodIn_r _ [6, 7, 8, 9, 10, 11, 22, 23, 24, 25, 26, 27, 28, 29, 30, 31, 32, 33, 34, 35] (by decide +kernel) (by decide +kernel)) (goodIn_sub (fun _ h => List.mem_cons_of_mem _ (List.mem_append_right _ h)) (by decide +kernel))
set_option maxRecDepth 20000 in
theorem gX7_installment_X7_loanAt : GoodIn wsX7_installment (wsV RX7 115 RX7 yX7_loanAt wsX7_loanAt) := goodIn_app (goodIn_of _ (by decide +kernel)) ggX7_installment_X7_loanAt
theorem dX7_installment_0 : decode cX7_installment 0 = .ok (.aload_n 0, 1) := by decide +kernel
theorem dX7_installment_1 : decode cX7_installment 1 = .ok (.iload_n 1, 1) := by decide +kernel
theorem dX7_installment_2 : decode cX7_installment 2 = .ok (.invokevirtual 115, 3) := by decide +kernel
theorem dX7_installment_5 : decode cX7_installment 5 = .ok (.getfield 185, 3) := by decide +kernel
theorem dX7_installment_8 : decode cX7_installment 8 = .ok (.ireturn, 1) := by decide +kernel
set_option maxRecDepth 20000 in
theorem ggX7_carry_X7_loanAt : GoodIn wsX7_carry wsX7_loanAt := goodIn_ca (goodIn_r _ [6, 7, 8, 9, 10, 11, 22, 23, 24, 25, 26, 27, 28, 29, 30, 31, 32, 33, 34, 35] (by decide +kernel) (by decide +kernel)) (goodIn_sub (fun _ h => List.mem_cons_of_mem _ (List.mem_append_right _ h)) (by decide +kernel))
set_option maxRecDepth 20000 in
theorem gX7_carry_X7_loanAt : GoodIn wsX7_carry (wsV RX7 115 RX7 yX7_loanAt wsX7_loanAt) := goodIn_app (goodIn_of _ (by decide +kernel)) ggX7_carry_X7_loanAt
theorem dX7_carry_0 : decode cX7_carry 0 = .ok (.aload_n 0, 1) := by decide +kernel
theorem dX7_carry_1 : decode cX7_carry 1 = .ok (.iload_n 1, 1) := by decide +kernel
theorem dX7_carry_2 : decode cX7_carry 2 = .ok (.invokevirtual 115, 3) := by decide +kernel
theorem dX7_carry_5 : decode cX7_carry 5 = .ok (.getfield 188, 3) := by decide +kernel
theorem dX7_carry_8 : decode cX7_carry 8 = .ok (.ireturn, 1) := by decide +kernel
set_option maxRecDepth 20000 in
theorem ggX7_interestDue_X7_loanAt : GoodIn wsX7_interestDue wsX7_loanAt := goodIn_ca (goodIn_r _ [5, 6, 7, 8, 9, 10, 20, 21, 22, 23, 24, 25, 26, 27, 28, 29, 30, 31, 32, 33] (by decide +kernel) (by decide +kernel)) (goodIn_sub (fun _ h => List.mem_cons_of_mem _ (List.mem_append_right _ h)) (by decide +kernel))
set_option maxRecDepth 20000 in
theorem gX7_interestDue_X7_loanAt : GoodIn wsX7_interestDue (wsV RX7 115 RX7 yX7_loanAt wsX7_loanAt) := goodIn_app (goodIn_of _ (by decide +kernel)) ggX7_interestDue_X7_loanAt
set_option maxRecDepth 20000 in
theorem ggX7_interestDue_X2_nextInterest : GoodIn wsX7_interestDue wsX2_nextInterest := goodIn_r _ [15, 16, 17, 18, 19, 34, 35, 36, 37, 38, 39, 40, 41, 42, 43] (by decide +kernel) (by decide +kernel)
set_option maxRecDepth 20000 in
theorem gX7_interestDue_X2_nextInterest : GoodIn wsX7_interestDue (wsV RX7 191 RX2 yX2_nextInterest wsX2_nextInterest) := goodIn_app (goodIn_of _ (by decide +kernel)) ggX7_interestDue_X2_nextInterest
theorem dX7_interestDue_0 : decode cX7_interestDue 0 = .ok (.aload_n 0, 1) := by decide +kernel
theorem dX7_interestDue_1 : decode cX7_interestDue 1 = .ok (.iload_n 1, 1) := by decide +kernel
theorem dX7_interestDue_2 : decode cX7_interestDue 2 = .ok (.invokevirtual 115, 3) := by decide +kernel
theorem dX7_interestDue_5 : decode cX7_interestDue 5 = .ok (.invokevirtual 191, 3) := by decide +kernel
theorem dX7_interestDue_8 : decode cX7_interestDue 8 = .ok (.ireturn, 1) := by decide +kernel
set_option maxRecDepth 20000 in
theorem ggX7_amountDue_X7_loanAt : GoodIn wsX7_amountDue wsX7_loanAt := goodIn_ca (goodIn_r _ [5, 6, 7, 8, 9, 10, 30, 31, 32, 33, 34, 35, 36, 37, 38, 39, 40, 41, 42, 43] (by decide +kernel) (by decide +kernel)) (goodIn_sub (fun _ h => List.mem_cons_of_mem _ (List.mem_append_right _ h)) (by decide +kernel))
set_option maxRecDepth 20000 in
theorem gX7_amountDue_X7_loanAt : GoodIn wsX7_amountDue (wsV RX7 115 RX7 yX7_loanAt wsX7_loanAt) := goodIn_app (goodIn_of _ (by decide +kernel)) ggX7_amountDue_X7_loanAt
set_option maxRecDepth 20000 in
theorem ggX7_amountDue_X2_nextDue : GoodIn wsX7_amountDue wsX2_nextDue := goodIn_r _ [15, 16, 17, 18, 19, 14, 20, 21, 22, 23, 24, 25, 26, 27, 28, 29, 44, 45, 46, 47, 48, 49, 50, 51, 52, 53] (by decide +kernel) (by decide +kernel)
set_option maxRecDepth 20000 in
theorem gX7_amountDue_X2_nextDue : GoodIn wsX7_amountDue (wsV RX7 194 RX2 yX2_nextDue wsX2_nextDue) := goodIn_app (goodIn_of _ (by decide +kernel)) ggX7_amountDue_X2_nextDue
theorem dX7_amountDue_0 : decode cX7_amountDue 0 = .ok (.aload_n 0, 1) := by decide +kernel
theorem dX7_amountDue_1 : decode cX7_amountDue 1 = .ok (.iload_n 1, 1) := by decide +kernel
theorem dX7_amountDue_2 : decode cX7_amountDue 2 = .ok (.invokevirtual 115, 3) := by decide +kernel
theorem dX7_amountDue_5 : decode cX7_amountDue 5 = .ok (.invokevirtual 194, 3) := by decide +kernel
theorem dX7_amountDue_8 : decode cX7_amountDue 8 = .ok (.ireturn, 1) := by decide +kernel
set_option maxRecDepth 20000 in
theorem ggX7_interestSoFar_X7_loanAt : GoodIn wsX7_interestSoFar wsX7_loanAt := goodIn_ca (goodIn_r _ [6, 7, 8, 9, 10, 11, 22, 23, 24, 25, 26, 27, 28, 29, 30, 31, 32, 33, 34, 35] (by decide +kernel) (by decide +kernel)) (goodIn_sub (fun _ h => List.mem_cons_of_mem _ (List.mem_append_right _ h)) (by decide +kernel))
set_option maxRecDepth 20000 in
theorem gX7_interestSoFar_X7_loanAt : GoodIn wsX7_interestSoFar (wsV RX7 115 RX7 yX7_loanAt wsX7_loanAt) := goodIn_app (goodIn_of _ (by decide +kernel)) ggX7_interestSoFar_X7_loanAt
theorem dX7_interestSoFar_0 : decode cX7_interestSoFar 0 = .ok (.aload_n 0, 1) := by decide +kernel
theorem dX7_interestSoFar_1 : decode cX7_interestSoFar 1 = .ok (.iload_n 1, 1) := by decide +kernel
theorem dX7_interestSoFar_2 : decode cX7_interestSoFar 2 = .ok (.invokevirtual 115, 3) := by decide +kernel
theorem dX7_interestSoFar_5 : decode cX7_interestSoFar 5 = .ok (.getfield 197, 3) := by decide +kernel
theorem dX7_interestSoFar_8 : decode cX7_interestSoFar 8 = .ok (.ireturn, 1) := by decide +kernel
set_option maxRecDepth 20000 in
theorem ggX7_paidSoFar_X7_loanAt : GoodIn wsX7_paidSoFar wsX7_loanAt := goodIn_ca (goodIn_r _ [6, 7, 8, 9, 10, 11, 22, 23, 24, 25, 26, 27, 28, 29, 30, 31, 32, 33, 34, 35] (by decide +kernel) (by decide +kernel)) (goodIn_sub (fun _ h => List.mem_cons_of_mem _ (List.mem_append_right _ h)) (by decide +kernel))
set_option maxRecDepth 20000 in
theorem gX7_paidSoFar_X7_loanAt : GoodIn wsX7_paidSoFar (wsV RX7 115 RX7 yX7_loanAt wsX7_loanAt) := goodIn_app (goodIn_of _ (by decide +kernel)) ggX7_paidSoFar_X7_loanAt
theorem dX7_paidSoFar_0 : decode cX7_paidSoFar 0 = .ok (.aload_n 0, 1) := by decide +kernel
theorem dX7_paidSoFar_1 : decode cX7_paidSoFar 1 = .ok (.iload_n 1, 1) := by decide +kernel
theorem dX7_paidSoFar_2 : decode cX7_paidSoFar 2 = .ok (.invokevirtual 115, 3) := by decide +kernel
theorem dX7_paidSoFar_5 : decode cX7_paidSoFar 5 = .ok (.getfield 200, 3) := by decide +kernel
theorem dX7_paidSoFar_8 : decode cX7_paidSoFar 8 = .ok (.ireturn, 1) := by decide +kernel
set_option maxRecDepth 20000 in
theorem ggX7_paidMonths_X7_loanAt : GoodIn wsX7_paidMonths wsX7_loanAt := goodIn_ca (goodIn_r _ [6, 7, 8, 9, 10, 11, 22, 23, 24, 25, 26, 27, 28, 29, 30, 31, 32, 33, 34, 35] (by decide +kernel) (by decide +kernel)) (goodIn_sub (fun _ h => List.mem_cons_of_mem _ (List.mem_append_right _ h)) (by decide +kernel))
set_option maxRecDepth 20000 in
theorem gX7_paidMonths_X7_loanAt : GoodIn wsX7_paidMonths (wsV RX7 115 RX7 yX7_loanAt wsX7_loanAt) := goodIn_app (goodIn_of _ (by decide +kernel)) ggX7_paidMonths_X7_loanAt
theorem dX7_paidMonths_0 : decode cX7_paidMonths 0 = .ok (.aload_n 0, 1) := by decide +kernel
theorem dX7_paidMonths_1 : decode cX7_paidMonths 1 = .ok (.iload_n 1, 1) := by decide +kernel
theorem dX7_paidMonths_2 : decode cX7_paidMonths 2 = .ok (.invokevirtual 115, 3) := by decide +kernel
theorem dX7_paidMonths_5 : decode cX7_paidMonths 5 = .ok (.getfield 203, 3) := by decide +kernel
theorem dX7_paidMonths_8 : decode cX7_paidMonths 8 = .ok (.ireturn, 1) := by decide +kernel
set_option maxRecDepth 20000 in
theorem ggX7_skippedMonths_X7_loanAt : GoodIn wsX7_skippedMonths wsX7_loanAt := goodIn_ca (goodIn_r _ [6, 7, 8, 9, 10, 11, 22, 23, 24, 25, 26, 27, 28, 29, 30, 31, 32, 33, 34, 35] (by decide +kernel) (by decide +kernel)) (goodIn_sub (fun _ h => List.mem_cons_of_mem _ (List.mem_append_right _ h)) (by decide +kernel))
set_option maxRecDepth 20000 in
theorem gX7_skippedMonths_X7_loanAt : GoodIn wsX7_skippedMonths (wsV RX7 115 RX7 yX7_loanAt wsX7_loanAt) := goodIn_app (goodIn_of _ (by decide +kernel)) ggX7_skippedMonths_X7_loanAt
theorem dX7_skippedMonths_0 : decode cX7_skippedMonths 0 = .ok (.aload_n 0, 1) := by decide +kernel
theorem dX7_skippedMonths_1 : decode cX7_skippedMonths 1 = .ok (.iload_n 1, 1) := by decide +kernel
theorem dX7_skippedMonths_2 : decode cX7_skippedMonths 2 = .ok (.invokevirtual 115, 3) := by decide +kernel
theorem dX7_skippedMonths_5 : decode cX7_skippedMonths 5 = .ok (.getfield 206, 3) := by decide +kernel
theorem dX7_skippedMonths_8 : decode cX7_skippedMonths 8 = .ok (.ireturn, 1) := by decide +kernel
set_option maxRecDepth 20000 in
theorem ggX7_interestOfPayment_X7_loanAt : GoodIn wsX7_interestOfPayment wsX7_loanAt := goodIn_ca (goodIn_r _ [6, 7, 8, 9, 10, 11, 61, 62, 63, 64, 65, 66, 67, 68, 69, 70, 71, 72, 73, 74] (by decide +kernel) (by decide +kernel)) (goodIn_sub (fun _ h => List.mem_cons_of_mem _ (List.mem_append_left _ (List.mem_append_right _ h))) (by decide +kernel))
set_option maxRecDepth 20000 in
theorem gX7_interestOfPayment_X7_loanAt : GoodIn wsX7_interestOfPayment (wsV RX7 115 RX7 yX7_loanAt wsX7_loanAt) := goodIn_app (goodIn_of _ (by decide +kernel)) ggX7_interestOfPayment_X7_loanAt
set_option maxRecDepth 20000 in
theorem ggX7_interestOfPayment_X2_copyFrom : GoodIn wsX7_interestOfPayment wsX2_copyFrom := goodIn_r _ [16, 17, 18, 19, 20, 21, 22, 23, 24, 25, 26, 75, 76, 77, 78, 79, 80, 81, 82, 83, 84] (by decide +kernel) (by decide +kernel)
set_option maxRecDepth 20000 in
theorem gX7_interestOfPayment_X2_copyFrom : GoodIn wsX7_interestOfPayment (wsV RX7 229 RX2 yX2_copyFrom wsX2_copyFrom) := goodIn_app (goodIn_of _ (by decide +kernel)) ggX7_interestOfPayment_X2_copyFrom
set_option maxRecDepth 20000 in
theorem ggX7_interestOfPayment_X7_requireRange : GoodIn wsX7_interestOfPayment wsX7_requireRange := goodIn_ca (goodIn_r _ [29, 30, 31] (by decide +kernel) (by decide +kernel)) (goodIn_sub (fun _ h => List.mem_cons_of_mem _ (List.mem_append_right _ h)) (by decide +kernel))
set_option maxRecDepth 20000 in
theorem gX7_interestOfPayment_X7_requireRange : GoodIn wsX7_interestOfPayment (va_wsS RX7 90 yX7_requireRange wsX7_requireRange) := goodIn_app (goodIn_of _ (by decide +kernel)) ggX7_interestOfPayment_X7_requireRange
set_option maxRecDepth 20000 in
theorem ggX7_interestOfPayment_X2_settleMonths : GoodIn wsX7_interestOfPayment wsX2_settleMonths := goodIn_r _ [35, 18, 36, 37, 38, 15, 39, 20, 25, 40, 41, 42, 43, 19, 22, 44, 23, 45, 46, 47, 48, 21, 49, 50, 51, 52, 24, 75, 76, 77, 78, 79, 80, 81, 82, 83, 84] (by decide +kernel) (by decide +kernel)
set_option maxRecDepth 20000 in
theorem gX7_interestOfPayment_X2_settleMonths : GoodIn wsX7_interestOfPayment (wsV RX7 232 RX2 yX2_settleMonths wsX2_settleMonths) := goodIn_app (goodIn_of _ (by decide +kernel)) ggX7_interestOfPayment_X2_settleMonths
set_option maxRecDepth 20000 in
theorem ggX7_interestOfPayment_X2_isRunning : GoodIn wsX7_interestOfPayment wsX2_isRunning := goodIn_r _ [56, 18, 75, 76, 77, 78, 79, 80, 81, 82, 83, 84] (by decide +kernel) (by decide +kernel)
set_option maxRecDepth 20000 in
theorem gX7_interestOfPayment_X2_isRunning : GoodIn wsX7_interestOfPayment (wsV RX7 119 RX2 yX2_isRunning wsX2_isRunning) := goodIn_app (goodIn_of _ (by decide +kernel)) ggX7_interestOfPayment_X2_isRunning
set_option maxRecDepth 20000 in
theorem ggX7_interestOfPayment_X2_nextInterest : GoodIn wsX7_interestOfPayment wsX2_nextInterest := goodIn_r _ [60, 18, 19, 22, 44, 75, 76, 77, 78, 79, 80, 81, 82, 83, 84] (by decide +kernel) (by decide +kernel)
set_option maxRecDepth 20000 in
theorem gX7_interestOfPayment_X2_nextInterest : GoodIn wsX7_interestOfPayment (wsV RX7 191 RX2 yX2_nextInterest wsX2_nextInterest) := goodIn_app (goodIn_of _ (by decide +kernel)) ggX7_interestOfPayment_X2_nextInterest
theorem dX7_interestOfPayment_0 : decode cX7_interestOfPayment 0 = .ok (.aload_n 0, 1) := by decide +kernel
theorem dX7_interestOfPayment_1 : decode cX7_interestOfPayment 1 = .ok (.getfield 55, 3) := by decide +kernel
theorem dX7_interestOfPayment_4 : decode cX7_interestOfPayment 4 = .ok (.aload_n 0, 1) := by decide +kernel
theorem dX7_interestOfPayment_5 : decode cX7_interestOfPayment 5 = .ok (.iload_n 1, 1) := by decide +kernel
theorem dX7_interestOfPayment_6 : decode cX7_interestOfPayment 6 = .ok (.invokevirtual 115, 3) := by decide +kernel
theorem dX7_interestOfPayment_9 : decode cX7_interestOfPayment 9 = .ok (.invokevirtual 229, 3) := by decide +kernel
theorem dX7_interestOfPayment_12 : decode cX7_interestOfPayment 12 = .ok (.iload_n 2, 1) := by decide +kernel
theorem dX7_interestOfPayment_13 : decode cX7_interestOfPayment 13 = .ok (.iconst 1, 1) := by decide +kernel
theorem dX7_interestOfPayment_14 : decode cX7_interestOfPayment 14 = .ok (.bipush 120, 2) := by decide +kernel
theorem dX7_interestOfPayment_16 : decode cX7_interestOfPayment 16 = .ok (.invokestatic 90, 3) := by decide +kernel
theorem dX7_interestOfPayment_19 : decode cX7_interestOfPayment 19 = .ok (.aload_n 0, 1) := by decide +kernel
theorem dX7_interestOfPayment_20 : decode cX7_interestOfPayment 20 = .ok (.getfield 55, 3) := by decide +kernel
theorem dX7_interestOfPayment_23 : decode cX7_interestOfPayment 23 = .ok (.iload_n 2, 1) := by decide +kernel
theorem dX7_interestOfPayment_24 : decode cX7_interestOfPayment 24 = .ok (.iconst 1, 1) := by decide +kernel
theorem dX7_interestOfPayment_25 : decode cX7_interestOfPayment 25 = .ok (.isub, 1) := by decide +kernel
theorem dX7_interestOfPayment_26 : decode cX7_interestOfPayment 26 = .ok (.invokevirtual 232, 3) := by decide +kernel
theorem dX7_interestOfPayment_29 : decode cX7_interestOfPayment 29 = .ok (.pop, 1) := by decide +kernel
theorem dX7_interestOfPayment_30 : decode cX7_interestOfPayment 30 = .ok (.aload_n 0, 1) := by decide +kernel
theorem dX7_interestOfPayment_31 : decode cX7_interestOfPayment 31 = .ok (.getfield 55, 3) := by decide +kernel
theorem dX7_interestOfPayment_34 : decode cX7_interestOfPayment 34 = .ok (.invokevirtual 119, 3) := by decide +kernel
theorem dX7_interestOfPayment_37 : decode cX7_interestOfPayment 37 = .ok (.ifCond .eq 13, 3) := by decide +kernel
theorem dX7_interestOfPayment_40 : decode cX7_interestOfPayment 40 = .ok (.aload_n 0, 1) := by decide +kernel
theorem dX7_interestOfPayment_41 : decode cX7_interestOfPayment 41 = .ok (.getfield 55, 3) := by decide +kernel
theorem dX7_interestOfPayment_44 : decode cX7_interestOfPayment 44 = .ok (.invokevirtual 191, 3) := by decide +kernel
theorem dX7_interestOfPayment_47 : decode cX7_interestOfPayment 47 = .ok (.goto 4, 3) := by decide +kernel
theorem dX7_interestOfPayment_50 : decode cX7_interestOfPayment 50 = .ok (.iconst (-1), 1) := by decide +kernel
theorem dX7_interestOfPayment_51 : decode cX7_interestOfPayment 51 = .ok (.ireturn, 1) := by decide +kernel
set_option maxRecDepth 20000 in
theorem ggX7_amountOfPayment_X7_loanAt : GoodIn wsX7_amountOfPayment wsX7_loanAt := goodIn_ca (goodIn_r _ [6, 7, 8, 9, 10, 11, 65, 66, 67, 68, 69, 70, 71, 72, 73, 74, 75, 76, 77, 78] (by decide +kernel) (by decide +kernel)) (goodIn_sub (fun _ h => List.mem_cons_of_mem _ (List.mem_append_left _ (List.mem_append_right _ h))) (by decide +kernel))
set_option maxRecDepth 20000 in
theorem gX7_amountOfPayment_X7_loanAt : GoodIn wsX7_amountOfPayment (wsV RX7 115 RX7 yX7_loanAt wsX7_loanAt) := goodIn_app (goodIn_of _ (by decide +kernel)) ggX7_amountOfPayment_X7_loanAt
set_option maxRecDepth 20000 in
theorem ggX7_amountOfPayment_X2_copyFrom : GoodIn wsX7_amountOfPayment wsX2_copyFrom := goodIn_r _ [16, 17, 18, 19, 20, 21, 22, 23, 24, 25, 26, 79, 80, 81, 82, 83, 84, 85, 86, 87, 88] (by decide +kernel) (by decide +kernel)
set_option maxRecDepth 20000 in
theorem gX7_amountOfPayment_X2_copyFrom : GoodIn wsX7_amountOfPayment (wsV RX7 229 RX2 yX2_copyFrom wsX2_copyFrom) := goodIn_app (goodIn_of _ (by decide +kernel)) ggX7_amountOfPayment_X2_copyFrom
set_option maxRecDepth 20000 in
theorem ggX7_amountOfPayment_X7_requireRange : GoodIn wsX7_amountOfPayment wsX7_requireRange := goodIn_ca (goodIn_r _ [29, 30, 31] (by decide +kernel) (by decide +kernel)) (goodIn_sub (fun _ h => List.mem_cons_of_mem _ (List.mem_append_right _ h)) (by decide +kernel))
set_option maxRecDepth 20000 in
theorem gX7_amountOfPayment_X7_requireRange : GoodIn wsX7_amountOfPayment (va_wsS RX7 90 yX7_requireRange wsX7_requireRange) := goodIn_app (goodIn_of _ (by decide +kernel)) ggX7_amountOfPayment_X7_requireRange
set_option maxRecDepth 20000 in
theorem ggX7_amountOfPayment_X2_settleMonths : GoodIn wsX7_amountOfPayment wsX2_settleMonths := goodIn_r _ [35, 18, 36, 37, 38, 15, 39, 20, 25, 40, 41, 42, 43, 19, 22, 44, 23, 45, 46, 47, 48, 21, 49, 50, 51, 52, 24, 79, 80, 81, 82, 83, 84, 85, 86, 87, 88] (by decide +kernel) (by decide +kernel)
set_option maxRecDepth 20000 in
theorem gX7_amountOfPayment_X2_settleMonths : GoodIn wsX7_amountOfPayment (wsV RX7 232 RX2 yX2_settleMonths wsX2_settleMonths) := goodIn_app (goodIn_of _ (by decide +kernel)) ggX7_amountOfPayment_X2_settleMonths
set_option maxRecDepth 20000 in
theorem ggX7_amountOfPayment_X2_isRunning : GoodIn wsX7_amountOfPayment wsX2_isRunning := goodIn_r _ [56, 18, 79, 80, 81, 82, 83, 84, 85, 86, 87, 88] (by decide +kernel) (by decide +kernel)
set_option maxRecDepth 20000 in
theorem gX7_amountOfPayment_X2_isRunning : GoodIn wsX7_amountOfPayment (wsV RX7 119 RX2 yX2_isRunning wsX2_isRunning) := goodIn_app (goodIn_of _ (by decide +kernel)) ggX7_amountOfPayment_X2_isRunning
set_option maxRecDepth 20000 in
theorem ggX7_amountOfPayment_X2_nextDue : GoodIn wsX7_amountOfPayment wsX2_nextDue := goodIn_r _ [60, 18, 61, 62, 63, 15, 64, 19, 22, 44, 45, 46, 47, 48, 21, 20, 79, 80, 81, 82, 83, 84, 85, 86, 87, 88] (by decide +kernel) (by decide +kernel)
set_option maxRecDepth 20000 in
theorem gX7_amountOfPayment_X2_nextDue : GoodIn wsX7_amountOfPayment (wsV RX7 194 RX2 yX2_nextDue wsX2_nextDue) := goodIn_app (goodIn_of _ (by decide +kernel)) ggX7_amountOfPayment_X2_nextDue
theorem dX7_amountOfPayment_0 : decode cX7_amountOfPayment 0 = .ok (.aload_n 0, 1) := by decide +kernel
theorem dX7_amountOfPayment_1 : decode cX7_amountOfPayment 1 = .ok (.getfield 55, 3) := by decide +kernel
theorem dX7_amountOfPayment_4 : decode cX7_amountOfPayment 4 = .ok (.aload_n 0, 1) := by decide +kernel
theorem dX7_amountOfPayment_5 : decode cX7_amountOfPayment 5 = .ok (.iload_n 1, 1) := by decide +kernel
theorem dX7_amountOfPayment_6 : decode cX7_amountOfPayment 6 = .ok (.invokevirtual 115, 3) := by decide +kernel
theorem dX7_amountOfPayment_9 : decode cX7_amountOfPayment 9 = .ok (.invokevirtual 229, 3) := by decide +kernel
theorem dX7_amountOfPayment_12 : decode cX7_amountOfPayment 12 = .ok (.iload_n 2, 1) := by decide +kernel
theorem dX7_amountOfPayment_13 : decode cX7_amountOfPayment 13 = .ok (.iconst 1, 1) := by decide +kernel
theorem dX7_amountOfPayment_14 : decode cX7_amountOfPayment 14 = .ok (.bipush 120, 2) := by decide +kernel
theorem dX7_amountOfPayment_16 : decode cX7_amountOfPayment 16 = .ok (.invokestatic 90, 3) := by decide +kernel
theorem dX7_amountOfPayment_19 : decode cX7_amountOfPayment 19 = .ok (.aload_n 0, 1) := by decide +kernel
theorem dX7_amountOfPayment_20 : decode cX7_amountOfPayment 20 = .ok (.getfield 55, 3) := by decide +kernel
theorem dX7_amountOfPayment_23 : decode cX7_amountOfPayment 23 = .ok (.iload_n 2, 1) := by decide +kernel
theorem dX7_amountOfPayment_24 : decode cX7_amountOfPayment 24 = .ok (.iconst 1, 1) := by decide +kernel
theorem dX7_amountOfPayment_25 : decode cX7_amountOfPayment 25 = .ok (.isub, 1) := by decide +kernel
theorem dX7_amountOfPayment_26 : decode cX7_amountOfPayment 26 = .ok (.invokevirtual 232, 3) := by decide +kernel
theorem dX7_amountOfPayment_29 : decode cX7_amountOfPayment 29 = .ok (.pop, 1) := by decide +kernel
theorem dX7_amountOfPayment_30 : decode cX7_amountOfPayment 30 = .ok (.aload_n 0, 1) := by decide +kernel
theorem dX7_amountOfPayment_31 : decode cX7_amountOfPayment 31 = .ok (.getfield 55, 3) := by decide +kernel
theorem dX7_amountOfPayment_34 : decode cX7_amountOfPayment 34 = .ok (.invokevirtual 119, 3) := by decide +kernel
theorem dX7_amountOfPayment_37 : decode cX7_amountOfPayment 37 = .ok (.ifCond .eq 13, 3) := by decide +kernel
theorem dX7_amountOfPayment_40 : decode cX7_amountOfPayment 40 = .ok (.aload_n 0, 1) := by decide +kernel
theorem dX7_amountOfPayment_41 : decode cX7_amountOfPayment 41 = .ok (.getfield 55, 3) := by decide +kernel
theorem dX7_amountOfPayment_44 : decode cX7_amountOfPayment 44 = .ok (.invokevirtual 194, 3) := by decide +kernel
theorem dX7_amountOfPayment_47 : decode cX7_amountOfPayment 47 = .ok (.goto 4, 3) := by decide +kernel
theorem dX7_amountOfPayment_50 : decode cX7_amountOfPayment 50 = .ok (.iconst (-1), 1) := by decide +kernel
theorem dX7_amountOfPayment_51 : decode cX7_amountOfPayment 51 = .ok (.ireturn, 1) := by decide +kernel
set_option maxRecDepth 20000 in
theorem ggX7_balanceAfter_X7_loanAt : GoodIn wsX7_balanceAfter wsX7_loanAt := goodIn_ca (goodIn_r _ [7, 8, 9, 10, 11, 12, 54, 55, 56, 57, 58, 59, 60, 61, 62, 63, 64, 75, 76, 77] (by decide +kernel) (by decide +kernel)) (goodIn_sub (fun _ h => List.mem_cons_of_mem _ (List.mem_append_left _ (List.mem_append_right _ h))) (by decide +kernel))
set_option maxRecDepth 20000 in
theorem gX7_balanceAfter_X7_loanAt : GoodIn wsX7_balanceAfter (wsV RX7 115 RX7 yX7_loanAt wsX7_loanAt) := goodIn_app (goodIn_of _ (by decide +kernel)) ggX7_balanceAfter_X7_loanAt
set_option maxRecDepth 20000 in
theorem ggX7_balanceAfter_X2_copyFrom : GoodIn wsX7_balanceAfter wsX2_copyFrom := goodIn_r _ [17, 18, 19, 20, 21, 22, 23, 24, 25, 26, 27, 65, 66, 67, 68, 69, 70, 71, 72, 73, 74] (by decide +kernel) (by decide +kernel)
set_option maxRecDepth 20000 in
theorem gX7_balanceAfter_X2_copyFrom : GoodIn wsX7_balanceAfter (wsV RX7 229 RX2 yX2_copyFrom wsX2_copyFrom) := goodIn_app (goodIn_of _ (by decide +kernel)) ggX7_balanceAfter_X2_copyFrom
set_option maxRecDepth 20000 in
theorem ggX7_balanceAfter_X7_requireRange : GoodIn wsX7_balanceAfter wsX7_requireRange := goodIn_ca (goodIn_r _ [30, 31, 32] (by decide +kernel) (by decide +kernel)) (goodIn_sub (fun _ h => List.mem_cons_of_mem _ (List.mem_append_right _ h)) (by decide +kernel))
set_option maxRecDepth 20000 in
theorem gX7_balanceAfter_X7_requireRange : GoodIn wsX7_balanceAfter (va_wsS RX7 90 yX7_requireRange wsX7_requireRange) := goodIn_app (goodIn_of _ (by decide +kernel)) ggX7_balanceAfter_X7_requireRange
set_option maxRecDepth 20000 in
theorem ggX7_balanceAfter_X2_settleMonths : GoodIn wsX7_balanceAfter wsX2_settleMonths := goodIn_r _ [36, 19, 37, 38, 39, 16, 40, 21, 26, 41, 42, 43, 44, 20, 23, 45, 24, 46, 47, 48, 49, 22, 50, 51, 52, 53, 25, 65, 66, 67, 68, 69, 70, 71, 72, 73, 74] (by decide +kernel) (by decide +kernel)
set_option maxRecDepth 20000 in
theorem gX7_balanceAfter_X2_settleMonths : GoodIn wsX7_balanceAfter (wsV RX7 232 RX2 yX2_settleMonths wsX2_settleMonths) := goodIn_app (goodIn_of _ (by decide +kernel)) ggX7_balanceAfter_X2_settleMonths
theorem dX7_balanceAfter_0 : decode cX7_balanceAfter 0 = .ok (.aload_n 0, 1) := by decide +kernel
theorem dX7_balanceAfter_1 : decode cX7_balanceAfter 1 = .ok (.getfield 55, 3) := by decide +kernel
theorem dX7_balanceAfter_4 : decode cX7_balanceAfter 4 = .ok (.aload_n 0, 1) := by decide +kernel
theorem dX7_balanceAfter_5 : decode cX7_balanceAfter 5 = .ok (.iload_n 1, 1) := by decide +kernel
theorem dX7_balanceAfter_6 : decode cX7_balanceAfter 6 = .ok (.invokevirtual 115, 3) := by decide +kernel
theorem dX7_balanceAfter_9 : decode cX7_balanceAfter 9 = .ok (.invokevirtual 229, 3) := by decide +kernel
theorem dX7_balanceAfter_12 : decode cX7_balanceAfter 12 = .ok (.iload_n 2, 1) := by decide +kernel
theorem dX7_balanceAfter_13 : decode cX7_balanceAfter 13 = .ok (.iconst 0, 1) := by decide +kernel
theorem dX7_balanceAfter_14 : decode cX7_balanceAfter 14 = .ok (.bipush 120, 2) := by decide +kernel
theorem dX7_balanceAfter_16 : decode cX7_balanceAfter 16 = .ok (.invokestatic 90, 3) := by decide +kernel
theorem dX7_balanceAfter_19 : decode cX7_balanceAfter 19 = .ok (.aload_n 0, 1) := by decide +kernel
theorem dX7_balanceAfter_20 : decode cX7_balanceAfter 20 = .ok (.getfield 55, 3) := by decide +kernel
theorem dX7_balanceAfter_23 : decode cX7_balanceAfter 23 = .ok (.iload_n 2, 1) := by decide +kernel
theorem dX7_balanceAfter_24 : decode cX7_balanceAfter 24 = .ok (.invokevirtual 232, 3) := by decide +kernel
theorem dX7_balanceAfter_27 : decode cX7_balanceAfter 27 = .ok (.pop, 1) := by decide +kernel
theorem dX7_balanceAfter_28 : decode cX7_balanceAfter 28 = .ok (.aload_n 0, 1) := by decide +kernel
theorem dX7_balanceAfter_29 : decode cX7_balanceAfter 29 = .ok (.getfield 55, 3) := by decide +kernel
theorem dX7_balanceAfter_32 : decode cX7_balanceAfter 32 = .ok (.getfield 137, 3) := by decide +kernel
theorem dX7_balanceAfter_35 : decode cX7_balanceAfter 35 = .ok (.ireturn, 1) := by decide +kernel
set_option maxRecDepth 20000 in
theorem ggX7_interestAhead_X7_loanAt : GoodIn wsX7_interestAhead wsX7_loanAt := goodIn_ca (goodIn_r _ [5, 6, 7, 8, 9, 10, 53, 54, 55, 56, 57, 58, 59, 60, 61, 62, 63, 64, 65, 66] (by decide +kernel) (by decide +kernel)) (goodIn_sub (fun _ h => List.mem_cons_of_mem _ (List.mem_append_right _ h)) (by decide +kernel))
set_option maxRecDepth 20000 in
theorem gX7_interestAhead_X7_loanAt : GoodIn wsX7_interestAhead (wsV RX7 115 RX7 yX7_loanAt wsX7_loanAt) := goodIn_app (goodIn_of _ (by decide +kernel)) ggX7_interestAhead_X7_loanAt
set_option maxRecDepth 20000 in
theorem ggX7_interestAhead_X7_interestToCome : GoodIn wsX7_interestAhead wsX7_interestToCome := goodIn_r _ [14, 15, 16, 17, 18, 19, 20, 21, 22, 23, 24, 25, 26, 27, 28, 29, 30, 31, 32, 33, 34, 35, 36, 37, 38, 39, 40, 41, 42, 43, 44, 45, 46, 47, 48, 49, 50, 51, 52, 53, 54, 55, 56, 57, 58, 59, 60, 61, 62, 63, 67, 68, 69, 70, 71, 72, 73, 74, 75, 76] (by decide +kernel) (by decide +kernel)
set_option maxRecDepth 20000 in
theorem gX7_interestAhead_X7_interestToCome : GoodIn wsX7_interestAhead (wsV RX7 239 RX7 yX7_interestToCome wsX7_interestToCome) := goodIn_app (goodIn_of _ (by decide +kernel)) ggX7_interestAhead_X7_interestToCome
theorem dX7_interestAhead_0 : decode cX7_interestAhead 0 = .ok (.aload_n 0, 1) := by decide +kernel
theorem dX7_interestAhead_1 : decode cX7_interestAhead 1 = .ok (.aload_n 0, 1) := by decide +kernel
theorem dX7_interestAhead_2 : decode cX7_interestAhead 2 = .ok (.iload_n 1, 1) := by decide +kernel
theorem dX7_interestAhead_3 : decode cX7_interestAhead 3 = .ok (.invokevirtual 115, 3) := by decide +kernel
theorem dX7_interestAhead_6 : decode cX7_interestAhead 6 = .ok (.invokevirtual 239, 3) := by decide +kernel
theorem dX7_interestAhead_9 : decode cX7_interestAhead 9 = .ok (.ireturn, 1) := by decide +kernel
set_option maxRecDepth 20000 in
theorem ggX7_lastDue_X7_loanAt : GoodIn wsX7_lastDue wsX7_loanAt := goodIn_ca (goodIn_r _ [5, 6, 7, 8, 9, 10, 52, 53, 54, 55, 56, 57, 58, 59, 60, 61, 62, 63, 64, 65] (by decide +kernel) (by decide +kernel)) (goodIn_sub (fun _ h => List.mem_cons_of_mem _ (List.mem_append_right _ h)) (by decide +kernel))
set_option maxRecDepth 20000 in
theorem gX7_lastDue_X7_loanAt : GoodIn wsX7_lastDue (wsV RX7 115 RX7 yX7_loanAt wsX7_loanAt) := goodIn_app (goodIn_of _ (by decide +kernel)) ggX7_lastDue_X7_loanAt
set_option maxRecDepth 20000 in
theorem ggX7_lastDue_X7_lastPayment : GoodIn wsX7_lastDue wsX7_lastPayment := goodIn_r _ [14, 15, 16, 17, 18, 19, 20, 21, 22, 23, 24, 25, 26, 27, 28, 29, 30, 31, 32, 33, 34, 35, 36, 37, 38, 39, 40, 41, 42, 43, 44, 45, 46, 47, 48, 49, 50, 51, 52, 53, 54, 55, 56, 57, 58, 59, 60, 61, 62, 66, 67, 68, 69, 70, 71, 72, 73, 74, 75] (by decide +kernel) (by decide +kernel)
set_option maxRecDepth 20000 in
theorem gX7_lastDue_X7_lastPayment : GoodIn wsX7_lastDue (wsV RX7 243 RX7 yX7_lastPayment wsX7_lastPayment) := goodIn_app (goodIn_of _ (by decide +kernel)) ggX7_lastDue_X7_lastPayment
theorem dX7_lastDue_0 : decode cX7_lastDue 0 = .ok (.aload_n 0, 1) := by decide +kernel
theorem dX7_lastDue_1 : decode cX7_lastDue 1 = .ok (.aload_n 0, 1) := by decide +kernel
theorem dX7_lastDue_2 : decode cX7_lastDue 2 = .ok (.iload_n 1, 1) := by decide +kernel
theorem dX7_lastDue_3 : decode cX7_lastDue 3 = .ok (.invokevirtual 115, 3) := by decide +kernel
theorem dX7_lastDue_6 : decode cX7_lastDue 6 = .ok (.invokevirtual 243, 3) := by decide +kernel
theorem dX7_lastDue_9 : decode cX7_lastDue 9 = .ok (.ireturn, 1) := by decide +kernel
set_option maxRecDepth 20000 in
theorem ggX7_totalInterestAhead_X7_interestToCome : GoodIn wsX7_totalInterestAhead wsX7_interestToCome := goodIn_r _ [8, 9, 10, 11, 12, 13, 14, 15, 16, 17, 18, 19, 20, 21, 22, 23, 24, 25, 26, 27, 28, 29, 30, 31, 32, 33, 34, 35, 36, 37, 38, 39, 40, 41, 42, 43, 44, 45, 46, 47, 48, 49, 50, 51, 52, 53, 54, 55, 56, 57, 61, 62, 63, 64, 65, 66, 67, 68, 69, 70] (by decide +kernel) (by decide +kernel)
set_option maxRecDepth 20000 in
theorem gX7_totalInterestAhead_X7_interestToCome : GoodIn wsX7_totalInterestAhead (wsV RX7 239 RX7 yX7_interestToCome wsX7_interestToCome) := goodIn_app (goodIn_of _ (by decide +kernel)) ggX7_totalInterestAhead_X7_interestToCome
theorem dX7_totalInterestAhead_0 : decode cX7_totalInterestAhead 0 = .ok (.iconst 0, 1) := by decide +kernel
theorem dX7_totalInterestAhead_1 : decode cX7_totalInterestAhead 1 = .ok (.istore_n 1, 1) := by decide +kernel
theorem dX7_totalInterestAhead_2 : decode cX7_totalInterestAhead 2 = .ok (.iconst 0, 1) := by decide +kernel
theorem dX7_totalInterestAhead_3 : decode cX7_totalInterestAhead 3 = .ok (.istore_n 2, 1) := by decide +kernel
theorem dX7_totalInterestAhead_4 : decode cX7_totalInterestAhead 4 = .ok (.iload_n 2, 1) := by decide +kernel
theorem dX7_totalInterestAhead_5 : decode cX7_totalInterestAhead 5 = .ok (.aload_n 0, 1) := by decide +kernel
theorem dX7_totalInterestAhead_6 : decode cX7_totalInterestAhead 6 = .ok (.getfield 20, 3) := by decide +kernel
theorem dX7_totalInterestAhead_9 : decode cX7_totalInterestAhead 9 = .ok (.getfield 100, 3) := by decide +kernel
theorem dX7_totalInterestAhead_12 : decode cX7_totalInterestAhead 12 = .ok (.if_icmp .ge 31, 3) := by decide +kernel
theorem dX7_totalInterestAhead_15 : decode cX7_totalInterestAhead 15 = .ok (.iload_n 2, 1) := by decide +kernel
theorem dX7_totalInterestAhead_16 : decode cX7_totalInterestAhead 16 = .ok (.bipush 6, 2) := by decide +kernel
theorem dX7_totalInterestAhead_18 : decode cX7_totalInterestAhead 18 = .ok (.if_icmp .ge 25, 3) := by decide +kernel
theorem dX7_totalInterestAhead_21 : decode cX7_totalInterestAhead 21 = .ok (.iload_n 1, 1) := by decide +kernel
theorem dX7_totalInterestAhead_22 : decode cX7_totalInterestAhead 22 = .ok (.aload_n 0, 1) := by decide +kernel
theorem dX7_totalInterestAhead_23 : decode cX7_totalInterestAhead 23 = .ok (.aload_n 0, 1) := by decide +kernel
theorem dX7_totalInterestAhead_24 : decode cX7_totalInterestAhead 24 = .ok (.getfield 20, 3) := by decide +kernel
theorem dX7_totalInterestAhead_27 : decode cX7_totalInterestAhead 27 = .ok (.getfield 260, 3) := by decide +kernel
theorem dX7_totalInterestAhead_30 : decode cX7_totalInterestAhead 30 = .ok (.iload_n 2, 1) := by decide +kernel
theorem dX7_totalInterestAhead_31 : decode cX7_totalInterestAhead 31 = .ok (.aaload, 1) := by decide +kernel
theorem dX7_totalInterestAhead_32 : decode cX7_totalInterestAhead 32 = .ok (.invokevirtual 239, 3) := by decide +kernel
theorem dX7_totalInterestAhead_35 : decode cX7_totalInterestAhead 35 = .ok (.iadd, 1) := by decide +kernel
theorem dX7_totalInterestAhead_36 : decode cX7_totalInterestAhead 36 = .ok (.istore_n 1, 1) := by decide +kernel
theorem dX7_totalInterestAhead_37 : decode cX7_totalInterestAhead 37 = .ok (.iinc 2 1, 3) := by decide +kernel
theorem dX7_totalInterestAhead_40 : decode cX7_totalInterestAhead 40 = .ok (.goto (-36), 3) := by decide +kernel
theorem dX7_totalInterestAhead_43 : decode cX7_totalInterestAhead 43 = .ok (.iload_n 1, 1) := by decide +kernel
theorem dX7_totalInterestAhead_44 : decode cX7_totalInterestAhead 44 = .ok (.ireturn, 1) := by decide +kernel
set_option maxRecDepth 20000 in
theorem ggX7_totalDue_X3_sumOfDues : GoodIn wsX7_totalDue wsX3_sumOfDues := goodIn_r _ [6, 7, 8, 9, 10, 11, 12, 13, 14, 15, 16, 17, 18, 19, 20, 21, 22, 23, 24, 25, 26, 27, 39, 40, 41, 42, 43, 44, 45, 46, 47, 48, 49, 50, 51] (by decide +kernel) (by decide +kernel)
set_option maxRecDepth 20000 in
theorem gX7_totalDue_X3_sumOfDues : GoodIn wsX7_totalDue (wsV RX7 269 RX3 yX3_sumOfDues wsX3_sumOfDues) := goodIn_app (goodIn_of _ (by decide +kernel)) ggX7_totalDue_X3_sumOfDues
theorem dX7_totalDue_0 : decode cX7_totalDue 0 = .ok (.aload_n 0, 1) := by decide +kernel
theorem dX7_totalDue_1 : decode cX7_totalDue 1 = .ok (.getfield 20, 3) := by decide +kernel
theorem dX7_totalDue_4 : decode cX7_totalDue 4 = .ok (.invokevirtual 269, 3) := by decide +kernel
theorem dX7_totalDue_7 : decode cX7_totalDue 7 = .ok (.ireturn, 1) := by decide +kernel
set_option maxRecDepth 20000 in
theorem ggX7_totalBalance_X3_sumOfBalances : GoodIn wsX7_totalBalance wsX3_sumOfBalances := goodIn_r _ [6, 7, 8, 9, 21, 22, 23, 24, 25, 26, 27, 28, 29, 30, 31, 32, 33] (by decide +kernel) (by decide +kernel)
set_option maxRecDepth 20000 in
theorem gX7_totalBalance_X3_sumOfBalances : GoodIn wsX7_totalBalance (wsV RX7 272 RX3 yX3_sumOfBalances wsX3_sumOfBalances) := goodIn_app (goodIn_of _ (by decide +kernel)) ggX7_totalBalance_X3_sumOfBalances
theorem dX7_totalBalance_0 : decode cX7_totalBalance 0 = .ok (.aload_n 0, 1) := by decide +kernel
theorem dX7_totalBalance_1 : decode cX7_totalBalance 1 = .ok (.getfield 20, 3) := by decide +kernel
theorem dX7_totalBalance_4 : decode cX7_totalBalance 4 = .ok (.invokevirtual 272, 3) := by decide +kernel
theorem dX7_totalBalance_7 : decode cX7_totalBalance 7 = .ok (.ireturn, 1) := by decide +kernel
set_option maxRecDepth 20000 in
theorem ggX7_violations_X2_isRunning : GoodIn wsX7_violations wsX2_isRunning := goodIn_r _ [15, 16, 71, 72, 73, 74, 75, 76, 77, 78, 79, 80] (by decide +kernel) (by decide +kernel)
set_option maxRecDepth 20000 in
theorem gX7_violations_X2_isRunning : GoodIn wsX7_violations (wsV RX7 119 RX2 yX2_isRunning wsX2_isRunning) := goodIn_app (goodIn_of _ (by decide +kernel)) ggX7_violations_X2_isRunning
set_option maxRecDepth 20000 in
theorem ggX7_violations_X7_lastPayment : GoodIn wsX7_violations wsX7_lastPayment := goodIn_r _ [21, 22, 23, 24, 25, 14, 26, 27, 16, 28, 29, 30, 31, 32, 33, 34, 35, 36, 37, 38, 39, 40, 41, 42, 43, 44, 45, 46, 47, 48, 49, 50, 51, 52, 53, 54, 55, 56, 57, 58, 59, 60, 61, 62, 63, 64, 65, 66, 67, 71, 72, 73, 74, 75, 76, 77, 78, 79, 80] (by decide +kernel) (by decide +kernel)
set_option maxRecDepth 20000 in
theorem gX7_violations_X7_lastPayment : GoodIn wsX7_violations (wsV RX7 243 RX7 yX7_lastPayment wsX7_lastPayment) := goodIn_app (goodIn_of _ (by decide +kernel)) ggX7_violations_X7_lastPayment
theorem dX7_violations_0 : decode cX7_violations 0 = .ok (.iconst 0, 1) := by decide +kernel
theorem dX7_violations_1 : decode cX7_violations 1 = .ok (.istore_n 1, 1) := by decide +kernel
theorem dX7_violations_2 : decode cX7_violations 2 = .ok (.iconst 0, 1) := by decide +kernel
theorem dX7_violations_3 : decode cX7_violations 3 = .ok (.istore_n 2, 1) := by decide +kernel
theorem dX7_violations_4 : decode cX7_violations 4 = .ok (.iload_n 2, 1) := by decide +kernel
theorem dX7_violations_5 : decode cX7_violations 5 = .ok (.aload_n 0, 1) := by decide +kernel
theorem dX7_violations_6 : decode cX7_violations 6 = .ok (.getfield 20, 3) := by decide +kernel
theorem dX7_violations_9 : decode cX7_violations 9 = .ok (.getfield 100, 3) := by decide +kernel
theorem dX7_violations_12 : decode cX7_violations 12 = .ok (.if_icmp .ge 91, 3) := by decide +kernel
theorem dX7_violations_15 : decode cX7_violations 15 = .ok (.iload_n 2, 1) := by decide +kernel
theorem dX7_violations_16 : decode cX7_violations 16 = .ok (.bipush 6, 2) := by decide +kernel
theorem dX7_violations_18 : decode cX7_violations 18 = .ok (.if_icmp .ge 85, 3) := by decide +kernel
theorem dX7_violations_21 : decode cX7_violations 21 = .ok (.aload_n 0, 1) := by decide +kernel
theorem dX7_violations_22 : decode cX7_violations 22 = .ok (.getfield 20, 3) := by decide +kernel
theorem dX7_violations_25 : decode cX7_violations 25 = .ok (.getfield 260, 3) := by decide +kernel
theorem dX7_violations_28 : decode cX7_violations 28 = .ok (.iload_n 2, 1) := by decide +kernel
theorem dX7_violations_29 : decode cX7_violations 29 = .ok (.aaload, 1) := by decide +kernel
theorem dX7_violations_30 : decode cX7_violations 30 = .ok (.astore_n 3, 1) := by decide +kernel
theorem dX7_violations_31 : decode cX7_violations 31 = .ok (.aload_n 3, 1) := by decide +kernel
theorem dX7_violations_32 : decode cX7_violations 32 = .ok (.getfield 182, 3) := by decide +kernel
theorem dX7_violations_35 : decode cX7_violations 35 = .ok (.aload_n 3, 1) := by decide +kernel
theorem dX7_violations_36 : decode cX7_violations 36 = .ok (.getfield 197, 3) := by decide +kernel
theorem dX7_violations_39 : decode cX7_violations 39 = .ok (.iadd, 1) := by decide +kernel
theorem dX7_violations_40 : decode cX7_violations 40 = .ok (.aload_n 3, 1) := by decide +kernel
theorem dX7_violations_41 : decode cX7_violations 41 = .ok (.getfield 200, 3) := by decide +kernel
theorem dX7_violations_44 : decode cX7_violations 44 = .ok (.isub, 1) := by decide +kernel
theorem dX7_violations_45 : decode cX7_violations 45 = .ok (.aload_n 3, 1) := by decide +kernel
theorem dX7_violations_46 : decode cX7_violations 46 = .ok (.getfield 137, 3) := by decide +kernel
theorem dX7_violations_49 : decode cX7_violations 49 = .ok (.if_icmp .eq 6, 3) := by decide +kernel
theorem dX7_violations_55 : decode cX7_violations 55 = .ok (.aload_n 3, 1) := by decide +kernel
theorem dX7_violations_56 : decode cX7_violations 56 = .ok (.getfield 188, 3) := by decide +kernel
theorem dX7_violations_59 : decode cX7_violations 59 = .ok (.ifCond .lt 13, 3) := by decide +kernel
theorem dX7_violations_62 : decode cX7_violations 62 = .ok (.aload_n 3, 1) := by decide +kernel
theorem dX7_violations_63 : decode cX7_violations 63 = .ok (.getfield 188, 3) := by decide +kernel
theorem dX7_violations_66 : decode cX7_violations 66 = .ok (.ldc_w 286, 3) := by decide +kernel
theorem dX7_violations_69 : decode cX7_violations 69 = .ok (.if_icmp .lt 6, 3) := by decide +kernel
theorem dX7_violations_75 : decode cX7_violations 75 = .ok (.aload_n 3, 1) := by decide +kernel
theorem dX7_violations_76 : decode cX7_violations 76 = .ok (.invokevirtual 119, 3) := by decide +kernel
theorem dX7_violations_79 : decode cX7_violations 79 = .ok (.ifCond .eq 18, 3) := by decide +kernel
theorem dX7_violations_82 : decode cX7_violations 82 = .ok (.aload_n 0, 1) := by decide +kernel
theorem dX7_violations_83 : decode cX7_violations 83 = .ok (.aload_n 3, 1) := by decide +kernel
theorem dX7_violations_84 : decode cX7_violations 84 = .ok (.invokevirtual 243, 3) := by decide +kernel
theorem dX7_violations_87 : decode cX7_violations 87 = .ok (.aload_n 3, 1) := by decide +kernel
theorem dX7_violations_88 : decode cX7_violations 88 = .ok (.getfield 185, 3) := by decide +kernel
theorem dX7_violations_91 : decode cX7_violations 91 = .ok (.if_icmp .le 6, 3) := by decide +kernel
theorem dX7_violations_94 : decode cX7_violations 94 = .ok (.iinc 1 1, 3) := by decide +kernel
theorem dX7_violations_97 : decode cX7_violations 97 = .ok (.iinc 2 1, 3) := by decide +kernel
theorem dX7_violations_100 : decode cX7_violations 100 = .ok (.goto (-96), 3) := by decide +kernel
theorem dX7_violations_103 : decode cX7_violations 103 = .ok (.iload_n 1, 1) := by decide +kernel
theorem dX7_violations_104 : decode cX7_violations 104 = .ok (.ireturn, 1) := by decide +kernel
theorem dX7_loanAt_0 : decode cX7_loanAt 0 = .ok (.iload_n 1, 1) := by decide +kernel
theorem dX7_loanAt_1 : decode cX7_loanAt 1 = .ok (.ifCond .lt 20, 3) := by decide +kernel
theorem dX7_loanAt_4 : decode cX7_loanAt 4 = .ok (.iload_n 1, 1) := by decide +kernel
theorem dX7_loanAt_5 : decode cX7_loanAt 5 = .ok (.aload_n 0, 1) := by decide +kernel
theorem dX7_loanAt_6 : decode cX7_loanAt 6 = .ok (.getfield 20, 3) := by decide +kernel
theorem dX7_loanAt_9 : decode cX7_loanAt 9 = .ok (.getfield 100, 3) := by decide +kernel
theorem dX7_loanAt_12 : decode cX7_loanAt 12 = .ok (.if_icmp .ge 9, 3) := by decide +kernel
theorem dX7_loanAt_15 : decode cX7_loanAt 15 = .ok (.iload_n 1, 1) := by decide +kernel
theorem dX7_loanAt_16 : decode cX7_loanAt 16 = .ok (.bipush 6, 2) := by decide +kernel
theorem dX7_loanAt_18 : decode cX7_loanAt 18 = .ok (.if_icmp .lt 11, 3) := by decide +kernel
theorem dX7_loanAt_21 : decode cX7_loanAt 21 = .ok (.new 303, 3) := by decide +kernel
theorem dX7_loanAt_24 : decode cX7_loanAt 24 = .ok (.dup, 1) := by decide +kernel
theorem dX7_loanAt_25 : decode cX7_loanAt 25 = .ok (.invokespecial 305, 3) := by decide +kernel
theorem dX7_loanAt_28 : decode cX7_loanAt 28 = .ok (.athrow, 1) := by decide +kernel
theorem dX7_loanAt_29 : decode cX7_loanAt 29 = .ok (.aload_n 0, 1) := by decide +kernel
theorem dX7_loanAt_30 : decode cX7_loanAt 30 = .ok (.getfield 20, 3) := by decide +kernel
theorem dX7_loanAt_33 : decode cX7_loanAt 33 = .ok (.getfield 260, 3) := by decide +kernel
theorem dX7_loanAt_36 : decode cX7_loanAt 36 = .ok (.iload_n 1, 1) := by decide +kernel
theorem dX7_loanAt_37 : decode cX7_loanAt 37 = .ok (.aaload, 1) := by decide +kernel
theorem dX7_loanAt_38 : decode cX7_loanAt 38 = .ok (.areturn, 1) := by decide +kernel
theorem dX7_requireRange_0 : decode cX7_requireRange 0 = .ok (.iload_n 0, 1) := by decide +kernel
theorem dX7_requireRange_1 : decode cX7_requireRange 1 = .ok (.iload_n 1, 1) := by decide +kernel
theorem dX7_requireRange_2 : decode cX7_requireRange 2 = .ok (.if_icmp .lt 8, 3) := by decide +kernel
theorem dX7_requireRange_5 : decode cX7_requireRange 5 = .ok (.iload_n 0, 1) := by decide +kernel
theorem dX7_requireRange_6 : decode cX7_requireRange 6 = .ok (.iload_n 2, 1) := by decide +kernel
theorem dX7_requireRange_7 : decode cX7_requireRange 7 = .ok (.if_icmp .le 11, 3) := by decide +kernel
theorem dX7_requireRange_10 : decode cX7_requireRange 10 = .ok (.new 306, 3) := by decide +kernel
theorem dX7_requireRange_13 : decode cX7_requireRange 13 = .ok (.dup, 1) := by decide +kernel
theorem dX7_requireRange_14 : decode cX7_requireRange 14 = .ok (.invokespecial 308, 3) := by decide +kernel
theorem dX7_requireRange_17 : decode cX7_requireRange 17 = .ok (.athrow, 1) := by decide +kernel
theorem dX7_requireRange_18 : decode cX7_requireRange 18 = .ok (.return_, 1) := by decide +kernel
theorem dX7_requireState_0 : decode cX7_requireState 0 = .ok (.iload_n 0, 1) := by decide +kernel
theorem dX7_requireState_1 : decode cX7_requireState 1 = .ok (.ifCond .ne 11, 3) := by decide +kernel
theorem dX7_requireState_4 : decode cX7_requireState 4 = .ok (.new 309, 3) := by decide +kernel
theorem dX7_requireState_7 : decode cX7_requireState 7 = .ok (.dup, 1) := by decide +kernel
theorem dX7_requireState_8 : decode cX7_requireState 8 = .ok (.invokespecial 311, 3) := by decide +kernel
theorem dX7_requireState_11 : decode cX7_requireState 11 = .ok (.athrow, 1) := by decide +kernel
theorem dX7_requireState_12 : decode cX7_requireState 12 = .ok (.return_, 1) := by decide +kernel
set_option maxRecDepth 20000 in
theorem ggX7_interestToCome_X2_copyFrom : GoodIn wsX7_interestToCome wsX2_copyFrom := goodIn_r _ [7, 8, 9, 10, 11, 12, 13, 14, 15, 16, 17, 50, 51, 52, 53, 54, 55, 56, 57, 58, 59] (by decide +kernel) (by decide +kernel)
set_option maxRecDepth 20000 in
theorem gX7_interestToCome_X2_copyFrom : GoodIn wsX7_interestToCome (wsV RX7 229 RX2 yX2_copyFrom wsX2_copyFrom) := goodIn_app (goodIn_of _ (by decide +kernel)) ggX7_interestToCome_X2_copyFrom
set_option maxRecDepth 20000 in
theorem ggX7_interestToCome_X2_settleMonths : GoodIn wsX7_interestToCome wsX2_settleMonths := goodIn_r _ [21, 9, 22, 23, 24, 6, 25, 11, 16, 26, 27, 28, 29, 10, 13, 30, 14, 31, 32, 33, 34, 12, 35, 36, 37, 38, 15, 50, 51, 52, 53, 54, 55, 56, 57, 58, 59] (by decide +kernel) (by decide +kernel)
set_option maxRecDepth 20000 in
theorem gX7_interestToCome_X2_settleMonths : GoodIn wsX7_interestToCome (wsV RX7 232 RX2 yX2_settleMonths wsX2_settleMonths) := goodIn_app (goodIn_of _ (by decide +kernel)) ggX7_interestToCome_X2_settleMonths
theorem dX7_interestToCome_0 : decode cX7_interestToCome 0 = .ok (.aload_n 0, 1) := by decide +kernel
theorem dX7_interestToCome_1 : decode cX7_interestToCome 1 = .ok (.getfield 55, 3) := by decide +kernel
theorem dX7_interestToCome_4 : decode cX7_interestToCome 4 = .ok (.aload_n 1, 1) := by decide +kernel
theorem dX7_interestToCome_5 : decode cX7_interestToCome 5 = .ok (.invokevirtual 229, 3) := by decide +kernel
theorem dX7_interestToCome_8 : decode cX7_interestToCome 8 = .ok (.aload_n 0, 1) := by decide +kernel
theorem dX7_interestToCome_9 : decode cX7_interestToCome 9 = .ok (.getfield 55, 3) := by decide +kernel
theorem dX7_interestToCome_12 : decode cX7_interestToCome 12 = .ok (.bipush 120, 2) := by decide +kernel
theorem dX7_interestToCome_14 : decode cX7_interestToCome 14 = .ok (.invokevirtual 232, 3) := by decide +kernel
theorem dX7_interestToCome_17 : decode cX7_interestToCome 17 = .ok (.pop, 1) := by decide +kernel
theorem dX7_interestToCome_18 : decode cX7_interestToCome 18 = .ok (.aload_n 0, 1) := by decide +kernel
theorem dX7_interestToCome_19 : decode cX7_interestToCome 19 = .ok (.getfield 55, 3) := by decide +kernel
theorem dX7_interestToCome_22 : decode cX7_interestToCome 22 = .ok (.getfield 197, 3) := by decide +kernel
theorem dX7_interestToCome_25 : decode cX7_interestToCome 25 = .ok (.aload_n 1, 1) := by decide +kernel
theorem dX7_interestToCome_26 : decode cX7_interestToCome 26 = .ok (.getfield 197, 3) := by decide +kernel
theorem dX7_interestToCome_29 : decode cX7_interestToCome 29 = .ok (.isub, 1) := by decide +kernel
theorem dX7_interestToCome_30 : decode cX7_interestToCome 30 = .ok (.ireturn, 1) := by decide +kernel
set_option maxRecDepth 20000 in
theorem ggX7_lastPayment_X2_copyFrom : GoodIn wsX7_lastPayment wsX2_copyFrom := goodIn_r _ [6, 7, 8, 9, 10, 11, 12, 13, 14, 15, 16, 49, 50, 51, 52, 53, 54, 55, 56, 57, 58] (by decide +kernel) (by decide +kernel)
set_option maxRecDepth 20000 in
theorem gX7_lastPayment_X2_copyFrom : GoodIn wsX7_lastPayment (wsV RX7 229 RX2 yX2_copyFrom wsX2_copyFrom) := goodIn_app (goodIn_of _ (by decide +kernel)) ggX7_lastPayment_X2_copyFrom
set_option maxRecDepth 20000 in
theorem ggX7_lastPayment_X2_settleMonths : GoodIn wsX7_lastPayment wsX2_settleMonths := goodIn_r _ [20, 8, 21, 22, 23, 5, 24, 10, 15, 25, 26, 27, 28, 9, 12, 29, 13, 30, 31, 32, 33, 11, 34, 35, 36, 37, 14, 49, 50, 51, 52, 53, 54, 55, 56, 57, 58] (by decide +kernel) (by decide +kernel)
set_option maxRecDepth 20000 in
theorem gX7_lastPayment_X2_settleMonths : GoodIn wsX7_lastPayment (wsV RX7 232 RX2 yX2_settleMonths wsX2_settleMonths) := goodIn_app (goodIn_of _ (by decide +kernel)) ggX7_lastPayment_X2_settleMonths
theorem dX7_lastPayment_0 : decode cX7_lastPayment 0 = .ok (.aload_n 0, 1) := by decide +kernel
theorem dX7_lastPayment_1 : decode cX7_lastPayment 1 = .ok (.getfield 55, 3) := by decide +kernel
theorem dX7_lastPayment_4 : decode cX7_lastPayment 4 = .ok (.aload_n 1, 1) := by decide +kernel
theorem dX7_lastPayment_5 : decode cX7_lastPayment 5 = .ok (.invokevirtual 229, 3) := by decide +kernel
theorem dX7_lastPayment_8 : decode cX7_lastPayment 8 = .ok (.aload_n 0, 1) := by decide +kernel
theorem dX7_lastPayment_9 : decode cX7_lastPayment 9 = .ok (.getfield 55, 3) := by decide +kernel
theorem dX7_lastPayment_12 : decode cX7_lastPayment 12 = .ok (.bipush 120, 2) := by decide +kernel
theorem dX7_lastPayment_14 : decode cX7_lastPayment 14 = .ok (.invokevirtual 232, 3) := by decide +kernel
theorem dX7_lastPayment_17 : decode cX7_lastPayment 17 = .ok (.ireturn, 1) := by decide +kernel
set_option maxRecDepth 20000 in
theorem ggJ0_length_8abf5_J0_coder_7d493 : GoodIn wsJ0_length_8abf5 wsJ0_coder_7d493 := goodIn_r _ [6, 7, 8] (by decide +kernel) (by decide +kernel)
set_option maxRecDepth 20000 in
theorem gJ0_length_8abf5_J0_coder_7d493 : GoodIn wsJ0_length_8abf5 (wsV RJ0 335 RJ0 yJ0_coder_7d493 wsJ0_coder_7d493) := goodIn_app (goodIn_of _ (by decide +kernel)) ggJ0_length_8abf5_J0_coder_7d493
theorem dJ0_length_8abf5_0 : decode cJ0_length_8abf5 0 = .ok (.aload_n 0, 1) := by decide +kernel
theorem dJ0_length_8abf5_1 : decode cJ0_length_8abf5 1 = .ok (.getfield 9, 3) := by decide +kernel
theorem dJ0_length_8abf5_4 : decode cJ0_length_8abf5 4 = .ok (.arraylength, 1) := by decide +kernel
theorem dJ0_length_8abf5_5 : decode cJ0_length_8abf5 5 = .ok (.aload_n 0, 1) := by decide +kernel
theorem dJ0_length_8abf5_6 : decode cJ0_length_8abf5 6 = .ok (.invokevirtual 335, 3) := by decide +kernel
theorem dJ0_length_8abf5_9 : decode cJ0_length_8abf5 9 = .ok (.ishr, 1) := by decide +kernel
theorem dJ0_length_8abf5_10 : decode cJ0_length_8abf5 10 = .ok (.ireturn, 1) := by decide +kernel
set_option maxRecDepth 20000 in
theorem ggJ0_charAt_5068e_J0_isLatin1_aae02 : GoodIn wsJ0_charAt_5068e wsJ0_isLatin1_aae02 := goodIn_r _ [6, 7, 8] (by decide +kernel) (by decide +kernel)
set_option maxRecDepth 20000 in
theorem gJ0_charAt_5068e_J0_isLatin1_aae02 : GoodIn wsJ0_charAt_5068e (wsV RJ0 492 RJ0 yJ0_isLatin1_aae02 wsJ0_isLatin1_aae02) := goodIn_app (goodIn_of _ (by decide +kernel)) ggJ0_charAt_5068e_J0_isLatin1_aae02
set_option maxRecDepth 20000 in
theorem ggJ0_charAt_5068e_J1_charAt_3b067 : GoodIn wsJ0_charAt_5068e wsJ1_charAt_3b067 := goodIn_r _ [12, 13, 14, 5, 15, 16, 17, 18, 19, 20] (by decide +kernel) (by decide +kernel)
set_option maxRecDepth 20000 in
theorem gJ0_charAt_5068e_J1_charAt_3b067 : GoodIn wsJ0_charAt_5068e (va_wsS RJ0 495 yJ1_charAt_3b067 wsJ1_charAt_3b067) := goodIn_app (goodIn_of _ (by decide +kernel)) ggJ0_charAt_5068e_J1_charAt_3b067
theorem dJ0_charAt_5068e_0 : decode cJ0_charAt_5068e 0 = .ok (.aload_n 0, 1) := by decide +kernel
theorem dJ0_charAt_5068e_1 : decode cJ0_charAt_5068e 1 = .ok (.invokevirtual 492, 3) := by decide +kernel
theorem dJ0_charAt_5068e_4 : decode cJ0_charAt_5068e 4 = .ok (.ifCond .eq 12, 3) := by decide +kernel
theorem dJ0_charAt_5068e_7 : decode cJ0_charAt_5068e 7 = .ok (.aload_n 0, 1) := by decide +kernel
theorem dJ0_charAt_5068e_8 : decode cJ0_charAt_5068e 8 = .ok (.getfield 9, 3) := by decide +kernel
theorem dJ0_charAt_5068e_11 : decode cJ0_charAt_5068e 11 = .ok (.iload_n 1, 1) := by decide +kernel
theorem dJ0_charAt_5068e_12 : decode cJ0_charAt_5068e 12 = .ok (.invokestatic 495, 3) := by decide +kernel
theorem dJ0_charAt_5068e_15 : decode cJ0_charAt_5068e 15 = .ok (.ireturn, 1) := by decide +kernel
theorem dJ0_coder_7d493_0 : decode cJ0_coder_7d493 0 = .ok (.getstatic 38, 3) := by decide +kernel
theorem dJ0_coder_7d493_3 : decode cJ0_coder_7d493 3 = .ok (.ifCond .eq 10, 3) := by decide +kernel
theorem dJ0_coder_7d493_6 : decode cJ0_coder_7d493 6 = .ok (.aload_n 0, 1) := by decide +kernel
theorem dJ0_coder_7d493_7 : decode cJ0_coder_7d493 7 = .ok (.getfield 15, 3) := by decide +kernel
theorem dJ0_coder_7d493_10 : decode cJ0_coder_7d493 10 = .ok (.goto 4, 3) := by decide +kernel
theorem dJ0_coder_7d493_14 : decode cJ0_coder_7d493 14 = .ok (.ireturn, 1) := by decide +kernel
theorem dJ0_isLatin1_aae02_0 : decode cJ0_isLatin1_aae02 0 = .ok (.getstatic 38, 3) := by decide +kernel
theorem dJ0_isLatin1_aae02_3 : decode cJ0_isLatin1_aae02 3 = .ok (.ifCond .eq 14, 3) := by decide +kernel
theorem dJ0_isLatin1_aae02_6 : decode cJ0_isLatin1_aae02 6 = .ok (.aload_n 0, 1) := by decide +kernel
theorem dJ0_isLatin1_aae02_7 : decode cJ0_isLatin1_aae02 7 = .ok (.getfield 15, 3) := by decide +kernel
theorem dJ0_isLatin1_aae02_10 : decode cJ0_isLatin1_aae02 10 = .ok (.ifCond .ne 7, 3) := by decide +kernel
theorem dJ0_isLatin1_aae02_13 : decode cJ0_isLatin1_aae02 13 = .ok (.iconst 1, 1) := by decide +kernel
theorem dJ0_isLatin1_aae02_14 : decode cJ0_isLatin1_aae02 14 = .ok (.goto 4, 3) := by decide +kernel
theorem dJ0_isLatin1_aae02_18 : decode cJ0_isLatin1_aae02 18 = .ok (.ireturn, 1) := by decide +kernel
set_option maxRecDepth 20000 in
theorem ggJ0_checkIndex_df160_J3_checkIndex_8e157 : GoodIn wsJ0_checkIndex_df160 wsJ3_checkIndex_8e157 := goodIn_r _ [5] (by decide +kernel) (by decide +kernel)
set_option maxRecDepth 20000 in
theorem gJ0_checkIndex_df160_J3_checkIndex_8e157 : GoodIn wsJ0_checkIndex_df160 (va_wsS RJ0 1059 yJ3_checkIndex_8e157 wsJ3_checkIndex_8e157) := goodIn_app (goodIn_of _ (by decide +kernel)) ggJ0_checkIndex_df160_J3_checkIndex_8e157
theorem dJ0_checkIndex_df160_0 : decode cJ0_checkIndex_df160 0 = .ok (.iload_n 0, 1) := by decide +kernel
theorem dJ0_checkIndex_df160_1 : decode cJ0_checkIndex_df160 1 = .ok (.iload_n 1, 1) := by decide +kernel
theorem dJ0_checkIndex_df160_2 : decode cJ0_checkIndex_df160 2 = .ok (.getstatic 1053, 3) := by decide +kernel
theorem dJ0_checkIndex_df160_5 : decode cJ0_checkIndex_df160 5 = .ok (.invokestatic 1059, 3) := by decide +kernel
theorem dJ0_checkIndex_df160_8 : decode cJ0_checkIndex_df160 8 = .ok (.pop, 1) := by decide +kernel
theorem dJ0_checkIndex_df160_9 : decode cJ0_checkIndex_df160 9 = .ok (.return_, 1) := by decide +kernel
set_option maxRecDepth 20000 in
theorem ggJ1_charAt_3b067_J0_checkIndex_df160 : GoodIn wsJ1_charAt_3b067 wsJ0_checkIndex_df160 := goodIn_r _ [4, 5, 6, 7, 8, 9] (by decide +kernel) (by decide +kernel)
set_option maxRecDepth 20000 in
theorem gJ1_charAt_3b067_J0_checkIndex_df160 : GoodIn wsJ1_charAt_3b067 (va_wsS RJ1 9 yJ0_checkIndex_df160 wsJ0_checkIndex_df160) := goodIn_app (goodIn_of _ (by decide +kernel)) ggJ1_charAt_3b067_J0_checkIndex_df160
theorem dJ1_charAt_3b067_0 : decode cJ1_charAt_3b067 0 = .ok (.iload_n 1, 1) := by decide +kernel
theorem dJ1_charAt_3b067_1 : decode cJ1_charAt_3b067 1 = .ok (.aload_n 0, 1) := by decide +kernel
theorem dJ1_charAt_3b067_2 : decode cJ1_charAt_3b067 2 = .ok (.arraylength, 1) := by decide +kernel
theorem dJ1_charAt_3b067_3 : decode cJ1_charAt_3b067 3 = .ok (.invokestatic 9, 3) := by decide +kernel
theorem dJ1_charAt_3b067_6 : decode cJ1_charAt_3b067 6 = .ok (.aload_n 0, 1) := by decide +kernel
theorem dJ1_charAt_3b067_7 : decode cJ1_charAt_3b067 7 = .ok (.iload_n 1, 1) := by decide +kernel
theorem dJ1_charAt_3b067_8 : decode cJ1_charAt_3b067 8 = .ok (.baload, 1) := by decide +kernel
theorem dJ1_charAt_3b067_9 : decode cJ1_charAt_3b067 9 = .ok (.sipush 255, 3) := by decide +kernel
theorem dJ1_charAt_3b067_12 : decode cJ1_charAt_3b067 12 = .ok (.iand, 1) := by decide +kernel
theorem dJ1_charAt_3b067_13 : decode cJ1_charAt_3b067 13 = .ok (.i2c, 1) := by decide +kernel
theorem dJ1_charAt_3b067_14 : decode cJ1_charAt_3b067 14 = .ok (.ireturn, 1) := by decide +kernel
theorem dJ3_checkIndex_8e157_0 : decode cJ3_checkIndex_8e157 0 = .ok (.iload_n 0, 1) := by decide +kernel
theorem dJ3_checkIndex_8e157_1 : decode cJ3_checkIndex_8e157 1 = .ok (.ifCond .lt 8, 3) := by decide +kernel
theorem dJ3_checkIndex_8e157_4 : decode cJ3_checkIndex_8e157 4 = .ok (.iload_n 0, 1) := by decide +kernel
theorem dJ3_checkIndex_8e157_5 : decode cJ3_checkIndex_8e157 5 = .ok (.iload_n 1, 1) := by decide +kernel
theorem dJ3_checkIndex_8e157_6 : decode cJ3_checkIndex_8e157 6 = .ok (.if_icmp .lt 10, 3) := by decide +kernel
theorem dJ3_checkIndex_8e157_16 : decode cJ3_checkIndex_8e157 16 = .ok (.iload_n 0, 1) := by decide +kernel
theorem dJ3_checkIndex_8e157_17 : decode cJ3_checkIndex_8e157 17 = .ok (.ireturn, 1) := by decide +kernel
