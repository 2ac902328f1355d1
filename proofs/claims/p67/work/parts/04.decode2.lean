/-! printed: decode rows, words among words -/
theorem dX3_sumOfDues_18 : decode cX3_sumOfDues 18 = .ok (.iload_n 1, 1) := by decide +kernel
theorem dX3_sumOfDues_19 : decode cX3_sumOfDues 19 = .ok (.aload_n 0, 1) := by decide +kernel
theorem dX3_sumOfDues_20 : decode cX3_sumOfDues 20 = .ok (.getfield 11, 3) := by decide +kernel
theorem dX3_sumOfDues_23 : decode cX3_sumOfDues 23 = .ok (.iload_n 2, 1) := by decide +kernel
theorem dX3_sumOfDues_24 : decode cX3_sumOfDues 24 = .ok (.aaload, 1) := by decide +kernel
theorem dX3_sumOfDues_25 : decode cX3_sumOfDues 25 = .ok (.invokevirtual 108, 3) := by decide +kernel
theorem dX3_sumOfDues_28 : decode cX3_sumOfDues 28 = .ok (.iadd, 1) := by decide +kernel
theorem dX3_sumOfDues_29 : decode cX3_sumOfDues 29 = .ok (.istore_n 1, 1) := by decide +kernel
theorem dX3_sumOfDues_30 : decode cX3_sumOfDues 30 = .ok (.iinc 2 1, 3) := by decide +kernel
theorem dX3_sumOfDues_33 : decode cX3_sumOfDues 33 = .ok (.goto (-29), 3) := by decide +kernel
theorem dX3_sumOfDues_36 : decode cX3_sumOfDues 36 = .ok (.iload_n 1, 1) := by decide +kernel
theorem dX3_sumOfDues_37 : decode cX3_sumOfDues 37 = .ok (.ireturn, 1) := by decide +kernel
theorem dX3_sumOfBalances_0 : decode cX3_sumOfBalances 0 = .ok (.iconst 0, 1) := by decide +kernel
theorem dX3_sumOfBalances_1 : decode cX3_sumOfBalances 1 = .ok (.istore_n 1, 1) := by decide +kernel
theorem dX3_sumOfBalances_2 : decode cX3_sumOfBalances 2 = .ok (.iconst 0, 1) := by decide +kernel
theorem dX3_sumOfBalances_3 : decode cX3_sumOfBalances 3 = .ok (.istore_n 2, 1) := by decide +kernel
theorem dX3_sumOfBalances_4 : decode cX3_sumOfBalances 4 = .ok (.iload_n 2, 1) := by decide +kernel
theorem dX3_sumOfBalances_5 : decode cX3_sumOfBalances 5 = .ok (.aload_n 0, 1) := by decide +kernel
theorem dX3_sumOfBalances_6 : decode cX3_sumOfBalances 6 = .ok (.getfield 24, 3) := by decide +kernel
theorem dX3_sumOfBalances_9 : decode cX3_sumOfBalances 9 = .ok (.if_icmp .ge 27, 3) := by decide +kernel
theorem dX3_sumOfBalances_12 : decode cX3_sumOfBalances 12 = .ok (.iload_n 2, 1) := by decide +kernel
theorem dX3_sumOfBalances_13 : decode cX3_sumOfBalances 13 = .ok (.bipush 6, 2) := by decide +kernel
theorem dX3_sumOfBalances_15 : decode cX3_sumOfBalances 15 = .ok (.if_icmp .ge 21, 3) := by decide +kernel
theorem dX3_sumOfBalances_18 : decode cX3_sumOfBalances 18 = .ok (.iload_n 1, 1) := by decide +kernel
theorem dX3_sumOfBalances_19 : decode cX3_sumOfBalances 19 = .ok (.aload_n 0, 1) := by decide +kernel
theorem dX3_sumOfBalances_20 : decode cX3_sumOfBalances 20 = .ok (.getfield 11, 3) := by decide +kernel
theorem dX3_sumOfBalances_23 : decode cX3_sumOfBalances 23 = .ok (.iload_n 2, 1) := by decide +kernel
theorem dX3_sumOfBalances_24 : decode cX3_sumOfBalances 24 = .ok (.aaload, 1) := by decide +kernel
theorem dX3_sumOfBalances_25 : decode cX3_sumOfBalances 25 = .ok (.getfield 78, 3) := by decide +kernel
theorem dX3_sumOfBalances_28 : decode cX3_sumOfBalances 28 = .ok (.iadd, 1) := by decide +kernel
theorem dX3_sumOfBalances_29 : decode cX3_sumOfBalances 29 = .ok (.istore_n 1, 1) := by decide +kernel
theorem dX3_sumOfBalances_30 : decode cX3_sumOfBalances 30 = .ok (.iinc 2 1, 3) := by decide +kernel
theorem dX3_sumOfBalances_33 : decode cX3_sumOfBalances 33 = .ok (.goto (-29), 3) := by decide +kernel
theorem dX3_sumOfBalances_36 : decode cX3_sumOfBalances 36 = .ok (.iload_n 1, 1) := by decide +kernel
theorem dX3_sumOfBalances_37 : decode cX3_sumOfBalances 37 = .ok (.ireturn, 1) := by decide +kernel
theorem dX4_init_0 : decode cX4_init 0 = .ok (.aload_n 0, 1) := by decide +kernel
theorem dX4_init_1 : decode cX4_init 1 = .ok (.invokespecial 1, 3) := by decide +kernel
theorem dX4_init_4 : decode cX4_init 4 = .ok (.aload_n 0, 1) := by decide +kernel
theorem dX4_init_5 : decode cX4_init 5 = .ok (.sipush 256, 3) := by decide +kernel
theorem dX4_init_8 : decode cX4_init 8 = .ok (.newarray .byte, 2) := by decide +kernel
theorem dX4_init_10 : decode cX4_init 10 = .ok (.putfield 9, 3) := by decide +kernel
theorem dX4_init_13 : decode cX4_init 13 = .ok (.aload_n 0, 1) := by decide +kernel
theorem dX4_init_14 : decode cX4_init 14 = .ok (.iconst 0, 1) := by decide +kernel
theorem dX4_init_15 : decode cX4_init 15 = .ok (.putfield 13, 3) := by decide +kernel
theorem dX4_init_18 : decode cX4_init 18 = .ok (.return_, 1) := by decide +kernel
set_option maxRecDepth 20000 in
theorem ggX5_init_X6_init : GoodIn wsX5_init wsX6_init := goodIn_r _ [24, 25, 2, 3, 26, 27, 28, 29, 30, 31, 46, 47, 48, 49, 50, 51] (by decide +kernel) (by decide +kernel)
set_option maxRecDepth 20000 in
theorem gX5_init_X6_init : GoodIn wsX5_init (wsX6_init) := ggX5_init_X6_init
theorem dX5_init_0 : decode cX5_init 0 = .ok (.aload_n 0, 1) := by decide +kernel
theorem dX5_init_1 : decode cX5_init 1 = .ok (.invokespecial 3, 3) := by decide +kernel
theorem dX5_init_4 : decode cX5_init 4 = .ok (.aload_n 0, 1) := by decide +kernel
theorem dX5_init_5 : decode cX5_init 5 = .ok (.iconst 0, 1) := by decide +kernel
theorem dX5_init_6 : decode cX5_init 6 = .ok (.putfield 9, 3) := by decide +kernel
theorem dX5_init_9 : decode cX5_init 9 = .ok (.aload_n 0, 1) := by decide +kernel
theorem dX5_init_10 : decode cX5_init 10 = .ok (.iconst 0, 1) := by decide +kernel
theorem dX5_init_11 : decode cX5_init 11 = .ok (.putfield 15, 3) := by decide +kernel
theorem dX5_init_14 : decode cX5_init 14 = .ok (.aload_n 0, 1) := by decide +kernel
theorem dX5_init_15 : decode cX5_init 15 = .ok (.iconst 0, 1) := by decide +kernel
theorem dX5_init_16 : decode cX5_init 16 = .ok (.putfield 19, 3) := by decide +kernel
theorem dX5_init_19 : decode cX5_init 19 = .ok (.aload_n 0, 1) := by decide +kernel
theorem dX5_init_20 : decode cX5_init 20 = .ok (.iconst 3, 1) := by decide +kernel
theorem dX5_init_21 : decode cX5_init 21 = .ok (.newarray .int, 2) := by decide +kernel
theorem dX5_init_23 : decode cX5_init 23 = .ok (.putfield 22, 3) := by decide +kernel
theorem dX5_init_26 : decode cX5_init 26 = .ok (.aload_n 0, 1) := by decide +kernel
theorem dX5_init_27 : decode cX5_init 27 = .ok (.iconst 3, 1) := by decide +kernel
theorem dX5_init_28 : decode cX5_init 28 = .ok (.newarray .int, 2) := by decide +kernel
theorem dX5_init_30 : decode cX5_init 30 = .ok (.putfield 26, 3) := by decide +kernel
theorem dX5_init_33 : decode cX5_init 33 = .ok (.aload_n 0, 1) := by decide +kernel
theorem dX5_init_34 : decode cX5_init 34 = .ok (.iconst 3, 1) := by decide +kernel
theorem dX5_init_35 : decode cX5_init 35 = .ok (.newarray .int, 2) := by decide +kernel
theorem dX5_init_37 : decode cX5_init 37 = .ok (.putfield 29, 3) := by decide +kernel
theorem dX5_init_40 : decode cX5_init 40 = .ok (.aload_n 0, 1) := by decide +kernel
theorem dX5_init_41 : decode cX5_init 41 = .ok (.iconst 0, 1) := by decide +kernel
theorem dX5_init_42 : decode cX5_init 42 = .ok (.putfield 32, 3) := by decide +kernel
theorem dX5_init_45 : decode cX5_init 45 = .ok (.aload_n 0, 1) := by decide +kernel
theorem dX5_init_46 : decode cX5_init 46 = .ok (.iconst 0, 1) := by decide +kernel
theorem dX5_init_47 : decode cX5_init 47 = .ok (.putfield 35, 3) := by decide +kernel
theorem dX5_init_50 : decode cX5_init 50 = .ok (.aload_n 0, 1) := by decide +kernel
theorem dX5_init_51 : decode cX5_init 51 = .ok (.iconst 0, 1) := by decide +kernel
theorem dX5_init_52 : decode cX5_init 52 = .ok (.putfield 38, 3) := by decide +kernel
theorem dX5_init_55 : decode cX5_init 55 = .ok (.aload_n 0, 1) := by decide +kernel
theorem dX5_init_56 : decode cX5_init 56 = .ok (.iconst 0, 1) := by decide +kernel
theorem dX5_init_57 : decode cX5_init 57 = .ok (.putfield 41, 3) := by decide +kernel
theorem dX5_init_60 : decode cX5_init 60 = .ok (.aload_n 0, 1) := by decide +kernel
theorem dX5_init_61 : decode cX5_init 61 = .ok (.iconst 0, 1) := by decide +kernel
theorem dX5_init_62 : decode cX5_init 62 = .ok (.putfield 44, 3) := by decide +kernel
theorem dX5_init_65 : decode cX5_init 65 = .ok (.aload_n 0, 1) := by decide +kernel
theorem dX5_init_66 : decode cX5_init 66 = .ok (.iconst (-1), 1) := by decide +kernel
theorem dX5_init_67 : decode cX5_init 67 = .ok (.putfield 47, 3) := by decide +kernel
theorem dX5_init_70 : decode cX5_init 70 = .ok (.aload_n 0, 1) := by decide +kernel
theorem dX5_init_71 : decode cX5_init 71 = .ok (.new 50, 3) := by decide +kernel
theorem dX5_init_74 : decode cX5_init 74 = .ok (.dup, 1) := by decide +kernel
theorem dX5_init_75 : decode cX5_init 75 = .ok (.aload_n 1, 1) := by decide +kernel
theorem dX5_init_76 : decode cX5_init 76 = .ok (.invokespecial 52, 3) := by decide +kernel
theorem dX5_init_79 : decode cX5_init 79 = .ok (.putfield 55, 3) := by decide +kernel
theorem dX5_init_82 : decode cX5_init 82 = .ok (.aload_n 0, 1) := by decide +kernel
theorem dX5_init_83 : decode cX5_init 83 = .ok (.aload_n 2, 1) := by decide +kernel
theorem dX5_init_84 : decode cX5_init 84 = .ok (.putfield 59, 3) := by decide +kernel
theorem dX5_init_87 : decode cX5_init 87 = .ok (.return_, 1) := by decide +kernel
set_option maxRecDepth 20000 in
theorem ggX5_run_X6_rewind : GoodIn wsX5_run wsX6_rewind := goodIn_r _ [13, 14, 15, 16, 17, 18, 19, 20, 308, 309, 310, 311, 312, 313] (by decide +kernel) (by decide +kernel)
set_option maxRecDepth 20000 in
theorem gX5_run_X6_rewind : GoodIn wsX5_run (wsV RX5 63 RX6 yX6_rewind wsX6_rewind) := goodIn_app (goodIn_of _ (by decide +kernel)) ggX5_run_X6_rewind
set_option maxRecDepth 20000 in
theorem ggX5_run_X3_clear : GoodIn wsX5_run wsX3_clear := goodIn_r _ [25, 26, 27, 28, 29, 314, 315, 316, 317, 318, 319, 320, 321] (by decide +kernel) (by decide +kernel)
set_option maxRecDepth 20000 in
theorem gX5_run_X3_clear : GoodIn wsX5_run (wsV RX5 67 RX3 yX3_clear wsX3_clear) := goodIn_app (goodIn_of _ (by decide +kernel)) ggX5_run_X3_clear
set_option maxRecDepth 20000 in
theorem ggX5_run_X5_expectLoans : GoodIn wsX5_run wsX5_expectLoans := goodIn_r _ [34, 1, 35, 36, 37, 12, 38, 20, 19, 39, 40, 41, 42, 43, 44, 14, 45, 46, 47, 48, 49, 50, 51, 52, 53, 54, 55, 56, 57, 58, 59, 60, 61, 62, 63, 64, 65, 66, 67, 68, 69, 70, 71, 72, 73, 74, 75, 76, 77, 78, 79, 80, 81, 82, 83, 84, 85, 86, 87, 88, 89, 90, 91, 92, 93, 94, 95, 96, 97, 98, 99, 100, 101, 102, 103, 104, 105, 106, 107, 108, 109, 110, 111, 112, 113, 114, 115, 33, 116, 6, 117, 7, 294, 295, 296, 297, 298, 299, 300, 301, 302, 303, 304, 305, 306, 307, 308, 309, 310, 311, 312, 313] (by decide +kernel) (by decide +kernel)
set_option maxRecDepth 20000 in
theorem gX5_run_X5_expectLoans : GoodIn wsX5_run (wsV RX5 72 RX5 yX5_expectLoans wsX5_expectLoans) := goodIn_app (goodIn_of _ (by decide +kernel)) ggX5_run_X5_expectLoans
set_option maxRecDepth 20000 in
theorem ggX5_run_X5_expectSign : GoodIn wsX5_run wsX5_expectSign := goodIn_r _ [121, 6, 1, 35, 36, 37, 12, 38, 20, 19, 39, 40, 41, 42, 43, 44, 14, 45, 46, 47, 48, 49, 50, 51, 52, 53, 54, 55, 56, 57, 58, 59, 122, 123, 124, 125, 113, 114, 115, 33, 116, 117, 7, 294, 295, 296, 297, 298, 299, 300, 301, 302, 303, 304, 305, 306, 307, 308, 309, 310, 311, 312, 313] (by decide +kernel) (by decide +kernel)
set_option maxRecDepth 20000 in
theorem gX5_run_X5_expectSign : GoodIn wsX5_run (wsV RX5 75 RX5 yX5_expectSign wsX5_expectSign) := goodIn_app (goodIn_of _ (by decide +kernel)) ggX5_run_X5_expectSign
set_option maxRecDepth 20000 in
theorem ggX5_run_X5_readCommand : GoodIn wsX5_run wsX5_readCommand := goodIn_r _ [129, 1, 130, 5, 3, 4, 35, 36, 37, 12, 38, 20, 19, 39, 40, 41, 42, 43, 44, 14, 45, 46, 47, 48, 49, 50, 51, 52, 53, 54, 55, 56, 57, 58, 59, 131, 132, 133, 33, 134, 60, 61, 62, 63, 64, 65, 66, 67, 68, 69, 70, 71, 72, 73, 74, 75, 76, 77, 78, 79, 80, 81, 82, 83, 84, 85, 86, 87, 88, 89, 90, 91, 92, 93, 94, 95, 96, 97, 98, 99, 100, 101, 102, 103, 104, 105, 106, 107, 108, 109, 110, 111, 112, 122, 123, 124, 125, 135, 136, 137, 138, 139, 140, 141, 142, 118, 119, 120, 121, 6, 113, 114, 115, 116, 117, 7, 143, 144, 145, 146, 147, 148, 149, 150, 151, 294, 295, 296, 297, 298, 299, 300, 301, 302, 303, 304, 305, 306, 307, 308, 309, 310, 311, 312, 313] (by decide +kernel) (by decide +kernel)
set_option maxRecDepth 20000 in
theorem gX5_run_X5_readCommand : GoodIn wsX5_run (wsV RX5 80 RX5 yX5_readCommand wsX5_readCommand) := goodIn_app (goodIn_of _ (by decide +kernel)) ggX5_run_X5_readCommand
set_option maxRecDepth 20000 in
theorem ggX5_run_X5_readNumbers : GoodIn wsX5_run wsX5_readNumbers := goodIn_r _ [155, 156, 157, 158, 159, 2, 160, 147, 148, 149, 33, 150, 6, 1, 130, 151, 35, 36, 37, 12, 38, 20, 19, 39, 40, 41, 42, 43, 44, 14, 45, 46, 47, 48, 49, 50, 51, 52, 53, 54, 55, 56, 57, 58, 59, 113, 114, 115, 116, 117, 7, 161, 162, 163, 164, 165, 60, 61, 62, 63, 64, 65, 66, 67, 68, 69, 70, 71, 72, 73, 74, 75, 76, 77, 78, 79, 80, 81, 82, 83, 84, 85, 86, 87, 88, 89, 90, 91, 92, 93, 94, 95, 96, 97, 98, 99, 100, 101, 102, 103, 104, 105, 106, 107, 108, 109, 110, 111, 112, 118, 119, 120, 121, 122, 123, 124, 125, 294, 295, 296, 297, 298, 299, 300, 301, 302, 303, 304, 305, 306, 307, 314, 315, 316, 308, 309, 310, 311, 312, 313] (by decide +kernel) (by decide +kernel)
set_option maxRecDepth 20000 in
theorem gX5_run_X5_readNumbers : GoodIn wsX5_run (wsV RX5 84 RX5 yX5_readNumbers wsX5_readNumbers) := goodIn_app (goodIn_of _ (by decide +kernel)) ggX5_run_X5_readNumbers
set_option maxRecDepth 20000 in
theorem ggX5_run_X5_execute : GoodIn wsX5_run wsX5_execute := goodIn_r _ [169, 4, 2, 157, 158, 159, 170, 171, 172, 173, 24, 174, 26, 175, 176, 177, 178, 179, 180, 181, 182, 183, 184, 185, 27, 186, 187, 188, 189, 190, 191, 192, 193, 194, 195, 196, 197, 198, 199, 200, 201, 202, 203, 204, 205, 206, 207, 208, 209, 210, 211, 212, 213, 214, 215, 216, 217, 218, 219, 220, 221, 222, 223, 224, 225, 226, 227, 228, 16, 17, 18, 229, 230, 231, 232, 233, 234, 235, 236, 237, 238, 239, 240, 241, 242, 243, 244, 245, 246, 247, 248, 249, 250, 251, 252, 253, 254, 255, 33, 256, 257, 258, 259, 260, 261, 262, 263, 264, 265, 266, 267, 268, 269, 270, 271, 272, 273, 274, 165, 275, 276, 277, 278, 279, 280, 281, 282, 283, 284, 285, 286, 287, 288, 289, 290, 291, 292, 293, 113, 114, 115, 116, 6, 1, 117, 7, 294, 295, 296, 297, 298, 299, 300, 301, 302, 303, 304, 305, 306, 307, 314, 315, 316, 322, 323, 324, 325, 326, 327, 328, 329, 330, 331, 317, 318, 319, 320, 321, 308, 309, 310, 311, 312, 313] (by decide +kernel) (by decide +kernel)
set_option maxRecDepth 20000 in
theorem gX5_run_X5_execute : GoodIn wsX5_run (wsV RX5 87 RX5 yX5_execute wsX5_execute) := goodIn_app (goodIn_of _ (by decide +kernel)) ggX5_run_X5_execute
theorem dX5_run_0 : decode cX5_run 0 = .ok (.aload_n 0, 1) := by decide +kernel
theorem dX5_run_1 : decode cX5_run 1 = .ok (.getfield 55, 3) := by decide +kernel
theorem dX5_run_4 : decode cX5_run 4 = .ok (.iload_n 1, 1) := by decide +kernel
theorem dX5_run_5 : decode cX5_run 5 = .ok (.invokevirtual 63, 3) := by decide +kernel
theorem dX5_run_8 : decode cX5_run 8 = .ok (.aload_n 0, 1) := by decide +kernel
theorem dX5_run_9 : decode cX5_run 9 = .ok (.getfield 59, 3) := by decide +kernel
theorem dX5_run_12 : decode cX5_run 12 = .ok (.invokevirtual 67, 3) := by decide +kernel
theorem dX5_run_15 : decode cX5_run 15 = .ok (.aload_n 0, 1) := by decide +kernel
theorem dX5_run_16 : decode cX5_run 16 = .ok (.iconst 0, 1) := by decide +kernel
theorem dX5_run_17 : decode cX5_run 17 = .ok (.putfield 9, 3) := by decide +kernel
theorem dX5_run_20 : decode cX5_run 20 = .ok (.aload_n 0, 1) := by decide +kernel
theorem dX5_run_21 : decode cX5_run 21 = .ok (.iconst 0, 1) := by decide +kernel
theorem dX5_run_22 : decode cX5_run 22 = .ok (.putfield 15, 3) := by decide +kernel
theorem dX5_run_25 : decode cX5_run 25 = .ok (.aload_n 0, 1) := by decide +kernel
theorem dX5_run_26 : decode cX5_run 26 = .ok (.iconst 0, 1) := by decide +kernel
theorem dX5_run_27 : decode cX5_run 27 = .ok (.putfield 19, 3) := by decide +kernel
theorem dX5_run_30 : decode cX5_run 30 = .ok (.aload_n 0, 1) := by decide +kernel
theorem dX5_run_31 : decode cX5_run 31 = .ok (.iconst 0, 1) := by decide +kernel
theorem dX5_run_32 : decode cX5_run 32 = .ok (.putfield 44, 3) := by decide +kernel
theorem dX5_run_35 : decode cX5_run 35 = .ok (.aload_n 0, 1) := by decide +kernel
theorem dX5_run_36 : decode cX5_run 36 = .ok (.iconst (-1), 1) := by decide +kernel
theorem dX5_run_37 : decode cX5_run 37 = .ok (.putfield 47, 3) := by decide +kernel
theorem dX5_run_40 : decode cX5_run 40 = .ok (.aload_n 0, 1) := by decide +kernel
theorem dX5_run_41 : decode cX5_run 41 = .ok (.invokevirtual 72, 3) := by decide +kernel
theorem dX5_run_44 : decode cX5_run 44 = .ok (.aload_n 0, 1) := by decide +kernel
theorem dX5_run_45 : decode cX5_run 45 = .ok (.bipush 59, 2) := by decide +kernel
theorem dX5_run_47 : decode cX5_run 47 = .ok (.invokevirtual 75, 3) := by decide +kernel
theorem dX5_run_50 : decode cX5_run 50 = .ok (.iconst 0, 1) := by decide +kernel
theorem dX5_run_51 : decode cX5_run 51 = .ok (.istore_n 2, 1) := by decide +kernel
theorem dX5_run_52 : decode cX5_run 52 = .ok (.iload_n 2, 1) := by decide +kernel
theorem dX5_run_53 : decode cX5_run 53 = .ok (.ldc 79, 2) := by decide +kernel
theorem dX5_run_55 : decode cX5_run 55 = .ok (.if_icmp .ge 53, 3) := by decide +kernel
theorem dX5_run_58 : decode cX5_run 58 = .ok (.aload_n 0, 1) := by decide +kernel
theorem dX5_run_59 : decode cX5_run 59 = .ok (.getfield 9, 3) := by decide +kernel
theorem dX5_run_62 : decode cX5_run 62 = .ok (.ifCond .ne 46, 3) := by decide +kernel
theorem dX5_run_65 : decode cX5_run 65 = .ok (.aload_n 0, 1) := by decide +kernel
theorem dX5_run_66 : decode cX5_run 66 = .ok (.getfield 44, 3) := by decide +kernel
theorem dX5_run_69 : decode cX5_run 69 = .ok (.ifCond .ne 39, 3) := by decide +kernel
theorem dX5_run_72 : decode cX5_run 72 = .ok (.aload_n 0, 1) := by decide +kernel
theorem dX5_run_73 : decode cX5_run 73 = .ok (.invokevirtual 80, 3) := by decide +kernel
theorem dX5_run_76 : decode cX5_run 76 = .ok (.istore_n 3, 1) := by decide +kernel
theorem dX5_run_77 : decode cX5_run 77 = .ok (.iload_n 3, 1) := by decide +kernel
theorem dX5_run_78 : decode cX5_run 78 = .ok (.ifCond .eq 8, 3) := by decide +kernel
theorem dX5_run_81 : decode cX5_run 81 = .ok (.aload_n 0, 1) := by decide +kernel
theorem dX5_run_82 : decode cX5_run 82 = .ok (.iload_n 3, 1) := by decide +kernel
theorem dX5_run_83 : decode cX5_run 83 = .ok (.invokevirtual 84, 3) := by decide +kernel
theorem dX5_run_86 : decode cX5_run 86 = .ok (.iload_n 3, 1) := by decide +kernel
theorem dX5_run_87 : decode cX5_run 87 = .ok (.ifCond .eq 15, 3) := by decide +kernel
theorem dX5_run_90 : decode cX5_run 90 = .ok (.aload_n 0, 1) := by decide +kernel
theorem dX5_run_91 : decode cX5_run 91 = .ok (.getfield 44, 3) := by decide +kernel
theorem dX5_run_94 : decode cX5_run 94 = .ok (.ifCond .ne 8, 3) := by decide +kernel
theorem dX5_run_97 : decode cX5_run 97 = .ok (.aload_n 0, 1) := by decide +kernel
theorem dX5_run_98 : decode cX5_run 98 = .ok (.iload_n 3, 1) := by decide +kernel
theorem dX5_run_99 : decode cX5_run 99 = .ok (.invokevirtual 87, 3) := by decide +kernel
theorem dX5_run_102 : decode cX5_run 102 = .ok (.iinc 2 1, 3) := by decide +kernel
theorem dX5_run_105 : decode cX5_run 105 = .ok (.goto (-53), 3) := by decide +kernel
theorem dX5_run_108 : decode cX5_run 108 = .ok (.return_, 1) := by decide +kernel
theorem dX5_fail_0 : decode cX5_fail 0 = .ok (.aload_n 0, 1) := by decide +kernel
theorem dX5_fail_1 : decode cX5_fail 1 = .ok (.iload_n 1, 1) := by decide +kernel
theorem dX5_fail_2 : decode cX5_fail 2 = .ok (.putfield 44, 3) := by decide +kernel
theorem dX5_fail_5 : decode cX5_fail 5 = .ok (.aload_n 0, 1) := by decide +kernel
theorem dX5_fail_6 : decode cX5_fail 6 = .ok (.aload_n 0, 1) := by decide +kernel
theorem dX5_fail_7 : decode cX5_fail 7 = .ok (.getfield 55, 3) := by decide +kernel
theorem dX5_fail_10 : decode cX5_fail 10 = .ok (.getfield 90, 3) := by decide +kernel
theorem dX5_fail_13 : decode cX5_fail 13 = .ok (.putfield 47, 3) := by decide +kernel
theorem dX5_fail_16 : decode cX5_fail 16 = .ok (.return_, 1) := by decide +kernel
set_option maxRecDepth 20000 in
theorem ggX5_expectLoans_X6_advance : GoodIn wsX5_expectLoans wsX6_advance := goodIn_r _ [6, 7, 8, 9, 10, 11, 12, 13, 5, 14, 15, 16, 17, 18, 19, 20, 21, 22, 23, 24, 25, 26, 27, 28, 29, 30, 106, 107, 108, 109, 110, 111] (by decide +kernel) (by decide +kernel)
set_option maxRecDepth 20000 in
theorem gX5_expectLoans_X6_advance : GoodIn wsX5_expectLoans (wsV RX5 93 RX6 yX6_advance wsX6_advance) := goodIn_app (goodIn_of _ (by decide +kernel)) ggX5_expectLoans_X6_advance
set_option maxRecDepth 20000 in
theorem ggX5_expectLoans_X6_isWord : GoodIn wsX5_expectLoans wsX6_isWord := goodIn_r _ [34, 10, 7, 9, 35, 36, 37, 38, 39, 40, 41, 42, 43, 44, 45, 46, 11, 12, 13, 5, 14, 8, 15, 47, 48, 49, 50, 51, 52, 53, 54, 55, 56, 57, 58, 59, 60, 61, 62, 63, 64, 65, 66, 67, 68, 69, 70, 71, 72, 73, 74, 75, 76, 77, 78, 79, 80, 81, 82, 83, 106, 107, 108, 109, 110, 111] (by decide +kernel) (by decide +kernel)
set_option maxRecDepth 20000 in
theorem gX5_expectLoans_X6_isWord : GoodIn wsX5_expectLoans (wsV RX5 98 RX6 yX6_isWord wsX6_isWord) := goodIn_app (goodIn_of _ (by decide +kernel)) ggX5_expectLoans_X6_isWord
set_option maxRecDepth 20000 in
theorem ggX5_expectLoans_X5_fail : GoodIn wsX5_expectLoans wsX5_fail := goodIn_r _ [88, 89, 1, 90, 91, 92, 93, 94, 95, 96, 97, 98, 99, 100, 101, 102, 103, 104, 105, 106, 107, 108, 109, 110, 111] (by decide +kernel) (by decide +kernel)
set_option maxRecDepth 20000 in
theorem gX5_expectLoans_X5_fail : GoodIn wsX5_expectLoans (wsV RX5 102 RX5 yX5_fail wsX5_fail) := goodIn_app (goodIn_of _ (by decide +kernel)) ggX5_expectLoans_X5_fail
theorem dX5_expectLoans_0 : decode cX5_expectLoans 0 = .ok (.aload_n 0, 1) := by decide +kernel
theorem dX5_expectLoans_1 : decode cX5_expectLoans 1 = .ok (.getfield 55, 3) := by decide +kernel
theorem dX5_expectLoans_4 : decode cX5_expectLoans 4 = .ok (.invokevirtual 93, 3) := by decide +kernel
theorem dX5_expectLoans_7 : decode cX5_expectLoans 7 = .ok (.aload_n 0, 1) := by decide +kernel
theorem dX5_expectLoans_8 : decode cX5_expectLoans 8 = .ok (.getfield 55, 3) := by decide +kernel
theorem dX5_expectLoans_11 : decode cX5_expectLoans 11 = .ok (.ldc 96, 2) := by decide +kernel
theorem dX5_expectLoans_13 : decode cX5_expectLoans 13 = .ok (.invokevirtual 98, 3) := by decide +kernel
theorem dX5_expectLoans_16 : decode cX5_expectLoans 16 = .ok (.ifCond .ne 8, 3) := by decide +kernel
theorem dX5_expectLoans_19 : decode cX5_expectLoans 19 = .ok (.aload_n 0, 1) := by decide +kernel
theorem dX5_expectLoans_20 : decode cX5_expectLoans 20 = .ok (.iconst 1, 1) := by decide +kernel
theorem dX5_expectLoans_21 : decode cX5_expectLoans 21 = .ok (.invokevirtual 102, 3) := by decide +kernel
theorem dX5_expectLoans_24 : decode cX5_expectLoans 24 = .ok (.return_, 1) := by decide +kernel
set_option maxRecDepth 20000 in
theorem ggX5_expectSign_X6_advance : GoodIn wsX5_expectSign wsX6_advance := goodIn_r _ [7, 8, 9, 10, 11, 12, 13, 14, 6, 15, 16, 17, 18, 19, 20, 21, 22, 23, 24, 25, 26, 27, 28, 29, 30, 31, 57, 58, 59, 60, 61, 62] (by decide +kernel) (by decide +kernel)
set_option maxRecDepth 20000 in
theorem gX5_expectSign_X6_advance : GoodIn wsX5_expectSign (wsV RX5 93 RX6 yX6_advance wsX6_advance) := goodIn_app (goodIn_of _ (by decide +kernel)) ggX5_expectSign_X6_advance
set_option maxRecDepth 20000 in
theorem ggX5_expectSign_X6_isSign : GoodIn wsX5_expectSign wsX6_isSign := goodIn_r _ [35, 11, 10, 12, 13, 14, 6, 15, 9, 16, 57, 58, 59, 60, 61, 62] (by decide +kernel) (by decide +kernel)
set_option maxRecDepth 20000 in
theorem gX5_expectSign_X6_isSign : GoodIn wsX5_expectSign (wsV RX5 105 RX6 yX6_isSign wsX6_isSign) := goodIn_app (goodIn_of _ (by decide +kernel)) ggX5_expectSign_X6_isSign
set_option maxRecDepth 20000 in
theorem ggX5_expectSign_X5_fail : GoodIn wsX5_expectSign wsX5_fail := goodIn_r _ [40, 1, 2, 41, 42, 43, 44, 45, 46, 47, 48, 49, 50, 51, 52, 53, 54, 55, 56, 57, 58, 59, 60, 61, 62] (by decide +kernel) (by decide +kernel)
set_option maxRecDepth 20000 in
theorem gX5_expectSign_X5_fail : GoodIn wsX5_expectSign (wsV RX5 102 RX5 yX5_fail wsX5_fail) := goodIn_app (goodIn_of _ (by decide +kernel)) ggX5_expectSign_X5_fail
theorem dX5_expectSign_0 : decode cX5_expectSign 0 = .ok (.aload_n 0, 1) := by decide +kernel
theorem dX5_expectSign_1 : decode cX5_expectSign 1 = .ok (.getfield 44, 3) := by decide +kernel
theorem dX5_expectSign_4 : decode cX5_expectSign 4 = .ok (.ifCond .eq 4, 3) := by decide +kernel
theorem dX5_expectSign_7 : decode cX5_expectSign 7 = .ok (.return_, 1) := by decide +kernel
theorem dX5_expectSign_8 : decode cX5_expectSign 8 = .ok (.aload_n 0, 1) := by decide +kernel
theorem dX5_expectSign_9 : decode cX5_expectSign 9 = .ok (.getfield 55, 3) := by decide +kernel
theorem dX5_expectSign_12 : decode cX5_expectSign 12 = .ok (.invokevirtual 93, 3) := by decide +kernel
theorem dX5_expectSign_15 : decode cX5_expectSign 15 = .ok (.aload_n 0, 1) := by decide +kernel
theorem dX5_expectSign_16 : decode cX5_expectSign 16 = .ok (.getfield 55, 3) := by decide +kernel
theorem dX5_expectSign_19 : decode cX5_expectSign 19 = .ok (.iload_n 1, 1) := by decide +kernel
theorem dX5_expectSign_20 : decode cX5_expectSign 20 = .ok (.invokevirtual 105, 3) := by decide +kernel
theorem dX5_expectSign_23 : decode cX5_expectSign 23 = .ok (.ifCond .ne 8, 3) := by decide +kernel
theorem dX5_expectSign_26 : decode cX5_expectSign 26 = .ok (.aload_n 0, 1) := by decide +kernel
theorem dX5_expectSign_27 : decode cX5_expectSign 27 = .ok (.iconst 1, 1) := by decide +kernel
theorem dX5_expectSign_28 : decode cX5_expectSign 28 = .ok (.invokevirtual 102, 3) := by decide +kernel
theorem dX5_expectSign_31 : decode cX5_expectSign 31 = .ok (.return_, 1) := by decide +kernel
set_option maxRecDepth 20000 in
theorem ggX5_expectNumber_X6_advance : GoodIn wsX5_expectNumber wsX6_advance := goodIn_r _ [9, 10, 11, 12, 13, 14, 15, 16, 8, 17, 18, 19, 20, 21, 22, 23, 24, 25, 26, 27, 28, 29, 30, 31, 32, 33, 55, 56, 57, 58, 59, 60] (by decide +kernel) (by decide +kernel)
set_option maxRecDepth 20000 in
theorem gX5_expectNumber_X6_advance : GoodIn wsX5_expectNumber (wsV RX5 93 RX6 yX6_advance wsX6_advance) := goodIn_app (goodIn_of _ (by decide +kernel)) ggX5_expectNumber_X6_advance
set_option maxRecDepth 20000 in
theorem ggX5_expectNumber_X5_fail : GoodIn wsX5_expectNumber wsX5_fail := goodIn_r _ [38, 1, 2, 39, 40, 41, 42, 43, 44, 45, 46, 47, 48, 49, 50, 51, 52, 53, 54, 55, 56, 57, 58, 59, 60] (by decide +kernel) (by decide +kernel)
set_option maxRecDepth 20000 in
theorem gX5_expectNumber_X5_fail : GoodIn wsX5_expectNumber (wsV RX5 102 RX5 yX5_fail wsX5_fail) := goodIn_app (goodIn_of _ (by decide +kernel)) ggX5_expectNumber_X5_fail
theorem dX5_expectNumber_0 : decode cX5_expectNumber 0 = .ok (.aload_n 0, 1) := by decide +kernel
theorem dX5_expectNumber_1 : decode cX5_expectNumber 1 = .ok (.getfield 44, 3) := by decide +kernel
theorem dX5_expectNumber_4 : decode cX5_expectNumber 4 = .ok (.ifCond .eq 5, 3) := by decide +kernel
theorem dX5_expectNumber_7 : decode cX5_expectNumber 7 = .ok (.iconst 0, 1) := by decide +kernel
theorem dX5_expectNumber_8 : decode cX5_expectNumber 8 = .ok (.ireturn, 1) := by decide +kernel
theorem dX5_expectNumber_9 : decode cX5_expectNumber 9 = .ok (.aload_n 0, 1) := by decide +kernel
theorem dX5_expectNumber_10 : decode cX5_expectNumber 10 = .ok (.getfield 55, 3) := by decide +kernel
theorem dX5_expectNumber_13 : decode cX5_expectNumber 13 = .ok (.invokevirtual 93, 3) := by decide +kernel
theorem dX5_expectNumber_16 : decode cX5_expectNumber 16 = .ok (.aload_n 0, 1) := by decide +kernel
theorem dX5_expectNumber_17 : decode cX5_expectNumber 17 = .ok (.getfield 55, 3) := by decide +kernel
theorem dX5_expectNumber_20 : decode cX5_expectNumber 20 = .ok (.getfield 109, 3) := by decide +kernel
theorem dX5_expectNumber_23 : decode cX5_expectNumber 23 = .ok (.iconst 2, 1) := by decide +kernel
theorem dX5_expectNumber_24 : decode cX5_expectNumber 24 = .ok (.if_icmp .eq 11, 3) := by decide +kernel
theorem dX5_expectNumber_27 : decode cX5_expectNumber 27 = .ok (.aload_n 0, 1) := by decide +kernel
theorem dX5_expectNumber_28 : decode cX5_expectNumber 28 = .ok (.iconst 1, 1) := by decide +kernel
theorem dX5_expectNumber_29 : decode cX5_expectNumber 29 = .ok (.invokevirtual 102, 3) := by decide +kernel
theorem dX5_expectNumber_32 : decode cX5_expectNumber 32 = .ok (.goto 30, 3) := by decide +kernel
theorem dX5_expectNumber_35 : decode cX5_expectNumber 35 = .ok (.aload_n 0, 1) := by decide +kernel
theorem dX5_expectNumber_36 : decode cX5_expectNumber 36 = .ok (.getfield 55, 3) := by decide +kernel
theorem dX5_expectNumber_39 : decode cX5_expectNumber 39 = .ok (.getfield 112, 3) := by decide +kernel
theorem dX5_expectNumber_42 : decode cX5_expectNumber 42 = .ok (.iload_n 1, 1) := by decide +kernel
theorem dX5_expectNumber_43 : decode cX5_expectNumber 43 = .ok (.if_icmp .lt 14, 3) := by decide +kernel
theorem dX5_expectNumber_46 : decode cX5_expectNumber 46 = .ok (.aload_n 0, 1) := by decide +kernel
theorem dX5_expectNumber_47 : decode cX5_expectNumber 47 = .ok (.getfield 55, 3) := by decide +kernel
theorem dX5_expectNumber_50 : decode cX5_expectNumber 50 = .ok (.getfield 112, 3) := by decide +kernel
theorem dX5_expectNumber_53 : decode cX5_expectNumber 53 = .ok (.iload_n 2, 1) := by decide +kernel
theorem dX5_expectNumber_54 : decode cX5_expectNumber 54 = .ok (.if_icmp .le 8, 3) := by decide +kernel
theorem dX5_expectNumber_57 : decode cX5_expectNumber 57 = .ok (.aload_n 0, 1) := by decide +kernel
theorem dX5_expectNumber_58 : decode cX5_expectNumber 58 = .ok (.iconst 2, 1) := by decide +kernel
theorem dX5_expectNumber_59 : decode cX5_expectNumber 59 = .ok (.invokevirtual 102, 3) := by decide +kernel
theorem dX5_expectNumber_62 : decode cX5_expectNumber 62 = .ok (.aload_n 0, 1) := by decide +kernel
theorem dX5_expectNumber_63 : decode cX5_expectNumber 63 = .ok (.getfield 55, 3) := by decide +kernel
theorem dX5_expectNumber_66 : decode cX5_expectNumber 66 = .ok (.getfield 112, 3) := by decide +kernel
theorem dX5_expectNumber_69 : decode cX5_expectNumber 69 = .ok (.ireturn, 1) := by decide +kernel
set_option maxRecDepth 20000 in
theorem ggX5_readCommand_X6_advance : GoodIn wsX5_readCommand wsX6_advance := goodIn_r _ [10, 11, 12, 13, 14, 15, 16, 17, 9, 18, 19, 20, 21, 22, 23, 24, 25, 26, 27, 28, 29, 30, 31, 32, 33, 34, 139, 140, 141, 142, 143, 144] (by decide +kernel) (by decide +kernel)
set_option maxRecDepth 20000 in
theorem gX5_readCommand_X6_advance : GoodIn wsX5_readCommand (wsV RX5 93 RX6 yX6_advance wsX6_advance) := goodIn_app (goodIn_of _ (by decide +kernel)) ggX5_readCommand_X6_advance
set_option maxRecDepth 20000 in
theorem ggX5_readCommand_X5_commandOfWord : GoodIn wsX5_readCommand wsX5_commandOfWord := goodIn_r _ [39, 1, 40, 41, 42, 9, 43, 14, 11, 13, 44, 45, 46, 47, 48, 49, 50, 51, 52, 53, 54, 55, 15, 16, 17, 18, 12, 19, 56, 57, 58, 59, 60, 61, 62, 63, 64, 65, 66, 67, 68, 69, 70, 71, 72, 73, 74, 75, 76, 77, 78, 79, 80, 81, 82, 83, 84, 85, 86, 87, 88, 89, 90, 91, 92, 125, 126, 127, 128, 129, 130, 131, 132, 133, 134, 135, 136, 137, 138, 139, 140, 141, 142, 143, 144] (by decide +kernel) (by decide +kernel)
set_option maxRecDepth 20000 in
theorem gX5_readCommand_X5_commandOfWord : GoodIn wsX5_readCommand (wsV RX5 115 RX5 yX5_commandOfWord wsX5_commandOfWord) := goodIn_app (goodIn_of _ (by decide +kernel)) ggX5_readCommand_X5_commandOfWord
set_option maxRecDepth 20000 in
theorem ggX5_readCommand_X6_isSign : GoodIn wsX5_readCommand wsX6_isSign := goodIn_r _ [96, 14, 13, 15, 16, 17, 9, 18, 12, 19, 139, 140, 141, 142, 143, 144] (by decide +kernel) (by decide +kernel)
set_option maxRecDepth 20000 in
theorem gX5_readCommand_X6_isSign : GoodIn wsX5_readCommand (wsV RX5 105 RX6 yX6_isSign wsX6_isSign) := goodIn_app (goodIn_of _ (by decide +kernel)) ggX5_readCommand_X6_isSign
set_option maxRecDepth 20000 in
theorem ggX5_readCommand_X5_endPass : GoodIn wsX5_readCommand wsX5_endPass := goodIn_r _ [100, 3, 101, 5, 102, 1, 103, 104, 105, 106, 107, 38, 108, 109, 6, 7, 8, 9, 10, 11, 12, 13, 14, 15, 16, 17, 18, 19, 20, 21, 22, 23, 24, 25, 26, 27, 28, 29, 30, 31, 32, 33, 34, 93, 94, 95, 96, 110, 111, 112, 113, 114, 115, 125, 126, 127, 128, 129, 130, 131, 132, 133, 134, 135, 136, 137, 138, 139, 140, 141, 142, 143, 144] (by decide +kernel) (by decide +kernel)
set_option maxRecDepth 20000 in
theorem gX5_readCommand_X5_endPass : GoodIn wsX5_readCommand (wsV RX5 118 RX5 yX5_endPass wsX5_endPass) := goodIn_app (goodIn_of _ (by decide +kernel)) ggX5_readCommand_X5_endPass
set_option maxRecDepth 20000 in
theorem ggX5_readCommand_X5_fail : GoodIn wsX5_readCommand wsX5_fail := goodIn_r _ [113, 109, 1, 114, 115, 125, 126, 127, 128, 129, 130, 131, 132, 133, 134, 135, 136, 137, 138, 139, 140, 141, 142, 143, 144] (by decide +kernel) (by decide +kernel)
set_option maxRecDepth 20000 in
theorem gX5_readCommand_X5_fail : GoodIn wsX5_readCommand (wsV RX5 102 RX5 yX5_fail wsX5_fail) := goodIn_app (goodIn_of _ (by decide +kernel)) ggX5_readCommand_X5_fail
set_option maxRecDepth 20000 in
theorem ggX5_readCommand_X5_beginRepeat : GoodIn wsX5_readCommand wsX5_beginRepeat := goodIn_r _ [119, 3, 103, 1, 104, 101, 102, 5, 110, 111, 112, 38, 113, 109, 114, 115, 120, 121, 122, 123, 2, 124, 6, 7, 8, 9, 10, 11, 12, 13, 14, 15, 16, 17, 18, 19, 20, 21, 22, 23, 24, 25, 26, 27, 28, 29, 30, 31, 32, 33, 34, 105, 106, 107, 108, 93, 94, 95, 96, 125, 126, 127, 128, 129, 130, 131, 132, 133, 134, 135, 136, 137, 138, 139, 140, 141, 142, 143, 144] (by decide +kernel) (by decide +kernel)
set_option maxRecDepth 20000 in
theorem gX5_readCommand_X5_beginRepeat : GoodIn wsX5_readCommand (wsV RX5 121 RX5 yX5_beginRepeat wsX5_beginRepeat) := goodIn_app (goodIn_of _ (by decide +kernel)) ggX5_readCommand_X5_beginRepeat
theorem dX5_readCommand_0 : decode cX5_readCommand 0 = .ok (.aload_n 0, 1) := by decide +kernel
theorem dX5_readCommand_1 : decode cX5_readCommand 1 = .ok (.getfield 55, 3) := by decide +kernel
theorem dX5_readCommand_4 : decode cX5_readCommand 4 = .ok (.invokevirtual 93, 3) := by decide +kernel
theorem dX5_readCommand_7 : decode cX5_readCommand 7 = .ok (.aload_n 0, 1) := by decide +kernel
theorem dX5_readCommand_8 : decode cX5_readCommand 8 = .ok (.invokevirtual 115, 3) := by decide +kernel
theorem dX5_readCommand_11 : decode cX5_readCommand 11 = .ok (.istore_n 1, 1) := by decide +kernel
theorem dX5_readCommand_12 : decode cX5_readCommand 12 = .ok (.aload_n 0, 1) := by decide +kernel
theorem dX5_readCommand_13 : decode cX5_readCommand 13 = .ok (.getfield 55, 3) := by decide +kernel
theorem dX5_readCommand_16 : decode cX5_readCommand 16 = .ok (.getfield 109, 3) := by decide +kernel
theorem dX5_readCommand_19 : decode cX5_readCommand 19 = .ok (.ifCond .ne 18, 3) := by decide +kernel
theorem dX5_readCommand_22 : decode cX5_readCommand 22 = .ok (.aload_n 0, 1) := by decide +kernel
theorem dX5_readCommand_23 : decode cX5_readCommand 23 = .ok (.getfield 19, 3) := by decide +kernel
theorem dX5_readCommand_26 : decode cX5_readCommand 26 = .ok (.ifCond .ne 11, 3) := by decide +kernel
theorem dX5_readCommand_29 : decode cX5_readCommand 29 = .ok (.aload_n 0, 1) := by decide +kernel
theorem dX5_readCommand_30 : decode cX5_readCommand 30 = .ok (.iconst 1, 1) := by decide +kernel
theorem dX5_readCommand_31 : decode cX5_readCommand 31 = .ok (.putfield 9, 3) := by decide +kernel
theorem dX5_readCommand_34 : decode cX5_readCommand 34 = .ok (.goto 74, 3) := by decide +kernel
theorem dX5_readCommand_37 : decode cX5_readCommand 37 = .ok (.aload_n 0, 1) := by decide +kernel
theorem dX5_readCommand_38 : decode cX5_readCommand 38 = .ok (.getfield 55, 3) := by decide +kernel
theorem dX5_readCommand_41 : decode cX5_readCommand 41 = .ok (.bipush 41, 2) := by decide +kernel
theorem dX5_readCommand_43 : decode cX5_readCommand 43 = .ok (.invokevirtual 105, 3) := by decide +kernel
theorem dX5_readCommand_46 : decode cX5_readCommand 46 = .ok (.ifCond .eq 17, 3) := by decide +kernel
theorem dX5_readCommand_49 : decode cX5_readCommand 49 = .ok (.aload_n 0, 1) := by decide +kernel
theorem dX5_readCommand_50 : decode cX5_readCommand 50 = .ok (.getfield 19, 3) := by decide +kernel
theorem dX5_readCommand_53 : decode cX5_readCommand 53 = .ok (.ifCond .le 10, 3) := by decide +kernel
theorem dX5_readCommand_56 : decode cX5_readCommand 56 = .ok (.aload_n 0, 1) := by decide +kernel
theorem dX5_readCommand_57 : decode cX5_readCommand 57 = .ok (.invokevirtual 118, 3) := by decide +kernel
theorem dX5_readCommand_60 : decode cX5_readCommand 60 = .ok (.goto 48, 3) := by decide +kernel
theorem dX5_readCommand_63 : decode cX5_readCommand 63 = .ok (.iload_n 1, 1) := by decide +kernel
theorem dX5_readCommand_64 : decode cX5_readCommand 64 = .ok (.ifCond .ne 11, 3) := by decide +kernel
theorem dX5_readCommand_67 : decode cX5_readCommand 67 = .ok (.aload_n 0, 1) := by decide +kernel
theorem dX5_readCommand_68 : decode cX5_readCommand 68 = .ok (.iconst 1, 1) := by decide +kernel
theorem dX5_readCommand_69 : decode cX5_readCommand 69 = .ok (.invokevirtual 102, 3) := by decide +kernel
theorem dX5_readCommand_72 : decode cX5_readCommand 72 = .ok (.goto 36, 3) := by decide +kernel
theorem dX5_readCommand_75 : decode cX5_readCommand 75 = .ok (.iload_n 1, 1) := by decide +kernel
theorem dX5_readCommand_76 : decode cX5_readCommand 76 = .ok (.bipush 8, 2) := by decide +kernel
theorem dX5_readCommand_78 : decode cX5_readCommand 78 = .ok (.if_icmp .ne 10, 3) := by decide +kernel
theorem dX5_readCommand_81 : decode cX5_readCommand 81 = .ok (.aload_n 0, 1) := by decide +kernel
theorem dX5_readCommand_82 : decode cX5_readCommand 82 = .ok (.invokevirtual 121, 3) := by decide +kernel
theorem dX5_readCommand_85 : decode cX5_readCommand 85 = .ok (.goto 23, 3) := by decide +kernel
theorem dX5_readCommand_88 : decode cX5_readCommand 88 = .ok (.aload_n 0, 1) := by decide +kernel
theorem dX5_readCommand_89 : decode cX5_readCommand 89 = .ok (.getfield 15, 3) := by decide +kernel
theorem dX5_readCommand_92 : decode cX5_readCommand 92 = .ok (.sipush 300, 3) := by decide +kernel
theorem dX5_readCommand_95 : decode cX5_readCommand 95 = .ok (.if_icmp .lt 11, 3) := by decide +kernel
theorem dX5_readCommand_98 : decode cX5_readCommand 98 = .ok (.aload_n 0, 1) := by decide +kernel
theorem dX5_readCommand_99 : decode cX5_readCommand 99 = .ok (.iconst 5, 1) := by decide +kernel
theorem dX5_readCommand_100 : decode cX5_readCommand 100 = .ok (.invokevirtual 102, 3) := by decide +kernel
theorem dX5_readCommand_103 : decode cX5_readCommand 103 = .ok (.goto 5, 3) := by decide +kernel
theorem dX5_readCommand_106 : decode cX5_readCommand 106 = .ok (.iload_n 1, 1) := by decide +kernel
theorem dX5_readCommand_107 : decode cX5_readCommand 107 = .ok (.ireturn, 1) := by decide +kernel
theorem dX5_readCommand_108 : decode cX5_readCommand 108 = .ok (.iconst 0, 1) := by decide +kernel
theorem dX5_readCommand_109 : decode cX5_readCommand 109 = .ok (.ireturn, 1) := by decide +kernel
set_option maxRecDepth 20000 in
theorem ggX5_commandOfWord_X6_isWord : GoodIn wsX5_commandOfWord wsX6_isWord := goodIn_r _ [6, 7, 8, 9, 10, 11, 12, 13, 14, 15, 16, 17, 18, 19, 20, 21, 22, 23, 24, 5, 25, 26, 27, 28, 29, 30, 31, 32, 33, 34, 35, 36, 37, 38, 39, 40, 41, 42, 43, 44, 45, 46, 47, 48, 49, 50, 51, 52, 53, 54, 55, 56, 57, 58, 59, 60, 61, 62, 63, 64, 79, 80, 81, 82, 83, 84] (by decide +kernel) (by decide +kernel)
set_option maxRecDepth 20000 in
theorem gX5_commandOfWord_X6_isWord : GoodIn wsX5_commandOfWord (wsV RX5 98 RX6 yX6_isWord wsX6_isWord) := goodIn_app (goodIn_of _ (by decide +kernel)) ggX5_commandOfWord_X6_isWord
theorem dX5_commandOfWord_0 : decode cX5_commandOfWord 0 = .ok (.aload_n 0, 1) := by decide +kernel
theorem dX5_commandOfWord_1 : decode cX5_commandOfWord 1 = .ok (.getfield 55, 3) := by decide +kernel
theorem dX5_commandOfWord_4 : decode cX5_commandOfWord 4 = .ok (.ldc 124, 2) := by decide +kernel
theorem dX5_commandOfWord_6 : decode cX5_commandOfWord 6 = .ok (.invokevirtual 98, 3) := by decide +kernel
theorem dX5_commandOfWord_9 : decode cX5_commandOfWord 9 = .ok (.ifCond .eq 5, 3) := by decide +kernel
theorem dX5_commandOfWord_12 : decode cX5_commandOfWord 12 = .ok (.iconst 1, 1) := by decide +kernel
theorem dX5_commandOfWord_13 : decode cX5_commandOfWord 13 = .ok (.ireturn, 1) := by decide +kernel
theorem dX5_commandOfWord_14 : decode cX5_commandOfWord 14 = .ok (.aload_n 0, 1) := by decide +kernel
theorem dX5_commandOfWord_15 : decode cX5_commandOfWord 15 = .ok (.getfield 55, 3) := by decide +kernel
theorem dX5_commandOfWord_18 : decode cX5_commandOfWord 18 = .ok (.ldc 126, 2) := by decide +kernel
theorem dX5_commandOfWord_20 : decode cX5_commandOfWord 20 = .ok (.invokevirtual 98, 3) := by decide +kernel
theorem dX5_commandOfWord_23 : decode cX5_commandOfWord 23 = .ok (.ifCond .eq 5, 3) := by decide +kernel
theorem dX5_commandOfWord_26 : decode cX5_commandOfWord 26 = .ok (.iconst 2, 1) := by decide +kernel
theorem dX5_commandOfWord_27 : decode cX5_commandOfWord 27 = .ok (.ireturn, 1) := by decide +kernel
theorem dX5_commandOfWord_28 : decode cX5_commandOfWord 28 = .ok (.aload_n 0, 1) := by decide +kernel
theorem dX5_commandOfWord_29 : decode cX5_commandOfWord 29 = .ok (.getfield 55, 3) := by decide +kernel
theorem dX5_commandOfWord_32 : decode cX5_commandOfWord 32 = .ok (.ldc 128, 2) := by decide +kernel
theorem dX5_commandOfWord_34 : decode cX5_commandOfWord 34 = .ok (.invokevirtual 98, 3) := by decide +kernel
theorem dX5_commandOfWord_37 : decode cX5_commandOfWord 37 = .ok (.ifCond .eq 5, 3) := by decide +kernel
theorem dX5_commandOfWord_40 : decode cX5_commandOfWord 40 = .ok (.iconst 3, 1) := by decide +kernel
theorem dX5_commandOfWord_41 : decode cX5_commandOfWord 41 = .ok (.ireturn, 1) := by decide +kernel
theorem dX5_commandOfWord_42 : decode cX5_commandOfWord 42 = .ok (.aload_n 0, 1) := by decide +kernel
theorem dX5_commandOfWord_43 : decode cX5_commandOfWord 43 = .ok (.getfield 55, 3) := by decide +kernel
theorem dX5_commandOfWord_46 : decode cX5_commandOfWord 46 = .ok (.ldc 130, 2) := by decide +kernel
theorem dX5_commandOfWord_48 : decode cX5_commandOfWord 48 = .ok (.invokevirtual 98, 3) := by decide +kernel
theorem dX5_commandOfWord_51 : decode cX5_commandOfWord 51 = .ok (.ifCond .eq 5, 3) := by decide +kernel
theorem dX5_commandOfWord_54 : decode cX5_commandOfWord 54 = .ok (.iconst 4, 1) := by decide +kernel
theorem dX5_commandOfWord_55 : decode cX5_commandOfWord 55 = .ok (.ireturn, 1) := by decide +kernel
theorem dX5_commandOfWord_56 : decode cX5_commandOfWord 56 = .ok (.aload_n 0, 1) := by decide +kernel
theorem dX5_commandOfWord_57 : decode cX5_commandOfWord 57 = .ok (.getfield 55, 3) := by decide +kernel
theorem dX5_commandOfWord_60 : decode cX5_commandOfWord 60 = .ok (.ldc 132, 2) := by decide +kernel
theorem dX5_commandOfWord_62 : decode cX5_commandOfWord 62 = .ok (.invokevirtual 98, 3) := by decide +kernel
theorem dX5_commandOfWord_65 : decode cX5_commandOfWord 65 = .ok (.ifCond .eq 5, 3) := by decide +kernel
theorem dX5_commandOfWord_68 : decode cX5_commandOfWord 68 = .ok (.iconst 5, 1) := by decide +kernel
theorem dX5_commandOfWord_69 : decode cX5_commandOfWord 69 = .ok (.ireturn, 1) := by decide +kernel
theorem dX5_commandOfWord_70 : decode cX5_commandOfWord 70 = .ok (.aload_n 0, 1) := by decide +kernel
theorem dX5_commandOfWord_71 : decode cX5_commandOfWord 71 = .ok (.getfield 55, 3) := by decide +kernel
theorem dX5_commandOfWord_74 : decode cX5_commandOfWord 74 = .ok (.ldc 134, 2) := by decide +kernel
theorem dX5_commandOfWord_76 : decode cX5_commandOfWord 76 = .ok (.invokevirtual 98, 3) := by decide +kernel
theorem dX5_commandOfWord_79 : decode cX5_commandOfWord 79 = .ok (.ifCond .eq 6, 3) := by decide +kernel
theorem dX5_commandOfWord_82 : decode cX5_commandOfWord 82 = .ok (.bipush 6, 2) := by decide +kernel
theorem dX5_commandOfWord_84 : decode cX5_commandOfWord 84 = .ok (.ireturn, 1) := by decide +kernel
theorem dX5_commandOfWord_85 : decode cX5_commandOfWord 85 = .ok (.aload_n 0, 1) := by decide +kernel
theorem dX5_commandOfWord_86 : decode cX5_commandOfWord 86 = .ok (.getfield 55, 3) := by decide +kernel
theorem dX5_commandOfWord_89 : decode cX5_commandOfWord 89 = .ok (.ldc 136, 2) := by decide +kernel
theorem dX5_commandOfWord_91 : decode cX5_commandOfWord 91 = .ok (.invokevirtual 98, 3) := by decide +kernel
theorem dX5_commandOfWord_94 : decode cX5_commandOfWord 94 = .ok (.ifCond .eq 6, 3) := by decide +kernel
theorem dX5_commandOfWord_97 : decode cX5_commandOfWord 97 = .ok (.bipush 7, 2) := by decide +kernel
theorem dX5_commandOfWord_99 : decode cX5_commandOfWord 99 = .ok (.ireturn, 1) := by decide +kernel
theorem dX5_commandOfWord_100 : decode cX5_commandOfWord 100 = .ok (.aload_n 0, 1) := by decide +kernel
theorem dX5_commandOfWord_101 : decode cX5_commandOfWord 101 = .ok (.getfield 55, 3) := by decide +kernel
theorem dX5_commandOfWord_104 : decode cX5_commandOfWord 104 = .ok (.ldc 138, 2) := by decide +kernel
theorem dX5_commandOfWord_106 : decode cX5_commandOfWord 106 = .ok (.invokevirtual 98, 3) := by decide +kernel
theorem dX5_commandOfWord_109 : decode cX5_commandOfWord 109 = .ok (.ifCond .eq 8, 3) := by decide +kernel
theorem dX5_commandOfWord_112 : decode cX5_commandOfWord 112 = .ok (.bipush 8, 2) := by decide +kernel
theorem dX5_commandOfWord_114 : decode cX5_commandOfWord 114 = .ok (.goto 4, 3) := by decide +kernel
theorem dX5_commandOfWord_117 : decode cX5_commandOfWord 117 = .ok (.iconst 0, 1) := by decide +kernel
theorem dX5_commandOfWord_118 : decode cX5_commandOfWord 118 = .ok (.ireturn, 1) := by decide +kernel
set_option maxRecDepth 20000 in
theorem ggX5_beginRepeat_X5_fail : GoodIn wsX5_beginRepeat wsX5_fail := goodIn_r _ [12, 13, 3, 14, 15, 59, 60, 61, 62, 63, 64, 65, 66, 67, 68, 69, 70, 71, 72, 73, 74, 75, 76, 77, 78] (by decide +kernel) (by decide +kernel)
set_option maxRecDepth 20000 in
theorem gX5_beginRepeat_X5_fail : GoodIn wsX5_beginRepeat (wsV RX5 102 RX5 yX5_fail wsX5_fail) := goodIn_app (goodIn_of _ (by decide +kernel)) ggX5_beginRepeat_X5_fail
set_option maxRecDepth 20000 in
theorem ggX5_beginRepeat_X5_expectNumber : GoodIn wsX5_beginRepeat wsX5_expectNumber := goodIn_r _ [19, 13, 3, 20, 21, 22, 23, 24, 25, 26, 27, 28, 29, 30, 31, 32, 33, 34, 35, 36, 37, 38, 39, 40, 41, 42, 43, 44, 45, 46, 47, 48, 49, 50, 8, 9, 10, 11, 12, 14, 15, 59, 60, 61, 62, 63, 64, 65, 66, 67, 68, 69, 70, 71, 72, 73, 74, 75, 76, 77, 78] (by decide +kernel) (by decide +kernel)
set_option maxRecDepth 20000 in
theorem gX5_beginRepeat_X5_expectNumber : GoodIn wsX5_beginRepeat (wsV RX5 140 RX5 yX5_expectNumber wsX5_expectNumber) := goodIn_app (goodIn_of _ (by decide +kernel)) ggX5_beginRepeat_X5_expectNumber
set_option maxRecDepth 20000 in
theorem ggX5_beginRepeat_X5_expectSign : GoodIn wsX5_beginRepeat wsX5_expectSign := goodIn_r _ [54, 13, 3, 22, 23, 24, 25, 26, 27, 28, 29, 30, 31, 32, 33, 34, 35, 36, 37, 38, 39, 40, 41, 42, 43, 44, 45, 46, 47, 48, 49, 50, 55, 56, 57, 58, 8, 9, 10, 11, 12, 14, 15, 59, 60, 61, 62, 63, 64, 65, 66, 67, 68, 69, 70, 71, 72, 73, 74, 75, 76, 77, 78] (by decide +kernel) (by decide +kernel)
set_option maxRecDepth 20000 in
theorem gX5_beginRepeat_X5_expectSign : GoodIn wsX5_beginRepeat (wsV RX5 75 RX5 yX5_expectSign wsX5_expectSign) := goodIn_app (goodIn_of _ (by decide +kernel)) ggX5_beginRepeat_X5_expectSign
theorem dX5_beginRepeat_0 : decode cX5_beginRepeat 0 = .ok (.aload_n 0, 1) := by decide +kernel
theorem dX5_beginRepeat_1 : decode cX5_beginRepeat 1 = .ok (.getfield 19, 3) := by decide +kernel
theorem dX5_beginRepeat_4 : decode cX5_beginRepeat 4 = .ok (.ifCond .lt 11, 3) := by decide +kernel
theorem dX5_beginRepeat_7 : decode cX5_beginRepeat 7 = .ok (.aload_n 0, 1) := by decide +kernel
theorem dX5_beginRepeat_8 : decode cX5_beginRepeat 8 = .ok (.getfield 19, 3) := by decide +kernel
theorem dX5_beginRepeat_11 : decode cX5_beginRepeat 11 = .ok (.iconst 3, 1) := by decide +kernel
theorem dX5_beginRepeat_12 : decode cX5_beginRepeat 12 = .ok (.if_icmp .lt 9, 3) := by decide +kernel
theorem dX5_beginRepeat_15 : decode cX5_beginRepeat 15 = .ok (.aload_n 0, 1) := by decide +kernel
theorem dX5_beginRepeat_16 : decode cX5_beginRepeat 16 = .ok (.iconst 4, 1) := by decide +kernel
theorem dX5_beginRepeat_17 : decode cX5_beginRepeat 17 = .ok (.invokevirtual 102, 3) := by decide +kernel
theorem dX5_beginRepeat_20 : decode cX5_beginRepeat 20 = .ok (.return_, 1) := by decide +kernel
theorem dX5_beginRepeat_21 : decode cX5_beginRepeat 21 = .ok (.aload_n 0, 1) := by decide +kernel
theorem dX5_beginRepeat_22 : decode cX5_beginRepeat 22 = .ok (.iconst 1, 1) := by decide +kernel
theorem dX5_beginRepeat_23 : decode cX5_beginRepeat 23 = .ok (.bipush 24, 2) := by decide +kernel
theorem dX5_beginRepeat_25 : decode cX5_beginRepeat 25 = .ok (.invokevirtual 140, 3) := by decide +kernel
theorem dX5_beginRepeat_28 : decode cX5_beginRepeat 28 = .ok (.istore_n 1, 1) := by decide +kernel
theorem dX5_beginRepeat_29 : decode cX5_beginRepeat 29 = .ok (.aload_n 0, 1) := by decide +kernel
theorem dX5_beginRepeat_30 : decode cX5_beginRepeat 30 = .ok (.bipush 40, 2) := by decide +kernel
theorem dX5_beginRepeat_32 : decode cX5_beginRepeat 32 = .ok (.invokevirtual 75, 3) := by decide +kernel
theorem dX5_beginRepeat_35 : decode cX5_beginRepeat 35 = .ok (.aload_n 0, 1) := by decide +kernel
theorem dX5_beginRepeat_36 : decode cX5_beginRepeat 36 = .ok (.getfield 22, 3) := by decide +kernel
theorem dX5_beginRepeat_39 : decode cX5_beginRepeat 39 = .ok (.aload_n 0, 1) := by decide +kernel
theorem dX5_beginRepeat_40 : decode cX5_beginRepeat 40 = .ok (.getfield 19, 3) := by decide +kernel
theorem dX5_beginRepeat_43 : decode cX5_beginRepeat 43 = .ok (.aload_n 0, 1) := by decide +kernel
theorem dX5_beginRepeat_44 : decode cX5_beginRepeat 44 = .ok (.getfield 55, 3) := by decide +kernel
theorem dX5_beginRepeat_47 : decode cX5_beginRepeat 47 = .ok (.getfield 144, 3) := by decide +kernel
theorem dX5_beginRepeat_50 : decode cX5_beginRepeat 50 = .ok (.iastore, 1) := by decide +kernel
theorem dX5_beginRepeat_51 : decode cX5_beginRepeat 51 = .ok (.aload_n 0, 1) := by decide +kernel
theorem dX5_beginRepeat_52 : decode cX5_beginRepeat 52 = .ok (.getfield 26, 3) := by decide +kernel
theorem dX5_beginRepeat_55 : decode cX5_beginRepeat 55 = .ok (.aload_n 0, 1) := by decide +kernel
theorem dX5_beginRepeat_56 : decode cX5_beginRepeat 56 = .ok (.getfield 19, 3) := by decide +kernel
theorem dX5_beginRepeat_59 : decode cX5_beginRepeat 59 = .ok (.iload_n 1, 1) := by decide +kernel
theorem dX5_beginRepeat_60 : decode cX5_beginRepeat 60 = .ok (.iastore, 1) := by decide +kernel
theorem dX5_beginRepeat_61 : decode cX5_beginRepeat 61 = .ok (.aload_n 0, 1) := by decide +kernel
theorem dX5_beginRepeat_62 : decode cX5_beginRepeat 62 = .ok (.getfield 29, 3) := by decide +kernel
theorem dX5_beginRepeat_65 : decode cX5_beginRepeat 65 = .ok (.aload_n 0, 1) := by decide +kernel
theorem dX5_beginRepeat_66 : decode cX5_beginRepeat 66 = .ok (.getfield 19, 3) := by decide +kernel
theorem dX5_beginRepeat_69 : decode cX5_beginRepeat 69 = .ok (.aload_n 0, 1) := by decide +kernel
theorem dX5_beginRepeat_70 : decode cX5_beginRepeat 70 = .ok (.getfield 15, 3) := by decide +kernel
theorem dX5_beginRepeat_73 : decode cX5_beginRepeat 73 = .ok (.iastore, 1) := by decide +kernel
theorem dX5_beginRepeat_74 : decode cX5_beginRepeat 74 = .ok (.aload_n 0, 1) := by decide +kernel
theorem dX5_beginRepeat_75 : decode cX5_beginRepeat 75 = .ok (.dup, 1) := by decide +kernel
theorem dX5_beginRepeat_76 : decode cX5_beginRepeat 76 = .ok (.getfield 19, 3) := by decide +kernel
theorem dX5_beginRepeat_79 : decode cX5_beginRepeat 79 = .ok (.iconst 1, 1) := by decide +kernel
theorem dX5_beginRepeat_80 : decode cX5_beginRepeat 80 = .ok (.iadd, 1) := by decide +kernel
theorem dX5_beginRepeat_81 : decode cX5_beginRepeat 81 = .ok (.putfield 19, 3) := by decide +kernel
theorem dX5_beginRepeat_84 : decode cX5_beginRepeat 84 = .ok (.return_, 1) := by decide +kernel
set_option maxRecDepth 20000 in
theorem ggX5_endPass_X5_expectSign : GoodIn wsX5_endPass wsX5_expectSign := goodIn_r _ [12, 13, 5, 14, 15, 16, 17, 18, 19, 20, 21, 22, 23, 24, 25, 26, 27, 28, 29, 30, 31, 32, 33, 34, 35, 36, 37, 38, 39, 40, 41, 42, 43, 44, 45, 46, 47, 48, 49, 11, 50, 51, 52, 53, 54, 55, 56, 57, 58, 59, 60, 61, 62, 63, 64, 65, 66, 67, 68, 69, 70, 71, 72] (by decide +kernel) (by decide +kernel)
set_option maxRecDepth 20000 in
theorem gX5_endPass_X5_expectSign : GoodIn wsX5_endPass (wsV RX5 75 RX5 yX5_expectSign wsX5_expectSign) := goodIn_app (goodIn_of _ (by decide +kernel)) ggX5_endPass_X5_expectSign
theorem dX5_endPass_0 : decode cX5_endPass 0 = .ok (.aload_n 0, 1) := by decide +kernel
theorem dX5_endPass_1 : decode cX5_endPass 1 = .ok (.getfield 19, 3) := by decide +kernel
theorem dX5_endPass_4 : decode cX5_endPass 4 = .ok (.iconst 1, 1) := by decide +kernel
theorem dX5_endPass_5 : decode cX5_endPass 5 = .ok (.isub, 1) := by decide +kernel
theorem dX5_endPass_6 : decode cX5_endPass 6 = .ok (.istore_n 1, 1) := by decide +kernel
theorem dX5_endPass_7 : decode cX5_endPass 7 = .ok (.iload_n 1, 1) := by decide +kernel
theorem dX5_endPass_8 : decode cX5_endPass 8 = .ok (.ifCond .lt 8, 3) := by decide +kernel
theorem dX5_endPass_11 : decode cX5_endPass 11 = .ok (.iload_n 1, 1) := by decide +kernel
theorem dX5_endPass_12 : decode cX5_endPass 12 = .ok (.iconst 3, 1) := by decide +kernel
theorem dX5_endPass_13 : decode cX5_endPass 13 = .ok (.if_icmp .lt 4, 3) := by decide +kernel
theorem dX5_endPass_17 : decode cX5_endPass 17 = .ok (.aload_n 0, 1) := by decide +kernel
theorem dX5_endPass_18 : decode cX5_endPass 18 = .ok (.getfield 26, 3) := by decide +kernel
theorem dX5_endPass_21 : decode cX5_endPass 21 = .ok (.iload_n 1, 1) := by decide +kernel
theorem dX5_endPass_22 : decode cX5_endPass 22 = .ok (.dup2, 1) := by decide +kernel
theorem dX5_endPass_23 : decode cX5_endPass 23 = .ok (.iaload, 1) := by decide +kernel
theorem dX5_endPass_24 : decode cX5_endPass 24 = .ok (.iconst 1, 1) := by decide +kernel
theorem dX5_endPass_25 : decode cX5_endPass 25 = .ok (.isub, 1) := by decide +kernel
theorem dX5_endPass_26 : decode cX5_endPass 26 = .ok (.iastore, 1) := by decide +kernel
theorem dX5_endPass_27 : decode cX5_endPass 27 = .ok (.aload_n 0, 1) := by decide +kernel
theorem dX5_endPass_28 : decode cX5_endPass 28 = .ok (.getfield 26, 3) := by decide +kernel
theorem dX5_endPass_31 : decode cX5_endPass 31 = .ok (.iload_n 1, 1) := by decide +kernel
theorem dX5_endPass_32 : decode cX5_endPass 32 = .ok (.iaload, 1) := by decide +kernel
theorem dX5_endPass_33 : decode cX5_endPass 33 = .ok (.ifCond .le 42, 3) := by decide +kernel
theorem dX5_endPass_36 : decode cX5_endPass 36 = .ok (.aload_n 0, 1) := by decide +kernel
theorem dX5_endPass_37 : decode cX5_endPass 37 = .ok (.getfield 15, 3) := by decide +kernel
theorem dX5_endPass_40 : decode cX5_endPass 40 = .ok (.aload_n 0, 1) := by decide +kernel
theorem dX5_endPass_41 : decode cX5_endPass 41 = .ok (.getfield 29, 3) := by decide +kernel
theorem dX5_endPass_44 : decode cX5_endPass 44 = .ok (.iload_n 1, 1) := by decide +kernel
theorem dX5_endPass_45 : decode cX5_endPass 45 = .ok (.iaload, 1) := by decide +kernel
theorem dX5_endPass_46 : decode cX5_endPass 46 = .ok (.if_icmp .le 29, 3) := by decide +kernel
theorem dX5_endPass_49 : decode cX5_endPass 49 = .ok (.aload_n 0, 1) := by decide +kernel
theorem dX5_endPass_50 : decode cX5_endPass 50 = .ok (.getfield 29, 3) := by decide +kernel
theorem dX5_endPass_53 : decode cX5_endPass 53 = .ok (.iload_n 1, 1) := by decide +kernel
theorem dX5_endPass_54 : decode cX5_endPass 54 = .ok (.aload_n 0, 1) := by decide +kernel
theorem dX5_endPass_55 : decode cX5_endPass 55 = .ok (.getfield 15, 3) := by decide +kernel
theorem dX5_endPass_58 : decode cX5_endPass 58 = .ok (.iastore, 1) := by decide +kernel
theorem dX5_endPass_59 : decode cX5_endPass 59 = .ok (.aload_n 0, 1) := by decide +kernel
theorem dX5_endPass_60 : decode cX5_endPass 60 = .ok (.getfield 55, 3) := by decide +kernel
theorem dX5_endPass_63 : decode cX5_endPass 63 = .ok (.aload_n 0, 1) := by decide +kernel
theorem dX5_endPass_64 : decode cX5_endPass 64 = .ok (.getfield 22, 3) := by decide +kernel
theorem dX5_endPass_67 : decode cX5_endPass 67 = .ok (.iload_n 1, 1) := by decide +kernel
theorem dX5_endPass_68 : decode cX5_endPass 68 = .ok (.iaload, 1) := by decide +kernel
theorem dX5_endPass_69 : decode cX5_endPass 69 = .ok (.putfield 144, 3) := by decide +kernel
theorem dX5_endPass_72 : decode cX5_endPass 72 = .ok (.goto 19, 3) := by decide +kernel
theorem dX5_endPass_75 : decode cX5_endPass 75 = .ok (.aload_n 0, 1) := by decide +kernel
theorem dX5_endPass_76 : decode cX5_endPass 76 = .ok (.dup, 1) := by decide +kernel
theorem dX5_endPass_77 : decode cX5_endPass 77 = .ok (.getfield 19, 3) := by decide +kernel
theorem dX5_endPass_80 : decode cX5_endPass 80 = .ok (.iconst 1, 1) := by decide +kernel
theorem dX5_endPass_81 : decode cX5_endPass 81 = .ok (.isub, 1) := by decide +kernel
theorem dX5_endPass_82 : decode cX5_endPass 82 = .ok (.putfield 19, 3) := by decide +kernel
theorem dX5_endPass_85 : decode cX5_endPass 85 = .ok (.aload_n 0, 1) := by decide +kernel
theorem dX5_endPass_86 : decode cX5_endPass 86 = .ok (.bipush 59, 2) := by decide +kernel
theorem dX5_endPass_88 : decode cX5_endPass 88 = .ok (.invokevirtual 75, 3) := by decide +kernel
theorem dX5_endPass_91 : decode cX5_endPass 91 = .ok (.return_, 1) := by decide +kernel
set_option maxRecDepth 20000 in
theorem ggX5_readNumbers_X5_expectNumber : GoodIn wsX5_readNumbers wsX5_expectNumber := goodIn_r _ [11, 12, 13, 14, 15, 16, 17, 18, 19, 20, 21, 22, 23, 24, 25, 26, 27, 28, 29, 30, 31, 32, 33, 34, 35, 36, 37, 38, 39, 40, 41, 42, 43, 44, 45, 46, 47, 10, 48, 49, 50, 117, 118, 119, 120, 121, 122, 123, 124, 125, 126, 127, 128, 129, 130, 134, 135, 136, 137, 138, 139] (by decide +kernel) (by decide +kernel)
set_option maxRecDepth 20000 in
theorem gX5_readNumbers_X5_expectNumber : GoodIn wsX5_readNumbers (wsV RX5 140 RX5 yX5_expectNumber wsX5_expectNumber) := goodIn_app (goodIn_of _ (by decide +kernel)) ggX5_readNumbers_X5_expectNumber
set_option maxRecDepth 20000 in
theorem ggX5_readNumbers_X5_readKeep : GoodIn wsX5_readNumbers wsX5_readKeep := goodIn_r _ [54, 12, 13, 55, 16, 17, 18, 19, 20, 21, 22, 23, 24, 25, 26, 27, 28, 29, 30, 31, 32, 33, 34, 35, 36, 37, 38, 39, 40, 41, 42, 43, 44, 56, 57, 58, 59, 60, 61, 62, 63, 64, 65, 66, 67, 68, 69, 70, 71, 72, 73, 74, 75, 76, 77, 78, 79, 80, 81, 82, 83, 84, 85, 86, 87, 88, 89, 90, 91, 92, 93, 94, 95, 96, 97, 98, 99, 100, 101, 102, 103, 104, 105, 106, 107, 108, 109, 110, 111, 10, 112, 113, 114, 115, 116, 45, 46, 47, 48, 49, 50, 117, 118, 119, 120, 121, 122, 123, 124, 125, 126, 127, 128, 129, 130, 134, 135, 136, 137, 138, 139] (by decide +kernel) (by decide +kernel)
set_option maxRecDepth 20000 in
theorem gX5_readNumbers_X5_readKeep : GoodIn wsX5_readNumbers (wsV RX5 151 RX5 yX5_readKeep wsX5_readKeep) := goodIn_app (goodIn_of _ (by decide +kernel)) ggX5_readNumbers_X5_readKeep
set_option maxRecDepth 20000 in
theorem ggX5_readNumbers_X5_expectSign : GoodIn wsX5_readNumbers wsX5_expectSign := goodIn_r _ [112, 12, 13, 16, 17, 18, 19, 20, 21, 22, 23, 24, 25, 26, 27, 28, 29, 30, 31, 32, 33, 34, 35, 36, 37, 38, 39, 40, 41, 42, 43, 44, 113, 114, 115, 116, 45, 46, 47, 10, 48, 49, 50, 117, 118, 119, 120, 121, 122, 123, 124, 125, 126, 127, 128, 129, 130, 134, 135, 136, 137, 138, 139] (by decide +kernel) (by decide +kernel)
set_option maxRecDepth 20000 in
theorem gX5_readNumbers_X5_expectSign : GoodIn wsX5_readNumbers (wsV RX5 75 RX5 yX5_expectSign wsX5_expectSign) := goodIn_app (goodIn_of _ (by decide +kernel)) ggX5_readNumbers_X5_expectSign
theorem dX5_readNumbers_0 : decode cX5_readNumbers 0 = .ok (.iload_n 1, 1) := by decide +kernel
theorem dX5_readNumbers_1 : decode cX5_readNumbers 1 = .ok (.iconst 1, 1) := by decide +kernel
theorem dX5_readNumbers_2 : decode cX5_readNumbers 2 = .ok (.if_icmp .ne 40, 3) := by decide +kernel
theorem dX5_readNumbers_5 : decode cX5_readNumbers 5 = .ok (.aload_n 0, 1) := by decide +kernel
theorem dX5_readNumbers_6 : decode cX5_readNumbers 6 = .ok (.aload_n 0, 1) := by decide +kernel
theorem dX5_readNumbers_7 : decode cX5_readNumbers 7 = .ok (.iconst 1, 1) := by decide +kernel
theorem dX5_readNumbers_8 : decode cX5_readNumbers 8 = .ok (.ldc 147, 2) := by decide +kernel
theorem dX5_readNumbers_10 : decode cX5_readNumbers 10 = .ok (.invokevirtual 140, 3) := by decide +kernel
theorem dX5_readNumbers_13 : decode cX5_readNumbers 13 = .ok (.putfield 32, 3) := by decide +kernel
theorem dX5_readNumbers_16 : decode cX5_readNumbers 16 = .ok (.aload_n 0, 1) := by decide +kernel
theorem dX5_readNumbers_17 : decode cX5_readNumbers 17 = .ok (.aload_n 0, 1) := by decide +kernel
theorem dX5_readNumbers_18 : decode cX5_readNumbers 18 = .ok (.iconst 0, 1) := by decide +kernel
theorem dX5_readNumbers_19 : decode cX5_readNumbers 19 = .ok (.sipush 3000, 3) := by decide +kernel
theorem dX5_readNumbers_22 : decode cX5_readNumbers 22 = .ok (.invokevirtual 140, 3) := by decide +kernel
theorem dX5_readNumbers_25 : decode cX5_readNumbers 25 = .ok (.putfield 35, 3) := by decide +kernel
theorem dX5_readNumbers_28 : decode cX5_readNumbers 28 = .ok (.aload_n 0, 1) := by decide +kernel
theorem dX5_readNumbers_29 : decode cX5_readNumbers 29 = .ok (.aload_n 0, 1) := by decide +kernel
theorem dX5_readNumbers_30 : decode cX5_readNumbers 30 = .ok (.iconst 1, 1) := by decide +kernel
theorem dX5_readNumbers_31 : decode cX5_readNumbers 31 = .ok (.bipush 120, 2) := by decide +kernel
theorem dX5_readNumbers_33 : decode cX5_readNumbers 33 = .ok (.invokevirtual 140, 3) := by decide +kernel
theorem dX5_readNumbers_36 : decode cX5_readNumbers 36 = .ok (.putfield 38, 3) := by decide +kernel
theorem dX5_readNumbers_39 : decode cX5_readNumbers 39 = .ok (.goto 26, 3) := by decide +kernel
theorem dX5_readNumbers_42 : decode cX5_readNumbers 42 = .ok (.iload_n 1, 1) := by decide +kernel
theorem dX5_readNumbers_43 : decode cX5_readNumbers 43 = .ok (.iconst 3, 1) := by decide +kernel
theorem dX5_readNumbers_44 : decode cX5_readNumbers 44 = .ok (.if_icmp .eq 21, 3) := by decide +kernel
theorem dX5_readNumbers_47 : decode cX5_readNumbers 47 = .ok (.aload_n 0, 1) := by decide +kernel
theorem dX5_readNumbers_48 : decode cX5_readNumbers 48 = .ok (.aload_n 0, 1) := by decide +kernel
theorem dX5_readNumbers_49 : decode cX5_readNumbers 49 = .ok (.iconst 0, 1) := by decide +kernel
theorem dX5_readNumbers_50 : decode cX5_readNumbers 50 = .ok (.aload_n 0, 1) := by decide +kernel
theorem dX5_readNumbers_51 : decode cX5_readNumbers 51 = .ok (.getfield 59, 3) := by decide +kernel
theorem dX5_readNumbers_54 : decode cX5_readNumbers 54 = .ok (.getfield 148, 3) := by decide +kernel
theorem dX5_readNumbers_57 : decode cX5_readNumbers 57 = .ok (.iconst 1, 1) := by decide +kernel
theorem dX5_readNumbers_58 : decode cX5_readNumbers 58 = .ok (.isub, 1) := by decide +kernel
theorem dX5_readNumbers_59 : decode cX5_readNumbers 59 = .ok (.invokevirtual 140, 3) := by decide +kernel
theorem dX5_readNumbers_62 : decode cX5_readNumbers 62 = .ok (.putfield 32, 3) := by decide +kernel
theorem dX5_readNumbers_65 : decode cX5_readNumbers 65 = .ok (.iload_n 1, 1) := by decide +kernel
theorem dX5_readNumbers_66 : decode cX5_readNumbers 66 = .ok (.bipush 6, 2) := by decide +kernel
theorem dX5_readNumbers_68 : decode cX5_readNumbers 68 = .ok (.if_icmp .ne 18, 3) := by decide +kernel
theorem dX5_readNumbers_71 : decode cX5_readNumbers 71 = .ok (.aload_n 0, 1) := by decide +kernel
theorem dX5_readNumbers_72 : decode cX5_readNumbers 72 = .ok (.aload_n 0, 1) := by decide +kernel
theorem dX5_readNumbers_73 : decode cX5_readNumbers 73 = .ok (.iconst 0, 1) := by decide +kernel
theorem dX5_readNumbers_74 : decode cX5_readNumbers 74 = .ok (.sipush 3000, 3) := by decide +kernel
theorem dX5_readNumbers_77 : decode cX5_readNumbers 77 = .ok (.invokevirtual 140, 3) := by decide +kernel
theorem dX5_readNumbers_80 : decode cX5_readNumbers 80 = .ok (.putfield 35, 3) := by decide +kernel
theorem dX5_readNumbers_83 : decode cX5_readNumbers 83 = .ok (.goto 44, 3) := by decide +kernel
theorem dX5_readNumbers_86 : decode cX5_readNumbers 86 = .ok (.iload_n 1, 1) := by decide +kernel
theorem dX5_readNumbers_87 : decode cX5_readNumbers 87 = .ok (.bipush 7, 2) := by decide +kernel
theorem dX5_readNumbers_89 : decode cX5_readNumbers 89 = .ok (.if_icmp .ne 17, 3) := by decide +kernel
theorem dX5_readNumbers_92 : decode cX5_readNumbers 92 = .ok (.aload_n 0, 1) := by decide +kernel
theorem dX5_readNumbers_93 : decode cX5_readNumbers 93 = .ok (.aload_n 0, 1) := by decide +kernel
theorem dX5_readNumbers_94 : decode cX5_readNumbers 94 = .ok (.iconst 1, 1) := by decide +kernel
theorem dX5_readNumbers_95 : decode cX5_readNumbers 95 = .ok (.bipush 60, 2) := by decide +kernel
theorem dX5_readNumbers_97 : decode cX5_readNumbers 97 = .ok (.invokevirtual 140, 3) := by decide +kernel
theorem dX5_readNumbers_100 : decode cX5_readNumbers 100 = .ok (.putfield 35, 3) := by decide +kernel
theorem dX5_readNumbers_103 : decode cX5_readNumbers 103 = .ok (.goto 24, 3) := by decide +kernel
theorem dX5_readNumbers_106 : decode cX5_readNumbers 106 = .ok (.iload_n 1, 1) := by decide +kernel
theorem dX5_readNumbers_107 : decode cX5_readNumbers 107 = .ok (.iconst 4, 1) := by decide +kernel
theorem dX5_readNumbers_108 : decode cX5_readNumbers 108 = .ok (.if_icmp .ne 19, 3) := by decide +kernel
theorem dX5_readNumbers_111 : decode cX5_readNumbers 111 = .ok (.aload_n 0, 1) := by decide +kernel
theorem dX5_readNumbers_112 : decode cX5_readNumbers 112 = .ok (.aload_n 0, 1) := by decide +kernel
theorem dX5_readNumbers_113 : decode cX5_readNumbers 113 = .ok (.iconst 1, 1) := by decide +kernel
theorem dX5_readNumbers_114 : decode cX5_readNumbers 114 = .ok (.ldc 147, 2) := by decide +kernel
theorem dX5_readNumbers_116 : decode cX5_readNumbers 116 = .ok (.invokevirtual 140, 3) := by decide +kernel
theorem dX5_readNumbers_119 : decode cX5_readNumbers 119 = .ok (.putfield 35, 3) := by decide +kernel
theorem dX5_readNumbers_122 : decode cX5_readNumbers 122 = .ok (.aload_n 0, 1) := by decide +kernel
theorem dX5_readNumbers_123 : decode cX5_readNumbers 123 = .ok (.invokevirtual 151, 3) := by decide +kernel
theorem dX5_readNumbers_126 : decode cX5_readNumbers 126 = .ok (.return_, 1) := by decide +kernel
theorem dX5_readNumbers_127 : decode cX5_readNumbers 127 = .ok (.aload_n 0, 1) := by decide +kernel
theorem dX5_readNumbers_128 : decode cX5_readNumbers 128 = .ok (.bipush 59, 2) := by decide +kernel
theorem dX5_readNumbers_130 : decode cX5_readNumbers 130 = .ok (.invokevirtual 75, 3) := by decide +kernel
theorem dX5_readNumbers_133 : decode cX5_readNumbers 133 = .ok (.return_, 1) := by decide +kernel
set_option maxRecDepth 20000 in
theorem ggX5_readKeep_X6_advance : GoodIn wsX5_readKeep wsX6_advance := goodIn_r _ [8, 9, 10, 11, 12, 13, 14, 15, 7, 16, 17, 18, 19, 20, 21, 22, 23, 24, 25, 26, 27, 28, 29, 30, 31, 32, 115, 116, 117, 118, 119, 120] (by decide +kernel) (by decide +kernel)
set_option maxRecDepth 20000 in
theorem gX5_readKeep_X6_advance : GoodIn wsX5_readKeep (wsV RX5 93 RX6 yX6_advance wsX6_advance) := goodIn_app (goodIn_of _ (by decide +kernel)) ggX5_readKeep_X6_advance
set_option maxRecDepth 20000 in
theorem ggX5_readKeep_X6_isWord : GoodIn wsX5_readKeep wsX6_isWord := goodIn_r _ [36, 12, 9, 11, 37, 38, 39, 40, 41, 42, 43, 44, 45, 46, 47, 48, 13, 14, 15, 7, 16, 10, 17, 49, 50, 51, 52, 53, 54, 55, 56, 57, 58, 59, 60, 61, 62, 63, 64, 65, 66, 67, 68, 69, 70, 71, 72, 73, 74, 75, 76, 77, 78, 79, 80, 81, 82, 83, 84, 85, 115, 116, 117, 118, 119, 120] (by decide +kernel) (by decide +kernel)
set_option maxRecDepth 20000 in
theorem gX5_readKeep_X6_isWord : GoodIn wsX5_readKeep (wsV RX5 98 RX6 yX6_isWord wsX6_isWord) := goodIn_app (goodIn_of _ (by decide +kernel)) ggX5_readKeep_X6_isWord
set_option maxRecDepth 20000 in
theorem ggX5_readKeep_X5_expectSign : GoodIn wsX5_readKeep wsX5_expectSign := goodIn_r _ [90, 1, 2, 4, 5, 6, 7, 8, 9, 10, 11, 12, 13, 14, 15, 16, 17, 18, 19, 20, 21, 22, 23, 24, 25, 26, 27, 28, 29, 30, 31, 32, 91, 92, 93, 94, 95, 96, 97, 89, 98, 99, 100, 101, 102, 103, 104, 105, 106, 107, 108, 109, 110, 111, 112, 113, 114, 115, 116, 117, 118, 119, 120] (by decide +kernel) (by decide +kernel)
set_option maxRecDepth 20000 in
theorem gX5_readKeep_X5_expectSign : GoodIn wsX5_readKeep (wsV RX5 75 RX5 yX5_expectSign wsX5_expectSign) := goodIn_app (goodIn_of _ (by decide +kernel)) ggX5_readKeep_X5_expectSign
set_option maxRecDepth 20000 in
theorem ggX5_readKeep_X6_isSign : GoodIn wsX5_readKeep wsX6_isSign := goodIn_r _ [94, 12, 11, 13, 14, 15, 7, 16, 10, 17, 115, 116, 117, 118, 119, 120] (by decide +kernel) (by decide +kernel)
set_option maxRecDepth 20000 in
theorem gX5_readKeep_X6_isSign : GoodIn wsX5_readKeep (wsV RX5 105 RX6 yX6_isSign wsX6_isSign) := goodIn_app (goodIn_of _ (by decide +kernel)) ggX5_readKeep_X6_isSign
set_option maxRecDepth 20000 in
theorem ggX5_readKeep_X5_fail : GoodIn wsX5_readKeep wsX5_fail := goodIn_r _ [98, 1, 2, 99, 100, 101, 102, 103, 104, 105, 106, 107, 108, 109, 110, 111, 112, 113, 114, 115, 116, 117, 118, 119, 120] (by decide +kernel) (by decide +kernel)
set_option maxRecDepth 20000 in
theorem gX5_readKeep_X5_fail : GoodIn wsX5_readKeep (wsV RX5 102 RX5 yX5_fail wsX5_fail) := goodIn_app (goodIn_of _ (by decide +kernel)) ggX5_readKeep_X5_fail
theorem dX5_readKeep_0 : decode cX5_readKeep 0 = .ok (.aload_n 0, 1) := by decide +kernel
theorem dX5_readKeep_1 : decode cX5_readKeep 1 = .ok (.getfield 44, 3) := by decide +kernel
theorem dX5_readKeep_4 : decode cX5_readKeep 4 = .ok (.ifCond .eq 4, 3) := by decide +kernel
theorem dX5_readKeep_7 : decode cX5_readKeep 7 = .ok (.return_, 1) := by decide +kernel
theorem dX5_readKeep_8 : decode cX5_readKeep 8 = .ok (.aload_n 0, 1) := by decide +kernel
theorem dX5_readKeep_9 : decode cX5_readKeep 9 = .ok (.getfield 55, 3) := by decide +kernel
theorem dX5_readKeep_12 : decode cX5_readKeep 12 = .ok (.invokevirtual 93, 3) := by decide +kernel
theorem dX5_readKeep_15 : decode cX5_readKeep 15 = .ok (.aload_n 0, 1) := by decide +kernel
theorem dX5_readKeep_16 : decode cX5_readKeep 16 = .ok (.aload_n 0, 1) := by decide +kernel
theorem dX5_readKeep_17 : decode cX5_readKeep 17 = .ok (.getfield 55, 3) := by decide +kernel
theorem dX5_readKeep_20 : decode cX5_readKeep 20 = .ok (.ldc 154, 2) := by decide +kernel
theorem dX5_readKeep_22 : decode cX5_readKeep 22 = .ok (.invokevirtual 98, 3) := by decide +kernel
theorem dX5_readKeep_25 : decode cX5_readKeep 25 = .ok (.putfield 41, 3) := by decide +kernel
theorem dX5_readKeep_28 : decode cX5_readKeep 28 = .ok (.aload_n 0, 1) := by decide +kernel
theorem dX5_readKeep_29 : decode cX5_readKeep 29 = .ok (.getfield 41, 3) := by decide +kernel
theorem dX5_readKeep_32 : decode cX5_readKeep 32 = .ok (.ifCond .eq 12, 3) := by decide +kernel
theorem dX5_readKeep_35 : decode cX5_readKeep 35 = .ok (.aload_n 0, 1) := by decide +kernel
theorem dX5_readKeep_36 : decode cX5_readKeep 36 = .ok (.bipush 59, 2) := by decide +kernel
theorem dX5_readKeep_38 : decode cX5_readKeep 38 = .ok (.invokevirtual 75, 3) := by decide +kernel
theorem dX5_readKeep_41 : decode cX5_readKeep 41 = .ok (.goto 20, 3) := by decide +kernel
theorem dX5_readKeep_44 : decode cX5_readKeep 44 = .ok (.aload_n 0, 1) := by decide +kernel
theorem dX5_readKeep_45 : decode cX5_readKeep 45 = .ok (.getfield 55, 3) := by decide +kernel
theorem dX5_readKeep_48 : decode cX5_readKeep 48 = .ok (.bipush 59, 2) := by decide +kernel
theorem dX5_readKeep_50 : decode cX5_readKeep 50 = .ok (.invokevirtual 105, 3) := by decide +kernel
theorem dX5_readKeep_53 : decode cX5_readKeep 53 = .ok (.ifCond .ne 8, 3) := by decide +kernel
theorem dX5_readKeep_56 : decode cX5_readKeep 56 = .ok (.aload_n 0, 1) := by decide +kernel
theorem dX5_readKeep_57 : decode cX5_readKeep 57 = .ok (.iconst 1, 1) := by decide +kernel
theorem dX5_readKeep_58 : decode cX5_readKeep 58 = .ok (.invokevirtual 102, 3) := by decide +kernel
theorem dX5_readKeep_61 : decode cX5_readKeep 61 = .ok (.return_, 1) := by decide +kernel
set_option maxRecDepth 20000 in
theorem ggX5_execute_X3_settleAll : GoodIn wsX5_execute wsX3_settleAll := goodIn_r _ [11, 12, 13, 14, 15, 16, 17, 18, 19, 20, 21, 22, 10, 23, 24, 25, 26, 27, 28, 29, 30, 31, 32, 33, 34, 35, 36, 37, 38, 39, 40, 41, 42, 43, 44, 45, 46, 47, 48, 49, 50, 51, 52, 53, 54, 55, 56, 57, 58, 59, 60, 61, 62, 63, 64, 65, 66, 67, 68, 69, 70, 160, 161, 162, 163, 164, 165, 166, 167, 168, 169, 170, 171, 172, 173, 174, 175, 176, 177] (by decide +kernel) (by decide +kernel)
set_option maxRecDepth 20000 in
theorem gX5_execute_X3_settleAll : GoodIn wsX5_execute (wsV RX5 156 RX3 yX3_settleAll wsX3_settleAll) := goodIn_app (goodIn_of _ (by decide +kernel)) ggX5_execute_X3_settleAll
set_option maxRecDepth 20000 in
theorem ggX5_execute_X3_hasRoom : GoodIn wsX5_execute wsX3_hasRoom := goodIn_r _ [74, 12, 160, 161, 162] (by decide +kernel) (by decide +kernel)
set_option maxRecDepth 20000 in
theorem gX5_execute_X3_hasRoom : GoodIn wsX5_execute (wsV RX5 159 RX3 yX3_hasRoom wsX3_hasRoom) := goodIn_app (goodIn_of _ (by decide +kernel)) ggX5_execute_X3_hasRoom
set_option maxRecDepth 20000 in
theorem ggX5_execute_X3_addLoan : GoodIn wsX5_execute wsX3_addLoan := goodIn_r _ [78, 12, 13, 79, 80, 81, 17, 82, 83, 19, 34, 46, 56, 41, 84, 33, 40, 51, 85, 86, 87, 88, 89, 30, 31, 32, 35, 90, 91, 92, 93, 160, 161, 162, 163, 164, 165, 166, 167, 168, 169, 170, 171, 172] (by decide +kernel) (by decide +kernel)
set_option maxRecDepth 20000 in
theorem gX5_execute_X3_addLoan : GoodIn wsX5_execute (wsV RX5 163 RX3 yX3_addLoan wsX3_addLoan) := goodIn_app (goodIn_of _ (by decide +kernel)) ggX5_execute_X3_addLoan
set_option maxRecDepth 20000 in
theorem ggX5_execute_X3_has : GoodIn wsX5_execute wsX3_has := goodIn_r _ [28, 12, 160, 161, 162] (by decide +kernel) (by decide +kernel)
set_option maxRecDepth 20000 in
theorem gX5_execute_X3_has : GoodIn wsX5_execute (wsV RX5 167 RX3 yX3_has wsX3_has) := goodIn_app (goodIn_of _ (by decide +kernel)) ggX5_execute_X3_has
set_option maxRecDepth 20000 in
theorem ggX5_execute_X5_isPossible : GoodIn wsX5_execute wsX5_isPossible := goodIn_r _ [99, 4, 100, 101, 102, 17, 103, 19, 104, 105, 106, 107, 84, 108, 89, 30, 31, 32, 33, 34, 35, 109, 110, 111, 112, 40, 113, 15, 16, 18, 146, 147, 148, 149, 150, 151, 152, 153, 154, 155, 156, 157, 158, 159, 163, 164, 165, 166, 167, 168, 169, 170, 171, 172] (by decide +kernel) (by decide +kernel)
set_option maxRecDepth 20000 in
theorem gX5_execute_X5_isPossible : GoodIn wsX5_execute (wsV RX5 174 RX5 yX5_isPossible wsX5_isPossible) := goodIn_app (goodIn_of _ (by decide +kernel)) ggX5_execute_X5_isPossible
set_option maxRecDepth 20000 in
theorem ggX5_execute_X5_change : GoodIn wsX5_execute wsX5_change := goodIn_r _ [117, 2, 3, 4, 118, 119, 120, 121, 21, 22, 10, 23, 13, 24, 25, 26, 27, 28, 12, 29, 30, 31, 17, 32, 19, 33, 34, 35, 36, 37, 38, 39, 40, 41, 42, 43, 44, 45, 46, 47, 48, 49, 50, 51, 52, 53, 54, 55, 56, 57, 58, 59, 60, 61, 62, 63, 64, 65, 66, 67, 68, 69, 70, 122, 123, 124, 125, 126, 127, 128, 129, 85, 86, 87, 88, 89, 90, 91, 92, 93, 130, 131, 132, 133, 84, 134, 135, 136, 137, 146, 147, 148, 149, 150, 151, 152, 153, 154, 155, 156, 157, 158, 159, 163, 164, 165, 166, 167, 168, 169, 170, 171, 172, 160, 161, 162, 173, 174, 175, 176, 177] (by decide +kernel) (by decide +kernel)
set_option maxRecDepth 20000 in
theorem gX5_execute_X5_change : GoodIn wsX5_execute (wsV RX5 178 RX5 yX5_change wsX5_change) := goodIn_app (goodIn_of _ (by decide +kernel)) ggX5_execute_X5_change
set_option maxRecDepth 20000 in
theorem ggX5_execute_X5_fail : GoodIn wsX5_execute wsX5_fail := goodIn_r _ [141, 142, 143, 144, 145, 146, 147, 148, 149, 150, 151, 152, 153, 154, 155, 156, 157, 158, 159, 178, 179, 180, 181, 182, 183] (by decide +kernel) (by decide +kernel)
set_option maxRecDepth 20000 in
theorem gX5_execute_X5_fail : GoodIn wsX5_execute (wsV RX5 102 RX5 yX5_fail wsX5_fail) := goodIn_app (goodIn_of _ (by decide +kernel)) ggX5_execute_X5_fail
theorem dX5_execute_0 : decode cX5_execute 0 = .ok (.aload_n 0, 1) := by decide +kernel
theorem dX5_execute_1 : decode cX5_execute 1 = .ok (.dup, 1) := by decide +kernel
theorem dX5_execute_2 : decode cX5_execute 2 = .ok (.getfield 15, 3) := by decide +kernel
theorem dX5_execute_5 : decode cX5_execute 5 = .ok (.iconst 1, 1) := by decide +kernel
theorem dX5_execute_6 : decode cX5_execute 6 = .ok (.iadd, 1) := by decide +kernel
theorem dX5_execute_7 : decode cX5_execute 7 = .ok (.putfield 15, 3) := by decide +kernel
theorem dX5_execute_10 : decode cX5_execute 10 = .ok (.iload_n 1, 1) := by decide +kernel
theorem dX5_execute_11 : decode cX5_execute 11 = .ok (.iconst 3, 1) := by decide +kernel
theorem dX5_execute_12 : decode cX5_execute 12 = .ok (.if_icmp .ne 14, 3) := by decide +kernel
theorem dX5_execute_15 : decode cX5_execute 15 = .ok (.aload_n 0, 1) := by decide +kernel
theorem dX5_execute_16 : decode cX5_execute 16 = .ok (.getfield 59, 3) := by decide +kernel
theorem dX5_execute_19 : decode cX5_execute 19 = .ok (.invokevirtual 156, 3) := by decide +kernel
theorem dX5_execute_22 : decode cX5_execute 22 = .ok (.pop, 1) := by decide +kernel
theorem dX5_execute_23 : decode cX5_execute 23 = .ok (.goto 104, 3) := by decide +kernel
theorem dX5_execute_26 : decode cX5_execute 26 = .ok (.iload_n 1, 1) := by decide +kernel
theorem dX5_execute_27 : decode cX5_execute 27 = .ok (.iconst 1, 1) := by decide +kernel
theorem dX5_execute_28 : decode cX5_execute 28 = .ok (.if_icmp .ne 35, 3) := by decide +kernel
theorem dX5_execute_31 : decode cX5_execute 31 = .ok (.aload_n 0, 1) := by decide +kernel
theorem dX5_execute_32 : decode cX5_execute 32 = .ok (.getfield 59, 3) := by decide +kernel
theorem dX5_execute_35 : decode cX5_execute 35 = .ok (.invokevirtual 159, 3) := by decide +kernel
theorem dX5_execute_38 : decode cX5_execute 38 = .ok (.ifCond .eq 25, 3) := by decide +kernel
theorem dX5_execute_41 : decode cX5_execute 41 = .ok (.aload_n 0, 1) := by decide +kernel
theorem dX5_execute_42 : decode cX5_execute 42 = .ok (.getfield 59, 3) := by decide +kernel
theorem dX5_execute_45 : decode cX5_execute 45 = .ok (.aload_n 0, 1) := by decide +kernel
theorem dX5_execute_46 : decode cX5_execute 46 = .ok (.getfield 32, 3) := by decide +kernel
theorem dX5_execute_49 : decode cX5_execute 49 = .ok (.aload_n 0, 1) := by decide +kernel
theorem dX5_execute_50 : decode cX5_execute 50 = .ok (.getfield 35, 3) := by decide +kernel
theorem dX5_execute_53 : decode cX5_execute 53 = .ok (.aload_n 0, 1) := by decide +kernel
theorem dX5_execute_54 : decode cX5_execute 54 = .ok (.getfield 38, 3) := by decide +kernel
theorem dX5_execute_57 : decode cX5_execute 57 = .ok (.invokevirtual 163, 3) := by decide +kernel
theorem dX5_execute_60 : decode cX5_execute 60 = .ok (.goto 67, 3) := by decide +kernel
theorem dX5_execute_63 : decode cX5_execute 63 = .ok (.iload_n 1, 1) := by decide +kernel
theorem dX5_execute_64 : decode cX5_execute 64 = .ok (.iconst 1, 1) := by decide +kernel
theorem dX5_execute_65 : decode cX5_execute 65 = .ok (.if_icmp .eq 57, 3) := by decide +kernel
theorem dX5_execute_68 : decode cX5_execute 68 = .ok (.aload_n 0, 1) := by decide +kernel
theorem dX5_execute_69 : decode cX5_execute 69 = .ok (.getfield 59, 3) := by decide +kernel
theorem dX5_execute_72 : decode cX5_execute 72 = .ok (.aload_n 0, 1) := by decide +kernel
theorem dX5_execute_73 : decode cX5_execute 73 = .ok (.getfield 32, 3) := by decide +kernel
theorem dX5_execute_76 : decode cX5_execute 76 = .ok (.invokevirtual 167, 3) := by decide +kernel
theorem dX5_execute_79 : decode cX5_execute 79 = .ok (.ifCond .eq 43, 3) := by decide +kernel
theorem dX5_execute_82 : decode cX5_execute 82 = .ok (.aload_n 0, 1) := by decide +kernel
theorem dX5_execute_83 : decode cX5_execute 83 = .ok (.iload_n 1, 1) := by decide +kernel
theorem dX5_execute_84 : decode cX5_execute 84 = .ok (.aload_n 0, 1) := by decide +kernel
theorem dX5_execute_85 : decode cX5_execute 85 = .ok (.getfield 59, 3) := by decide +kernel
theorem dX5_execute_88 : decode cX5_execute 88 = .ok (.getfield 171, 3) := by decide +kernel
theorem dX5_execute_91 : decode cX5_execute 91 = .ok (.aload_n 0, 1) := by decide +kernel
theorem dX5_execute_92 : decode cX5_execute 92 = .ok (.getfield 32, 3) := by decide +kernel
theorem dX5_execute_95 : decode cX5_execute 95 = .ok (.aaload, 1) := by decide +kernel
theorem dX5_execute_96 : decode cX5_execute 96 = .ok (.invokevirtual 174, 3) := by decide +kernel
theorem dX5_execute_99 : decode cX5_execute 99 = .ok (.ifCond .eq 23, 3) := by decide +kernel
theorem dX5_execute_102 : decode cX5_execute 102 = .ok (.aload_n 0, 1) := by decide +kernel
theorem dX5_execute_103 : decode cX5_execute 103 = .ok (.iload_n 1, 1) := by decide +kernel
theorem dX5_execute_104 : decode cX5_execute 104 = .ok (.aload_n 0, 1) := by decide +kernel
theorem dX5_execute_105 : decode cX5_execute 105 = .ok (.getfield 59, 3) := by decide +kernel
theorem dX5_execute_108 : decode cX5_execute 108 = .ok (.getfield 171, 3) := by decide +kernel
theorem dX5_execute_111 : decode cX5_execute 111 = .ok (.aload_n 0, 1) := by decide +kernel
theorem dX5_execute_112 : decode cX5_execute 112 = .ok (.getfield 32, 3) := by decide +kernel
theorem dX5_execute_115 : decode cX5_execute 115 = .ok (.aaload, 1) := by decide +kernel
theorem dX5_execute_116 : decode cX5_execute 116 = .ok (.invokevirtual 178, 3) := by decide +kernel
theorem dX5_execute_119 : decode cX5_execute 119 = .ok (.goto 8, 3) := by decide +kernel
theorem dX5_execute_122 : decode cX5_execute 122 = .ok (.aload_n 0, 1) := by decide +kernel
theorem dX5_execute_123 : decode cX5_execute 123 = .ok (.iconst 3, 1) := by decide +kernel
theorem dX5_execute_124 : decode cX5_execute 124 = .ok (.invokevirtual 102, 3) := by decide +kernel
theorem dX5_execute_127 : decode cX5_execute 127 = .ok (.return_, 1) := by decide +kernel
set_option maxRecDepth 20000 in
theorem ggX5_isPossible_X2_canReduce : GoodIn wsX5_isPossible wsX2_canReduce := goodIn_r _ [6, 7, 44, 45, 46, 47, 48, 49, 50, 51, 52, 53] (by decide +kernel) (by decide +kernel)
set_option maxRecDepth 20000 in
theorem gX5_isPossible_X2_canReduce : GoodIn wsX5_isPossible (wsV RX5 182 RX2 yX2_canReduce wsX2_canReduce) := goodIn_app (goodIn_of _ (by decide +kernel)) ggX5_isPossible_X2_canReduce
set_option maxRecDepth 20000 in
theorem ggX5_isPossible_X2_canDefer : GoodIn wsX5_isPossible wsX2_canDefer := goodIn_r _ [11, 7, 12, 13, 14, 15, 16, 5, 17, 18, 19, 20, 44, 45, 46, 47, 48, 49, 50, 51, 52, 53] (by decide +kernel) (by decide +kernel)
set_option maxRecDepth 20000 in
theorem gX5_isPossible_X2_canDefer : GoodIn wsX5_isPossible (wsV RX5 187 RX2 yX2_canDefer wsX2_canDefer) := goodIn_app (goodIn_of _ (by decide +kernel)) ggX5_isPossible_X2_canDefer
set_option maxRecDepth 20000 in
theorem ggX5_isPossible_X2_canLengthen : GoodIn wsX5_isPossible wsX2_canLengthen := goodIn_r _ [24, 7, 25, 44, 45, 46, 47, 48, 49, 50, 51, 52, 53] (by decide +kernel) (by decide +kernel)
set_option maxRecDepth 20000 in
theorem gX5_isPossible_X2_canLengthen : GoodIn wsX5_isPossible (wsV RX5 190 RX2 yX2_canLengthen wsX2_canLengthen) := goodIn_app (goodIn_of _ (by decide +kernel)) ggX5_isPossible_X2_canLengthen
set_option maxRecDepth 20000 in
theorem ggX5_isPossible_X2_isRunning : GoodIn wsX5_isPossible wsX2_isRunning := goodIn_r _ [29, 7, 44, 45, 46, 47, 48, 49, 50, 51, 52, 53] (by decide +kernel) (by decide +kernel)
set_option maxRecDepth 20000 in
theorem gX5_isPossible_X2_isRunning : GoodIn wsX5_isPossible (wsV RX5 193 RX2 yX2_isRunning wsX2_isRunning) := goodIn_app (goodIn_of _ (by decide +kernel)) ggX5_isPossible_X2_isRunning
theorem dX5_isPossible_0 : decode cX5_isPossible 0 = .ok (.iload_n 1, 1) := by decide +kernel
theorem dX5_isPossible_1 : decode cX5_isPossible 1 = .ok (.tableswitch 54 4 7 #[31, 40, 54, 45], 31) := by decide +kernel
theorem dX5_isPossible_32 : decode cX5_isPossible 32 = .ok (.aload_n 2, 1) := by decide +kernel
theorem dX5_isPossible_33 : decode cX5_isPossible 33 = .ok (.aload_n 0, 1) := by decide +kernel
theorem dX5_isPossible_34 : decode cX5_isPossible 34 = .ok (.getfield 35, 3) := by decide +kernel
theorem dX5_isPossible_37 : decode cX5_isPossible 37 = .ok (.invokevirtual 182, 3) := by decide +kernel
theorem dX5_isPossible_40 : decode cX5_isPossible 40 = .ok (.ireturn, 1) := by decide +kernel
theorem dX5_isPossible_41 : decode cX5_isPossible 41 = .ok (.aload_n 2, 1) := by decide +kernel
theorem dX5_isPossible_42 : decode cX5_isPossible 42 = .ok (.invokevirtual 187, 3) := by decide +kernel
theorem dX5_isPossible_45 : decode cX5_isPossible 45 = .ok (.ireturn, 1) := by decide +kernel
theorem dX5_isPossible_46 : decode cX5_isPossible 46 = .ok (.aload_n 2, 1) := by decide +kernel
theorem dX5_isPossible_47 : decode cX5_isPossible 47 = .ok (.aload_n 0, 1) := by decide +kernel
theorem dX5_isPossible_48 : decode cX5_isPossible 48 = .ok (.getfield 35, 3) := by decide +kernel
theorem dX5_isPossible_51 : decode cX5_isPossible 51 = .ok (.invokevirtual 190, 3) := by decide +kernel
theorem dX5_isPossible_54 : decode cX5_isPossible 54 = .ok (.ireturn, 1) := by decide +kernel
theorem dX5_isPossible_55 : decode cX5_isPossible 55 = .ok (.aload_n 2, 1) := by decide +kernel
theorem dX5_isPossible_56 : decode cX5_isPossible 56 = .ok (.invokevirtual 193, 3) := by decide +kernel
theorem dX5_isPossible_59 : decode cX5_isPossible 59 = .ok (.ireturn, 1) := by decide +kernel
set_option maxRecDepth 20000 in
theorem ggX5_change_X3_settle : GoodIn wsX5_change wsX3_settle := goodIn_r _ [11, 12, 13, 14, 15, 16, 10, 17, 18, 19, 20, 21, 22, 23, 24, 25, 26, 27, 28, 29, 30, 31, 32, 33, 34, 35, 36, 37, 38, 39, 40, 41, 42, 43, 44, 45, 46, 47, 48, 49, 50, 51, 52, 53, 54, 55, 56, 57, 58, 59, 60, 61, 62, 113, 114, 115, 103, 104, 105, 106, 107, 108, 109, 110, 111, 112, 116, 117, 118, 119, 120] (by decide +kernel) (by decide +kernel)
set_option maxRecDepth 20000 in
theorem gX5_change_X3_settle : GoodIn wsX5_change (wsV RX5 196 RX3 yX3_settle wsX3_settle) := goodIn_app (goodIn_of _ (by decide +kernel)) ggX5_change_X3_settle
set_option maxRecDepth 20000 in
theorem ggX5_change_X3_reduce : GoodIn wsX5_change wsX3_reduce := goodIn_r _ [66, 12, 13, 14, 15, 16, 10, 17, 18, 67, 68, 69, 22, 70, 24, 32, 43, 44, 45, 46, 47, 48, 26, 71, 72, 73, 74, 75, 20, 21, 23, 25, 27, 76, 77, 78, 79, 49, 50, 51, 52, 53, 54, 55, 56, 57, 58, 59, 60, 61, 62, 113, 114, 115, 103, 104, 105, 106, 107, 108, 109, 110, 111, 112, 116, 117, 118, 119, 120] (by decide +kernel) (by decide +kernel)
set_option maxRecDepth 20000 in
theorem gX5_change_X3_reduce : GoodIn wsX5_change (wsV RX5 200 RX3 yX3_reduce wsX3_reduce) := goodIn_app (goodIn_of _ (by decide +kernel)) ggX5_change_X3_reduce
set_option maxRecDepth 20000 in
theorem ggX5_change_X2_defer : GoodIn wsX5_change wsX2_defer := goodIn_r _ [83, 84, 32, 43, 34, 35, 36, 22, 37, 24, 25, 26, 27, 38, 71, 72, 73, 74, 75, 20, 21, 23, 76, 77, 78, 79, 103, 104, 105, 106, 107, 108, 109, 110, 111, 112] (by decide +kernel) (by decide +kernel)
set_option maxRecDepth 20000 in
theorem gX5_change_X2_defer : GoodIn wsX5_change (wsV RX5 204 RX2 yX2_defer wsX2_defer) := goodIn_app (goodIn_of _ (by decide +kernel)) ggX5_change_X2_defer
set_option maxRecDepth 20000 in
theorem ggX5_change_X2_setTerms : GoodIn wsX5_change wsX2_setTerms := goodIn_r _ [88, 25, 32, 43, 71, 72, 73, 22, 74, 24, 75, 20, 21, 23, 26, 27, 76, 77, 78, 79, 103, 104, 105, 106, 107, 108, 109, 110, 111, 112] (by decide +kernel) (by decide +kernel)
set_option maxRecDepth 20000 in
theorem gX5_change_X2_setTerms : GoodIn wsX5_change (wsV RX5 210 RX2 yX2_setTerms wsX2_setTerms) := goodIn_app (goodIn_of _ (by decide +kernel)) ggX5_change_X2_setTerms
theorem dX5_change_0 : decode cX5_change 0 = .ok (.iload_n 1, 1) := by decide +kernel
theorem dX5_change_1 : decode cX5_change 1 = .ok (.tableswitch 96 2 6 #[35, 96, 50, 72, 80], 35) := by decide +kernel
theorem dX5_change_36 : decode cX5_change 36 = .ok (.aload_n 0, 1) := by decide +kernel
theorem dX5_change_37 : decode cX5_change 37 = .ok (.getfield 59, 3) := by decide +kernel
theorem dX5_change_40 : decode cX5_change 40 = .ok (.aload_n 0, 1) := by decide +kernel
theorem dX5_change_41 : decode cX5_change 41 = .ok (.getfield 32, 3) := by decide +kernel
theorem dX5_change_44 : decode cX5_change 44 = .ok (.invokevirtual 196, 3) := by decide +kernel
theorem dX5_change_47 : decode cX5_change 47 = .ok (.pop, 1) := by decide +kernel
theorem dX5_change_48 : decode cX5_change 48 = .ok (.goto 67, 3) := by decide +kernel
theorem dX5_change_51 : decode cX5_change 51 = .ok (.aload_n 0, 1) := by decide +kernel
theorem dX5_change_52 : decode cX5_change 52 = .ok (.getfield 59, 3) := by decide +kernel
theorem dX5_change_55 : decode cX5_change 55 = .ok (.aload_n 0, 1) := by decide +kernel
theorem dX5_change_56 : decode cX5_change 56 = .ok (.getfield 32, 3) := by decide +kernel
theorem dX5_change_59 : decode cX5_change 59 = .ok (.aload_n 0, 1) := by decide +kernel
theorem dX5_change_60 : decode cX5_change 60 = .ok (.getfield 35, 3) := by decide +kernel
theorem dX5_change_63 : decode cX5_change 63 = .ok (.aload_n 0, 1) := by decide +kernel
theorem dX5_change_64 : decode cX5_change 64 = .ok (.getfield 41, 3) := by decide +kernel
theorem dX5_change_67 : decode cX5_change 67 = .ok (.invokevirtual 200, 3) := by decide +kernel
theorem dX5_change_70 : decode cX5_change 70 = .ok (.goto 45, 3) := by decide +kernel
theorem dX5_change_73 : decode cX5_change 73 = .ok (.aload_n 2, 1) := by decide +kernel
theorem dX5_change_74 : decode cX5_change 74 = .ok (.invokevirtual 204, 3) := by decide +kernel
theorem dX5_change_77 : decode cX5_change 77 = .ok (.pop, 1) := by decide +kernel
theorem dX5_change_78 : decode cX5_change 78 = .ok (.goto 37, 3) := by decide +kernel
theorem dX5_change_81 : decode cX5_change 81 = .ok (.aload_n 2, 1) := by decide +kernel
theorem dX5_change_82 : decode cX5_change 82 = .ok (.aload_n 0, 1) := by decide +kernel
theorem dX5_change_83 : decode cX5_change 83 = .ok (.getfield 35, 3) := by decide +kernel
theorem dX5_change_86 : decode cX5_change 86 = .ok (.aload_n 2, 1) := by decide +kernel
theorem dX5_change_87 : decode cX5_change 87 = .ok (.getfield 207, 3) := by decide +kernel
theorem dX5_change_90 : decode cX5_change 90 = .ok (.invokevirtual 210, 3) := by decide +kernel
theorem dX5_change_93 : decode cX5_change 93 = .ok (.pop, 1) := by decide +kernel
theorem dX5_change_94 : decode cX5_change 94 = .ok (.goto 21, 3) := by decide +kernel
theorem dX5_change_97 : decode cX5_change 97 = .ok (.aload_n 2, 1) := by decide +kernel
theorem dX5_change_98 : decode cX5_change 98 = .ok (.aload_n 2, 1) := by decide +kernel
theorem dX5_change_99 : decode cX5_change 99 = .ok (.getfield 213, 3) := by decide +kernel
theorem dX5_change_102 : decode cX5_change 102 = .ok (.aload_n 2, 1) := by decide +kernel
theorem dX5_change_103 : decode cX5_change 103 = .ok (.getfield 207, 3) := by decide +kernel
theorem dX5_change_106 : decode cX5_change 106 = .ok (.aload_n 0, 1) := by decide +kernel
theorem dX5_change_107 : decode cX5_change 107 = .ok (.getfield 35, 3) := by decide +kernel
theorem dX5_change_110 : decode cX5_change 110 = .ok (.iadd, 1) := by decide +kernel
theorem dX5_change_111 : decode cX5_change 111 = .ok (.invokevirtual 210, 3) := by decide +kernel
theorem dX5_change_114 : decode cX5_change 114 = .ok (.pop, 1) := by decide +kernel
theorem dX5_change_115 : decode cX5_change 115 = .ok (.return_, 1) := by decide +kernel
theorem dX6_init_0 : decode cX6_init 0 = .ok (.aload_n 0, 1) := by decide +kernel
theorem dX6_init_1 : decode cX6_init 1 = .ok (.invokespecial 3, 3) := by decide +kernel
theorem dX6_init_4 : decode cX6_init 4 = .ok (.aload_n 0, 1) := by decide +kernel
theorem dX6_init_5 : decode cX6_init 5 = .ok (.iconst 0, 1) := by decide +kernel
theorem dX6_init_6 : decode cX6_init 6 = .ok (.putfield 9, 3) := by decide +kernel
theorem dX6_init_9 : decode cX6_init 9 = .ok (.aload_n 0, 1) := by decide +kernel
theorem dX6_init_10 : decode cX6_init 10 = .ok (.iconst 0, 1) := by decide +kernel
theorem dX6_init_11 : decode cX6_init 11 = .ok (.putfield 15, 3) := by decide +kernel
theorem dX6_init_14 : decode cX6_init 14 = .ok (.aload_n 0, 1) := by decide +kernel
theorem dX6_init_15 : decode cX6_init 15 = .ok (.iconst 0, 1) := by decide +kernel
theorem dX6_init_16 : decode cX6_init 16 = .ok (.putfield 18, 3) := by decide +kernel
theorem dX6_init_19 : decode cX6_init 19 = .ok (.aload_n 0, 1) := by decide +kernel
theorem dX6_init_20 : decode cX6_init 20 = .ok (.iconst 0, 1) := by decide +kernel
theorem dX6_init_21 : decode cX6_init 21 = .ok (.putfield 21, 3) := by decide +kernel
theorem dX6_init_24 : decode cX6_init 24 = .ok (.aload_n 0, 1) := by decide +kernel
theorem dX6_init_25 : decode cX6_init 25 = .ok (.iconst 0, 1) := by decide +kernel
theorem dX6_init_26 : decode cX6_init 26 = .ok (.putfield 24, 3) := by decide +kernel
theorem dX6_init_29 : decode cX6_init 29 = .ok (.aload_n 0, 1) := by decide +kernel
theorem dX6_init_30 : decode cX6_init 30 = .ok (.aload_n 1, 1) := by decide +kernel
theorem dX6_init_31 : decode cX6_init 31 = .ok (.putfield 27, 3) := by decide +kernel
theorem dX6_init_34 : decode cX6_init 34 = .ok (.return_, 1) := by decide +kernel
theorem dX6_rewind_0 : decode cX6_rewind 0 = .ok (.aload_n 0, 1) := by decide +kernel
theorem dX6_rewind_1 : decode cX6_rewind 1 = .ok (.iload_n 1, 1) := by decide +kernel
theorem dX6_rewind_2 : decode cX6_rewind 2 = .ok (.aload_n 0, 1) := by decide +kernel
theorem dX6_rewind_3 : decode cX6_rewind 3 = .ok (.getfield 27, 3) := by decide +kernel
theorem dX6_rewind_6 : decode cX6_rewind 6 = .ok (.arraylength, 1) := by decide +kernel
theorem dX6_rewind_7 : decode cX6_rewind 7 = .ok (.invokestatic 31, 3) := by decide +kernel
theorem dX6_rewind_10 : decode cX6_rewind 10 = .ok (.putfield 9, 3) := by decide +kernel
theorem dX6_rewind_13 : decode cX6_rewind 13 = .ok (.aload_n 0, 1) := by decide +kernel
theorem dX6_rewind_14 : decode cX6_rewind 14 = .ok (.iconst 0, 1) := by decide +kernel
theorem dX6_rewind_15 : decode cX6_rewind 15 = .ok (.putfield 15, 3) := by decide +kernel
theorem dX6_rewind_18 : decode cX6_rewind 18 = .ok (.return_, 1) := by decide +kernel
set_option maxRecDepth 20000 in
theorem ggX6_advance_X6_byteAt : GoodIn wsX6_advance wsX6_byteAt := goodIn_r _ [9, 2, 10, 26, 27, 28, 29, 30, 31] (by decide +kernel) (by decide +kernel)
set_option maxRecDepth 20000 in
theorem gX6_advance_X6_byteAt : GoodIn wsX6_advance (wsV RX6 37 RX6 yX6_byteAt wsX6_byteAt) := goodIn_app (goodIn_of _ (by decide +kernel)) ggX6_advance_X6_byteAt
set_option maxRecDepth 20000 in
theorem ggX6_advance_X6_isLetter : GoodIn wsX6_advance wsX6_isLetter := goodIn_r _ [13] (by decide +kernel) (by decide +kernel)
set_option maxRecDepth 20000 in
theorem gX6_advance_X6_isLetter : GoodIn wsX6_advance (va_wsS RX6 41 yX6_isLetter wsX6_isLetter) := goodIn_app (goodIn_of _ (by decide +kernel)) ggX6_advance_X6_isLetter
set_option maxRecDepth 20000 in
theorem ggX6_advance_X6_readWord : GoodIn wsX6_advance wsX6_readWord := goodIn_r _ [17, 4, 1, 2, 5, 6, 7, 8, 9, 10, 11, 12, 13, 26, 27, 28, 29, 30, 31] (by decide +kernel) (by decide +kernel)
set_option maxRecDepth 20000 in
theorem gX6_advance_X6_readWord : GoodIn wsX6_advance (wsV RX6 45 RX6 yX6_readWord wsX6_readWord) := goodIn_app (goodIn_of _ (by decide +kernel)) ggX6_advance_X6_readWord
set_option maxRecDepth 20000 in
theorem ggX6_advance_X6_isDigit : GoodIn wsX6_advance wsX6_isDigit := goodIn_r _ [20] (by decide +kernel) (by decide +kernel)
set_option maxRecDepth 20000 in
theorem gX6_advance_X6_isDigit : GoodIn wsX6_advance (va_wsS RX6 48 yX6_isDigit wsX6_isDigit) := goodIn_app (goodIn_of _ (by decide +kernel)) ggX6_advance_X6_isDigit
set_option maxRecDepth 20000 in
theorem ggX6_advance_X6_readDigits : GoodIn wsX6_advance wsX6_readDigits := goodIn_r _ [24, 25, 1, 2, 3, 4, 5, 6, 7, 8, 9, 10, 18, 19, 20, 26, 27, 28, 29, 30, 31] (by decide +kernel) (by decide +kernel)
set_option maxRecDepth 20000 in
theorem gX6_advance_X6_readDigits : GoodIn wsX6_advance (wsV RX6 51 RX6 yX6_readDigits wsX6_readDigits) := goodIn_app (goodIn_of _ (by decide +kernel)) ggX6_advance_X6_readDigits
theorem dX6_advance_0 : decode cX6_advance 0 = .ok (.aload_n 0, 1) := by decide +kernel
theorem dX6_advance_1 : decode cX6_advance 1 = .ok (.getfield 15, 3) := by decide +kernel
theorem dX6_advance_4 : decode cX6_advance 4 = .ok (.aload_n 0, 1) := by decide +kernel
theorem dX6_advance_5 : decode cX6_advance 5 = .ok (.getfield 9, 3) := by decide +kernel
theorem dX6_advance_8 : decode cX6_advance 8 = .ok (.if_icmp .ge 42, 3) := by decide +kernel
theorem dX6_advance_11 : decode cX6_advance 11 = .ok (.aload_n 0, 1) := by decide +kernel
theorem dX6_advance_12 : decode cX6_advance 12 = .ok (.aload_n 0, 1) := by decide +kernel
theorem dX6_advance_13 : decode cX6_advance 13 = .ok (.getfield 15, 3) := by decide +kernel
theorem dX6_advance_16 : decode cX6_advance 16 = .ok (.invokevirtual 37, 3) := by decide +kernel
theorem dX6_advance_19 : decode cX6_advance 19 = .ok (.bipush 32, 2) := by decide +kernel
theorem dX6_advance_21 : decode cX6_advance 21 = .ok (.if_icmp .eq 16, 3) := by decide +kernel
theorem dX6_advance_24 : decode cX6_advance 24 = .ok (.aload_n 0, 1) := by decide +kernel
theorem dX6_advance_25 : decode cX6_advance 25 = .ok (.aload_n 0, 1) := by decide +kernel
theorem dX6_advance_26 : decode cX6_advance 26 = .ok (.getfield 15, 3) := by decide +kernel
theorem dX6_advance_29 : decode cX6_advance 29 = .ok (.invokevirtual 37, 3) := by decide +kernel
theorem dX6_advance_32 : decode cX6_advance 32 = .ok (.bipush 10, 2) := by decide +kernel
theorem dX6_advance_34 : decode cX6_advance 34 = .ok (.if_icmp .ne 16, 3) := by decide +kernel
theorem dX6_advance_37 : decode cX6_advance 37 = .ok (.aload_n 0, 1) := by decide +kernel
theorem dX6_advance_38 : decode cX6_advance 38 = .ok (.dup, 1) := by decide +kernel
theorem dX6_advance_39 : decode cX6_advance 39 = .ok (.getfield 15, 3) := by decide +kernel
theorem dX6_advance_42 : decode cX6_advance 42 = .ok (.iconst 1, 1) := by decide +kernel
theorem dX6_advance_43 : decode cX6_advance 43 = .ok (.iadd, 1) := by decide +kernel
theorem dX6_advance_44 : decode cX6_advance 44 = .ok (.putfield 15, 3) := by decide +kernel
theorem dX6_advance_47 : decode cX6_advance 47 = .ok (.goto (-47), 3) := by decide +kernel
theorem dX6_advance_50 : decode cX6_advance 50 = .ok (.aload_n 0, 1) := by decide +kernel
theorem dX6_advance_51 : decode cX6_advance 51 = .ok (.aload_n 0, 1) := by decide +kernel
theorem dX6_advance_52 : decode cX6_advance 52 = .ok (.getfield 15, 3) := by decide +kernel
theorem dX6_advance_55 : decode cX6_advance 55 = .ok (.putfield 18, 3) := by decide +kernel
theorem dX6_advance_58 : decode cX6_advance 58 = .ok (.aload_n 0, 1) := by decide +kernel
theorem dX6_advance_59 : decode cX6_advance 59 = .ok (.aload_n 0, 1) := by decide +kernel
theorem dX6_advance_60 : decode cX6_advance 60 = .ok (.getfield 18, 3) := by decide +kernel
theorem dX6_advance_63 : decode cX6_advance 63 = .ok (.invokevirtual 37, 3) := by decide +kernel
theorem dX6_advance_66 : decode cX6_advance 66 = .ok (.istore_n 1, 1) := by decide +kernel
theorem dX6_advance_67 : decode cX6_advance 67 = .ok (.aload_n 0, 1) := by decide +kernel
theorem dX6_advance_68 : decode cX6_advance 68 = .ok (.getfield 18, 3) := by decide +kernel
theorem dX6_advance_71 : decode cX6_advance 71 = .ok (.aload_n 0, 1) := by decide +kernel
theorem dX6_advance_72 : decode cX6_advance 72 = .ok (.getfield 9, 3) := by decide +kernel
theorem dX6_advance_75 : decode cX6_advance 75 = .ok (.if_icmp .lt 11, 3) := by decide +kernel
theorem dX6_advance_78 : decode cX6_advance 78 = .ok (.aload_n 0, 1) := by decide +kernel
theorem dX6_advance_79 : decode cX6_advance 79 = .ok (.iconst 0, 1) := by decide +kernel
theorem dX6_advance_80 : decode cX6_advance 80 = .ok (.putfield 21, 3) := by decide +kernel
theorem dX6_advance_83 : decode cX6_advance 83 = .ok (.goto 68, 3) := by decide +kernel
theorem dX6_advance_86 : decode cX6_advance 86 = .ok (.iload_n 1, 1) := by decide +kernel
theorem dX6_advance_87 : decode cX6_advance 87 = .ok (.invokestatic 41, 3) := by decide +kernel
theorem dX6_advance_90 : decode cX6_advance 90 = .ok (.ifCond .eq 10, 3) := by decide +kernel
theorem dX6_advance_93 : decode cX6_advance 93 = .ok (.aload_n 0, 1) := by decide +kernel
theorem dX6_advance_94 : decode cX6_advance 94 = .ok (.invokevirtual 45, 3) := by decide +kernel
theorem dX6_advance_97 : decode cX6_advance 97 = .ok (.goto 54, 3) := by decide +kernel
theorem dX6_advance_100 : decode cX6_advance 100 = .ok (.iload_n 1, 1) := by decide +kernel
theorem dX6_advance_101 : decode cX6_advance 101 = .ok (.invokestatic 48, 3) := by decide +kernel
theorem dX6_advance_104 : decode cX6_advance 104 = .ok (.ifCond .eq 10, 3) := by decide +kernel
theorem dX6_advance_107 : decode cX6_advance 107 = .ok (.aload_n 0, 1) := by decide +kernel
theorem dX6_advance_108 : decode cX6_advance 108 = .ok (.invokevirtual 51, 3) := by decide +kernel
theorem dX6_advance_111 : decode cX6_advance 111 = .ok (.goto 40, 3) := by decide +kernel
theorem dX6_advance_114 : decode cX6_advance 114 = .ok (.aload_n 0, 1) := by decide +kernel
theorem dX6_advance_115 : decode cX6_advance 115 = .ok (.iload_n 1, 1) := by decide +kernel
theorem dX6_advance_116 : decode cX6_advance 116 = .ok (.bipush 40, 2) := by decide +kernel
theorem dX6_advance_118 : decode cX6_advance 118 = .ok (.if_icmp .eq 15, 3) := by decide +kernel
theorem dX6_advance_121 : decode cX6_advance 121 = .ok (.iload_n 1, 1) := by decide +kernel
theorem dX6_advance_122 : decode cX6_advance 122 = .ok (.bipush 41, 2) := by decide +kernel
theorem dX6_advance_124 : decode cX6_advance 124 = .ok (.if_icmp .eq 9, 3) := by decide +kernel
theorem dX6_advance_127 : decode cX6_advance 127 = .ok (.iload_n 1, 1) := by decide +kernel
theorem dX6_advance_128 : decode cX6_advance 128 = .ok (.bipush 59, 2) := by decide +kernel
theorem dX6_advance_130 : decode cX6_advance 130 = .ok (.if_icmp .ne 7, 3) := by decide +kernel
theorem dX6_advance_133 : decode cX6_advance 133 = .ok (.iconst 3, 1) := by decide +kernel
theorem dX6_advance_134 : decode cX6_advance 134 = .ok (.goto 4, 3) := by decide +kernel
theorem dX6_advance_137 : decode cX6_advance 137 = .ok (.iconst 4, 1) := by decide +kernel
theorem dX6_advance_138 : decode cX6_advance 138 = .ok (.putfield 21, 3) := by decide +kernel
theorem dX6_advance_141 : decode cX6_advance 141 = .ok (.aload_n 0, 1) := by decide +kernel
theorem dX6_advance_142 : decode cX6_advance 142 = .ok (.dup, 1) := by decide +kernel
theorem dX6_advance_143 : decode cX6_advance 143 = .ok (.getfield 15, 3) := by decide +kernel
theorem dX6_advance_146 : decode cX6_advance 146 = .ok (.iconst 1, 1) := by decide +kernel
theorem dX6_advance_147 : decode cX6_advance 147 = .ok (.iadd, 1) := by decide +kernel
theorem dX6_advance_148 : decode cX6_advance 148 = .ok (.putfield 15, 3) := by decide +kernel
theorem dX6_advance_151 : decode cX6_advance 151 = .ok (.return_, 1) := by decide +kernel
set_option maxRecDepth 20000 in
theorem ggX6_isSign_X6_byteAt : GoodIn wsX6_isSign wsX6_byteAt := goodIn_r _ [7, 8, 9, 10, 11, 12, 13, 14, 15] (by decide +kernel) (by decide +kernel)
set_option maxRecDepth 20000 in
theorem gX6_isSign_X6_byteAt : GoodIn wsX6_isSign (wsV RX6 37 RX6 yX6_byteAt wsX6_byteAt) := goodIn_app (goodIn_of _ (by decide +kernel)) ggX6_isSign_X6_byteAt
theorem dX6_isSign_0 : decode cX6_isSign 0 = .ok (.aload_n 0, 1) := by decide +kernel
theorem dX6_isSign_1 : decode cX6_isSign 1 = .ok (.getfield 21, 3) := by decide +kernel
theorem dX6_isSign_4 : decode cX6_isSign 4 = .ok (.iconst 3, 1) := by decide +kernel
theorem dX6_isSign_5 : decode cX6_isSign 5 = .ok (.if_icmp .ne 19, 3) := by decide +kernel
theorem dX6_isSign_8 : decode cX6_isSign 8 = .ok (.aload_n 0, 1) := by decide +kernel
theorem dX6_isSign_9 : decode cX6_isSign 9 = .ok (.aload_n 0, 1) := by decide +kernel
theorem dX6_isSign_10 : decode cX6_isSign 10 = .ok (.getfield 18, 3) := by decide +kernel
theorem dX6_isSign_13 : decode cX6_isSign 13 = .ok (.invokevirtual 37, 3) := by decide +kernel
theorem dX6_isSign_16 : decode cX6_isSign 16 = .ok (.iload_n 1, 1) := by decide +kernel
theorem dX6_isSign_17 : decode cX6_isSign 17 = .ok (.if_icmp .ne 7, 3) := by decide +kernel
theorem dX6_isSign_20 : decode cX6_isSign 20 = .ok (.iconst 1, 1) := by decide +kernel
theorem dX6_isSign_21 : decode cX6_isSign 21 = .ok (.goto 4, 3) := by decide +kernel
theorem dX6_isSign_24 : decode cX6_isSign 24 = .ok (.iconst 0, 1) := by decide +kernel
theorem dX6_isSign_25 : decode cX6_isSign 25 = .ok (.ireturn, 1) := by decide +kernel
set_option maxRecDepth 20000 in
theorem ggX6_isWord_J0_length_8abf5 : GoodIn wsX6_isWord wsJ0_length_8abf5 := goodIn_r _ [8, 9, 10, 11, 12, 7, 13, 14, 15] (by decide +kernel) (by decide +kernel)
set_option maxRecDepth 20000 in
theorem gX6_isWord_J0_length_8abf5 : GoodIn wsX6_isWord (wsV RX6 54 RJ0 yJ0_length_8abf5 wsJ0_length_8abf5) := goodIn_app (goodIn_of _ (by decide +kernel)) ggX6_isWord_J0_length_8abf5
set_option maxRecDepth 20000 in
theorem ggX6_isWord_X6_byteAt : GoodIn wsX6_isWord wsX6_byteAt := goodIn_r _ [20, 21, 22, 60, 61, 62, 63, 64, 65] (by decide +kernel) (by decide +kernel)
set_option maxRecDepth 20000 in
theorem gX6_isWord_X6_byteAt : GoodIn wsX6_isWord (wsV RX6 37 RX6 yX6_byteAt wsX6_byteAt) := goodIn_app (goodIn_of _ (by decide +kernel)) ggX6_isWord_X6_byteAt
set_option maxRecDepth 20000 in
theorem ggX6_isWord_J0_charAt_5068e : GoodIn wsX6_isWord wsJ0_charAt_5068e := goodIn_r _ [26, 9, 27, 28, 29, 7, 30, 14, 15, 31, 32, 33, 34, 35, 36, 37, 38, 39, 40, 41, 42, 43, 44, 45, 46, 47, 48, 49, 50, 51, 52, 53, 54, 55, 56, 57, 58, 59] (by decide +kernel) (by decide +kernel)
set_option maxRecDepth 20000 in
theorem gX6_isWord_J0_charAt_5068e : GoodIn wsX6_isWord (wsV RX6 59 RJ0 yJ0_charAt_5068e wsJ0_charAt_5068e) := goodIn_app (goodIn_of _ (by decide +kernel)) ggX6_isWord_J0_charAt_5068e
theorem dX6_isWord_0 : decode cX6_isWord 0 = .ok (.aload_n 0, 1) := by decide +kernel
theorem dX6_isWord_1 : decode cX6_isWord 1 = .ok (.getfield 21, 3) := by decide +kernel
theorem dX6_isWord_4 : decode cX6_isWord 4 = .ok (.iconst 1, 1) := by decide +kernel
theorem dX6_isWord_5 : decode cX6_isWord 5 = .ok (.if_icmp .ne 19, 3) := by decide +kernel
theorem dX6_isWord_8 : decode cX6_isWord 8 = .ok (.aload_n 0, 1) := by decide +kernel
theorem dX6_isWord_9 : decode cX6_isWord 9 = .ok (.getfield 15, 3) := by decide +kernel
theorem dX6_isWord_12 : decode cX6_isWord 12 = .ok (.aload_n 0, 1) := by decide +kernel
theorem dX6_isWord_13 : decode cX6_isWord 13 = .ok (.getfield 18, 3) := by decide +kernel
theorem dX6_isWord_16 : decode cX6_isWord 16 = .ok (.isub, 1) := by decide +kernel
theorem dX6_isWord_17 : decode cX6_isWord 17 = .ok (.aload_n 1, 1) := by decide +kernel
theorem dX6_isWord_18 : decode cX6_isWord 18 = .ok (.invokevirtual 54, 3) := by decide +kernel
theorem dX6_isWord_21 : decode cX6_isWord 21 = .ok (.if_icmp .eq 5, 3) := by decide +kernel
theorem dX6_isWord_24 : decode cX6_isWord 24 = .ok (.iconst 0, 1) := by decide +kernel
theorem dX6_isWord_25 : decode cX6_isWord 25 = .ok (.ireturn, 1) := by decide +kernel
theorem dX6_isWord_26 : decode cX6_isWord 26 = .ok (.iconst 0, 1) := by decide +kernel
theorem dX6_isWord_27 : decode cX6_isWord 27 = .ok (.istore_n 2, 1) := by decide +kernel
theorem dX6_isWord_28 : decode cX6_isWord 28 = .ok (.iload_n 2, 1) := by decide +kernel
theorem dX6_isWord_29 : decode cX6_isWord 29 = .ok (.aload_n 1, 1) := by decide +kernel
theorem dX6_isWord_30 : decode cX6_isWord 30 = .ok (.invokevirtual 54, 3) := by decide +kernel
theorem dX6_isWord_33 : decode cX6_isWord 33 = .ok (.if_icmp .ge 29, 3) := by decide +kernel
theorem dX6_isWord_36 : decode cX6_isWord 36 = .ok (.aload_n 0, 1) := by decide +kernel
theorem dX6_isWord_37 : decode cX6_isWord 37 = .ok (.aload_n 0, 1) := by decide +kernel
theorem dX6_isWord_38 : decode cX6_isWord 38 = .ok (.getfield 18, 3) := by decide +kernel
theorem dX6_isWord_41 : decode cX6_isWord 41 = .ok (.iload_n 2, 1) := by decide +kernel
theorem dX6_isWord_42 : decode cX6_isWord 42 = .ok (.iadd, 1) := by decide +kernel
theorem dX6_isWord_43 : decode cX6_isWord 43 = .ok (.invokevirtual 37, 3) := by decide +kernel
theorem dX6_isWord_46 : decode cX6_isWord 46 = .ok (.aload_n 1, 1) := by decide +kernel
theorem dX6_isWord_47 : decode cX6_isWord 47 = .ok (.iload_n 2, 1) := by decide +kernel
theorem dX6_isWord_48 : decode cX6_isWord 48 = .ok (.invokevirtual 59, 3) := by decide +kernel
theorem dX6_isWord_51 : decode cX6_isWord 51 = .ok (.if_icmp .eq 5, 3) := by decide +kernel
theorem dX6_isWord_54 : decode cX6_isWord 54 = .ok (.iconst 0, 1) := by decide +kernel
theorem dX6_isWord_55 : decode cX6_isWord 55 = .ok (.ireturn, 1) := by decide +kernel
theorem dX6_isWord_56 : decode cX6_isWord 56 = .ok (.iinc 2 1, 3) := by decide +kernel
theorem dX6_isWord_59 : decode cX6_isWord 59 = .ok (.goto (-31), 3) := by decide +kernel
theorem dX6_isWord_62 : decode cX6_isWord 62 = .ok (.iconst 1, 1) := by decide +kernel
theorem dX6_isWord_63 : decode cX6_isWord 63 = .ok (.ireturn, 1) := by decide +kernel
set_option maxRecDepth 20000 in
theorem ggX6_readWord_X6_byteAt : GoodIn wsX6_readWord wsX6_byteAt := goodIn_r _ [8, 3, 9, 13, 14, 15, 16, 17, 18] (by decide +kernel) (by decide +kernel)
set_option maxRecDepth 20000 in
theorem gX6_readWord_X6_byteAt : GoodIn wsX6_readWord (wsV RX6 37 RX6 yX6_byteAt wsX6_byteAt) := goodIn_app (goodIn_of _ (by decide +kernel)) ggX6_readWord_X6_byteAt
set_option maxRecDepth 20000 in
theorem ggX6_readWord_X6_isLetter : GoodIn wsX6_readWord wsX6_isLetter := goodIn_r _ [12] (by decide +kernel) (by decide +kernel)
set_option maxRecDepth 20000 in
theorem gX6_readWord_X6_isLetter : GoodIn wsX6_readWord (va_wsS RX6 41 yX6_isLetter wsX6_isLetter) := goodIn_app (goodIn_of _ (by decide +kernel)) ggX6_readWord_X6_isLetter
theorem dX6_readWord_0 : decode cX6_readWord 0 = .ok (.aload_n 0, 1) := by decide +kernel
theorem dX6_readWord_1 : decode cX6_readWord 1 = .ok (.iconst 1, 1) := by decide +kernel
theorem dX6_readWord_2 : decode cX6_readWord 2 = .ok (.putfield 21, 3) := by decide +kernel
theorem dX6_readWord_5 : decode cX6_readWord 5 = .ok (.aload_n 0, 1) := by decide +kernel
theorem dX6_readWord_6 : decode cX6_readWord 6 = .ok (.getfield 15, 3) := by decide +kernel
theorem dX6_readWord_9 : decode cX6_readWord 9 = .ok (.aload_n 0, 1) := by decide +kernel
theorem dX6_readWord_10 : decode cX6_readWord 10 = .ok (.getfield 9, 3) := by decide +kernel
theorem dX6_readWord_13 : decode cX6_readWord 13 = .ok (.if_icmp .ge 30, 3) := by decide +kernel
theorem dX6_readWord_16 : decode cX6_readWord 16 = .ok (.aload_n 0, 1) := by decide +kernel
theorem dX6_readWord_17 : decode cX6_readWord 17 = .ok (.aload_n 0, 1) := by decide +kernel
theorem dX6_readWord_18 : decode cX6_readWord 18 = .ok (.getfield 15, 3) := by decide +kernel
theorem dX6_readWord_21 : decode cX6_readWord 21 = .ok (.invokevirtual 37, 3) := by decide +kernel
theorem dX6_readWord_24 : decode cX6_readWord 24 = .ok (.invokestatic 41, 3) := by decide +kernel
theorem dX6_readWord_27 : decode cX6_readWord 27 = .ok (.ifCond .eq 16, 3) := by decide +kernel
theorem dX6_readWord_30 : decode cX6_readWord 30 = .ok (.aload_n 0, 1) := by decide +kernel
theorem dX6_readWord_31 : decode cX6_readWord 31 = .ok (.dup, 1) := by decide +kernel
theorem dX6_readWord_32 : decode cX6_readWord 32 = .ok (.getfield 15, 3) := by decide +kernel
theorem dX6_readWord_35 : decode cX6_readWord 35 = .ok (.iconst 1, 1) := by decide +kernel
theorem dX6_readWord_36 : decode cX6_readWord 36 = .ok (.iadd, 1) := by decide +kernel
theorem dX6_readWord_37 : decode cX6_readWord 37 = .ok (.putfield 15, 3) := by decide +kernel
theorem dX6_readWord_40 : decode cX6_readWord 40 = .ok (.goto (-35), 3) := by decide +kernel
theorem dX6_readWord_43 : decode cX6_readWord 43 = .ok (.return_, 1) := by decide +kernel
set_option maxRecDepth 20000 in
theorem ggX6_readDigits_X6_byteAt : GoodIn wsX6_readDigits wsX6_byteAt := goodIn_r _ [10, 3, 11, 15, 16, 17, 18, 19, 20] (by decide +kernel) (by decide +kernel)
set_option maxRecDepth 20000 in
theorem gX6_readDigits_X6_byteAt : GoodIn wsX6_readDigits (wsV RX6 37 RX6 yX6_byteAt wsX6_byteAt) := goodIn_app (goodIn_of _ (by decide +kernel)) ggX6_readDigits_X6_byteAt
set_option maxRecDepth 20000 in
theorem ggX6_readDigits_X6_isDigit : GoodIn wsX6_readDigits wsX6_isDigit := goodIn_r _ [14] (by decide +kernel) (by decide +kernel)
set_option maxRecDepth 20000 in
theorem gX6_readDigits_X6_isDigit : GoodIn wsX6_readDigits (va_wsS RX6 48 yX6_isDigit wsX6_isDigit) := goodIn_app (goodIn_of _ (by decide +kernel)) ggX6_readDigits_X6_isDigit
theorem dX6_readDigits_0 : decode cX6_readDigits 0 = .ok (.aload_n 0, 1) := by decide +kernel
theorem dX6_readDigits_1 : decode cX6_readDigits 1 = .ok (.iconst 0, 1) := by decide +kernel
theorem dX6_readDigits_2 : decode cX6_readDigits 2 = .ok (.putfield 24, 3) := by decide +kernel
theorem dX6_readDigits_5 : decode cX6_readDigits 5 = .ok (.aload_n 0, 1) := by decide +kernel
theorem dX6_readDigits_6 : decode cX6_readDigits 6 = .ok (.getfield 15, 3) := by decide +kernel
theorem dX6_readDigits_9 : decode cX6_readDigits 9 = .ok (.aload_n 0, 1) := by decide +kernel
theorem dX6_readDigits_10 : decode cX6_readDigits 10 = .ok (.getfield 9, 3) := by decide +kernel
theorem dX6_readDigits_13 : decode cX6_readDigits 13 = .ok (.if_icmp .ge 67, 3) := by decide +kernel
theorem dX6_readDigits_16 : decode cX6_readDigits 16 = .ok (.aload_n 0, 1) := by decide +kernel
theorem dX6_readDigits_17 : decode cX6_readDigits 17 = .ok (.aload_n 0, 1) := by decide +kernel
theorem dX6_readDigits_18 : decode cX6_readDigits 18 = .ok (.getfield 15, 3) := by decide +kernel
theorem dX6_readDigits_21 : decode cX6_readDigits 21 = .ok (.invokevirtual 37, 3) := by decide +kernel
theorem dX6_readDigits_24 : decode cX6_readDigits 24 = .ok (.invokestatic 48, 3) := by decide +kernel
theorem dX6_readDigits_27 : decode cX6_readDigits 27 = .ok (.ifCond .eq 53, 3) := by decide +kernel
theorem dX6_readDigits_30 : decode cX6_readDigits 30 = .ok (.aload_n 0, 1) := by decide +kernel
theorem dX6_readDigits_31 : decode cX6_readDigits 31 = .ok (.getfield 15, 3) := by decide +kernel
theorem dX6_readDigits_34 : decode cX6_readDigits 34 = .ok (.aload_n 0, 1) := by decide +kernel
theorem dX6_readDigits_35 : decode cX6_readDigits 35 = .ok (.getfield 18, 3) := by decide +kernel
theorem dX6_readDigits_38 : decode cX6_readDigits 38 = .ok (.isub, 1) := by decide +kernel
theorem dX6_readDigits_39 : decode cX6_readDigits 39 = .ok (.bipush 7, 2) := by decide +kernel
theorem dX6_readDigits_41 : decode cX6_readDigits 41 = .ok (.if_icmp .ge 26, 3) := by decide +kernel
theorem dX6_readDigits_44 : decode cX6_readDigits 44 = .ok (.aload_n 0, 1) := by decide +kernel
theorem dX6_readDigits_45 : decode cX6_readDigits 45 = .ok (.aload_n 0, 1) := by decide +kernel
theorem dX6_readDigits_46 : decode cX6_readDigits 46 = .ok (.getfield 24, 3) := by decide +kernel
theorem dX6_readDigits_49 : decode cX6_readDigits 49 = .ok (.bipush 10, 2) := by decide +kernel
theorem dX6_readDigits_51 : decode cX6_readDigits 51 = .ok (.imul, 1) := by decide +kernel
theorem dX6_readDigits_52 : decode cX6_readDigits 52 = .ok (.aload_n 0, 1) := by decide +kernel
theorem dX6_readDigits_53 : decode cX6_readDigits 53 = .ok (.aload_n 0, 1) := by decide +kernel
