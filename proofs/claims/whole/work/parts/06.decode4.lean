theorem dL_payExtra_27 : decode cL_payExtra 27 = .ok (.iconst 0, 1) := by decide +kernel
theorem dL_payExtra_28 : decode cL_payExtra 28 = .ok (.ireturn, 1) := by decide +kernel
set_option maxRecDepth 20000 in
theorem ggL_skipMonth_X7_skipMonth : GoodIn wsL_skipMonth wsX7_skipMonth := goodIn_ca (goodIn_ca (goodIn_r _ [7, 8, 9, 10, 11, 12, 6, 13, 14, 15, 16, 17, 18, 19, 20, 21, 22, 23, 24, 25, 26, 27, 28, 29, 30, 31, 32, 33, 34, 35, 36, 37, 38, 39, 40, 41, 42, 43, 44, 45, 46, 47, 48, 49, 50, 51, 52, 53, 54, 55, 56, 57, 58, 59, 60, 61, 62, 63, 64, 65, 66, 67, 68, 69, 70, 71, 72, 73, 74, 75, 76, 77, 78, 79, 80, 81, 82, 83, 84, 85, 86, 87, 88, 89, 90, 91, 92, 93, 94, 95, 96, 97, 98, 99, 100, 101, 102, 103, 104, 105, 106, 107, 108, 109, 110, 111, 112, 113, 114, 115, 116, 117, 118, 119, 120, 121, 122, 123, 124, 125, 126, 127, 128, 129] (by decide +kernel) (by decide +kernel)) (goodIn_sub (fun _ h => List.mem_cons_of_mem _ (List.mem_append_left _ (List.mem_append_right _ h))) (by decide +kernel))) (goodIn_sub (fun _ h => List.mem_cons_of_mem _ (List.mem_append_right _ h)) (by decide +kernel))
set_option maxRecDepth 20000 in
theorem gL_skipMonth_X7_skipMonth : GoodIn wsL_skipMonth (wsV RL 30 RX7 yX7_skipMonth wsX7_skipMonth) := goodIn_app (goodIn_of _ (by decide +kernel)) ggL_skipMonth_X7_skipMonth
theorem dL_skipMonth_0 : decode cL_skipMonth 0 = .ok (.aload_n 2, 1) := by decide +kernel
theorem dL_skipMonth_1 : decode cL_skipMonth 1 = .ok (.iconst 0, 1) := by decide +kernel
theorem dL_skipMonth_2 : decode cL_skipMonth 2 = .ok (.aload_n 0, 1) := by decide +kernel
theorem dL_skipMonth_3 : decode cL_skipMonth 3 = .ok (.iload_n 1, 1) := by decide +kernel
theorem dL_skipMonth_4 : decode cL_skipMonth 4 = .ok (.invokevirtual 30, 3) := by decide +kernel
theorem dL_skipMonth_7 : decode cL_skipMonth 7 = .ok (.i2l, 1) := by decide +kernel
theorem dL_skipMonth_8 : decode cL_skipMonth 8 = .ok (.lastore, 1) := by decide +kernel
theorem dL_skipMonth_9 : decode cL_skipMonth 9 = .ok (.goto 9, 3) := by decide +kernel
theorem dL_skipMonth_12 : decode cL_skipMonth 12 = .ok (.astore_n 3, 1) := by decide +kernel
theorem dL_skipMonth_13 : decode cL_skipMonth 13 = .ok (.iconst 1, 1) := by decide +kernel
theorem dL_skipMonth_14 : decode cL_skipMonth 14 = .ok (.ireturn, 1) := by decide +kernel
theorem dL_skipMonth_15 : decode cL_skipMonth 15 = .ok (.astore_n 3, 1) := by decide +kernel
theorem dL_skipMonth_16 : decode cL_skipMonth 16 = .ok (.iconst 2, 1) := by decide +kernel
theorem dL_skipMonth_17 : decode cL_skipMonth 17 = .ok (.ireturn, 1) := by decide +kernel
theorem dL_skipMonth_18 : decode cL_skipMonth 18 = .ok (.iconst 0, 1) := by decide +kernel
theorem dL_skipMonth_19 : decode cL_skipMonth 19 = .ok (.ireturn, 1) := by decide +kernel
set_option maxRecDepth 20000 in
theorem ggL_changeRate_X7_changeRate : GoodIn wsL_changeRate wsX7_changeRate := goodIn_ca (goodIn_ca (goodIn_ca (goodIn_r _ [8, 9, 10, 11, 12, 13, 14, 7, 15, 16, 17, 18, 19, 20, 21, 22, 23, 24, 25, 26, 27, 28, 29, 30, 31, 32, 33, 34, 35, 36, 37, 38, 39, 40, 41, 42, 43, 44, 45, 46, 47, 48, 49, 50, 51, 52, 53, 54, 55, 56, 57, 58, 59, 60, 61, 62, 63, 64, 65, 66, 67, 68, 69, 70, 71, 72, 73, 74, 75, 76, 77, 78, 79, 80, 81, 82, 83, 84, 85, 86, 87, 88, 89, 90, 91, 92, 93, 94, 95, 96, 97, 98, 99, 100, 101, 102, 103, 104, 105, 106, 107, 108, 109, 110, 111, 112, 113, 114, 115, 116, 117, 118, 119, 120, 121, 122, 123, 124, 125, 126, 127, 128, 129, 130, 131] (by decide +kernel) (by decide +kernel)) (goodIn_sub (fun _ h => List.mem_cons_of_mem _ (List.mem_append_left _ (List.mem_append_left _ (List.mem_append_right _ h)))) (by decide +kernel))) (goodIn_sub (fun _ h => List.mem_cons_of_mem _ (List.mem_append_left _ (List.mem_append_right _ h))) (by decide +kernel))) (goodIn_sub (fun _ h => List.mem_cons_of_mem _ (List.mem_append_right _ h)) (by decide +kernel))
set_option maxRecDepth 20000 in
theorem gL_changeRate_X7_changeRate : GoodIn wsL_changeRate (wsV RL 33 RX7 yX7_changeRate wsX7_changeRate) := goodIn_app (goodIn_of _ (by decide +kernel)) ggL_changeRate_X7_changeRate
theorem dL_changeRate_0 : decode cL_changeRate 0 = .ok (.aload_n 3, 1) := by decide +kernel
theorem dL_changeRate_1 : decode cL_changeRate 1 = .ok (.iconst 0, 1) := by decide +kernel
theorem dL_changeRate_2 : decode cL_changeRate 2 = .ok (.aload_n 0, 1) := by decide +kernel
theorem dL_changeRate_3 : decode cL_changeRate 3 = .ok (.iload_n 1, 1) := by decide +kernel
theorem dL_changeRate_4 : decode cL_changeRate 4 = .ok (.iload_n 2, 1) := by decide +kernel
theorem dL_changeRate_5 : decode cL_changeRate 5 = .ok (.invokevirtual 33, 3) := by decide +kernel
theorem dL_changeRate_8 : decode cL_changeRate 8 = .ok (.i2l, 1) := by decide +kernel
theorem dL_changeRate_9 : decode cL_changeRate 9 = .ok (.lastore, 1) := by decide +kernel
theorem dL_changeRate_10 : decode cL_changeRate 10 = .ok (.goto 15, 3) := by decide +kernel
theorem dL_changeRate_13 : decode cL_changeRate 13 = .ok (.astore 4, 2) := by decide +kernel
theorem dL_changeRate_15 : decode cL_changeRate 15 = .ok (.iconst 1, 1) := by decide +kernel
theorem dL_changeRate_16 : decode cL_changeRate 16 = .ok (.ireturn, 1) := by decide +kernel
theorem dL_changeRate_17 : decode cL_changeRate 17 = .ok (.astore 4, 2) := by decide +kernel
theorem dL_changeRate_19 : decode cL_changeRate 19 = .ok (.iconst 2, 1) := by decide +kernel
theorem dL_changeRate_20 : decode cL_changeRate 20 = .ok (.ireturn, 1) := by decide +kernel
theorem dL_changeRate_21 : decode cL_changeRate 21 = .ok (.astore 4, 2) := by decide +kernel
theorem dL_changeRate_23 : decode cL_changeRate 23 = .ok (.iconst 3, 1) := by decide +kernel
theorem dL_changeRate_24 : decode cL_changeRate 24 = .ok (.ireturn, 1) := by decide +kernel
theorem dL_changeRate_25 : decode cL_changeRate 25 = .ok (.iconst 0, 1) := by decide +kernel
theorem dL_changeRate_26 : decode cL_changeRate 26 = .ok (.ireturn, 1) := by decide +kernel
set_option maxRecDepth 20000 in
theorem ggL_extendTerm_X7_extendTerm : GoodIn wsL_extendTerm wsX7_extendTerm := goodIn_ca (goodIn_ca (goodIn_ca (goodIn_r _ [8, 9, 10, 11, 12, 13, 14, 15, 7, 16, 17, 18, 19, 20, 21, 22, 23, 24, 25, 26, 27, 28, 29, 30, 31, 32, 33, 34, 35, 36, 37, 38, 39, 40, 41, 42, 43, 44, 45, 46, 47, 48, 49, 50, 51, 52, 53, 54, 55, 56, 57, 58, 59, 60, 61, 62, 63, 64, 65, 66, 67, 68, 69, 70, 71, 72, 73, 74, 75, 76, 77, 78, 79, 80, 81, 82, 83, 84, 85, 86, 87, 88, 89, 90, 91, 92, 93, 94, 95, 96, 97, 98, 99, 100, 101, 102, 103, 104, 105, 106, 107, 108, 109, 110, 111, 112, 113, 114, 115, 116, 117, 118, 119, 120, 121, 122, 123, 124, 125, 126, 127, 128, 129, 130, 131, 132] (by decide +kernel) (by decide +kernel)) (goodIn_sub (fun _ h => List.mem_cons_of_mem _ (List.mem_append_left _ (List.mem_append_left _ (List.mem_append_right _ h)))) (by decide +kernel))) (goodIn_sub (fun _ h => List.mem_cons_of_mem _ (List.mem_append_left _ (List.mem_append_right _ h))) (by decide +kernel))) (goodIn_sub (fun _ h => List.mem_cons_of_mem _ (List.mem_append_right _ h)) (by decide +kernel))
set_option maxRecDepth 20000 in
theorem gL_extendTerm_X7_extendTerm : GoodIn wsL_extendTerm (wsV RL 37 RX7 yX7_extendTerm wsX7_extendTerm) := goodIn_app (goodIn_of _ (by decide +kernel)) ggL_extendTerm_X7_extendTerm
theorem dL_extendTerm_0 : decode cL_extendTerm 0 = .ok (.aload_n 3, 1) := by decide +kernel
theorem dL_extendTerm_1 : decode cL_extendTerm 1 = .ok (.iconst 0, 1) := by decide +kernel
theorem dL_extendTerm_2 : decode cL_extendTerm 2 = .ok (.aload_n 0, 1) := by decide +kernel
theorem dL_extendTerm_3 : decode cL_extendTerm 3 = .ok (.iload_n 1, 1) := by decide +kernel
theorem dL_extendTerm_4 : decode cL_extendTerm 4 = .ok (.iload_n 2, 1) := by decide +kernel
theorem dL_extendTerm_5 : decode cL_extendTerm 5 = .ok (.invokevirtual 37, 3) := by decide +kernel
theorem dL_extendTerm_8 : decode cL_extendTerm 8 = .ok (.i2l, 1) := by decide +kernel
theorem dL_extendTerm_9 : decode cL_extendTerm 9 = .ok (.lastore, 1) := by decide +kernel
theorem dL_extendTerm_10 : decode cL_extendTerm 10 = .ok (.goto 15, 3) := by decide +kernel
theorem dL_extendTerm_13 : decode cL_extendTerm 13 = .ok (.astore 4, 2) := by decide +kernel
theorem dL_extendTerm_15 : decode cL_extendTerm 15 = .ok (.iconst 1, 1) := by decide +kernel
theorem dL_extendTerm_16 : decode cL_extendTerm 16 = .ok (.ireturn, 1) := by decide +kernel
theorem dL_extendTerm_17 : decode cL_extendTerm 17 = .ok (.astore 4, 2) := by decide +kernel
theorem dL_extendTerm_19 : decode cL_extendTerm 19 = .ok (.iconst 2, 1) := by decide +kernel
theorem dL_extendTerm_20 : decode cL_extendTerm 20 = .ok (.ireturn, 1) := by decide +kernel
theorem dL_extendTerm_21 : decode cL_extendTerm 21 = .ok (.astore 4, 2) := by decide +kernel
theorem dL_extendTerm_23 : decode cL_extendTerm 23 = .ok (.iconst 3, 1) := by decide +kernel
theorem dL_extendTerm_24 : decode cL_extendTerm 24 = .ok (.ireturn, 1) := by decide +kernel
theorem dL_extendTerm_25 : decode cL_extendTerm 25 = .ok (.iconst 0, 1) := by decide +kernel
theorem dL_extendTerm_26 : decode cL_extendTerm 26 = .ok (.ireturn, 1) := by decide +kernel
set_option maxRecDepth 20000 in
theorem ggL_refinance_X7_refinance : GoodIn wsL_refinance wsX7_refinance := goodIn_ca (goodIn_ca (goodIn_ca (goodIn_r _ [8, 9, 10, 11, 12, 13, 7, 14, 15, 16, 17, 18, 19, 20, 21, 22, 23, 24, 25, 26, 27, 28, 29, 30, 31, 32, 33, 34, 35, 36, 37, 38, 39, 40, 41, 42, 43, 44, 45, 46, 47, 48, 49, 50, 51, 52, 53, 54, 55, 56, 57, 58, 59, 60, 61, 62, 63, 64, 65, 66, 67, 68, 69, 70, 71, 72, 73, 74, 75, 76, 77, 78, 79, 80, 81, 82, 83, 84, 85, 86, 87, 88, 89, 90, 91, 92, 93, 94, 95, 96, 97, 98, 99, 100, 101, 102, 103, 104, 105, 106, 107, 108, 109, 110, 111, 112, 113, 114, 115, 116, 117, 118, 119, 120, 121, 122, 123, 124, 125, 126, 127, 128, 129, 130] (by decide +kernel) (by decide +kernel)) (goodIn_sub (fun _ h => List.mem_cons_of_mem _ (List.mem_append_left _ (List.mem_append_left _ (List.mem_append_right _ h)))) (by decide +kernel))) (goodIn_sub (fun _ h => List.mem_cons_of_mem _ (List.mem_append_left _ (List.mem_append_right _ h))) (by decide +kernel))) (goodIn_sub (fun _ h => List.mem_cons_of_mem _ (List.mem_append_right _ h)) (by decide +kernel))
set_option maxRecDepth 20000 in
theorem gL_refinance_X7_refinance : GoodIn wsL_refinance (wsV RL 40 RX7 yX7_refinance wsX7_refinance) := goodIn_app (goodIn_of _ (by decide +kernel)) ggL_refinance_X7_refinance
theorem dL_refinance_0 : decode cL_refinance 0 = .ok (.aload 4, 2) := by decide +kernel
theorem dL_refinance_2 : decode cL_refinance 2 = .ok (.iconst 0, 1) := by decide +kernel
theorem dL_refinance_3 : decode cL_refinance 3 = .ok (.aload_n 0, 1) := by decide +kernel
theorem dL_refinance_4 : decode cL_refinance 4 = .ok (.iload_n 1, 1) := by decide +kernel
theorem dL_refinance_5 : decode cL_refinance 5 = .ok (.iload_n 2, 1) := by decide +kernel
theorem dL_refinance_6 : decode cL_refinance 6 = .ok (.iload_n 3, 1) := by decide +kernel
theorem dL_refinance_7 : decode cL_refinance 7 = .ok (.invokevirtual 40, 3) := by decide +kernel
theorem dL_refinance_10 : decode cL_refinance 10 = .ok (.i2l, 1) := by decide +kernel
theorem dL_refinance_11 : decode cL_refinance 11 = .ok (.lastore, 1) := by decide +kernel
theorem dL_refinance_12 : decode cL_refinance 12 = .ok (.goto 15, 3) := by decide +kernel
theorem dL_refinance_15 : decode cL_refinance 15 = .ok (.astore 5, 2) := by decide +kernel
theorem dL_refinance_17 : decode cL_refinance 17 = .ok (.iconst 1, 1) := by decide +kernel
theorem dL_refinance_18 : decode cL_refinance 18 = .ok (.ireturn, 1) := by decide +kernel
theorem dL_refinance_19 : decode cL_refinance 19 = .ok (.astore 5, 2) := by decide +kernel
theorem dL_refinance_21 : decode cL_refinance 21 = .ok (.iconst 2, 1) := by decide +kernel
theorem dL_refinance_22 : decode cL_refinance 22 = .ok (.ireturn, 1) := by decide +kernel
theorem dL_refinance_23 : decode cL_refinance 23 = .ok (.astore 5, 2) := by decide +kernel
theorem dL_refinance_25 : decode cL_refinance 25 = .ok (.iconst 3, 1) := by decide +kernel
theorem dL_refinance_26 : decode cL_refinance 26 = .ok (.ireturn, 1) := by decide +kernel
theorem dL_refinance_27 : decode cL_refinance 27 = .ok (.iconst 0, 1) := by decide +kernel
theorem dL_refinance_28 : decode cL_refinance 28 = .ok (.ireturn, 1) := by decide +kernel
set_option maxRecDepth 20000 in
theorem ggL_spendExtra_X7_spendExtra : GoodIn wsL_spendExtra wsX7_spendExtra := goodIn_ca (goodIn_r _ [6, 7, 8, 9, 10, 11, 5, 12, 13, 14, 15, 16, 17, 18, 19, 20, 21, 22, 23, 24, 25, 26, 27, 28, 29, 30, 31, 32, 33, 34, 35, 36, 37, 38, 39, 40, 41, 42, 43, 44, 45, 46, 47, 48, 49, 50, 51, 52, 53, 54, 55, 56, 57, 58, 59, 60, 61, 62, 63, 64, 65, 66, 67, 68, 69, 70, 71, 72, 73, 74, 75, 76, 77, 78, 79, 80, 81, 82, 83, 84, 85, 86, 87, 88, 89, 90, 91, 92, 93, 94, 95, 96, 97, 98, 99, 100, 101, 102, 103, 104, 105, 106, 107, 108, 109, 110, 111, 112, 113, 114, 115, 116, 117, 118, 119, 120, 121, 122, 123, 124, 125, 126, 127, 128, 129, 130, 131, 132, 133, 134, 135, 136, 137, 138, 139, 140, 141, 142, 143, 144, 145, 146, 147, 148, 149] (by decide +kernel) (by decide +kernel)) (goodIn_sub (fun _ h => List.mem_cons_of_mem _ (List.mem_append_right _ h)) (by decide +kernel))
set_option maxRecDepth 20000 in
theorem gL_spendExtra_X7_spendExtra : GoodIn wsL_spendExtra (wsV RL 43 RX7 yX7_spendExtra wsX7_spendExtra) := goodIn_app (goodIn_of _ (by decide +kernel)) ggL_spendExtra_X7_spendExtra
theorem dL_spendExtra_0 : decode cL_spendExtra 0 = .ok (.aload_n 2, 1) := by decide +kernel
theorem dL_spendExtra_1 : decode cL_spendExtra 1 = .ok (.iconst 0, 1) := by decide +kernel
theorem dL_spendExtra_2 : decode cL_spendExtra 2 = .ok (.aload_n 0, 1) := by decide +kernel
theorem dL_spendExtra_3 : decode cL_spendExtra 3 = .ok (.iload_n 1, 1) := by decide +kernel
theorem dL_spendExtra_4 : decode cL_spendExtra 4 = .ok (.invokevirtual 43, 3) := by decide +kernel
theorem dL_spendExtra_7 : decode cL_spendExtra 7 = .ok (.i2l, 1) := by decide +kernel
theorem dL_spendExtra_8 : decode cL_spendExtra 8 = .ok (.lastore, 1) := by decide +kernel
theorem dL_spendExtra_9 : decode cL_spendExtra 9 = .ok (.goto 6, 3) := by decide +kernel
theorem dL_spendExtra_12 : decode cL_spendExtra 12 = .ok (.astore_n 3, 1) := by decide +kernel
theorem dL_spendExtra_13 : decode cL_spendExtra 13 = .ok (.iconst 1, 1) := by decide +kernel
theorem dL_spendExtra_14 : decode cL_spendExtra 14 = .ok (.ireturn, 1) := by decide +kernel
theorem dL_spendExtra_15 : decode cL_spendExtra 15 = .ok (.iconst 0, 1) := by decide +kernel
theorem dL_spendExtra_16 : decode cL_spendExtra 16 = .ok (.ireturn, 1) := by decide +kernel
set_option maxRecDepth 20000 in
theorem ggL_restoreSnapshot_X7_restoreSnapshot : GoodIn wsL_restoreSnapshot wsX7_restoreSnapshot := goodIn_ca (goodIn_r _ [6, 7, 8, 9, 10, 11, 12, 13, 14, 15, 16, 17, 18, 19, 20, 21, 22, 23, 24, 25, 26, 27, 28, 29, 30, 31, 32, 33, 34, 35, 36, 37, 38, 39, 40, 41, 42, 43, 44, 45, 46, 47, 48, 49, 50, 51, 52, 53, 54, 55, 56, 57, 58, 59, 60, 61, 62, 63, 64, 65, 66, 67, 68, 69, 70, 71, 72, 73, 74, 75, 76, 77, 78, 79, 80, 81, 82, 83, 84, 85, 86, 87, 88] (by decide +kernel) (by decide +kernel)) (goodIn_sub (fun _ h => List.mem_cons_of_mem _ (List.mem_append_right _ h)) (by decide +kernel))
set_option maxRecDepth 20000 in
theorem gL_restoreSnapshot_X7_restoreSnapshot : GoodIn wsL_restoreSnapshot (wsV RL 46 RX7 yX7_restoreSnapshot wsX7_restoreSnapshot) := goodIn_app (goodIn_of _ (by decide +kernel)) ggL_restoreSnapshot_X7_restoreSnapshot
theorem dL_restoreSnapshot_0 : decode cL_restoreSnapshot 0 = .ok (.aload_n 1, 1) := by decide +kernel
theorem dL_restoreSnapshot_1 : decode cL_restoreSnapshot 1 = .ok (.iconst 0, 1) := by decide +kernel
theorem dL_restoreSnapshot_2 : decode cL_restoreSnapshot 2 = .ok (.aload_n 0, 1) := by decide +kernel
theorem dL_restoreSnapshot_3 : decode cL_restoreSnapshot 3 = .ok (.invokevirtual 46, 3) := by decide +kernel
theorem dL_restoreSnapshot_6 : decode cL_restoreSnapshot 6 = .ok (.i2l, 1) := by decide +kernel
theorem dL_restoreSnapshot_7 : decode cL_restoreSnapshot 7 = .ok (.lastore, 1) := by decide +kernel
theorem dL_restoreSnapshot_8 : decode cL_restoreSnapshot 8 = .ok (.goto 6, 3) := by decide +kernel
theorem dL_restoreSnapshot_11 : decode cL_restoreSnapshot 11 = .ok (.astore_n 2, 1) := by decide +kernel
theorem dL_restoreSnapshot_12 : decode cL_restoreSnapshot 12 = .ok (.iconst 1, 1) := by decide +kernel
theorem dL_restoreSnapshot_13 : decode cL_restoreSnapshot 13 = .ok (.ireturn, 1) := by decide +kernel
theorem dL_restoreSnapshot_14 : decode cL_restoreSnapshot 14 = .ok (.iconst 0, 1) := by decide +kernel
theorem dL_restoreSnapshot_15 : decode cL_restoreSnapshot 15 = .ok (.ireturn, 1) := by decide +kernel
set_option maxRecDepth 20000 in
theorem ggL_isOpen_X7_isOpen : GoodIn wsL_isOpen wsX7_isOpen := goodIn_ca (goodIn_r _ [6, 7, 8, 9, 5, 10, 11, 12, 13, 14, 15, 16, 17, 18, 19, 20, 21, 22, 23, 24, 25, 26, 27, 28, 29, 30, 31, 32, 33, 34, 35, 36, 37, 38, 39, 40, 41, 42, 43, 44, 45] (by decide +kernel) (by decide +kernel)) (goodIn_sub (fun _ h => List.mem_cons_of_mem _ (List.mem_append_right _ h)) (by decide +kernel))
set_option maxRecDepth 20000 in
theorem gL_isOpen_X7_isOpen : GoodIn wsL_isOpen (wsV RL 52 RX7 yX7_isOpen wsX7_isOpen) := goodIn_app (goodIn_of _ (by decide +kernel)) ggL_isOpen_X7_isOpen
theorem dL_isOpen_0 : decode cL_isOpen 0 = .ok (.aload_n 2, 1) := by decide +kernel
theorem dL_isOpen_1 : decode cL_isOpen 1 = .ok (.iconst 0, 1) := by decide +kernel
theorem dL_isOpen_2 : decode cL_isOpen 2 = .ok (.aload_n 0, 1) := by decide +kernel
theorem dL_isOpen_3 : decode cL_isOpen 3 = .ok (.iload_n 1, 1) := by decide +kernel
theorem dL_isOpen_4 : decode cL_isOpen 4 = .ok (.invokevirtual 52, 3) := by decide +kernel
theorem dL_isOpen_7 : decode cL_isOpen 7 = .ok (.ifCond .eq 7, 3) := by decide +kernel
theorem dL_isOpen_10 : decode cL_isOpen 10 = .ok (.lconst 1, 1) := by decide +kernel
theorem dL_isOpen_11 : decode cL_isOpen 11 = .ok (.goto 4, 3) := by decide +kernel
theorem dL_isOpen_14 : decode cL_isOpen 14 = .ok (.lconst 0, 1) := by decide +kernel
theorem dL_isOpen_15 : decode cL_isOpen 15 = .ok (.lastore, 1) := by decide +kernel
theorem dL_isOpen_16 : decode cL_isOpen 16 = .ok (.goto 6, 3) := by decide +kernel
theorem dL_isOpen_19 : decode cL_isOpen 19 = .ok (.astore_n 3, 1) := by decide +kernel
theorem dL_isOpen_20 : decode cL_isOpen 20 = .ok (.iconst 1, 1) := by decide +kernel
theorem dL_isOpen_21 : decode cL_isOpen 21 = .ok (.ireturn, 1) := by decide +kernel
theorem dL_isOpen_22 : decode cL_isOpen 22 = .ok (.iconst 0, 1) := by decide +kernel
theorem dL_isOpen_23 : decode cL_isOpen 23 = .ok (.ireturn, 1) := by decide +kernel
set_option maxRecDepth 20000 in
theorem ggL_principal_X7_principal : GoodIn wsL_principal wsX7_principal := goodIn_ca (goodIn_r _ [6, 7, 8, 9, 10, 5, 11, 12, 13, 14, 15, 16, 17, 18, 19, 20, 21, 22, 23, 24, 25, 26, 27, 28, 29, 30, 31, 32, 33, 34, 35, 36, 37, 38, 39, 40] (by decide +kernel) (by decide +kernel)) (goodIn_sub (fun _ h => List.mem_cons_of_mem _ (List.mem_append_right _ h)) (by decide +kernel))
set_option maxRecDepth 20000 in
theorem gL_principal_X7_principal : GoodIn wsL_principal (wsV RL 56 RX7 yX7_principal wsX7_principal) := goodIn_app (goodIn_of _ (by decide +kernel)) ggL_principal_X7_principal
theorem dL_principal_0 : decode cL_principal 0 = .ok (.aload_n 2, 1) := by decide +kernel
theorem dL_principal_1 : decode cL_principal 1 = .ok (.iconst 0, 1) := by decide +kernel
theorem dL_principal_2 : decode cL_principal 2 = .ok (.aload_n 0, 1) := by decide +kernel
theorem dL_principal_3 : decode cL_principal 3 = .ok (.iload_n 1, 1) := by decide +kernel
theorem dL_principal_4 : decode cL_principal 4 = .ok (.invokevirtual 56, 3) := by decide +kernel
theorem dL_principal_7 : decode cL_principal 7 = .ok (.i2l, 1) := by decide +kernel
theorem dL_principal_8 : decode cL_principal 8 = .ok (.lastore, 1) := by decide +kernel
theorem dL_principal_9 : decode cL_principal 9 = .ok (.goto 6, 3) := by decide +kernel
theorem dL_principal_12 : decode cL_principal 12 = .ok (.astore_n 3, 1) := by decide +kernel
theorem dL_principal_13 : decode cL_principal 13 = .ok (.iconst 1, 1) := by decide +kernel
theorem dL_principal_14 : decode cL_principal 14 = .ok (.ireturn, 1) := by decide +kernel
theorem dL_principal_15 : decode cL_principal 15 = .ok (.iconst 0, 1) := by decide +kernel
theorem dL_principal_16 : decode cL_principal 16 = .ok (.ireturn, 1) := by decide +kernel
set_option maxRecDepth 20000 in
theorem ggL_balance_X7_balance : GoodIn wsL_balance wsX7_balance := goodIn_ca (goodIn_r _ [6, 7, 8, 9, 10, 5, 11, 12, 13, 14, 15, 16, 17, 18, 19, 20, 21, 22, 23, 24, 25, 26, 27, 28, 29, 30, 31, 32, 33, 34, 35, 36, 37, 38, 39, 40] (by decide +kernel) (by decide +kernel)) (goodIn_sub (fun _ h => List.mem_cons_of_mem _ (List.mem_append_right _ h)) (by decide +kernel))
set_option maxRecDepth 20000 in
theorem gL_balance_X7_balance : GoodIn wsL_balance (wsV RL 59 RX7 yX7_balance wsX7_balance) := goodIn_app (goodIn_of _ (by decide +kernel)) ggL_balance_X7_balance
theorem dL_balance_0 : decode cL_balance 0 = .ok (.aload_n 2, 1) := by decide +kernel
theorem dL_balance_1 : decode cL_balance 1 = .ok (.iconst 0, 1) := by decide +kernel
theorem dL_balance_2 : decode cL_balance 2 = .ok (.aload_n 0, 1) := by decide +kernel
theorem dL_balance_3 : decode cL_balance 3 = .ok (.iload_n 1, 1) := by decide +kernel
theorem dL_balance_4 : decode cL_balance 4 = .ok (.invokevirtual 59, 3) := by decide +kernel
theorem dL_balance_7 : decode cL_balance 7 = .ok (.i2l, 1) := by decide +kernel
theorem dL_balance_8 : decode cL_balance 8 = .ok (.lastore, 1) := by decide +kernel
theorem dL_balance_9 : decode cL_balance 9 = .ok (.goto 6, 3) := by decide +kernel
theorem dL_balance_12 : decode cL_balance 12 = .ok (.astore_n 3, 1) := by decide +kernel
theorem dL_balance_13 : decode cL_balance 13 = .ok (.iconst 1, 1) := by decide +kernel
theorem dL_balance_14 : decode cL_balance 14 = .ok (.ireturn, 1) := by decide +kernel
theorem dL_balance_15 : decode cL_balance 15 = .ok (.iconst 0, 1) := by decide +kernel
theorem dL_balance_16 : decode cL_balance 16 = .ok (.ireturn, 1) := by decide +kernel
set_option maxRecDepth 20000 in
theorem ggL_rate_X7_rate : GoodIn wsL_rate wsX7_rate := goodIn_ca (goodIn_r _ [6, 7, 8, 9, 10, 5, 11, 12, 13, 14, 15, 16, 17, 18, 19, 20, 21, 22, 23, 24, 25, 26, 27, 28, 29, 30, 31, 32, 33, 34, 35, 36, 37, 38, 39, 40] (by decide +kernel) (by decide +kernel)) (goodIn_sub (fun _ h => List.mem_cons_of_mem _ (List.mem_append_right _ h)) (by decide +kernel))
set_option maxRecDepth 20000 in
theorem gL_rate_X7_rate : GoodIn wsL_rate (wsV RL 62 RX7 yX7_rate wsX7_rate) := goodIn_app (goodIn_of _ (by decide +kernel)) ggL_rate_X7_rate
theorem dL_rate_0 : decode cL_rate 0 = .ok (.aload_n 2, 1) := by decide +kernel
theorem dL_rate_1 : decode cL_rate 1 = .ok (.iconst 0, 1) := by decide +kernel
theorem dL_rate_2 : decode cL_rate 2 = .ok (.aload_n 0, 1) := by decide +kernel
theorem dL_rate_3 : decode cL_rate 3 = .ok (.iload_n 1, 1) := by decide +kernel
theorem dL_rate_4 : decode cL_rate 4 = .ok (.invokevirtual 62, 3) := by decide +kernel
theorem dL_rate_7 : decode cL_rate 7 = .ok (.i2l, 1) := by decide +kernel
theorem dL_rate_8 : decode cL_rate 8 = .ok (.lastore, 1) := by decide +kernel
theorem dL_rate_9 : decode cL_rate 9 = .ok (.goto 6, 3) := by decide +kernel
theorem dL_rate_12 : decode cL_rate 12 = .ok (.astore_n 3, 1) := by decide +kernel
theorem dL_rate_13 : decode cL_rate 13 = .ok (.iconst 1, 1) := by decide +kernel
theorem dL_rate_14 : decode cL_rate 14 = .ok (.ireturn, 1) := by decide +kernel
theorem dL_rate_15 : decode cL_rate 15 = .ok (.iconst 0, 1) := by decide +kernel
theorem dL_rate_16 : decode cL_rate 16 = .ok (.ireturn, 1) := by decide +kernel
set_option maxRecDepth 20000 in
theorem ggL_monthsLeft_X7_monthsLeft : GoodIn wsL_monthsLeft wsX7_monthsLeft := goodIn_ca (goodIn_r _ [6, 7, 8, 9, 10, 5, 11, 12, 13, 14, 15, 16, 17, 18, 19, 20, 21, 22, 23, 24, 25, 26, 27, 28, 29, 30, 31, 32, 33, 34, 35, 36, 37, 38, 39, 40] (by decide +kernel) (by decide +kernel)) (goodIn_sub (fun _ h => List.mem_cons_of_mem _ (List.mem_append_right _ h)) (by decide +kernel))
set_option maxRecDepth 20000 in
theorem gL_monthsLeft_X7_monthsLeft : GoodIn wsL_monthsLeft (wsV RL 65 RX7 yX7_monthsLeft wsX7_monthsLeft) := goodIn_app (goodIn_of _ (by decide +kernel)) ggL_monthsLeft_X7_monthsLeft
theorem dL_monthsLeft_0 : decode cL_monthsLeft 0 = .ok (.aload_n 2, 1) := by decide +kernel
theorem dL_monthsLeft_1 : decode cL_monthsLeft 1 = .ok (.iconst 0, 1) := by decide +kernel
theorem dL_monthsLeft_2 : decode cL_monthsLeft 2 = .ok (.aload_n 0, 1) := by decide +kernel
theorem dL_monthsLeft_3 : decode cL_monthsLeft 3 = .ok (.iload_n 1, 1) := by decide +kernel
theorem dL_monthsLeft_4 : decode cL_monthsLeft 4 = .ok (.invokevirtual 65, 3) := by decide +kernel
theorem dL_monthsLeft_7 : decode cL_monthsLeft 7 = .ok (.i2l, 1) := by decide +kernel
theorem dL_monthsLeft_8 : decode cL_monthsLeft 8 = .ok (.lastore, 1) := by decide +kernel
theorem dL_monthsLeft_9 : decode cL_monthsLeft 9 = .ok (.goto 6, 3) := by decide +kernel
theorem dL_monthsLeft_12 : decode cL_monthsLeft 12 = .ok (.astore_n 3, 1) := by decide +kernel
theorem dL_monthsLeft_13 : decode cL_monthsLeft 13 = .ok (.iconst 1, 1) := by decide +kernel
theorem dL_monthsLeft_14 : decode cL_monthsLeft 14 = .ok (.ireturn, 1) := by decide +kernel
theorem dL_monthsLeft_15 : decode cL_monthsLeft 15 = .ok (.iconst 0, 1) := by decide +kernel
theorem dL_monthsLeft_16 : decode cL_monthsLeft 16 = .ok (.ireturn, 1) := by decide +kernel
set_option maxRecDepth 20000 in
theorem ggL_installment_X7_installment : GoodIn wsL_installment wsX7_installment := goodIn_ca (goodIn_r _ [6, 7, 8, 9, 10, 5, 11, 12, 13, 14, 15, 16, 17, 18, 19, 20, 21, 22, 23, 24, 25, 26, 27, 28, 29, 30, 31, 32, 33, 34, 35, 36, 37, 38, 39, 40] (by decide +kernel) (by decide +kernel)) (goodIn_sub (fun _ h => List.mem_cons_of_mem _ (List.mem_append_right _ h)) (by decide +kernel))
set_option maxRecDepth 20000 in
theorem gL_installment_X7_installment : GoodIn wsL_installment (wsV RL 68 RX7 yX7_installment wsX7_installment) := goodIn_app (goodIn_of _ (by decide +kernel)) ggL_installment_X7_installment
theorem dL_installment_0 : decode cL_installment 0 = .ok (.aload_n 2, 1) := by decide +kernel
theorem dL_installment_1 : decode cL_installment 1 = .ok (.iconst 0, 1) := by decide +kernel
theorem dL_installment_2 : decode cL_installment 2 = .ok (.aload_n 0, 1) := by decide +kernel
theorem dL_installment_3 : decode cL_installment 3 = .ok (.iload_n 1, 1) := by decide +kernel
theorem dL_installment_4 : decode cL_installment 4 = .ok (.invokevirtual 68, 3) := by decide +kernel
theorem dL_installment_7 : decode cL_installment 7 = .ok (.i2l, 1) := by decide +kernel
theorem dL_installment_8 : decode cL_installment 8 = .ok (.lastore, 1) := by decide +kernel
theorem dL_installment_9 : decode cL_installment 9 = .ok (.goto 6, 3) := by decide +kernel
theorem dL_installment_12 : decode cL_installment 12 = .ok (.astore_n 3, 1) := by decide +kernel
theorem dL_installment_13 : decode cL_installment 13 = .ok (.iconst 1, 1) := by decide +kernel
theorem dL_installment_14 : decode cL_installment 14 = .ok (.ireturn, 1) := by decide +kernel
theorem dL_installment_15 : decode cL_installment 15 = .ok (.iconst 0, 1) := by decide +kernel
theorem dL_installment_16 : decode cL_installment 16 = .ok (.ireturn, 1) := by decide +kernel
set_option maxRecDepth 20000 in
theorem ggL_carry_X7_carry : GoodIn wsL_carry wsX7_carry := goodIn_ca (goodIn_r _ [6, 7, 8, 9, 10, 5, 11, 12, 13, 14, 15, 16, 17, 18, 19, 20, 21, 22, 23, 24, 25, 26, 27, 28, 29, 30, 31, 32, 33, 34, 35, 36, 37, 38, 39, 40] (by decide +kernel) (by decide +kernel)) (goodIn_sub (fun _ h => List.mem_cons_of_mem _ (List.mem_append_right _ h)) (by decide +kernel))
set_option maxRecDepth 20000 in
theorem gL_carry_X7_carry : GoodIn wsL_carry (wsV RL 71 RX7 yX7_carry wsX7_carry) := goodIn_app (goodIn_of _ (by decide +kernel)) ggL_carry_X7_carry
theorem dL_carry_0 : decode cL_carry 0 = .ok (.aload_n 2, 1) := by decide +kernel
theorem dL_carry_1 : decode cL_carry 1 = .ok (.iconst 0, 1) := by decide +kernel
theorem dL_carry_2 : decode cL_carry 2 = .ok (.aload_n 0, 1) := by decide +kernel
theorem dL_carry_3 : decode cL_carry 3 = .ok (.iload_n 1, 1) := by decide +kernel
theorem dL_carry_4 : decode cL_carry 4 = .ok (.invokevirtual 71, 3) := by decide +kernel
theorem dL_carry_7 : decode cL_carry 7 = .ok (.i2l, 1) := by decide +kernel
theorem dL_carry_8 : decode cL_carry 8 = .ok (.lastore, 1) := by decide +kernel
theorem dL_carry_9 : decode cL_carry 9 = .ok (.goto 6, 3) := by decide +kernel
theorem dL_carry_12 : decode cL_carry 12 = .ok (.astore_n 3, 1) := by decide +kernel
theorem dL_carry_13 : decode cL_carry 13 = .ok (.iconst 1, 1) := by decide +kernel
theorem dL_carry_14 : decode cL_carry 14 = .ok (.ireturn, 1) := by decide +kernel
theorem dL_carry_15 : decode cL_carry 15 = .ok (.iconst 0, 1) := by decide +kernel
theorem dL_carry_16 : decode cL_carry 16 = .ok (.ireturn, 1) := by decide +kernel
set_option maxRecDepth 20000 in
theorem ggL_interestDue_X7_interestDue : GoodIn wsL_interestDue wsX7_interestDue := goodIn_ca (goodIn_r _ [6, 7, 8, 9, 5, 10, 11, 12, 13, 14, 15, 16, 17, 18, 19, 20, 21, 22, 23, 24, 25, 26, 27, 28, 29, 30, 31, 32, 33, 34, 35, 36, 37, 38, 39, 40, 41, 42, 43, 44, 45, 46, 47, 48] (by decide +kernel) (by decide +kernel)) (goodIn_sub (fun _ h => List.mem_cons_of_mem _ (List.mem_append_right _ h)) (by decide +kernel))
set_option maxRecDepth 20000 in
theorem gL_interestDue_X7_interestDue : GoodIn wsL_interestDue (wsV RL 74 RX7 yX7_interestDue wsX7_interestDue) := goodIn_app (goodIn_of _ (by decide +kernel)) ggL_interestDue_X7_interestDue
theorem dL_interestDue_0 : decode cL_interestDue 0 = .ok (.aload_n 2, 1) := by decide +kernel
theorem dL_interestDue_1 : decode cL_interestDue 1 = .ok (.iconst 0, 1) := by decide +kernel
theorem dL_interestDue_2 : decode cL_interestDue 2 = .ok (.aload_n 0, 1) := by decide +kernel
theorem dL_interestDue_3 : decode cL_interestDue 3 = .ok (.iload_n 1, 1) := by decide +kernel
theorem dL_interestDue_4 : decode cL_interestDue 4 = .ok (.invokevirtual 74, 3) := by decide +kernel
theorem dL_interestDue_7 : decode cL_interestDue 7 = .ok (.i2l, 1) := by decide +kernel
theorem dL_interestDue_8 : decode cL_interestDue 8 = .ok (.lastore, 1) := by decide +kernel
theorem dL_interestDue_9 : decode cL_interestDue 9 = .ok (.goto 6, 3) := by decide +kernel
theorem dL_interestDue_12 : decode cL_interestDue 12 = .ok (.astore_n 3, 1) := by decide +kernel
theorem dL_interestDue_13 : decode cL_interestDue 13 = .ok (.iconst 1, 1) := by decide +kernel
theorem dL_interestDue_14 : decode cL_interestDue 14 = .ok (.ireturn, 1) := by decide +kernel
theorem dL_interestDue_15 : decode cL_interestDue 15 = .ok (.iconst 0, 1) := by decide +kernel
theorem dL_interestDue_16 : decode cL_interestDue 16 = .ok (.ireturn, 1) := by decide +kernel
set_option maxRecDepth 20000 in
theorem ggL_amountDue_X7_amountDue : GoodIn wsL_amountDue wsX7_amountDue := goodIn_ca (goodIn_r _ [6, 7, 8, 9, 5, 10, 11, 12, 13, 14, 15, 16, 17, 18, 19, 20, 21, 22, 23, 24, 25, 26, 27, 28, 29, 30, 31, 32, 33, 34, 35, 36, 37, 38, 39, 40, 41, 42, 43, 44, 45, 46, 47, 48, 49, 50, 51, 52, 53, 54, 55, 56, 57, 58] (by decide +kernel) (by decide +kernel)) (goodIn_sub (fun _ h => List.mem_cons_of_mem _ (List.mem_append_right _ h)) (by decide +kernel))
set_option maxRecDepth 20000 in
theorem gL_amountDue_X7_amountDue : GoodIn wsL_amountDue (wsV RL 77 RX7 yX7_amountDue wsX7_amountDue) := goodIn_app (goodIn_of _ (by decide +kernel)) ggL_amountDue_X7_amountDue
theorem dL_amountDue_0 : decode cL_amountDue 0 = .ok (.aload_n 2, 1) := by decide +kernel
theorem dL_amountDue_1 : decode cL_amountDue 1 = .ok (.iconst 0, 1) := by decide +kernel
theorem dL_amountDue_2 : decode cL_amountDue 2 = .ok (.aload_n 0, 1) := by decide +kernel
theorem dL_amountDue_3 : decode cL_amountDue 3 = .ok (.iload_n 1, 1) := by decide +kernel
theorem dL_amountDue_4 : decode cL_amountDue 4 = .ok (.invokevirtual 77, 3) := by decide +kernel
theorem dL_amountDue_7 : decode cL_amountDue 7 = .ok (.i2l, 1) := by decide +kernel
theorem dL_amountDue_8 : decode cL_amountDue 8 = .ok (.lastore, 1) := by decide +kernel
theorem dL_amountDue_9 : decode cL_amountDue 9 = .ok (.goto 6, 3) := by decide +kernel
theorem dL_amountDue_12 : decode cL_amountDue 12 = .ok (.astore_n 3, 1) := by decide +kernel
theorem dL_amountDue_13 : decode cL_amountDue 13 = .ok (.iconst 1, 1) := by decide +kernel
theorem dL_amountDue_14 : decode cL_amountDue 14 = .ok (.ireturn, 1) := by decide +kernel
theorem dL_amountDue_15 : decode cL_amountDue 15 = .ok (.iconst 0, 1) := by decide +kernel
theorem dL_amountDue_16 : decode cL_amountDue 16 = .ok (.ireturn, 1) := by decide +kernel
set_option maxRecDepth 20000 in
theorem ggL_interestSoFar_X7_interestSoFar : GoodIn wsL_interestSoFar wsX7_interestSoFar := goodIn_ca (goodIn_r _ [6, 7, 8, 9, 10, 5, 11, 12, 13, 14, 15, 16, 17, 18, 19, 20, 21, 22, 23, 24, 25, 26, 27, 28, 29, 30, 31, 32, 33, 34, 35, 36, 37, 38, 39, 40] (by decide +kernel) (by decide +kernel)) (goodIn_sub (fun _ h => List.mem_cons_of_mem _ (List.mem_append_right _ h)) (by decide +kernel))
set_option maxRecDepth 20000 in
theorem gL_interestSoFar_X7_interestSoFar : GoodIn wsL_interestSoFar (wsV RL 80 RX7 yX7_interestSoFar wsX7_interestSoFar) := goodIn_app (goodIn_of _ (by decide +kernel)) ggL_interestSoFar_X7_interestSoFar
theorem dL_interestSoFar_0 : decode cL_interestSoFar 0 = .ok (.aload_n 2, 1) := by decide +kernel
theorem dL_interestSoFar_1 : decode cL_interestSoFar 1 = .ok (.iconst 0, 1) := by decide +kernel
theorem dL_interestSoFar_2 : decode cL_interestSoFar 2 = .ok (.aload_n 0, 1) := by decide +kernel
theorem dL_interestSoFar_3 : decode cL_interestSoFar 3 = .ok (.iload_n 1, 1) := by decide +kernel
theorem dL_interestSoFar_4 : decode cL_interestSoFar 4 = .ok (.invokevirtual 80, 3) := by decide +kernel
theorem dL_interestSoFar_7 : decode cL_interestSoFar 7 = .ok (.i2l, 1) := by decide +kernel
theorem dL_interestSoFar_8 : decode cL_interestSoFar 8 = .ok (.lastore, 1) := by decide +kernel
theorem dL_interestSoFar_9 : decode cL_interestSoFar 9 = .ok (.goto 6, 3) := by decide +kernel
theorem dL_interestSoFar_12 : decode cL_interestSoFar 12 = .ok (.astore_n 3, 1) := by decide +kernel
theorem dL_interestSoFar_13 : decode cL_interestSoFar 13 = .ok (.iconst 1, 1) := by decide +kernel
theorem dL_interestSoFar_14 : decode cL_interestSoFar 14 = .ok (.ireturn, 1) := by decide +kernel
theorem dL_interestSoFar_15 : decode cL_interestSoFar 15 = .ok (.iconst 0, 1) := by decide +kernel
theorem dL_interestSoFar_16 : decode cL_interestSoFar 16 = .ok (.ireturn, 1) := by decide +kernel
set_option maxRecDepth 20000 in
theorem ggL_paidSoFar_X7_paidSoFar : GoodIn wsL_paidSoFar wsX7_paidSoFar := goodIn_ca (goodIn_r _ [6, 7, 8, 9, 10, 5, 11, 12, 13, 14, 15, 16, 17, 18, 19, 20, 21, 22, 23, 24, 25, 26, 27, 28, 29, 30, 31, 32, 33, 34, 35, 36, 37, 38, 39, 40] (by decide +kernel) (by decide +kernel)) (goodIn_sub (fun _ h => List.mem_cons_of_mem _ (List.mem_append_right _ h)) (by decide +kernel))
set_option maxRecDepth 20000 in
theorem gL_paidSoFar_X7_paidSoFar : GoodIn wsL_paidSoFar (wsV RL 83 RX7 yX7_paidSoFar wsX7_paidSoFar) := goodIn_app (goodIn_of _ (by decide +kernel)) ggL_paidSoFar_X7_paidSoFar
theorem dL_paidSoFar_0 : decode cL_paidSoFar 0 = .ok (.aload_n 2, 1) := by decide +kernel
theorem dL_paidSoFar_1 : decode cL_paidSoFar 1 = .ok (.iconst 0, 1) := by decide +kernel
theorem dL_paidSoFar_2 : decode cL_paidSoFar 2 = .ok (.aload_n 0, 1) := by decide +kernel
theorem dL_paidSoFar_3 : decode cL_paidSoFar 3 = .ok (.iload_n 1, 1) := by decide +kernel
theorem dL_paidSoFar_4 : decode cL_paidSoFar 4 = .ok (.invokevirtual 83, 3) := by decide +kernel
theorem dL_paidSoFar_7 : decode cL_paidSoFar 7 = .ok (.i2l, 1) := by decide +kernel
theorem dL_paidSoFar_8 : decode cL_paidSoFar 8 = .ok (.lastore, 1) := by decide +kernel
theorem dL_paidSoFar_9 : decode cL_paidSoFar 9 = .ok (.goto 6, 3) := by decide +kernel
theorem dL_paidSoFar_12 : decode cL_paidSoFar 12 = .ok (.astore_n 3, 1) := by decide +kernel
theorem dL_paidSoFar_13 : decode cL_paidSoFar 13 = .ok (.iconst 1, 1) := by decide +kernel
theorem dL_paidSoFar_14 : decode cL_paidSoFar 14 = .ok (.ireturn, 1) := by decide +kernel
theorem dL_paidSoFar_15 : decode cL_paidSoFar 15 = .ok (.iconst 0, 1) := by decide +kernel
theorem dL_paidSoFar_16 : decode cL_paidSoFar 16 = .ok (.ireturn, 1) := by decide +kernel
set_option maxRecDepth 20000 in
theorem ggL_paidMonths_X7_paidMonths : GoodIn wsL_paidMonths wsX7_paidMonths := goodIn_ca (goodIn_r _ [6, 7, 8, 9, 10, 5, 11, 12, 13, 14, 15, 16, 17, 18, 19, 20, 21, 22, 23, 24, 25, 26, 27, 28, 29, 30, 31, 32, 33, 34, 35, 36, 37, 38, 39, 40] (by decide +kernel) (by decide +kernel)) (goodIn_sub (fun _ h => List.mem_cons_of_mem _ (List.mem_append_right _ h)) (by decide +kernel))
set_option maxRecDepth 20000 in
theorem gL_paidMonths_X7_paidMonths : GoodIn wsL_paidMonths (wsV RL 86 RX7 yX7_paidMonths wsX7_paidMonths) := goodIn_app (goodIn_of _ (by decide +kernel)) ggL_paidMonths_X7_paidMonths
theorem dL_paidMonths_0 : decode cL_paidMonths 0 = .ok (.aload_n 2, 1) := by decide +kernel
theorem dL_paidMonths_1 : decode cL_paidMonths 1 = .ok (.iconst 0, 1) := by decide +kernel
theorem dL_paidMonths_2 : decode cL_paidMonths 2 = .ok (.aload_n 0, 1) := by decide +kernel
theorem dL_paidMonths_3 : decode cL_paidMonths 3 = .ok (.iload_n 1, 1) := by decide +kernel
theorem dL_paidMonths_4 : decode cL_paidMonths 4 = .ok (.invokevirtual 86, 3) := by decide +kernel
theorem dL_paidMonths_7 : decode cL_paidMonths 7 = .ok (.i2l, 1) := by decide +kernel
theorem dL_paidMonths_8 : decode cL_paidMonths 8 = .ok (.lastore, 1) := by decide +kernel
theorem dL_paidMonths_9 : decode cL_paidMonths 9 = .ok (.goto 6, 3) := by decide +kernel
theorem dL_paidMonths_12 : decode cL_paidMonths 12 = .ok (.astore_n 3, 1) := by decide +kernel
theorem dL_paidMonths_13 : decode cL_paidMonths 13 = .ok (.iconst 1, 1) := by decide +kernel
theorem dL_paidMonths_14 : decode cL_paidMonths 14 = .ok (.ireturn, 1) := by decide +kernel
theorem dL_paidMonths_15 : decode cL_paidMonths 15 = .ok (.iconst 0, 1) := by decide +kernel
theorem dL_paidMonths_16 : decode cL_paidMonths 16 = .ok (.ireturn, 1) := by decide +kernel
set_option maxRecDepth 20000 in
theorem ggL_skippedMonths_X7_skippedMonths : GoodIn wsL_skippedMonths wsX7_skippedMonths := goodIn_ca (goodIn_r _ [6, 7, 8, 9, 10, 5, 11, 12, 13, 14, 15, 16, 17, 18, 19, 20, 21, 22, 23, 24, 25, 26, 27, 28, 29, 30, 31, 32, 33, 34, 35, 36, 37, 38, 39, 40] (by decide +kernel) (by decide +kernel)) (goodIn_sub (fun _ h => List.mem_cons_of_mem _ (List.mem_append_right _ h)) (by decide +kernel))
set_option maxRecDepth 20000 in
theorem gL_skippedMonths_X7_skippedMonths : GoodIn wsL_skippedMonths (wsV RL 89 RX7 yX7_skippedMonths wsX7_skippedMonths) := goodIn_app (goodIn_of _ (by decide +kernel)) ggL_skippedMonths_X7_skippedMonths
theorem dL_skippedMonths_0 : decode cL_skippedMonths 0 = .ok (.aload_n 2, 1) := by decide +kernel
theorem dL_skippedMonths_1 : decode cL_skippedMonths 1 = .ok (.iconst 0, 1) := by decide +kernel
theorem dL_skippedMonths_2 : decode cL_skippedMonths 2 = .ok (.aload_n 0, 1) := by decide +kernel
theorem dL_skippedMonths_3 : decode cL_skippedMonths 3 = .ok (.iload_n 1, 1) := by decide +kernel
theorem dL_skippedMonths_4 : decode cL_skippedMonths 4 = .ok (.invokevirtual 89, 3) := by decide +kernel
theorem dL_skippedMonths_7 : decode cL_skippedMonths 7 = .ok (.i2l, 1) := by decide +kernel
theorem dL_skippedMonths_8 : decode cL_skippedMonths 8 = .ok (.lastore, 1) := by decide +kernel
theorem dL_skippedMonths_9 : decode cL_skippedMonths 9 = .ok (.goto 6, 3) := by decide +kernel
theorem dL_skippedMonths_12 : decode cL_skippedMonths 12 = .ok (.astore_n 3, 1) := by decide +kernel
theorem dL_skippedMonths_13 : decode cL_skippedMonths 13 = .ok (.iconst 1, 1) := by decide +kernel
theorem dL_skippedMonths_14 : decode cL_skippedMonths 14 = .ok (.ireturn, 1) := by decide +kernel
theorem dL_skippedMonths_15 : decode cL_skippedMonths 15 = .ok (.iconst 0, 1) := by decide +kernel
theorem dL_skippedMonths_16 : decode cL_skippedMonths 16 = .ok (.ireturn, 1) := by decide +kernel
set_option maxRecDepth 20000 in
theorem ggL_interestOfPayment_X7_interestOfPayment : GoodIn wsL_interestOfPayment wsX7_interestOfPayment := goodIn_ca (goodIn_ca (goodIn_r _ [7, 8, 9, 10, 11, 6, 12, 13, 14, 15, 16, 17, 18, 19, 20, 21, 22, 23, 24, 25, 26, 27, 28, 29, 30, 31, 32, 33, 34, 35, 36, 37, 38, 39, 40, 41, 42, 43, 44, 45, 46, 47, 48, 49, 50, 51, 52, 53, 54, 55, 56, 57, 58, 59, 60, 61, 62, 63, 64, 65, 66, 67, 68, 69, 70, 71, 72, 73, 74, 75, 76, 77, 78, 79, 80, 81, 82, 83, 84, 85, 86, 87, 88, 89, 90] (by decide +kernel) (by decide +kernel)) (goodIn_sub (fun _ h => List.mem_cons_of_mem _ (List.mem_append_left _ (List.mem_append_right _ h))) (by decide +kernel))) (goodIn_sub (fun _ h => List.mem_cons_of_mem _ (List.mem_append_right _ h)) (by decide +kernel))
set_option maxRecDepth 20000 in
theorem gL_interestOfPayment_X7_interestOfPayment : GoodIn wsL_interestOfPayment (wsV RL 92 RX7 yX7_interestOfPayment wsX7_interestOfPayment) := goodIn_app (goodIn_of _ (by decide +kernel)) ggL_interestOfPayment_X7_interestOfPayment
theorem dL_interestOfPayment_0 : decode cL_interestOfPayment 0 = .ok (.aload_n 3, 1) := by decide +kernel
theorem dL_interestOfPayment_1 : decode cL_interestOfPayment 1 = .ok (.iconst 0, 1) := by decide +kernel
theorem dL_interestOfPayment_2 : decode cL_interestOfPayment 2 = .ok (.aload_n 0, 1) := by decide +kernel
theorem dL_interestOfPayment_3 : decode cL_interestOfPayment 3 = .ok (.iload_n 1, 1) := by decide +kernel
theorem dL_interestOfPayment_4 : decode cL_interestOfPayment 4 = .ok (.iload_n 2, 1) := by decide +kernel
theorem dL_interestOfPayment_5 : decode cL_interestOfPayment 5 = .ok (.invokevirtual 92, 3) := by decide +kernel
theorem dL_interestOfPayment_8 : decode cL_interestOfPayment 8 = .ok (.i2l, 1) := by decide +kernel
theorem dL_interestOfPayment_9 : decode cL_interestOfPayment 9 = .ok (.lastore, 1) := by decide +kernel
theorem dL_interestOfPayment_10 : decode cL_interestOfPayment 10 = .ok (.goto 11, 3) := by decide +kernel
theorem dL_interestOfPayment_13 : decode cL_interestOfPayment 13 = .ok (.astore 4, 2) := by decide +kernel
theorem dL_interestOfPayment_15 : decode cL_interestOfPayment 15 = .ok (.iconst 1, 1) := by decide +kernel
theorem dL_interestOfPayment_16 : decode cL_interestOfPayment 16 = .ok (.ireturn, 1) := by decide +kernel
theorem dL_interestOfPayment_17 : decode cL_interestOfPayment 17 = .ok (.astore 4, 2) := by decide +kernel
theorem dL_interestOfPayment_19 : decode cL_interestOfPayment 19 = .ok (.iconst 2, 1) := by decide +kernel
theorem dL_interestOfPayment_20 : decode cL_interestOfPayment 20 = .ok (.ireturn, 1) := by decide +kernel
theorem dL_interestOfPayment_21 : decode cL_interestOfPayment 21 = .ok (.iconst 0, 1) := by decide +kernel
theorem dL_interestOfPayment_22 : decode cL_interestOfPayment 22 = .ok (.ireturn, 1) := by decide +kernel
set_option maxRecDepth 20000 in
theorem ggL_amountOfPayment_X7_amountOfPayment : GoodIn wsL_amountOfPayment wsX7_amountOfPayment := goodIn_ca (goodIn_ca (goodIn_r _ [7, 8, 9, 10, 11, 6, 12, 13, 14, 15, 16, 17, 18, 19, 20, 21, 22, 23, 24, 25, 26, 27, 28, 29, 30, 31, 32, 33, 34, 35, 36, 37, 38, 39, 40, 41, 42, 43, 44, 45, 46, 47, 48, 49, 50, 51, 52, 53, 54, 55, 56, 57, 58, 59, 60, 61, 62, 63, 64, 65, 66, 67, 68, 69, 70, 71, 72, 73, 74, 75, 76, 77, 78, 79, 80, 81, 82, 83, 84, 85, 86, 87, 88, 89, 90, 91, 92, 93, 94] (by decide +kernel) (by decide +kernel)) (goodIn_sub (fun _ h => List.mem_cons_of_mem _ (List.mem_append_left _ (List.mem_append_right _ h))) (by decide +kernel))) (goodIn_sub (fun _ h => List.mem_cons_of_mem _ (List.mem_append_right _ h)) (by decide +kernel))
set_option maxRecDepth 20000 in
theorem gL_amountOfPayment_X7_amountOfPayment : GoodIn wsL_amountOfPayment (wsV RL 95 RX7 yX7_amountOfPayment wsX7_amountOfPayment) := goodIn_app (goodIn_of _ (by decide +kernel)) ggL_amountOfPayment_X7_amountOfPayment
theorem dL_amountOfPayment_0 : decode cL_amountOfPayment 0 = .ok (.aload_n 3, 1) := by decide +kernel
theorem dL_amountOfPayment_1 : decode cL_amountOfPayment 1 = .ok (.iconst 0, 1) := by decide +kernel
theorem dL_amountOfPayment_2 : decode cL_amountOfPayment 2 = .ok (.aload_n 0, 1) := by decide +kernel
theorem dL_amountOfPayment_3 : decode cL_amountOfPayment 3 = .ok (.iload_n 1, 1) := by decide +kernel
theorem dL_amountOfPayment_4 : decode cL_amountOfPayment 4 = .ok (.iload_n 2, 1) := by decide +kernel
theorem dL_amountOfPayment_5 : decode cL_amountOfPayment 5 = .ok (.invokevirtual 95, 3) := by decide +kernel
theorem dL_amountOfPayment_8 : decode cL_amountOfPayment 8 = .ok (.i2l, 1) := by decide +kernel
theorem dL_amountOfPayment_9 : decode cL_amountOfPayment 9 = .ok (.lastore, 1) := by decide +kernel
theorem dL_amountOfPayment_10 : decode cL_amountOfPayment 10 = .ok (.goto 11, 3) := by decide +kernel
theorem dL_amountOfPayment_13 : decode cL_amountOfPayment 13 = .ok (.astore 4, 2) := by decide +kernel
theorem dL_amountOfPayment_15 : decode cL_amountOfPayment 15 = .ok (.iconst 1, 1) := by decide +kernel
theorem dL_amountOfPayment_16 : decode cL_amountOfPayment 16 = .ok (.ireturn, 1) := by decide +kernel
theorem dL_amountOfPayment_17 : decode cL_amountOfPayment 17 = .ok (.astore 4, 2) := by decide +kernel
theorem dL_amountOfPayment_19 : decode cL_amountOfPayment 19 = .ok (.iconst 2, 1) := by decide +kernel
theorem dL_amountOfPayment_20 : decode cL_amountOfPayment 20 = .ok (.ireturn, 1) := by decide +kernel
theorem dL_amountOfPayment_21 : decode cL_amountOfPayment 21 = .ok (.iconst 0, 1) := by decide +kernel
theorem dL_amountOfPayment_22 : decode cL_amountOfPayment 22 = .ok (.ireturn, 1) := by decide +kernel
set_option maxRecDepth 20000 in
theorem ggL_paymentsTo_X7_paymentsTo : GoodIn wsL_paymentsTo wsX7_paymentsTo := goodIn_ca (goodIn_ca (goodIn_r _ [7, 8, 9, 10, 11, 6, 12, 13, 14, 15, 16, 17, 18, 19, 20, 21, 22, 23, 24, 25, 26, 27, 28, 29, 30, 31, 32, 33, 34, 35, 36, 37, 38, 39, 40, 41, 42, 43, 44, 45, 46, 47, 48, 49, 50, 51, 52, 53, 54, 55, 56, 57, 58, 59, 60, 61, 62, 63, 64, 65, 66, 67, 68, 69, 70, 71, 72, 73, 74, 75, 76, 77, 78, 79, 80, 81, 82, 83, 84] (by decide +kernel) (by decide +kernel)) (goodIn_sub (fun _ h => List.mem_cons_of_mem _ (List.mem_append_left _ (List.mem_append_right _ h))) (by decide +kernel))) (goodIn_sub (fun _ h => List.mem_cons_of_mem _ (List.mem_append_right _ h)) (by decide +kernel))
set_option maxRecDepth 20000 in
theorem gL_paymentsTo_X7_paymentsTo : GoodIn wsL_paymentsTo (wsV RL 98 RX7 yX7_paymentsTo wsX7_paymentsTo) := goodIn_app (goodIn_of _ (by decide +kernel)) ggL_paymentsTo_X7_paymentsTo
theorem dL_paymentsTo_0 : decode cL_paymentsTo 0 = .ok (.aload_n 3, 1) := by decide +kernel
theorem dL_paymentsTo_1 : decode cL_paymentsTo 1 = .ok (.iconst 0, 1) := by decide +kernel
theorem dL_paymentsTo_2 : decode cL_paymentsTo 2 = .ok (.aload_n 0, 1) := by decide +kernel
theorem dL_paymentsTo_3 : decode cL_paymentsTo 3 = .ok (.iload_n 1, 1) := by decide +kernel
theorem dL_paymentsTo_4 : decode cL_paymentsTo 4 = .ok (.iload_n 2, 1) := by decide +kernel
theorem dL_paymentsTo_5 : decode cL_paymentsTo 5 = .ok (.invokevirtual 98, 3) := by decide +kernel
theorem dL_paymentsTo_8 : decode cL_paymentsTo 8 = .ok (.i2l, 1) := by decide +kernel
theorem dL_paymentsTo_9 : decode cL_paymentsTo 9 = .ok (.lastore, 1) := by decide +kernel
theorem dL_paymentsTo_10 : decode cL_paymentsTo 10 = .ok (.goto 11, 3) := by decide +kernel
theorem dL_paymentsTo_13 : decode cL_paymentsTo 13 = .ok (.astore 4, 2) := by decide +kernel
theorem dL_paymentsTo_15 : decode cL_paymentsTo 15 = .ok (.iconst 1, 1) := by decide +kernel
theorem dL_paymentsTo_16 : decode cL_paymentsTo 16 = .ok (.ireturn, 1) := by decide +kernel
theorem dL_paymentsTo_17 : decode cL_paymentsTo 17 = .ok (.astore 4, 2) := by decide +kernel
theorem dL_paymentsTo_19 : decode cL_paymentsTo 19 = .ok (.iconst 2, 1) := by decide +kernel
theorem dL_paymentsTo_20 : decode cL_paymentsTo 20 = .ok (.ireturn, 1) := by decide +kernel
theorem dL_paymentsTo_21 : decode cL_paymentsTo 21 = .ok (.iconst 0, 1) := by decide +kernel
theorem dL_paymentsTo_22 : decode cL_paymentsTo 22 = .ok (.ireturn, 1) := by decide +kernel
set_option maxRecDepth 20000 in
theorem ggL_balanceAfter_X7_balanceAfter : GoodIn wsL_balanceAfter wsX7_balanceAfter := goodIn_ca (goodIn_ca (goodIn_r _ [7, 8, 9, 10, 11, 12, 6, 13, 14, 15, 16, 17, 18, 19, 20, 21, 22, 23, 24, 25, 26, 27, 28, 29, 30, 31, 32, 33, 34, 35, 36, 37, 38, 39, 40, 41, 42, 43, 44, 45, 46, 47, 48, 49, 50, 51, 52, 53, 54, 55, 56, 57, 58, 59, 60, 61, 62, 63, 64, 65, 66, 67, 68, 69, 70, 71, 72, 73, 74, 75, 76, 77, 78, 79, 80, 81, 82, 83] (by decide +kernel) (by decide +kernel)) (goodIn_sub (fun _ h => List.mem_cons_of_mem _ (List.mem_append_left _ (List.mem_append_right _ h))) (by decide +kernel))) (goodIn_sub (fun _ h => List.mem_cons_of_mem _ (List.mem_append_right _ h)) (by decide +kernel))
set_option maxRecDepth 20000 in
theorem gL_balanceAfter_X7_balanceAfter : GoodIn wsL_balanceAfter (wsV RL 101 RX7 yX7_balanceAfter wsX7_balanceAfter) := goodIn_app (goodIn_of _ (by decide +kernel)) ggL_balanceAfter_X7_balanceAfter
theorem dL_balanceAfter_0 : decode cL_balanceAfter 0 = .ok (.aload_n 3, 1) := by decide +kernel
theorem dL_balanceAfter_1 : decode cL_balanceAfter 1 = .ok (.iconst 0, 1) := by decide +kernel
theorem dL_balanceAfter_2 : decode cL_balanceAfter 2 = .ok (.aload_n 0, 1) := by decide +kernel
theorem dL_balanceAfter_3 : decode cL_balanceAfter 3 = .ok (.iload_n 1, 1) := by decide +kernel
theorem dL_balanceAfter_4 : decode cL_balanceAfter 4 = .ok (.iload_n 2, 1) := by decide +kernel
theorem dL_balanceAfter_5 : decode cL_balanceAfter 5 = .ok (.invokevirtual 101, 3) := by decide +kernel
theorem dL_balanceAfter_8 : decode cL_balanceAfter 8 = .ok (.i2l, 1) := by decide +kernel
theorem dL_balanceAfter_9 : decode cL_balanceAfter 9 = .ok (.lastore, 1) := by decide +kernel
theorem dL_balanceAfter_10 : decode cL_balanceAfter 10 = .ok (.goto 11, 3) := by decide +kernel
theorem dL_balanceAfter_13 : decode cL_balanceAfter 13 = .ok (.astore 4, 2) := by decide +kernel
theorem dL_balanceAfter_15 : decode cL_balanceAfter 15 = .ok (.iconst 1, 1) := by decide +kernel
theorem dL_balanceAfter_16 : decode cL_balanceAfter 16 = .ok (.ireturn, 1) := by decide +kernel
theorem dL_balanceAfter_17 : decode cL_balanceAfter 17 = .ok (.astore 4, 2) := by decide +kernel
theorem dL_balanceAfter_19 : decode cL_balanceAfter 19 = .ok (.iconst 2, 1) := by decide +kernel
theorem dL_balanceAfter_20 : decode cL_balanceAfter 20 = .ok (.ireturn, 1) := by decide +kernel
theorem dL_balanceAfter_21 : decode cL_balanceAfter 21 = .ok (.iconst 0, 1) := by decide +kernel
theorem dL_balanceAfter_22 : decode cL_balanceAfter 22 = .ok (.ireturn, 1) := by decide +kernel
set_option maxRecDepth 20000 in
theorem ggL_interestAhead_X7_interestAhead : GoodIn wsL_interestAhead wsX7_interestAhead := goodIn_ca (goodIn_r _ [6, 7, 8, 9, 5, 10, 11, 12, 13, 14, 15, 16, 17, 18, 19, 20, 21, 22, 23, 24, 25, 26, 27, 28, 29, 30, 31, 32, 33, 34, 35, 36, 37, 38, 39, 40, 41, 42, 43, 44, 45, 46, 47, 48, 49, 50, 51, 52, 53, 54, 55, 56, 57, 58, 59, 60, 61, 62, 63, 64, 65, 66, 67, 68, 69, 70, 71, 72, 73, 74, 75, 76, 77, 78, 79, 80, 81] (by decide +kernel) (by decide +kernel)) (goodIn_sub (fun _ h => List.mem_cons_of_mem _ (List.mem_append_right _ h)) (by decide +kernel))
set_option maxRecDepth 20000 in
theorem gL_interestAhead_X7_interestAhead : GoodIn wsL_interestAhead (wsV RL 104 RX7 yX7_interestAhead wsX7_interestAhead) := goodIn_app (goodIn_of _ (by decide +kernel)) ggL_interestAhead_X7_interestAhead
theorem dL_interestAhead_0 : decode cL_interestAhead 0 = .ok (.aload_n 2, 1) := by decide +kernel
theorem dL_interestAhead_1 : decode cL_interestAhead 1 = .ok (.iconst 0, 1) := by decide +kernel
theorem dL_interestAhead_2 : decode cL_interestAhead 2 = .ok (.aload_n 0, 1) := by decide +kernel
theorem dL_interestAhead_3 : decode cL_interestAhead 3 = .ok (.iload_n 1, 1) := by decide +kernel
theorem dL_interestAhead_4 : decode cL_interestAhead 4 = .ok (.invokevirtual 104, 3) := by decide +kernel
theorem dL_interestAhead_7 : decode cL_interestAhead 7 = .ok (.i2l, 1) := by decide +kernel
theorem dL_interestAhead_8 : decode cL_interestAhead 8 = .ok (.lastore, 1) := by decide +kernel
theorem dL_interestAhead_9 : decode cL_interestAhead 9 = .ok (.goto 6, 3) := by decide +kernel
theorem dL_interestAhead_12 : decode cL_interestAhead 12 = .ok (.astore_n 3, 1) := by decide +kernel
theorem dL_interestAhead_13 : decode cL_interestAhead 13 = .ok (.iconst 1, 1) := by decide +kernel
theorem dL_interestAhead_14 : decode cL_interestAhead 14 = .ok (.ireturn, 1) := by decide +kernel
theorem dL_interestAhead_15 : decode cL_interestAhead 15 = .ok (.iconst 0, 1) := by decide +kernel
theorem dL_interestAhead_16 : decode cL_interestAhead 16 = .ok (.ireturn, 1) := by decide +kernel
set_option maxRecDepth 20000 in
theorem ggL_lastDue_X7_lastDue : GoodIn wsL_lastDue wsX7_lastDue := goodIn_ca (goodIn_r _ [6, 7, 8, 9, 5, 10, 11, 12, 13, 14, 15, 16, 17, 18, 19, 20, 21, 22, 23, 24, 25, 26, 27, 28, 29, 30, 31, 32, 33, 34, 35, 36, 37, 38, 39, 40, 41, 42, 43, 44, 45, 46, 47, 48, 49, 50, 51, 52, 53, 54, 55, 56, 57, 58, 59, 60, 61, 62, 63, 64, 65, 66, 67, 68, 69, 70, 71, 72, 73, 74, 75, 76, 77, 78, 79, 80] (by decide +kernel) (by decide +kernel)) (goodIn_sub (fun _ h => List.mem_cons_of_mem _ (List.mem_append_right _ h)) (by decide +kernel))
set_option maxRecDepth 20000 in
theorem gL_lastDue_X7_lastDue : GoodIn wsL_lastDue (wsV RL 107 RX7 yX7_lastDue wsX7_lastDue) := goodIn_app (goodIn_of _ (by decide +kernel)) ggL_lastDue_X7_lastDue
theorem dL_lastDue_0 : decode cL_lastDue 0 = .ok (.aload_n 2, 1) := by decide +kernel
theorem dL_lastDue_1 : decode cL_lastDue 1 = .ok (.iconst 0, 1) := by decide +kernel
theorem dL_lastDue_2 : decode cL_lastDue 2 = .ok (.aload_n 0, 1) := by decide +kernel
theorem dL_lastDue_3 : decode cL_lastDue 3 = .ok (.iload_n 1, 1) := by decide +kernel
theorem dL_lastDue_4 : decode cL_lastDue 4 = .ok (.invokevirtual 107, 3) := by decide +kernel
theorem dL_lastDue_7 : decode cL_lastDue 7 = .ok (.i2l, 1) := by decide +kernel
theorem dL_lastDue_8 : decode cL_lastDue 8 = .ok (.lastore, 1) := by decide +kernel
theorem dL_lastDue_9 : decode cL_lastDue 9 = .ok (.goto 6, 3) := by decide +kernel
theorem dL_lastDue_12 : decode cL_lastDue 12 = .ok (.astore_n 3, 1) := by decide +kernel
theorem dL_lastDue_13 : decode cL_lastDue 13 = .ok (.iconst 1, 1) := by decide +kernel
theorem dL_lastDue_14 : decode cL_lastDue 14 = .ok (.ireturn, 1) := by decide +kernel
theorem dL_lastDue_15 : decode cL_lastDue 15 = .ok (.iconst 0, 1) := by decide +kernel
theorem dL_lastDue_16 : decode cL_lastDue 16 = .ok (.ireturn, 1) := by decide +kernel
set_option maxRecDepth 20000 in
theorem ggL_monthsToHalf_X7_monthsToHalf : GoodIn wsL_monthsToHalf wsX7_monthsToHalf := goodIn_ca (goodIn_r _ [6, 7, 8, 9, 10, 5, 11, 12, 13, 14, 15, 16, 17, 18, 19, 20, 21, 22, 23, 24, 25, 26, 27, 28, 29, 30, 31, 32, 33, 34, 35, 36, 37, 38, 39, 40, 41, 42, 43, 44, 45, 46, 47, 48, 49, 50, 51, 52, 53, 54, 55, 56, 57, 58, 59, 60, 61, 62, 63, 64, 65, 66, 67, 68, 69, 70, 71, 72, 73, 74, 75, 76, 77, 78] (by decide +kernel) (by decide +kernel)) (goodIn_sub (fun _ h => List.mem_cons_of_mem _ (List.mem_append_right _ h)) (by decide +kernel))
set_option maxRecDepth 20000 in
theorem gL_monthsToHalf_X7_monthsToHalf : GoodIn wsL_monthsToHalf (wsV RL 110 RX7 yX7_monthsToHalf wsX7_monthsToHalf) := goodIn_app (goodIn_of _ (by decide +kernel)) ggL_monthsToHalf_X7_monthsToHalf
theorem dL_monthsToHalf_0 : decode cL_monthsToHalf 0 = .ok (.aload_n 2, 1) := by decide +kernel
theorem dL_monthsToHalf_1 : decode cL_monthsToHalf 1 = .ok (.iconst 0, 1) := by decide +kernel
theorem dL_monthsToHalf_2 : decode cL_monthsToHalf 2 = .ok (.aload_n 0, 1) := by decide +kernel
theorem dL_monthsToHalf_3 : decode cL_monthsToHalf 3 = .ok (.iload_n 1, 1) := by decide +kernel
theorem dL_monthsToHalf_4 : decode cL_monthsToHalf 4 = .ok (.invokevirtual 110, 3) := by decide +kernel
theorem dL_monthsToHalf_7 : decode cL_monthsToHalf 7 = .ok (.i2l, 1) := by decide +kernel
theorem dL_monthsToHalf_8 : decode cL_monthsToHalf 8 = .ok (.lastore, 1) := by decide +kernel
theorem dL_monthsToHalf_9 : decode cL_monthsToHalf 9 = .ok (.goto 6, 3) := by decide +kernel
theorem dL_monthsToHalf_12 : decode cL_monthsToHalf 12 = .ok (.astore_n 3, 1) := by decide +kernel
theorem dL_monthsToHalf_13 : decode cL_monthsToHalf 13 = .ok (.iconst 1, 1) := by decide +kernel
theorem dL_monthsToHalf_14 : decode cL_monthsToHalf 14 = .ok (.ireturn, 1) := by decide +kernel
theorem dL_monthsToHalf_15 : decode cL_monthsToHalf 15 = .ok (.iconst 0, 1) := by decide +kernel
theorem dL_monthsToHalf_16 : decode cL_monthsToHalf 16 = .ok (.ireturn, 1) := by decide +kernel
set_option maxRecDepth 20000 in
theorem ggL_installmentFor_X7_installmentFor : GoodIn wsL_installmentFor wsX7_installmentFor := goodIn_ca (goodIn_ca (goodIn_r _ [7, 8, 9, 10, 6, 11, 12, 13, 14, 15, 16, 17, 18, 19, 20, 21, 22, 23, 24, 25, 26, 27, 28, 29, 30, 31, 32, 33, 34, 35, 36, 37, 38, 39, 40, 41, 42, 43, 44, 45, 46, 47, 48, 49, 50, 51, 52, 53, 54, 55, 56, 57, 58, 59, 60, 61, 62, 63, 64, 65, 66] (by decide +kernel) (by decide +kernel)) (goodIn_sub (fun _ h => List.mem_cons_of_mem _ (List.mem_append_left _ (List.mem_append_right _ h))) (by decide +kernel))) (goodIn_sub (fun _ h => List.mem_cons_of_mem _ (List.mem_append_right _ h)) (by decide +kernel))
set_option maxRecDepth 20000 in
theorem gL_installmentFor_X7_installmentFor : GoodIn wsL_installmentFor (wsV RL 113 RX7 yX7_installmentFor wsX7_installmentFor) := goodIn_app (goodIn_of _ (by decide +kernel)) ggL_installmentFor_X7_installmentFor
theorem dL_installmentFor_0 : decode cL_installmentFor 0 = .ok (.aload_n 3, 1) := by decide +kernel
theorem dL_installmentFor_1 : decode cL_installmentFor 1 = .ok (.iconst 0, 1) := by decide +kernel
theorem dL_installmentFor_2 : decode cL_installmentFor 2 = .ok (.aload_n 0, 1) := by decide +kernel
theorem dL_installmentFor_3 : decode cL_installmentFor 3 = .ok (.iload_n 1, 1) := by decide +kernel
theorem dL_installmentFor_4 : decode cL_installmentFor 4 = .ok (.iload_n 2, 1) := by decide +kernel
theorem dL_installmentFor_5 : decode cL_installmentFor 5 = .ok (.invokevirtual 113, 3) := by decide +kernel
theorem dL_installmentFor_8 : decode cL_installmentFor 8 = .ok (.i2l, 1) := by decide +kernel
theorem dL_installmentFor_9 : decode cL_installmentFor 9 = .ok (.lastore, 1) := by decide +kernel
theorem dL_installmentFor_10 : decode cL_installmentFor 10 = .ok (.goto 11, 3) := by decide +kernel
theorem dL_installmentFor_13 : decode cL_installmentFor 13 = .ok (.astore 4, 2) := by decide +kernel
theorem dL_installmentFor_15 : decode cL_installmentFor 15 = .ok (.iconst 1, 1) := by decide +kernel
theorem dL_installmentFor_16 : decode cL_installmentFor 16 = .ok (.ireturn, 1) := by decide +kernel
theorem dL_installmentFor_17 : decode cL_installmentFor 17 = .ok (.astore 4, 2) := by decide +kernel
theorem dL_installmentFor_19 : decode cL_installmentFor 19 = .ok (.iconst 2, 1) := by decide +kernel
theorem dL_installmentFor_20 : decode cL_installmentFor 20 = .ok (.ireturn, 1) := by decide +kernel
theorem dL_installmentFor_21 : decode cL_installmentFor 21 = .ok (.iconst 0, 1) := by decide +kernel
theorem dL_installmentFor_22 : decode cL_installmentFor 22 = .ok (.ireturn, 1) := by decide +kernel
set_option maxRecDepth 20000 in
theorem ggL_monthsFor_X7_monthsFor : GoodIn wsL_monthsFor wsX7_monthsFor := goodIn_ca (goodIn_ca (goodIn_r _ [7, 8, 9, 10, 11, 6, 12, 13, 14, 15, 16, 17, 18, 19, 20, 21, 22, 23, 24, 25, 26, 27, 28, 29, 30, 31, 32, 33, 34, 35, 36, 37, 38, 39, 40, 41, 42, 43, 44, 45, 46, 47, 48, 49, 50, 51, 52, 53, 54, 55, 56, 57, 58, 59] (by decide +kernel) (by decide +kernel)) (goodIn_sub (fun _ h => List.mem_cons_of_mem _ (List.mem_append_left _ (List.mem_append_right _ h))) (by decide +kernel))) (goodIn_sub (fun _ h => List.mem_cons_of_mem _ (List.mem_append_right _ h)) (by decide +kernel))
set_option maxRecDepth 20000 in
theorem gL_monthsFor_X7_monthsFor : GoodIn wsL_monthsFor (wsV RL 116 RX7 yX7_monthsFor wsX7_monthsFor) := goodIn_app (goodIn_of _ (by decide +kernel)) ggL_monthsFor_X7_monthsFor
theorem dL_monthsFor_0 : decode cL_monthsFor 0 = .ok (.aload_n 3, 1) := by decide +kernel
theorem dL_monthsFor_1 : decode cL_monthsFor 1 = .ok (.iconst 0, 1) := by decide +kernel
theorem dL_monthsFor_2 : decode cL_monthsFor 2 = .ok (.aload_n 0, 1) := by decide +kernel
theorem dL_monthsFor_3 : decode cL_monthsFor 3 = .ok (.iload_n 1, 1) := by decide +kernel
theorem dL_monthsFor_4 : decode cL_monthsFor 4 = .ok (.iload_n 2, 1) := by decide +kernel
theorem dL_monthsFor_5 : decode cL_monthsFor 5 = .ok (.invokevirtual 116, 3) := by decide +kernel
theorem dL_monthsFor_8 : decode cL_monthsFor 8 = .ok (.i2l, 1) := by decide +kernel
theorem dL_monthsFor_9 : decode cL_monthsFor 9 = .ok (.lastore, 1) := by decide +kernel
theorem dL_monthsFor_10 : decode cL_monthsFor 10 = .ok (.goto 11, 3) := by decide +kernel
theorem dL_monthsFor_13 : decode cL_monthsFor 13 = .ok (.astore 4, 2) := by decide +kernel
theorem dL_monthsFor_15 : decode cL_monthsFor 15 = .ok (.iconst 1, 1) := by decide +kernel
theorem dL_monthsFor_16 : decode cL_monthsFor 16 = .ok (.ireturn, 1) := by decide +kernel
theorem dL_monthsFor_17 : decode cL_monthsFor 17 = .ok (.astore 4, 2) := by decide +kernel
theorem dL_monthsFor_19 : decode cL_monthsFor 19 = .ok (.iconst 2, 1) := by decide +kernel
theorem dL_monthsFor_20 : decode cL_monthsFor 20 = .ok (.ireturn, 1) := by decide +kernel
theorem dL_monthsFor_21 : decode cL_monthsFor 21 = .ok (.iconst 0, 1) := by decide +kernel
theorem dL_monthsFor_22 : decode cL_monthsFor 22 = .ok (.ireturn, 1) := by decide +kernel
set_option maxRecDepth 20000 in
theorem ggL_savingOfExtra_X7_savingOfExtra : GoodIn wsL_savingOfExtra wsX7_savingOfExtra := goodIn_ca (goodIn_ca (goodIn_r _ [7, 8, 9, 10, 11, 12, 6, 13, 14, 15, 16, 17, 18, 19, 20, 21, 22, 23, 24, 25, 26, 27, 28, 29, 30, 31, 32, 33, 34, 35, 36, 37, 38, 39, 40, 41, 42, 43, 44, 45, 46, 47, 48, 49, 50, 51, 52, 53, 54, 55, 56, 57, 58, 59, 60, 61, 62, 63, 64, 65, 66, 67, 68, 69, 70, 71, 72, 73, 74, 75, 76, 77, 78, 79, 80, 81, 82, 83, 84, 85, 86, 87, 88, 89, 90, 91, 92, 93, 94, 95, 96, 97, 98, 99, 100, 101, 102, 103, 104, 105, 106, 107, 108, 109] (by decide +kernel) (by decide +kernel)) (goodIn_sub (fun _ h => List.mem_cons_of_mem _ (List.mem_append_left _ (List.mem_append_right _ h))) (by decide +kernel))) (goodIn_sub (fun _ h => List.mem_cons_of_mem _ (List.mem_append_right _ h)) (by decide +kernel))
set_option maxRecDepth 20000 in
theorem gL_savingOfExtra_X7_savingOfExtra : GoodIn wsL_savingOfExtra (wsV RL 119 RX7 yX7_savingOfExtra wsX7_savingOfExtra) := goodIn_app (goodIn_of _ (by decide +kernel)) ggL_savingOfExtra_X7_savingOfExtra
theorem dL_savingOfExtra_0 : decode cL_savingOfExtra 0 = .ok (.aload 4, 2) := by decide +kernel
theorem dL_savingOfExtra_2 : decode cL_savingOfExtra 2 = .ok (.iconst 0, 1) := by decide +kernel
theorem dL_savingOfExtra_3 : decode cL_savingOfExtra 3 = .ok (.aload_n 0, 1) := by decide +kernel
theorem dL_savingOfExtra_4 : decode cL_savingOfExtra 4 = .ok (.iload_n 1, 1) := by decide +kernel
theorem dL_savingOfExtra_5 : decode cL_savingOfExtra 5 = .ok (.iload_n 2, 1) := by decide +kernel
theorem dL_savingOfExtra_6 : decode cL_savingOfExtra 6 = .ok (.iload_n 3, 1) := by decide +kernel
theorem dL_savingOfExtra_7 : decode cL_savingOfExtra 7 = .ok (.invokevirtual 119, 3) := by decide +kernel
theorem dL_savingOfExtra_10 : decode cL_savingOfExtra 10 = .ok (.i2l, 1) := by decide +kernel
theorem dL_savingOfExtra_11 : decode cL_savingOfExtra 11 = .ok (.lastore, 1) := by decide +kernel
theorem dL_savingOfExtra_12 : decode cL_savingOfExtra 12 = .ok (.goto 11, 3) := by decide +kernel
theorem dL_savingOfExtra_15 : decode cL_savingOfExtra 15 = .ok (.astore 5, 2) := by decide +kernel
theorem dL_savingOfExtra_17 : decode cL_savingOfExtra 17 = .ok (.iconst 1, 1) := by decide +kernel
theorem dL_savingOfExtra_18 : decode cL_savingOfExtra 18 = .ok (.ireturn, 1) := by decide +kernel
theorem dL_savingOfExtra_19 : decode cL_savingOfExtra 19 = .ok (.astore 5, 2) := by decide +kernel
theorem dL_savingOfExtra_21 : decode cL_savingOfExtra 21 = .ok (.iconst 2, 1) := by decide +kernel
theorem dL_savingOfExtra_22 : decode cL_savingOfExtra 22 = .ok (.ireturn, 1) := by decide +kernel
theorem dL_savingOfExtra_23 : decode cL_savingOfExtra 23 = .ok (.iconst 0, 1) := by decide +kernel
theorem dL_savingOfExtra_24 : decode cL_savingOfExtra 24 = .ok (.ireturn, 1) := by decide +kernel
set_option maxRecDepth 20000 in
theorem ggL_interestIfRate_X7_interestIfRate : GoodIn wsL_interestIfRate wsX7_interestIfRate := goodIn_ca (goodIn_ca (goodIn_r _ [7, 8, 9, 10, 11, 6, 12, 13, 14, 15, 16, 17, 18, 19, 20, 21, 22, 23, 24, 25, 26, 27, 28, 29, 30, 31, 32, 33, 34, 35, 36, 37, 38, 39, 40, 41, 42, 43, 44, 45, 46, 47, 48, 49, 50, 51, 52, 53, 54, 55, 56, 57, 58, 59, 60, 61, 62, 63, 64, 65, 66, 67, 68, 69, 70, 71, 72, 73, 74, 75, 76, 77, 78, 79, 80, 81, 82, 83, 84, 85, 86, 87, 88, 89, 90, 91, 92, 93, 94, 95, 96, 97, 98, 99, 100, 101, 102, 103, 104, 105, 106, 107, 108, 109, 110, 111, 112, 113] (by decide +kernel) (by decide +kernel)) (goodIn_sub (fun _ h => List.mem_cons_of_mem _ (List.mem_append_left _ (List.mem_append_right _ h))) (by decide +kernel))) (goodIn_sub (fun _ h => List.mem_cons_of_mem _ (List.mem_append_right _ h)) (by decide +kernel))
set_option maxRecDepth 20000 in
theorem gL_interestIfRate_X7_interestIfRate : GoodIn wsL_interestIfRate (wsV RL 122 RX7 yX7_interestIfRate wsX7_interestIfRate) := goodIn_app (goodIn_of _ (by decide +kernel)) ggL_interestIfRate_X7_interestIfRate
theorem dL_interestIfRate_0 : decode cL_interestIfRate 0 = .ok (.aload_n 3, 1) := by decide +kernel
theorem dL_interestIfRate_1 : decode cL_interestIfRate 1 = .ok (.iconst 0, 1) := by decide +kernel
theorem dL_interestIfRate_2 : decode cL_interestIfRate 2 = .ok (.aload_n 0, 1) := by decide +kernel
theorem dL_interestIfRate_3 : decode cL_interestIfRate 3 = .ok (.iload_n 1, 1) := by decide +kernel
theorem dL_interestIfRate_4 : decode cL_interestIfRate 4 = .ok (.iload_n 2, 1) := by decide +kernel
theorem dL_interestIfRate_5 : decode cL_interestIfRate 5 = .ok (.invokevirtual 122, 3) := by decide +kernel
theorem dL_interestIfRate_8 : decode cL_interestIfRate 8 = .ok (.i2l, 1) := by decide +kernel
theorem dL_interestIfRate_9 : decode cL_interestIfRate 9 = .ok (.lastore, 1) := by decide +kernel
theorem dL_interestIfRate_10 : decode cL_interestIfRate 10 = .ok (.goto 11, 3) := by decide +kernel
theorem dL_interestIfRate_13 : decode cL_interestIfRate 13 = .ok (.astore 4, 2) := by decide +kernel
theorem dL_interestIfRate_15 : decode cL_interestIfRate 15 = .ok (.iconst 1, 1) := by decide +kernel
theorem dL_interestIfRate_16 : decode cL_interestIfRate 16 = .ok (.ireturn, 1) := by decide +kernel
theorem dL_interestIfRate_17 : decode cL_interestIfRate 17 = .ok (.astore 4, 2) := by decide +kernel
theorem dL_interestIfRate_19 : decode cL_interestIfRate 19 = .ok (.iconst 2, 1) := by decide +kernel
theorem dL_interestIfRate_20 : decode cL_interestIfRate 20 = .ok (.ireturn, 1) := by decide +kernel
theorem dL_interestIfRate_21 : decode cL_interestIfRate 21 = .ok (.iconst 0, 1) := by decide +kernel
theorem dL_interestIfRate_22 : decode cL_interestIfRate 22 = .ok (.ireturn, 1) := by decide +kernel
set_option maxRecDepth 20000 in
theorem ggL_isCheaper_X7_isCheaper : GoodIn wsL_isCheaper wsX7_isCheaper := goodIn_ca (goodIn_ca (goodIn_r _ [7, 8, 9, 10, 6, 11, 12, 13, 14, 15, 16, 17, 18, 19, 20, 21, 22, 23, 24, 25, 26, 27, 28, 29, 30, 31, 32, 33, 34, 35, 36, 37, 38, 39, 40, 41, 42, 43, 44, 45, 46, 47, 48, 49, 50, 51, 52, 53, 54, 55, 56, 57, 58, 59, 60, 61, 62, 63, 64, 65, 66, 67, 68, 69, 70, 71, 72, 73, 74, 75, 76, 77, 78, 79, 80, 81, 82, 83, 84, 85, 86, 87, 88, 89, 90, 91, 92, 93, 94, 95, 96, 97, 98, 99, 100, 101, 102, 103, 104, 105, 106, 107, 108, 109, 110, 111, 112] (by decide +kernel) (by decide +kernel)) (goodIn_sub (fun _ h => List.mem_cons_of_mem _ (List.mem_append_left _ (List.mem_append_right _ h))) (by decide +kernel))) (goodIn_sub (fun _ h => List.mem_cons_of_mem _ (List.mem_append_right _ h)) (by decide +kernel))
set_option maxRecDepth 20000 in
theorem gL_isCheaper_X7_isCheaper : GoodIn wsL_isCheaper (wsV RL 125 RX7 yX7_isCheaper wsX7_isCheaper) := goodIn_app (goodIn_of _ (by decide +kernel)) ggL_isCheaper_X7_isCheaper
theorem dL_isCheaper_0 : decode cL_isCheaper 0 = .ok (.aload 4, 2) := by decide +kernel
theorem dL_isCheaper_2 : decode cL_isCheaper 2 = .ok (.iconst 0, 1) := by decide +kernel
theorem dL_isCheaper_3 : decode cL_isCheaper 3 = .ok (.aload_n 0, 1) := by decide +kernel
theorem dL_isCheaper_4 : decode cL_isCheaper 4 = .ok (.iload_n 1, 1) := by decide +kernel
theorem dL_isCheaper_5 : decode cL_isCheaper 5 = .ok (.iload_n 2, 1) := by decide +kernel
theorem dL_isCheaper_6 : decode cL_isCheaper 6 = .ok (.iload_n 3, 1) := by decide +kernel
theorem dL_isCheaper_7 : decode cL_isCheaper 7 = .ok (.invokevirtual 125, 3) := by decide +kernel
theorem dL_isCheaper_10 : decode cL_isCheaper 10 = .ok (.ifCond .eq 7, 3) := by decide +kernel
theorem dL_isCheaper_13 : decode cL_isCheaper 13 = .ok (.lconst 1, 1) := by decide +kernel
theorem dL_isCheaper_14 : decode cL_isCheaper 14 = .ok (.goto 4, 3) := by decide +kernel
theorem dL_isCheaper_17 : decode cL_isCheaper 17 = .ok (.lconst 0, 1) := by decide +kernel
theorem dL_isCheaper_18 : decode cL_isCheaper 18 = .ok (.lastore, 1) := by decide +kernel
theorem dL_isCheaper_19 : decode cL_isCheaper 19 = .ok (.goto 11, 3) := by decide +kernel
theorem dL_isCheaper_22 : decode cL_isCheaper 22 = .ok (.astore 5, 2) := by decide +kernel
theorem dL_isCheaper_24 : decode cL_isCheaper 24 = .ok (.iconst 1, 1) := by decide +kernel
theorem dL_isCheaper_25 : decode cL_isCheaper 25 = .ok (.ireturn, 1) := by decide +kernel
theorem dL_isCheaper_26 : decode cL_isCheaper 26 = .ok (.astore 5, 2) := by decide +kernel
theorem dL_isCheaper_28 : decode cL_isCheaper 28 = .ok (.iconst 2, 1) := by decide +kernel
theorem dL_isCheaper_29 : decode cL_isCheaper 29 = .ok (.ireturn, 1) := by decide +kernel
theorem dL_isCheaper_30 : decode cL_isCheaper 30 = .ok (.iconst 0, 1) := by decide +kernel
theorem dL_isCheaper_31 : decode cL_isCheaper 31 = .ok (.ireturn, 1) := by decide +kernel
set_option maxRecDepth 20000 in
theorem ggL_skipsWithin_X7_skipsWithin : GoodIn wsL_skipsWithin wsX7_skipsWithin := goodIn_ca (goodIn_ca (goodIn_r _ [7, 8, 9, 10, 11, 12, 13, 6, 14, 15, 16, 17, 18, 19, 20, 21, 22, 23, 24, 25, 26, 27, 28, 29, 30, 31, 32, 33, 34, 35, 36, 37, 38, 39, 40, 41, 42, 43, 44, 45, 46, 47, 48, 49, 50, 51, 52, 53, 54, 55, 56, 57, 58, 59, 60, 61, 62, 63, 64, 65, 66, 67, 68, 69, 70, 71, 72, 73, 74, 75, 76, 77, 78, 79, 80, 81, 82, 83, 84, 85, 86, 87, 88, 89] (by decide +kernel) (by decide +kernel)) (goodIn_sub (fun _ h => List.mem_cons_of_mem _ (List.mem_append_left _ (List.mem_append_right _ h))) (by decide +kernel))) (goodIn_sub (fun _ h => List.mem_cons_of_mem _ (List.mem_append_right _ h)) (by decide +kernel))
set_option maxRecDepth 20000 in
theorem gL_skipsWithin_X7_skipsWithin : GoodIn wsL_skipsWithin (wsV RL 129 RX7 yX7_skipsWithin wsX7_skipsWithin) := goodIn_app (goodIn_of _ (by decide +kernel)) ggL_skipsWithin_X7_skipsWithin
theorem dL_skipsWithin_0 : decode cL_skipsWithin 0 = .ok (.aload_n 3, 1) := by decide +kernel
theorem dL_skipsWithin_1 : decode cL_skipsWithin 1 = .ok (.iconst 0, 1) := by decide +kernel
theorem dL_skipsWithin_2 : decode cL_skipsWithin 2 = .ok (.aload_n 0, 1) := by decide +kernel
theorem dL_skipsWithin_3 : decode cL_skipsWithin 3 = .ok (.iload_n 1, 1) := by decide +kernel
theorem dL_skipsWithin_4 : decode cL_skipsWithin 4 = .ok (.iload_n 2, 1) := by decide +kernel
theorem dL_skipsWithin_5 : decode cL_skipsWithin 5 = .ok (.invokevirtual 129, 3) := by decide +kernel
theorem dL_skipsWithin_8 : decode cL_skipsWithin 8 = .ok (.i2l, 1) := by decide +kernel
theorem dL_skipsWithin_9 : decode cL_skipsWithin 9 = .ok (.lastore, 1) := by decide +kernel
theorem dL_skipsWithin_10 : decode cL_skipsWithin 10 = .ok (.goto 11, 3) := by decide +kernel
theorem dL_skipsWithin_13 : decode cL_skipsWithin 13 = .ok (.astore 4, 2) := by decide +kernel
theorem dL_skipsWithin_15 : decode cL_skipsWithin 15 = .ok (.iconst 1, 1) := by decide +kernel
theorem dL_skipsWithin_16 : decode cL_skipsWithin 16 = .ok (.ireturn, 1) := by decide +kernel
theorem dL_skipsWithin_17 : decode cL_skipsWithin 17 = .ok (.astore 4, 2) := by decide +kernel
theorem dL_skipsWithin_19 : decode cL_skipsWithin 19 = .ok (.iconst 2, 1) := by decide +kernel
theorem dL_skipsWithin_20 : decode cL_skipsWithin 20 = .ok (.ireturn, 1) := by decide +kernel
theorem dL_skipsWithin_21 : decode cL_skipsWithin 21 = .ok (.iconst 0, 1) := by decide +kernel
theorem dL_skipsWithin_22 : decode cL_skipsWithin 22 = .ok (.ireturn, 1) := by decide +kernel
set_option maxRecDepth 20000 in
theorem ggL_budgetMonths_X7_budgetMonths : GoodIn wsL_budgetMonths wsX7_budgetMonths := goodIn_ca (goodIn_r _ [6, 7, 8, 9, 10, 11, 5, 12, 13, 14, 15, 16, 17, 18, 19, 20, 21, 22, 23, 24, 25, 26, 27, 28, 29, 30, 31, 32, 33, 34, 35, 36, 37, 38, 39, 40, 41, 42, 43, 44, 45, 46, 47, 48, 49, 50, 51, 52, 53, 54, 55, 56, 57, 58, 59, 60, 61, 62, 63, 64, 65, 66, 67, 68, 69, 70, 71, 72, 73, 74, 75, 76, 77, 78, 79, 80, 81, 82, 83, 84, 85, 86, 87, 88, 89, 90, 91, 92, 93, 94, 95, 96, 97, 98, 99, 100, 101, 102, 103, 104, 105, 106, 107, 108, 109, 110, 111, 112, 113, 114, 115, 116, 117, 118, 119, 120, 121, 122, 123, 124, 125, 126, 127, 128, 129, 130, 131, 132, 133, 134, 135, 136, 137, 138, 139, 140, 141, 142, 143, 144, 145, 146, 147, 148, 149, 150, 151, 152, 153, 154, 155, 156, 157, 158, 159, 160, 161, 162, 163, 164, 165, 166, 167, 168, 169, 170, 171, 172, 173, 174] (by decide +kernel) (by decide +kernel)) (goodIn_sub (fun _ h => List.mem_cons_of_mem _ (List.mem_append_right _ h)) (by decide +kernel))
set_option maxRecDepth 20000 in
theorem gL_budgetMonths_X7_budgetMonths : GoodIn wsL_budgetMonths (wsV RL 132 RX7 yX7_budgetMonths wsX7_budgetMonths) := goodIn_app (goodIn_of _ (by decide +kernel)) ggL_budgetMonths_X7_budgetMonths
theorem dL_budgetMonths_0 : decode cL_budgetMonths 0 = .ok (.aload_n 3, 1) := by decide +kernel
theorem dL_budgetMonths_1 : decode cL_budgetMonths 1 = .ok (.iconst 0, 1) := by decide +kernel
theorem dL_budgetMonths_2 : decode cL_budgetMonths 2 = .ok (.aload_n 0, 1) := by decide +kernel
theorem dL_budgetMonths_3 : decode cL_budgetMonths 3 = .ok (.iload_n 1, 1) := by decide +kernel
theorem dL_budgetMonths_4 : decode cL_budgetMonths 4 = .ok (.iload_n 2, 1) := by decide +kernel
theorem dL_budgetMonths_5 : decode cL_budgetMonths 5 = .ok (.invokevirtual 132, 3) := by decide +kernel
theorem dL_budgetMonths_8 : decode cL_budgetMonths 8 = .ok (.i2l, 1) := by decide +kernel
theorem dL_budgetMonths_9 : decode cL_budgetMonths 9 = .ok (.lastore, 1) := by decide +kernel
theorem dL_budgetMonths_10 : decode cL_budgetMonths 10 = .ok (.goto 7, 3) := by decide +kernel
theorem dL_budgetMonths_13 : decode cL_budgetMonths 13 = .ok (.astore 4, 2) := by decide +kernel
theorem dL_budgetMonths_15 : decode cL_budgetMonths 15 = .ok (.iconst 1, 1) := by decide +kernel
theorem dL_budgetMonths_16 : decode cL_budgetMonths 16 = .ok (.ireturn, 1) := by decide +kernel
theorem dL_budgetMonths_17 : decode cL_budgetMonths 17 = .ok (.iconst 0, 1) := by decide +kernel
theorem dL_budgetMonths_18 : decode cL_budgetMonths 18 = .ok (.ireturn, 1) := by decide +kernel
set_option maxRecDepth 20000 in
theorem ggL_budgetInterest_X7_budgetInterest : GoodIn wsL_budgetInterest wsX7_budgetInterest := goodIn_ca (goodIn_r _ [6, 7, 8, 9, 10, 11, 5, 12, 13, 14, 15, 16, 17, 18, 19, 20, 21, 22, 23, 24, 25, 26, 27, 28, 29, 30, 31, 32, 33, 34, 35, 36, 37, 38, 39, 40, 41, 42, 43, 44, 45, 46, 47, 48, 49, 50, 51, 52, 53, 54, 55, 56, 57, 58, 59, 60, 61, 62, 63, 64, 65, 66, 67, 68, 69, 70, 71, 72, 73, 74, 75, 76, 77, 78, 79, 80, 81, 82, 83, 84, 85, 86, 87, 88, 89, 90, 91, 92, 93, 94, 95, 96, 97, 98, 99, 100, 101, 102, 103, 104, 105, 106, 107, 108, 109, 110, 111, 112, 113, 114, 115, 116, 117, 118, 119, 120, 121, 122, 123, 124, 125, 126, 127, 128, 129, 130, 131, 132, 133, 134, 135, 136, 137, 138, 139, 140, 141, 142, 143, 144, 145, 146, 147, 148, 149, 150, 151, 152, 153, 154, 155, 156, 157, 158, 159, 160, 161, 162, 163, 164, 165, 166, 167, 168, 169, 170, 171, 172, 173, 174, 175, 176, 177, 178, 179] (by decide +kernel) (by decide +kernel)) (goodIn_sub (fun _ h => List.mem_cons_of_mem _ (List.mem_append_right _ h)) (by decide +kernel))
set_option maxRecDepth 20000 in
theorem gL_budgetInterest_X7_budgetInterest : GoodIn wsL_budgetInterest (wsV RL 136 RX7 yX7_budgetInterest wsX7_budgetInterest) := goodIn_app (goodIn_of _ (by decide +kernel)) ggL_budgetInterest_X7_budgetInterest
theorem dL_budgetInterest_0 : decode cL_budgetInterest 0 = .ok (.aload_n 3, 1) := by decide +kernel
theorem dL_budgetInterest_1 : decode cL_budgetInterest 1 = .ok (.iconst 0, 1) := by decide +kernel
theorem dL_budgetInterest_2 : decode cL_budgetInterest 2 = .ok (.aload_n 0, 1) := by decide +kernel
theorem dL_budgetInterest_3 : decode cL_budgetInterest 3 = .ok (.iload_n 1, 1) := by decide +kernel
theorem dL_budgetInterest_4 : decode cL_budgetInterest 4 = .ok (.iload_n 2, 1) := by decide +kernel
theorem dL_budgetInterest_5 : decode cL_budgetInterest 5 = .ok (.invokevirtual 136, 3) := by decide +kernel
theorem dL_budgetInterest_8 : decode cL_budgetInterest 8 = .ok (.i2l, 1) := by decide +kernel
theorem dL_budgetInterest_9 : decode cL_budgetInterest 9 = .ok (.lastore, 1) := by decide +kernel
theorem dL_budgetInterest_10 : decode cL_budgetInterest 10 = .ok (.goto 7, 3) := by decide +kernel
theorem dL_budgetInterest_13 : decode cL_budgetInterest 13 = .ok (.astore 4, 2) := by decide +kernel
theorem dL_budgetInterest_15 : decode cL_budgetInterest 15 = .ok (.iconst 1, 1) := by decide +kernel
theorem dL_budgetInterest_16 : decode cL_budgetInterest 16 = .ok (.ireturn, 1) := by decide +kernel
theorem dL_budgetInterest_17 : decode cL_budgetInterest 17 = .ok (.iconst 0, 1) := by decide +kernel
theorem dL_budgetInterest_18 : decode cL_budgetInterest 18 = .ok (.ireturn, 1) := by decide +kernel
set_option maxRecDepth 20000 in
theorem ggL_writeSchedule_X7_writeSchedule : GoodIn wsL_writeSchedule wsX7_writeSchedule := goodIn_ca (goodIn_r _ [6, 7, 8, 9, 10, 11, 12, 5, 13, 14, 15, 16, 17, 18, 19, 20, 21, 22, 23, 24, 25, 26, 27, 28, 29, 30, 31, 32, 33, 34, 35, 36, 37, 38, 39, 40, 41, 42, 43, 44, 45, 46, 47, 48, 49, 50, 51, 52, 53, 54, 55, 56, 57, 58, 59, 60, 61, 62, 63, 64, 65, 66, 67, 68, 69, 70, 71, 72, 73, 74, 75, 76, 77, 78, 79, 80, 81, 82, 83, 84, 85, 86, 87, 88, 89, 90, 91, 92, 93, 94, 95, 96, 97, 98, 99, 100] (by decide +kernel) (by decide +kernel)) (goodIn_sub (fun _ h => List.mem_cons_of_mem _ (List.mem_append_right _ h)) (by decide +kernel))
set_option maxRecDepth 20000 in
theorem gL_writeSchedule_X7_writeSchedule : GoodIn wsL_writeSchedule (wsV RL 139 RX7 yX7_writeSchedule wsX7_writeSchedule) := goodIn_app (goodIn_of _ (by decide +kernel)) ggL_writeSchedule_X7_writeSchedule
theorem dL_writeSchedule_0 : decode cL_writeSchedule 0 = .ok (.aload_n 2, 1) := by decide +kernel
theorem dL_writeSchedule_1 : decode cL_writeSchedule 1 = .ok (.iconst 0, 1) := by decide +kernel
theorem dL_writeSchedule_2 : decode cL_writeSchedule 2 = .ok (.aload_n 0, 1) := by decide +kernel
theorem dL_writeSchedule_3 : decode cL_writeSchedule 3 = .ok (.iload_n 1, 1) := by decide +kernel
theorem dL_writeSchedule_4 : decode cL_writeSchedule 4 = .ok (.invokevirtual 139, 3) := by decide +kernel
theorem dL_writeSchedule_7 : decode cL_writeSchedule 7 = .ok (.i2l, 1) := by decide +kernel
theorem dL_writeSchedule_8 : decode cL_writeSchedule 8 = .ok (.lastore, 1) := by decide +kernel
theorem dL_writeSchedule_9 : decode cL_writeSchedule 9 = .ok (.goto 6, 3) := by decide +kernel
theorem dL_writeSchedule_12 : decode cL_writeSchedule 12 = .ok (.astore_n 3, 1) := by decide +kernel
theorem dL_writeSchedule_13 : decode cL_writeSchedule 13 = .ok (.iconst 1, 1) := by decide +kernel
theorem dL_writeSchedule_14 : decode cL_writeSchedule 14 = .ok (.ireturn, 1) := by decide +kernel
theorem dL_writeSchedule_15 : decode cL_writeSchedule 15 = .ok (.iconst 0, 1) := by decide +kernel
theorem dL_writeSchedule_16 : decode cL_writeSchedule 16 = .ok (.ireturn, 1) := by decide +kernel
set_option maxRecDepth 20000 in
theorem ggL_law_X7_init : GoodIn wsL_law wsX7_init := goodIn_r _ [9, 10, 11, 12, 13, 14, 15, 16, 17, 18, 19, 20, 21, 22, 23, 24, 25, 26, 27, 28, 29, 30, 31, 32, 33, 34, 35, 36, 37, 38, 39, 40, 41, 42, 43, 44, 45, 46, 47, 48, 49, 50, 51, 52, 53, 54, 55, 56, 57, 58, 59, 60, 61, 62, 63, 64, 65, 66, 67, 68, 69, 70, 71, 72, 73, 74, 75, 76, 77, 78, 79, 80, 81, 82, 83, 84, 85, 86, 87, 88, 89, 90, 91, 92, 93, 94, 95, 96, 97, 98, 99, 100, 101, 102, 103, 104, 105, 106, 107, 108, 109, 110, 111, 112, 113, 114, 115, 116, 117, 118, 119, 120, 121, 122, 123, 124, 125, 126, 127, 128, 129, 130, 131, 132, 133, 134, 135, 136, 137, 138, 139, 140, 141, 142, 143, 144, 145, 146, 147, 148, 149, 150, 151, 152, 153, 154, 155, 156, 157, 158, 159, 160, 161, 162, 163, 164, 165, 166, 167, 168, 169, 170, 171, 172, 173, 174, 175, 176, 177, 178, 179, 180, 181, 182, 183, 184, 185, 186, 187, 188, 189, 190, 191, 192, 193, 194, 195, 196, 197, 198, 199, 200, 201, 202, 203, 204, 205, 206, 207, 208, 209, 210, 211, 212, 213, 214, 215, 216, 217, 218, 219, 220, 221, 222, 223, 224, 225, 226, 227, 228, 229, 230, 231, 232, 233, 234, 235, 236, 237, 238, 239, 240, 241, 242, 243, 244, 245, 246, 247, 248, 249, 250, 251, 252, 253, 254, 255, 256, 257, 258, 259, 260, 261, 262, 263, 264, 265, 266, 267, 268, 269, 270, 271, 272, 273, 274, 275, 276, 277, 278, 279, 280, 281, 282, 283, 284, 285, 286, 287, 288, 289, 290, 291, 292, 293, 294, 295, 296, 297, 298, 299, 300, 301, 302, 303, 304, 305, 306, 307, 308, 309, 310, 311, 312, 313, 314, 315, 316, 317, 318, 319, 320, 321, 322, 323, 324, 325, 326, 327, 328, 329, 330, 331, 332, 333, 334, 335, 336, 337, 338, 339, 340, 341, 342, 343, 344, 345, 346, 347, 348, 349, 350, 351, 352, 353, 354, 355, 356, 357, 358, 359, 360, 361, 362, 363, 364, 365, 366, 367, 368, 369, 370, 371, 372, 373, 374, 375, 376, 377, 378, 379, 380, 381, 382, 383, 384, 385, 386, 387, 388, 389, 1508, 1509, 1510, 1511, 1512, 1513, 1514, 1515, 1516, 1517, 1518, 1548, 1549, 1550, 1551, 1552, 1553, 1554, 1555, 1556, 1557, 1558, 1559, 1560, 1561, 1562, 1563, 1564, 1565, 1566, 1567, 1568, 1569, 1570, 1571, 1572, 1573, 1574, 1575, 1576, 1577, 1578, 1579, 1580, 1581, 1582, 1583, 1584, 1585, 1586, 1587, 1588, 1589, 1590] (by decide +kernel) (by decide +kernel)
set_option maxRecDepth 20000 in
theorem gL_law_X7_init : GoodIn wsL_law (wsX7_init) := ggL_law_X7_init
set_option maxRecDepth 20000 in
theorem ggL_law_X8_init : GoodIn wsL_law wsX8_init := goodIn_r _ [392, 393, 11, 12, 54, 394, 395, 396, 397, 398, 399, 400, 13, 401, 402, 403, 404, 405, 406, 407, 5, 408, 409, 410, 411, 412, 413, 414, 415, 416, 417, 418, 419, 420, 421, 422, 423, 424, 425, 426, 427, 428, 429, 430, 431, 432, 433, 434, 435, 436, 437, 438, 439, 440, 441, 442, 443, 444, 445, 446, 447, 448, 449, 450, 451, 452, 453, 454, 455, 456, 457, 458, 459, 460, 461, 462, 463, 464, 465, 466, 467, 468, 469, 470, 471, 472, 473, 474, 475, 476, 477, 478, 479, 480, 481, 482, 483, 484, 485, 486, 487, 488, 489, 490, 491, 492, 1519, 1520, 1521, 1522, 1523, 1524, 1525, 1526, 1527, 1528, 1529, 1530, 1531, 1532, 1533, 1534, 1535, 1536, 1537, 1538, 1539, 1540, 1541, 1542, 1543, 1544, 1545, 1546, 1547] (by decide +kernel) (by decide +kernel)
set_option maxRecDepth 20000 in
theorem gL_law_X8_init : GoodIn wsL_law (wsX8_init) := ggL_law_X8_init
set_option maxRecDepth 20000 in
theorem ggL_law_X7_append : GoodIn wsL_law wsX7_append := goodIn_r _ [496, 15, 497, 498, 499, 2, 500, 14, 1508, 1509, 1510, 1511, 1512, 1513, 1514, 1515, 1516, 1517, 1518] (by decide +kernel) (by decide +kernel)
set_option maxRecDepth 20000 in
theorem gL_law_X7_append : GoodIn wsL_law (wsV RL 146 RX7 yX7_append wsX7_append) := goodIn_app (goodIn_of _ (by decide +kernel)) ggL_law_X7_append
set_option maxRecDepth 20000 in
theorem ggL_law_X8_append : GoodIn wsL_law wsX8_append := goodIn_r _ [504, 505, 506, 507, 508, 509, 5, 510, 400, 1519, 1520, 1521, 1522, 1523, 1524, 1525, 1526, 1527, 1528, 1529, 1530, 1531, 1532, 1533, 1534, 1535, 1536, 1537, 1538, 1539, 1540, 1541, 1542, 1543, 1544, 1545, 1546, 1547] (by decide +kernel) (by decide +kernel)
set_option maxRecDepth 20000 in
theorem gL_law_X8_append : GoodIn wsL_law (wsV RL 150 RX8 yX8_append wsX8_append) := goodIn_app (goodIn_of _ (by decide +kernel)) ggL_law_X8_append
set_option maxRecDepth 20000 in
theorem ggL_law_L_truncateInput : GoodIn wsL_law wsL_truncateInput := goodIn_ca (goodIn_r _ [514, 515, 516, 517, 518, 2, 519, 15, 520, 521, 522, 523, 524, 1508, 1509, 1510, 1511, 1512, 1513, 1514, 1515, 1516, 1517, 1518] (by decide +kernel) (by decide +kernel)) (goodIn_sub (fun _ h => List.mem_append_left _ (List.mem_append_left _ (List.mem_append_left _ (List.mem_append_right _ h)))) (by decide +kernel))
set_option maxRecDepth 20000 in
theorem gL_law_L_truncateInput : GoodIn wsL_law (va_wsS RL 151 yL_truncateInput wsL_truncateInput) := goodIn_app (goodIn_of _ (by decide +kernel)) ggL_law_L_truncateInput
set_option maxRecDepth 20000 in
theorem ggL_law_X8_truncateInput : GoodIn wsL_law wsX8_truncateInput := goodIn_r _ [528, 505, 506, 529, 530, 531, 5, 532, 1519, 1520, 1521, 1522, 1523, 1524, 1525, 1526, 1527, 1528, 1529, 1530, 1531, 1532, 1533, 1534, 1535, 1536, 1537, 1538, 1539, 1540, 1541, 1542, 1543, 1544, 1545, 1546, 1547] (by decide +kernel) (by decide +kernel)
set_option maxRecDepth 20000 in
theorem gL_law_X8_truncateInput : GoodIn wsL_law (wsV RL 156 RX8 yX8_truncateInput wsX8_truncateInput) := goodIn_app (goodIn_of _ (by decide +kernel)) ggL_law_X8_truncateInput
set_option maxRecDepth 20000 in
theorem ggL_law_X8_thrown : GoodIn wsL_law wsX8_thrown := goodIn_r _ [536, 505, 1519, 1520, 1521, 1522, 1523, 1524, 1525, 1526, 1527, 1528, 1529, 1530, 1531, 1532, 1533, 1534, 1535, 1536, 1537, 1538, 1539, 1540, 1541, 1542, 1543, 1544, 1545, 1546, 1547] (by decide +kernel) (by decide +kernel)
set_option maxRecDepth 20000 in
theorem gL_law_X8_thrown : GoodIn wsL_law (wsV RL 157 RX8 yX8_thrown wsX8_thrown) := goodIn_app (goodIn_of _ (by decide +kernel)) ggL_law_X8_thrown
set_option maxRecDepth 20000 in
theorem ggL_law_X7_inputLength : GoodIn wsL_law wsX7_inputLength := goodIn_r _ [540, 15, 1508, 1509, 1510, 1511, 1512, 1513, 1514, 1515, 1516, 1517, 1518] (by decide +kernel) (by decide +kernel)
set_option maxRecDepth 20000 in
theorem gL_law_X7_inputLength : GoodIn wsL_law (wsV RL 160 RX7 yX7_inputLength wsX7_inputLength) := goodIn_app (goodIn_of _ (by decide +kernel)) ggL_law_X7_inputLength
set_option maxRecDepth 20000 in
theorem ggL_law_X8_inputLength : GoodIn wsL_law wsX8_inputLength := goodIn_r _ [544, 505, 506, 1519, 1520, 1521, 1522, 1523, 1524, 1525, 1526, 1527, 1528, 1529, 1530, 1531, 1532, 1533, 1534, 1535, 1536, 1537, 1538, 1539, 1540, 1541, 1542, 1543, 1544, 1545, 1546, 1547] (by decide +kernel) (by decide +kernel)
set_option maxRecDepth 20000 in
theorem gL_law_X8_inputLength : GoodIn wsL_law (wsV RL 163 RX8 yX8_inputLength wsX8_inputLength) := goodIn_app (goodIn_of _ (by decide +kernel)) ggL_law_X8_inputLength
set_option maxRecDepth 20000 in
theorem ggL_law_X7_runScript : GoodIn wsL_law wsX7_runScript := goodIn_r _ [548, 39, 15, 549, 23, 19, 30, 550, 157, 158, 159, 38, 160, 96, 97, 81, 82, 83, 91, 92, 161, 162, 163, 164, 95, 165, 107, 166, 167, 168, 169, 102, 103, 170, 171, 172, 18, 173, 50, 49, 174, 175, 176, 177, 178, 179, 180, 181, 182, 183, 104, 105, 184, 185, 186, 187, 188, 189, 190, 191, 192, 193, 194, 195, 196, 197, 198, 199, 200, 201, 106, 202, 203, 204, 205, 206, 109, 110, 111, 112, 113, 114, 115, 116, 117, 118, 119, 207, 121, 122, 123, 124, 125, 126, 127, 128, 129, 130, 131, 132, 133, 134, 135, 136, 137, 138, 139, 140, 141, 142, 143, 144, 145, 146, 147, 148, 149, 150, 151, 152, 153, 154, 155, 156, 208, 209, 210, 211, 212, 213, 214, 215, 216, 217, 218, 219, 220, 221, 222, 223, 224, 225, 226, 227, 228, 229, 230, 231, 232, 233, 85, 86, 84, 234, 235, 236, 237, 238, 239, 240, 241, 242, 243, 244, 245, 246, 247, 248, 87, 88, 89, 249, 250, 251, 252, 253, 90, 254, 255, 256, 257, 258, 259, 260, 261, 262, 45, 263, 264, 265, 33, 266, 267, 268, 269, 270, 271, 272, 273, 274, 275, 276, 277, 278, 279, 280, 281, 282, 283, 284, 285, 286, 287, 288, 289, 290, 291, 292, 293, 294, 295, 296, 297, 298, 299, 300, 301, 302, 303, 304, 305, 306, 48, 307, 58, 55, 56, 57, 59, 308, 309, 310, 311, 312, 313, 314, 315, 316, 317, 318, 319, 320, 321, 322, 323, 324, 325, 326, 327, 328, 329, 330, 331, 332, 333, 334, 335, 336, 337, 338, 339, 340, 341, 342, 343, 344, 345, 346, 347, 348, 349, 350, 351, 352, 353, 354, 355, 356, 357, 358, 359, 360, 361, 362, 363, 364, 365, 366, 367, 368, 369, 370, 371, 372, 373, 551, 552, 553, 22, 554, 69, 68, 70, 555, 556, 375, 376, 377, 378, 379, 380, 381, 382, 383, 384, 385, 386, 387, 388, 389, 374, 1508, 1509, 1510, 1511, 1512, 1513, 1514, 1515, 1516, 1517, 1518, 1566, 1567, 1568, 1569, 1570, 1571, 1572, 1573, 1574, 1575, 1576, 1577, 1578, 1579, 1548, 1549, 1550, 1585, 1586, 1587, 1588, 1589, 1590, 1580, 1581, 1582, 1583, 1584, 1556, 1557, 1558, 1559, 1560, 1561, 1562, 1563, 1564, 1565, 1551, 1552, 1553] (by decide +kernel) (by decide +kernel)
set_option maxRecDepth 20000 in
theorem gL_law_X7_runScript : GoodIn wsL_law (wsV RL 164 RX7 yX7_runScript wsX7_runScript) := goodIn_app (goodIn_of _ (by decide +kernel)) ggL_law_X7_runScript
set_option maxRecDepth 20000 in
theorem ggL_law_X8_runScript : GoodIn wsL_law wsX8_runScript := goodIn_r _ [560, 505, 394, 398, 561, 562, 563, 564, 565, 566, 506, 567, 402, 568, 569, 5, 570, 571, 572, 573, 574, 400, 575, 576, 577, 578, 579, 580, 581, 582, 583, 584, 585, 586, 587, 588, 589, 109, 110, 111, 112, 113, 114, 115, 116, 117, 118, 119, 590, 121, 122, 123, 124, 125, 126, 127, 128, 129, 130, 131, 132, 133, 134, 135, 136, 137, 138, 139, 140, 141, 142, 143, 144, 145, 146, 147, 148, 149, 150, 151, 152, 153, 154, 155, 156, 591, 592, 593, 594, 595, 596, 597, 598, 599, 600, 601, 602, 603, 604, 605, 606, 607, 608, 609, 610, 611, 612, 613, 614, 615, 616, 617, 618, 619, 620, 621, 622, 623, 624, 625, 626, 627, 628, 629, 630, 405, 406, 407, 408, 409, 410, 411, 412, 413, 414, 415, 416, 417, 418, 419, 420, 421, 422, 423, 424, 425, 426, 427, 428, 429, 430, 431, 432, 433, 434, 435, 436, 437, 438, 439, 440, 441, 442, 443, 444, 445, 446, 447, 448, 449, 450, 451, 452, 631, 632, 633, 634, 457, 458, 459, 460, 461, 462, 463, 464, 465, 466, 467, 468, 469, 470, 471, 472, 473, 474, 475, 476, 477, 478, 479, 480, 453, 454, 455, 456, 635, 636, 637, 638, 639, 640, 641, 642, 481, 482, 483, 484, 485, 486, 487, 488, 643, 644, 645, 646, 647, 648, 649, 650, 651, 489, 490, 491, 492, 652, 653, 654, 655, 656, 657, 658, 659, 660, 661, 662, 663, 664, 665, 666, 667, 668, 669, 396, 1519, 1520, 1521, 1522, 1523, 1524, 1525, 1526, 1527, 1528, 1529, 1530, 1531, 1532, 1533, 1534, 1535, 1536, 1537, 1538, 1539, 1540, 1541, 1542, 1543, 1544, 1545, 1546, 1547] (by decide +kernel) (by decide +kernel)
set_option maxRecDepth 20000 in
theorem gL_law_X8_runScript : GoodIn wsL_law (wsV RL 167 RX8 yX8_runScript wsX8_runScript) := goodIn_app (goodIn_of _ (by decide +kernel)) ggL_law_X8_runScript
set_option maxRecDepth 20000 in
theorem ggL_law_L_openLoan : GoodIn wsL_law wsL_openLoan := goodIn_ca (goodIn_ca (goodIn_r _ [672, 515, 673, 674, 675, 676, 2, 677, 678, 19, 23, 550, 520, 521, 522, 523, 524, 679, 310, 311, 18, 312, 50, 680, 681, 682, 683, 684, 551, 552, 553, 22, 554, 69, 68, 70, 555, 167, 168, 169, 556, 375, 376, 377, 45, 49, 378, 379, 380, 33, 381, 321, 267, 280, 287, 298, 281, 293, 303, 288, 322, 382, 383, 384, 48, 385, 55, 386, 387, 388, 389, 56, 57, 58, 59, 685, 314, 315, 316, 317, 318, 319, 320, 323, 324, 325, 326, 327, 277, 278, 279, 282, 328, 329, 330, 331, 1508, 1509, 1510, 1511, 1512, 1513, 1514, 1515, 1516, 1517, 1518, 1548, 1549, 1550, 1551, 1552, 1553, 1556, 1557, 1558, 1559, 1560, 1561, 1562, 1563, 1564, 1565, 1580, 1581, 1582, 1583, 1584] (by decide +kernel) (by decide +kernel)) (goodIn_sub (fun _ h => List.mem_append_left _ (List.mem_append_left _ (List.mem_append_left _ (List.mem_append_right _ h)))) (by decide +kernel))) (goodIn_sub (fun _ h => List.mem_append_left _ (List.mem_append_left _ (List.mem_append_right _ h))) (by decide +kernel))
set_option maxRecDepth 20000 in
theorem gL_law_L_openLoan : GoodIn wsL_law (va_wsS RL 168 yL_openLoan wsL_openLoan) := goodIn_app (goodIn_of _ (by decide +kernel)) ggL_law_L_openLoan
set_option maxRecDepth 20000 in
theorem ggL_law_X8_openLoan : GoodIn wsL_law wsX8_openLoan := goodIn_r _ [689, 505, 626, 394, 529, 530, 531, 5, 532, 690, 691, 692, 693, 665, 666, 667, 668, 669, 396, 568, 569, 570, 405, 406, 407, 408, 409, 410, 411, 412, 413, 414, 415, 416, 417, 418, 419, 420, 421, 422, 423, 424, 425, 426, 427, 428, 429, 430, 431, 432, 433, 434, 435, 436, 437, 438, 439, 440, 441, 442, 443, 444, 445, 446, 447, 448, 449, 450, 451, 452, 1519, 1520, 1521, 1522, 1523, 1524, 1525, 1526, 1527, 1528, 1529, 1530, 1531, 1532, 1533, 1534, 1535, 1536, 1537, 1538, 1539, 1540, 1541, 1542, 1543, 1544, 1545, 1546, 1547] (by decide +kernel) (by decide +kernel)
set_option maxRecDepth 20000 in
theorem gL_law_X8_openLoan : GoodIn wsL_law (wsV RL 171 RX8 yX8_openLoan wsX8_openLoan) := goodIn_app (goodIn_of _ (by decide +kernel)) ggL_law_X8_openLoan
set_option maxRecDepth 20000 in
theorem ggL_law_L_pay : GoodIn wsL_law wsL_pay := goodIn_ca (goodIn_ca (goodIn_r _ [696, 697, 673, 698, 699, 700, 2, 701, 23, 19, 702, 703, 704, 705, 706, 707, 550, 708, 709, 264, 265, 33, 266, 267, 680, 681, 682, 683, 684, 551, 552, 553, 22, 554, 69, 68, 70, 555, 167, 168, 169, 556, 375, 376, 18, 377, 50, 45, 49, 378, 379, 380, 381, 321, 280, 287, 298, 281, 293, 303, 288, 322, 382, 383, 384, 48, 385, 55, 386, 387, 388, 389, 56, 57, 58, 59, 710, 269, 270, 271, 272, 273, 274, 275, 276, 277, 278, 279, 282, 283, 284, 285, 286, 289, 290, 291, 292, 294, 295, 296, 297, 299, 300, 301, 302, 304, 305, 306, 307, 308, 1508, 1509, 1510, 1511, 1512, 1513, 1514, 1515, 1516, 1517, 1518, 1548, 1549, 1550, 1556, 1557, 1558, 1559, 1560, 1561, 1562, 1563, 1564, 1565, 1551, 1552, 1553, 1580, 1581, 1582, 1583, 1584] (by decide +kernel) (by decide +kernel)) (goodIn_sub (fun _ h => List.mem_append_left _ (List.mem_append_right _ h)) (by decide +kernel))) (goodIn_sub (fun _ h => List.mem_append_left _ (List.mem_append_left _ (List.mem_append_right _ h))) (by decide +kernel))
set_option maxRecDepth 20000 in
theorem gL_law_L_pay : GoodIn wsL_law (va_wsS RL 172 yL_pay wsL_pay) := goodIn_app (goodIn_of _ (by decide +kernel)) ggL_law_L_pay
set_option maxRecDepth 20000 in
theorem ggL_law_X8_pay : GoodIn wsL_law wsX8_pay := goodIn_r _ [714, 505, 394, 715, 716, 717, 5, 718, 529, 530, 531, 532, 457, 458, 459, 460, 417, 418, 419, 420, 690, 691, 692, 693, 665, 666, 667, 668, 669, 396, 568, 569, 570, 461, 462, 463, 464, 425, 435, 436, 439, 465, 466, 467, 468, 427, 428, 429, 430, 431, 432, 433, 434, 437, 438, 440, 441, 442, 443, 444, 409, 410, 411, 412, 469, 470, 471, 472, 473, 474, 475, 476, 477, 478, 479, 480, 1519, 1520, 1521, 1522, 1523, 1524, 1525, 1526, 1527, 1528, 1529, 1530, 1531, 1532, 1533, 1534, 1535, 1536, 1537, 1538, 1539, 1540, 1541, 1542, 1543, 1544, 1545, 1546, 1547] (by decide +kernel) (by decide +kernel)
set_option maxRecDepth 20000 in
theorem gL_law_X8_pay : GoodIn wsL_law (wsV RL 174 RX8 yX8_pay wsX8_pay) := goodIn_app (goodIn_of _ (by decide +kernel)) ggL_law_X8_pay
set_option maxRecDepth 20000 in
theorem ggL_law_X7_payAll : GoodIn wsL_law wsX7_payAll := goodIn_r _ [722, 23, 19, 551, 552, 553, 22, 554, 69, 68, 70, 555, 167, 168, 169, 556, 375, 376, 18, 377, 50, 45, 49, 378, 379, 380, 33, 381, 321, 267, 280, 287, 298, 281, 293, 303, 288, 322, 382, 383, 384, 48, 385, 55, 386, 387, 388, 389, 56, 57, 58, 59, 723, 260, 261, 262, 263, 264, 265, 266, 268, 269, 270, 271, 272, 273, 274, 275, 276, 277, 278, 279, 282, 283, 284, 285, 286, 289, 290, 291, 292, 294, 295, 296, 297, 299, 300, 301, 302, 304, 305, 306, 307, 308, 1508, 1509, 1510, 1511, 1512, 1513, 1514, 1515, 1516, 1517, 1518, 1551, 1552, 1553, 1548, 1549, 1550, 1556, 1557, 1558, 1559, 1560, 1561, 1562, 1563, 1564, 1565, 1580, 1581, 1582, 1583, 1584] (by decide +kernel) (by decide +kernel)
set_option maxRecDepth 20000 in
theorem gL_law_X7_payAll : GoodIn wsL_law (wsV RL 175 RX7 yX7_payAll wsX7_payAll) := goodIn_app (goodIn_of _ (by decide +kernel)) ggL_law_X7_payAll
set_option maxRecDepth 20000 in
theorem ggL_law_X8_payAll : GoodIn wsL_law wsX8_payAll := goodIn_r _ [727, 505, 394, 665, 666, 667, 5, 668, 669, 396, 568, 569, 570, 453, 454, 455, 456, 457, 458, 459, 460, 417, 418, 419, 420, 461, 462, 463, 464, 425, 435, 436, 439, 465, 466, 467, 468, 427, 428, 429, 430, 431, 432, 433, 434, 437, 438, 440, 441, 442, 443, 444, 409, 410, 411, 412, 469, 470, 471, 472, 473, 474, 475, 476, 477, 478, 479, 480, 1519, 1520, 1521, 1522, 1523, 1524, 1525, 1526, 1527, 1528, 1529, 1530, 1531, 1532, 1533, 1534, 1535, 1536, 1537, 1538, 1539, 1540, 1541, 1542, 1543, 1544, 1545, 1546, 1547] (by decide +kernel) (by decide +kernel)
set_option maxRecDepth 20000 in
theorem gL_law_X8_payAll : GoodIn wsL_law (wsV RL 178 RX8 yX8_payAll wsX8_payAll) := goodIn_app (goodIn_of _ (by decide +kernel)) ggL_law_X8_payAll
set_option maxRecDepth 20000 in
theorem ggL_law_L_payExtra : GoodIn wsL_law wsL_payExtra := goodIn_ca (goodIn_ca (goodIn_ca (goodIn_r _ [730, 697, 515, 673, 731, 732, 733, 2, 734, 678, 23, 19, 735, 702, 703, 704, 705, 706, 707, 550, 708, 520, 521, 522, 523, 524, 736, 338, 339, 33, 340, 267, 680, 681, 682, 683, 684, 551, 552, 553, 22, 554, 69, 68, 70, 555, 167, 168, 169, 556, 375, 376, 18, 377, 50, 45, 49, 378, 379, 380, 381, 321, 280, 287, 298, 281, 293, 303, 288, 322, 382, 383, 384, 48, 385, 55, 386, 387, 388, 389, 56, 57, 58, 59, 737, 359, 360, 361, 272, 273, 274, 275, 362, 363, 364, 365, 299, 300, 301, 302, 323, 324, 325, 326, 327, 277, 278, 279, 282, 328, 329, 330, 331, 304, 305, 306, 307, 308, 1508, 1509, 1510, 1511, 1512, 1513, 1514, 1515, 1516, 1517, 1518, 1556, 1557, 1558, 1559, 1560, 1561, 1562, 1563, 1564, 1565, 1548, 1549, 1550, 1551, 1552, 1553, 1580, 1581, 1582, 1583, 1584] (by decide +kernel) (by decide +kernel)) (goodIn_sub (fun _ h => List.mem_append_left _ (List.mem_append_right _ h)) (by decide +kernel))) (goodIn_sub (fun _ h => List.mem_append_left _ (List.mem_append_left _ (List.mem_append_left _ (List.mem_append_right _ h)))) (by decide +kernel))) (goodIn_sub (fun _ h => List.mem_append_left _ (List.mem_append_left _ (List.mem_append_right _ h))) (by decide +kernel))
set_option maxRecDepth 20000 in
theorem gL_law_L_payExtra : GoodIn wsL_law (va_wsS RL 179 yL_payExtra wsL_payExtra) := goodIn_app (goodIn_of _ (by decide +kernel)) ggL_law_L_payExtra
set_option maxRecDepth 20000 in
theorem ggL_law_X8_payExtra : GoodIn wsL_law wsX8_payExtra := goodIn_r _ [741, 505, 626, 394, 715, 716, 717, 5, 718, 529, 530, 531, 532, 639, 640, 641, 642, 457, 458, 459, 460, 417, 418, 419, 420, 690, 691, 692, 693, 665, 666, 667, 668, 669, 396, 568, 569, 570, 481, 482, 483, 484, 469, 470, 471, 472, 409, 410, 411, 412, 473, 474, 475, 476, 477, 478, 479, 480, 413, 414, 415, 416, 421, 422, 423, 424, 425, 426, 427, 428, 429, 430, 431, 432, 433, 434, 435, 436, 437, 438, 439, 440, 441, 442, 443, 444, 445, 446, 447, 448, 449, 450, 451, 452, 485, 486, 487, 488, 1519, 1520, 1521, 1522, 1523, 1524, 1525, 1526, 1527, 1528, 1529, 1530, 1531, 1532, 1533, 1534, 1535, 1536, 1537, 1538, 1539, 1540, 1541, 1542, 1543, 1544, 1545, 1546, 1547] (by decide +kernel) (by decide +kernel)
set_option maxRecDepth 20000 in
theorem gL_law_X8_payExtra : GoodIn wsL_law (wsV RL 182 RX8 yX8_payExtra wsX8_payExtra) := goodIn_app (goodIn_of _ (by decide +kernel)) ggL_law_X8_payExtra
set_option maxRecDepth 20000 in
theorem ggL_law_L_skipMonth : GoodIn wsL_law wsL_skipMonth := goodIn_ca (goodIn_ca (goodIn_r _ [744, 697, 673, 745, 746, 747, 2, 748, 23, 19, 702, 703, 704, 705, 706, 707, 550, 708, 749, 342, 343, 33, 344, 267, 322, 345, 327, 277, 278, 279, 280, 281, 282, 680, 681, 682, 683, 684, 551, 552, 553, 22, 554, 69, 68, 70, 555, 167, 168, 169, 556, 375, 376, 18, 377, 50, 45, 49, 378, 379, 380, 381, 321, 287, 298, 293, 303, 288, 382, 383, 384, 48, 385, 55, 386, 387, 388, 389, 56, 57, 58, 59, 750, 367, 368, 369, 289, 290, 291, 292, 323, 324, 325, 326, 328, 329, 330, 331, 1508, 1509, 1510, 1511, 1512, 1513, 1514, 1515, 1516, 1517, 1518, 1548, 1549, 1550, 1556, 1557, 1558, 1559, 1560, 1561, 1562, 1563, 1564, 1565, 1551, 1552, 1553, 1580, 1581, 1582, 1583, 1584] (by decide +kernel) (by decide +kernel)) (goodIn_sub (fun _ h => List.mem_append_left _ (List.mem_append_right _ h)) (by decide +kernel))) (goodIn_sub (fun _ h => List.mem_append_left _ (List.mem_append_left _ (List.mem_append_right _ h))) (by decide +kernel))
set_option maxRecDepth 20000 in
theorem gL_law_L_skipMonth : GoodIn wsL_law (va_wsS RL 183 yL_skipMonth wsL_skipMonth) := goodIn_app (goodIn_of _ (by decide +kernel)) ggL_law_L_skipMonth
set_option maxRecDepth 20000 in
theorem ggL_law_X8_skipMonth : GoodIn wsL_law wsX8_skipMonth := goodIn_r _ [754, 505, 394, 715, 716, 717, 5, 718, 529, 530, 531, 532, 647, 648, 649, 650, 439, 651, 457, 458, 459, 460, 417, 418, 419, 420, 465, 466, 467, 468, 427, 428, 429, 430, 431, 432, 433, 434, 435, 436, 437, 438, 425, 440, 441, 442, 443, 444, 690, 691, 692, 693, 665, 666, 667, 668, 669, 396, 568, 569, 570, 489, 490, 491, 492, 409, 410, 411, 412, 469, 470, 471, 472, 413, 414, 415, 416, 421, 422, 423, 424, 426, 445, 446, 447, 448, 449, 450, 451, 452, 1519, 1520, 1521, 1522, 1523, 1524, 1525, 1526, 1527, 1528, 1529, 1530, 1531, 1532, 1533, 1534, 1535, 1536, 1537, 1538, 1539, 1540, 1541, 1542, 1543, 1544, 1545, 1546, 1547] (by decide +kernel) (by decide +kernel)
set_option maxRecDepth 20000 in
theorem gL_law_X8_skipMonth : GoodIn wsL_law (wsV RL 185 RX8 yX8_skipMonth wsX8_skipMonth) := goodIn_app (goodIn_of _ (by decide +kernel)) ggL_law_X8_skipMonth
set_option maxRecDepth 20000 in
theorem ggL_law_L_changeRate : GoodIn wsL_law wsL_changeRate := goodIn_ca (goodIn_ca (goodIn_ca (goodIn_r _ [757, 697, 515, 673, 758, 759, 760, 2, 761, 23, 19, 762, 702, 703, 704, 705, 706, 707, 550, 708, 520, 521, 522, 523, 524, 709, 264, 265, 33, 266, 267, 680, 681, 682, 683, 684, 551, 552, 553, 22, 554, 69, 68, 70, 555, 167, 168, 169, 556, 375, 376, 18, 377, 50, 45, 49, 378, 379, 380, 381, 321, 280, 287, 298, 281, 293, 303, 288, 322, 382, 383, 384, 48, 385, 55, 386, 387, 388, 389, 56, 57, 58, 59, 763, 371, 372, 373, 323, 324, 325, 326, 327, 277, 278, 279, 282, 328, 329, 330, 331, 1508, 1509, 1510, 1511, 1512, 1513, 1514, 1515, 1516, 1517, 1518, 1556, 1557, 1558, 1559, 1560, 1561, 1562, 1563, 1564, 1565, 1548, 1549, 1550, 1551, 1552, 1553, 1580, 1581, 1582, 1583, 1584] (by decide +kernel) (by decide +kernel)) (goodIn_sub (fun _ h => List.mem_append_left _ (List.mem_append_right _ h)) (by decide +kernel))) (goodIn_sub (fun _ h => List.mem_append_left _ (List.mem_append_left _ (List.mem_append_left _ (List.mem_append_right _ h)))) (by decide +kernel))) (goodIn_sub (fun _ h => List.mem_append_left _ (List.mem_append_left _ (List.mem_append_right _ h))) (by decide +kernel))
set_option maxRecDepth 20000 in
theorem gL_law_L_changeRate : GoodIn wsL_law (va_wsS RL 186 yL_changeRate wsL_changeRate) := goodIn_app (goodIn_of _ (by decide +kernel)) ggL_law_L_changeRate
set_option maxRecDepth 20000 in
theorem ggL_law_X8_changeRate : GoodIn wsL_law wsX8_changeRate := goodIn_r _ [767, 505, 394, 715, 716, 717, 5, 718, 529, 530, 531, 532, 457, 458, 459, 460, 417, 418, 419, 420, 690, 691, 692, 693, 665, 666, 667, 668, 669, 396, 568, 569, 570, 652, 653, 654, 655, 409, 410, 411, 412, 413, 414, 415, 416, 421, 422, 423, 424, 425, 426, 427, 428, 429, 430, 431, 432, 433, 434, 435, 436, 437, 438, 439, 440, 441, 442, 443, 444, 445, 446, 447, 448, 449, 450, 451, 452, 1519, 1520, 1521, 1522, 1523, 1524, 1525, 1526, 1527, 1528, 1529, 1530, 1531, 1532, 1533, 1534, 1535, 1536, 1537, 1538, 1539, 1540, 1541, 1542, 1543, 1544, 1545, 1546, 1547] (by decide +kernel) (by decide +kernel)
set_option maxRecDepth 20000 in
theorem gL_law_X8_changeRate : GoodIn wsL_law (wsV RL 189 RX8 yX8_changeRate wsX8_changeRate) := goodIn_app (goodIn_of _ (by decide +kernel)) ggL_law_X8_changeRate
set_option maxRecDepth 20000 in
theorem ggL_law_L_extendTerm : GoodIn wsL_law wsL_extendTerm := goodIn_ca (goodIn_ca (goodIn_ca (goodIn_r _ [770, 697, 515, 673, 771, 772, 773, 2, 774, 23, 19, 775, 762, 702, 703, 704, 705, 706, 707, 550, 708, 520, 521, 522, 523, 524, 776, 347, 348, 33, 349, 267, 287, 680, 681, 682, 683, 684, 551, 552, 553, 22, 554, 69, 68, 70, 555, 167, 168, 169, 556, 375, 376, 18, 377, 50, 45, 49, 378, 379, 380, 381, 321, 280, 298, 281, 293, 303, 288, 322, 382, 383, 384, 48, 385, 55, 386, 387, 388, 389, 56, 57, 58, 59, 763, 371, 372, 373, 323, 324, 325, 326, 327, 277, 278, 279, 282, 328, 329, 330, 331, 1508, 1509, 1510, 1511, 1512, 1513, 1514, 1515, 1516, 1517, 1518, 1556, 1557, 1558, 1559, 1560, 1561, 1562, 1563, 1564, 1565, 1548, 1549, 1550, 1551, 1552, 1553, 1580, 1581, 1582, 1583, 1584] (by decide +kernel) (by decide +kernel)) (goodIn_sub (fun _ h => List.mem_append_left _ (List.mem_append_right _ h)) (by decide +kernel))) (goodIn_sub (fun _ h => List.mem_append_left _ (List.mem_append_left _ (List.mem_append_left _ (List.mem_append_right _ h)))) (by decide +kernel))) (goodIn_sub (fun _ h => List.mem_append_left _ (List.mem_append_left _ (List.mem_append_right _ h))) (by decide +kernel))
set_option maxRecDepth 20000 in
theorem gL_law_L_extendTerm : GoodIn wsL_law (va_wsS RL 190 yL_extendTerm wsL_extendTerm) := goodIn_app (goodIn_of _ (by decide +kernel)) ggL_law_L_extendTerm
set_option maxRecDepth 20000 in
theorem ggL_law_X8_extendTerm : GoodIn wsL_law wsX8_extendTerm := goodIn_r _ [780, 505, 394, 715, 716, 717, 5, 718, 529, 530, 531, 532, 656, 657, 658, 659, 457, 458, 459, 460, 417, 418, 419, 420, 690, 691, 692, 693, 665, 666, 667, 668, 669, 396, 568, 569, 570, 660, 661, 662, 663, 469, 470, 471, 472, 409, 410, 411, 412, 413, 414, 415, 416, 421, 422, 423, 424, 425, 426, 427, 428, 429, 430, 431, 432, 433, 434, 435, 436, 437, 438, 439, 440, 441, 442, 443, 444, 445, 446, 447, 448, 449, 450, 451, 452, 1519, 1520, 1521, 1522, 1523, 1524, 1525, 1526, 1527, 1528, 1529, 1530, 1531, 1532, 1533, 1534, 1535, 1536, 1537, 1538, 1539, 1540, 1541, 1542, 1543, 1544, 1545, 1546, 1547] (by decide +kernel) (by decide +kernel)
set_option maxRecDepth 20000 in
theorem gL_law_X8_extendTerm : GoodIn wsL_law (wsV RL 192 RX8 yX8_extendTerm wsX8_extendTerm) := goodIn_app (goodIn_of _ (by decide +kernel)) ggL_law_X8_extendTerm
set_option maxRecDepth 20000 in
theorem ggL_law_L_refinance : GoodIn wsL_law wsL_refinance := goodIn_ca (goodIn_ca (goodIn_ca (goodIn_r _ [783, 697, 515, 673, 784, 785, 786, 2, 787, 23, 19, 702, 703, 704, 705, 706, 707, 550, 708, 520, 521, 522, 523, 524, 709, 264, 265, 33, 266, 267, 680, 681, 682, 683, 684, 551, 552, 553, 22, 554, 69, 68, 70, 555, 167, 168, 169, 556, 375, 376, 18, 377, 50, 45, 49, 378, 379, 380, 381, 321, 280, 287, 298, 281, 293, 303, 288, 322, 382, 383, 384, 48, 385, 55, 386, 387, 388, 389, 56, 57, 58, 59, 763, 371, 372, 373, 323, 324, 325, 326, 327, 277, 278, 279, 282, 328, 329, 330, 331, 1508, 1509, 1510, 1511, 1512, 1513, 1514, 1515, 1516, 1517, 1518, 1548, 1549, 1550, 1556, 1557, 1558, 1559, 1560, 1561, 1562, 1563, 1564, 1565, 1551, 1552, 1553, 1580, 1581, 1582, 1583, 1584] (by decide +kernel) (by decide +kernel)) (goodIn_sub (fun _ h => List.mem_append_left _ (List.mem_append_right _ h)) (by decide +kernel))) (goodIn_sub (fun _ h => List.mem_append_left _ (List.mem_append_left _ (List.mem_append_left _ (List.mem_append_right _ h)))) (by decide +kernel))) (goodIn_sub (fun _ h => List.mem_append_left _ (List.mem_append_left _ (List.mem_append_right _ h))) (by decide +kernel))
set_option maxRecDepth 20000 in
theorem gL_law_L_refinance : GoodIn wsL_law (va_wsS RL 193 yL_refinance wsL_refinance) := goodIn_app (goodIn_of _ (by decide +kernel)) ggL_law_L_refinance
set_option maxRecDepth 20000 in
theorem ggL_law_X8_refinance : GoodIn wsL_law wsX8_refinance := goodIn_r _ [791, 505, 394, 715, 716, 717, 5, 718, 529, 530, 531, 532, 792, 793, 794, 795, 457, 458, 459, 460, 417, 418, 419, 420, 690, 691, 692, 693, 665, 666, 667, 668, 669, 396, 568, 569, 570, 796, 797, 798, 799, 409, 410, 411, 412, 413, 414, 415, 416, 421, 422, 423, 424, 425, 426, 427, 428, 429, 430, 431, 432, 433, 434, 435, 436, 437, 438, 439, 440, 441, 442, 443, 444, 445, 446, 447, 448, 449, 450, 451, 452, 1519, 1520, 1521, 1522, 1523, 1524, 1525, 1526, 1527, 1528, 1529, 1530, 1531, 1532, 1533, 1534, 1535, 1536, 1537, 1538, 1539, 1540, 1541, 1542, 1543, 1544, 1545, 1546, 1547] (by decide +kernel) (by decide +kernel)
set_option maxRecDepth 20000 in
theorem gL_law_X8_refinance : GoodIn wsL_law (wsV RL 195 RX8 yX8_refinance wsX8_refinance) := goodIn_app (goodIn_of _ (by decide +kernel)) ggL_law_X8_refinance
set_option maxRecDepth 20000 in
theorem ggL_law_L_spendExtra : GoodIn wsL_law wsL_spendExtra := goodIn_ca (goodIn_r _ [802, 515, 803, 804, 805, 2, 806, 678, 23, 19, 520, 521, 522, 523, 524, 551, 552, 553, 22, 554, 69, 68, 70, 555, 167, 168, 169, 556, 375, 376, 18, 377, 50, 45, 49, 378, 379, 380, 33, 381, 321, 267, 280, 287, 298, 281, 293, 303, 288, 322, 382, 383, 384, 48, 385, 55, 386, 387, 388, 389, 56, 57, 58, 59, 807, 808, 809, 810, 811, 812, 813, 814, 815, 816, 817, 263, 264, 265, 266, 818, 819, 820, 821, 822, 272, 273, 274, 275, 823, 359, 360, 361, 362, 363, 364, 365, 299, 300, 301, 302, 323, 324, 325, 326, 327, 277, 278, 279, 282, 328, 329, 330, 331, 304, 305, 306, 307, 308, 1508, 1509, 1510, 1511, 1512, 1513, 1514, 1515, 1516, 1517, 1518, 1551, 1552, 1553, 1548, 1549, 1550, 1556, 1557, 1558, 1559, 1560, 1561, 1562, 1563, 1564, 1565, 1580, 1581, 1582, 1583, 1584] (by decide +kernel) (by decide +kernel)) (goodIn_sub (fun _ h => List.mem_append_left _ (List.mem_append_left _ (List.mem_append_left _ (List.mem_append_right _ h)))) (by decide +kernel))
set_option maxRecDepth 20000 in
theorem gL_law_L_spendExtra : GoodIn wsL_law (va_wsS RL 196 yL_spendExtra wsL_spendExtra) := goodIn_app (goodIn_of _ (by decide +kernel)) ggL_law_L_spendExtra
set_option maxRecDepth 20000 in
theorem ggL_law_X8_spendExtra : GoodIn wsL_law wsX8_spendExtra := goodIn_r _ [827, 505, 626, 394, 529, 530, 531, 5, 532, 665, 666, 667, 668, 669, 396, 568, 569, 570, 828, 829, 830, 831, 457, 458, 459, 460, 417, 418, 419, 420, 481, 482, 483, 484, 469, 470, 471, 472, 409, 410, 411, 412, 473, 474, 475, 476, 477, 478, 479, 480, 413, 414, 415, 416, 421, 422, 423, 424, 425, 426, 427, 428, 429, 430, 431, 432, 433, 434, 435, 436, 437, 438, 439, 440, 441, 442, 443, 444, 445, 446, 447, 448, 449, 450, 451, 452, 485, 486, 487, 488, 1519, 1520, 1521, 1522, 1523, 1524, 1525, 1526, 1527, 1528, 1529, 1530, 1531, 1532, 1533, 1534, 1535, 1536, 1537, 1538, 1539, 1540, 1541, 1542, 1543, 1544, 1545, 1546, 1547] (by decide +kernel) (by decide +kernel)
set_option maxRecDepth 20000 in
theorem gL_law_X8_spendExtra : GoodIn wsL_law (wsV RL 198 RX8 yX8_spendExtra wsX8_spendExtra) := goodIn_app (goodIn_of _ (by decide +kernel)) ggL_law_X8_spendExtra
set_option maxRecDepth 20000 in
theorem ggL_law_X7_undo : GoodIn wsL_law wsX7_undo := goodIn_r _ [835, 23, 19, 836, 837, 838, 839, 22, 840, 69, 70, 68, 556, 375, 376, 18, 377, 50, 45, 49, 378, 379, 380, 33, 381, 321, 267, 280, 287, 298, 281, 293, 303, 288, 322, 382, 383, 384, 48, 385, 55, 386, 387, 388, 389, 56, 57, 58, 59, 1508, 1509, 1510, 1511, 1512, 1513, 1514, 1515, 1516, 1517, 1518, 1551, 1552, 1553, 1548, 1549, 1550, 1556, 1557, 1558, 1559, 1560, 1561, 1562, 1563, 1564, 1565, 1580, 1581, 1582, 1583, 1584] (by decide +kernel) (by decide +kernel)
set_option maxRecDepth 20000 in
theorem gL_law_X7_undo : GoodIn wsL_law (wsV RL 199 RX7 yX7_undo wsX7_undo) := goodIn_app (goodIn_of _ (by decide +kernel)) ggL_law_X7_undo
set_option maxRecDepth 20000 in
theorem ggL_law_X8_undo : GoodIn wsL_law wsX8_undo := goodIn_r _ [844, 505, 669, 396, 394, 568, 569, 5, 570, 1519, 1520, 1521, 1522, 1523, 1524, 1525, 1526, 1527, 1528, 1529, 1530, 1531, 1532, 1533, 1534, 1535, 1536, 1537, 1538, 1539, 1540, 1541, 1542, 1543, 1544, 1545, 1546, 1547] (by decide +kernel) (by decide +kernel)
set_option maxRecDepth 20000 in
theorem gL_law_X8_undo : GoodIn wsL_law (wsV RL 202 RX8 yX8_undo wsX8_undo) := goodIn_app (goodIn_of _ (by decide +kernel)) ggL_law_X8_undo
set_option maxRecDepth 20000 in
theorem ggL_law_X7_undoCount : GoodIn wsL_law wsX7_undoCount := goodIn_r _ [848, 23, 836, 1508, 1509, 1510, 1511, 1512, 1513, 1514, 1515, 1516, 1517, 1518, 1551, 1552, 1553] (by decide +kernel) (by decide +kernel)
set_option maxRecDepth 20000 in
theorem gL_law_X7_undoCount : GoodIn wsL_law (wsV RL 203 RX7 yX7_undoCount wsX7_undoCount) := goodIn_app (goodIn_of _ (by decide +kernel)) ggL_law_X7_undoCount
set_option maxRecDepth 20000 in
theorem ggL_law_X8_undoCount : GoodIn wsL_law wsX8_undoCount := goodIn_r _ [852, 505, 669, 1519, 1520, 1521, 1522, 1523, 1524, 1525, 1526, 1527, 1528, 1529, 1530, 1531, 1532, 1533, 1534, 1535, 1536, 1537, 1538, 1539, 1540, 1541, 1542, 1543, 1544, 1545, 1546, 1547] (by decide +kernel) (by decide +kernel)
set_option maxRecDepth 20000 in
theorem gL_law_X8_undoCount : GoodIn wsL_law (wsV RL 206 RX8 yX8_undoCount wsX8_undoCount) := goodIn_app (goodIn_of _ (by decide +kernel)) ggL_law_X8_undoCount
set_option maxRecDepth 20000 in
theorem ggL_law_X7_saveSnapshot : GoodIn wsL_law wsX7_saveSnapshot := goodIn_r _ [856, 24, 19, 25, 550, 374, 375, 376, 18, 377, 50, 45, 49, 378, 379, 380, 33, 381, 321, 267, 280, 287, 298, 281, 293, 303, 288, 322, 382, 383, 384, 48, 385, 55, 386, 387, 388, 389, 56, 57, 58, 59, 1508, 1509, 1510, 1511, 1512, 1513, 1514, 1515, 1516, 1517, 1518, 1548, 1549, 1550, 1556, 1557, 1558, 1559, 1560, 1561, 1562, 1563, 1564, 1565, 1580, 1581, 1582, 1583, 1584] (by decide +kernel) (by decide +kernel)
set_option maxRecDepth 20000 in
theorem gL_law_X7_saveSnapshot : GoodIn wsL_law (wsV RL 207 RX7 yX7_saveSnapshot wsX7_saveSnapshot) := goodIn_app (goodIn_of _ (by decide +kernel)) ggL_law_X7_saveSnapshot
set_option maxRecDepth 20000 in
theorem ggL_law_X8_saveSnapshot : GoodIn wsL_law wsX8_saveSnapshot := goodIn_r _ [860, 505, 394, 397, 861, 568, 569, 5, 570, 1519, 1520, 1521, 1522, 1523, 1524, 1525, 1526, 1527, 1528, 1529, 1530, 1531, 1532, 1533, 1534, 1535, 1536, 1537, 1538, 1539, 1540, 1541, 1542, 1543, 1544, 1545, 1546, 1547] (by decide +kernel) (by decide +kernel)
set_option maxRecDepth 20000 in
theorem gL_law_X8_saveSnapshot : GoodIn wsL_law (wsV RL 210 RX8 yX8_saveSnapshot wsX8_saveSnapshot) := goodIn_app (goodIn_of _ (by decide +kernel)) ggL_law_X8_saveSnapshot
set_option maxRecDepth 20000 in
theorem ggL_law_L_restoreSnapshot : GoodIn wsL_law wsL_restoreSnapshot := goodIn_ca (goodIn_r _ [864, 865, 866, 867, 868, 2, 869, 870, 871, 25, 19, 24, 23, 550, 374, 375, 376, 18, 377, 50, 45, 49, 378, 379, 380, 33, 381, 321, 267, 280, 287, 298, 281, 293, 303, 288, 322, 382, 383, 384, 48, 385, 55, 386, 387, 388, 389, 56, 57, 58, 59, 872, 873, 874, 22, 875, 70, 1508, 1509, 1510, 1511, 1512, 1513, 1514, 1515, 1516, 1517, 1518, 1548, 1549, 1550, 1556, 1557, 1558, 1559, 1560, 1561, 1562, 1563, 1564, 1565, 1580, 1581, 1582, 1583, 1584, 1551, 1552, 1553] (by decide +kernel) (by decide +kernel)) (goodIn_sub (fun _ h => List.mem_append_right _ h) (by decide +kernel))
set_option maxRecDepth 20000 in
theorem gL_law_L_restoreSnapshot : GoodIn wsL_law (va_wsS RL 211 yL_restoreSnapshot wsL_restoreSnapshot) := goodIn_app (goodIn_of _ (by decide +kernel)) ggL_law_L_restoreSnapshot
set_option maxRecDepth 20000 in
theorem ggL_law_X8_restoreSnapshot : GoodIn wsL_law wsX8_restoreSnapshot := goodIn_r _ [879, 505, 861, 397, 394, 669, 690, 691, 692, 5, 693, 568, 569, 570, 1519, 1520, 1521, 1522, 1523, 1524, 1525, 1526, 1527, 1528, 1529, 1530, 1531, 1532, 1533, 1534, 1535, 1536, 1537, 1538, 1539, 1540, 1541, 1542, 1543, 1544, 1545, 1546, 1547] (by decide +kernel) (by decide +kernel)
set_option maxRecDepth 20000 in
theorem gL_law_X8_restoreSnapshot : GoodIn wsL_law (wsV RL 214 RX8 yX8_restoreSnapshot wsX8_restoreSnapshot) := goodIn_app (goodIn_of _ (by decide +kernel)) ggL_law_X8_restoreSnapshot
set_option maxRecDepth 20000 in
theorem ggL_law_X7_scriptErrorKind : GoodIn wsL_law wsX7_scriptErrorKind := goodIn_r _ [883, 39, 549, 1508, 1509, 1510, 1511, 1512, 1513, 1514, 1515, 1516, 1517, 1518, 1566, 1567, 1568, 1569, 1570, 1571, 1572, 1573, 1574, 1575, 1576, 1577, 1578, 1579] (by decide +kernel) (by decide +kernel)
set_option maxRecDepth 20000 in
theorem gL_law_X7_scriptErrorKind : GoodIn wsL_law (wsV RL 215 RX7 yX7_scriptErrorKind wsX7_scriptErrorKind) := goodIn_app (goodIn_of _ (by decide +kernel)) ggL_law_X7_scriptErrorKind
set_option maxRecDepth 20000 in
theorem ggL_law_X8_scriptErrorKind : GoodIn wsL_law wsX8_scriptErrorKind := goodIn_r _ [887, 505, 567, 1519, 1520, 1521, 1522, 1523, 1524, 1525, 1526, 1527, 1528, 1529, 1530, 1531, 1532, 1533, 1534, 1535, 1536, 1537, 1538, 1539, 1540, 1541, 1542, 1543, 1544, 1545, 1546, 1547] (by decide +kernel) (by decide +kernel)
set_option maxRecDepth 20000 in
theorem gL_law_X8_scriptErrorKind : GoodIn wsL_law (wsV RL 218 RX8 yX8_scriptErrorKind wsX8_scriptErrorKind) := goodIn_app (goodIn_of _ (by decide +kernel)) ggL_law_X8_scriptErrorKind
set_option maxRecDepth 20000 in
theorem ggL_law_X7_scriptErrorOffset : GoodIn wsL_law wsX7_scriptErrorOffset := goodIn_r _ [891, 39, 892, 1508, 1509, 1510, 1511, 1512, 1513, 1514, 1515, 1516, 1517, 1518, 1566, 1567, 1568, 1569, 1570, 1571, 1572, 1573, 1574, 1575, 1576, 1577, 1578, 1579] (by decide +kernel) (by decide +kernel)
set_option maxRecDepth 20000 in
theorem gL_law_X7_scriptErrorOffset : GoodIn wsL_law (wsV RL 219 RX7 yX7_scriptErrorOffset wsX7_scriptErrorOffset) := goodIn_app (goodIn_of _ (by decide +kernel)) ggL_law_X7_scriptErrorOffset
set_option maxRecDepth 20000 in
theorem ggL_law_X8_scriptErrorOffset : GoodIn wsL_law wsX8_scriptErrorOffset := goodIn_r _ [896, 505, 402, 1519, 1520, 1521, 1522, 1523, 1524, 1525, 1526, 1527, 1528, 1529, 1530, 1531, 1532, 1533, 1534, 1535, 1536, 1537, 1538, 1539, 1540, 1541, 1542, 1543, 1544, 1545, 1546, 1547] (by decide +kernel) (by decide +kernel)
set_option maxRecDepth 20000 in
theorem gL_law_X8_scriptErrorOffset : GoodIn wsL_law (wsV RL 222 RX8 yX8_scriptErrorOffset wsX8_scriptErrorOffset) := goodIn_app (goodIn_of _ (by decide +kernel)) ggL_law_X8_scriptErrorOffset
set_option maxRecDepth 20000 in
theorem ggL_law_X7_loanCount : GoodIn wsL_law wsX7_loanCount := goodIn_r _ [900, 19, 550, 1508, 1509, 1510, 1511, 1512, 1513, 1514, 1515, 1516, 1517, 1518, 1548, 1549, 1550] (by decide +kernel) (by decide +kernel)
set_option maxRecDepth 20000 in
theorem gL_law_X7_loanCount : GoodIn wsL_law (wsV RL 223 RX7 yX7_loanCount wsX7_loanCount) := goodIn_app (goodIn_of _ (by decide +kernel)) ggL_law_X7_loanCount
set_option maxRecDepth 20000 in
theorem ggL_law_X8_loanCount : GoodIn wsL_law wsX8_loanCount := goodIn_r _ [904, 505, 394, 1519, 1520, 1521, 1522, 1523, 1524, 1525, 1526, 1527, 1528, 1529, 1530, 1531, 1532, 1533, 1534, 1535, 1536, 1537, 1538, 1539, 1540, 1541, 1542, 1543, 1544, 1545, 1546, 1547] (by decide +kernel) (by decide +kernel)
set_option maxRecDepth 20000 in
theorem gL_law_X8_loanCount : GoodIn wsL_law (wsV RL 226 RX8 yX8_loanCount wsX8_loanCount) := goodIn_app (goodIn_of _ (by decide +kernel)) ggL_law_X8_loanCount
set_option maxRecDepth 20000 in
theorem ggL_law_X7_openCount : GoodIn wsL_law wsX7_openCount := goodIn_r _ [908, 19, 909, 910, 911, 18, 912, 50, 45, 263, 264, 265, 33, 266, 267, 1508, 1509, 1510, 1511, 1512, 1513, 1514, 1515, 1516, 1517, 1518, 1548, 1549, 1550, 1556, 1557, 1558, 1559, 1560, 1561, 1562, 1563, 1564, 1565] (by decide +kernel) (by decide +kernel)
set_option maxRecDepth 20000 in
theorem gL_law_X7_openCount : GoodIn wsL_law (wsV RL 227 RX7 yX7_openCount wsX7_openCount) := goodIn_app (goodIn_of _ (by decide +kernel)) ggL_law_X7_openCount
set_option maxRecDepth 20000 in
theorem ggL_law_X8_openCount : GoodIn wsL_law wsX8_openCount := goodIn_r _ [916, 505, 917, 918, 919, 5, 920, 394, 457, 458, 459, 460, 417, 418, 419, 420, 1519, 1520, 1521, 1522, 1523, 1524, 1525, 1526, 1527, 1528, 1529, 1530, 1531, 1532, 1533, 1534, 1535, 1536, 1537, 1538, 1539, 1540, 1541, 1542, 1543, 1544, 1545, 1546, 1547] (by decide +kernel) (by decide +kernel)
set_option maxRecDepth 20000 in
theorem gL_law_X8_openCount : GoodIn wsL_law (wsV RL 230 RX8 yX8_openCount wsX8_openCount) := goodIn_app (goodIn_of _ (by decide +kernel)) ggL_law_X8_openCount
set_option maxRecDepth 20000 in
theorem ggL_law_L_isOpen : GoodIn wsL_law wsL_isOpen := goodIn_ca (goodIn_r _ [923, 697, 924, 925, 926, 2, 927, 702, 703, 704, 705, 706, 707, 19, 550, 708, 709, 264, 265, 33, 266, 267, 1508, 1509, 1510, 1511, 1512, 1513, 1514, 1515, 1516, 1517, 1518, 1548, 1549, 1550, 1556, 1557, 1558, 1559, 1560, 1561, 1562, 1563, 1564, 1565] (by decide +kernel) (by decide +kernel)) (goodIn_sub (fun _ h => List.mem_append_left _ (List.mem_append_right _ h)) (by decide +kernel))
set_option maxRecDepth 20000 in
theorem gL_law_L_isOpen : GoodIn wsL_law (va_wsS RL 231 yL_isOpen wsL_isOpen) := goodIn_app (goodIn_of _ (by decide +kernel)) ggL_law_L_isOpen
set_option maxRecDepth 20000 in
theorem ggL_law_X8_isOpen : GoodIn wsL_law wsX8_isOpen := goodIn_r _ [931, 505, 715, 716, 717, 5, 718, 394, 529, 530, 531, 532, 457, 458, 459, 460, 417, 418, 419, 420, 1519, 1520, 1521, 1522, 1523, 1524, 1525, 1526, 1527, 1528, 1529, 1530, 1531, 1532, 1533, 1534, 1535, 1536, 1537, 1538, 1539, 1540, 1541, 1542, 1543, 1544, 1545, 1546, 1547] (by decide +kernel) (by decide +kernel)
set_option maxRecDepth 20000 in
theorem gL_law_X8_isOpen : GoodIn wsL_law (wsV RL 233 RX8 yX8_isOpen wsX8_isOpen) := goodIn_app (goodIn_of _ (by decide +kernel)) ggL_law_X8_isOpen
set_option maxRecDepth 20000 in
theorem ggL_law_L_principal : GoodIn wsL_law wsL_principal := goodIn_ca (goodIn_r _ [934, 697, 935, 936, 937, 2, 938, 939, 702, 703, 704, 705, 706, 707, 19, 550, 708, 1556, 1557, 1558, 1559, 1560, 1561, 1562, 1563, 1564, 1565, 1508, 1509, 1510, 1511, 1512, 1513, 1514, 1515, 1516, 1517, 1518, 1548, 1549, 1550] (by decide +kernel) (by decide +kernel)) (goodIn_sub (fun _ h => List.mem_append_left _ (List.mem_append_right _ h)) (by decide +kernel))
set_option maxRecDepth 20000 in
theorem gL_law_L_principal : GoodIn wsL_law (va_wsS RL 234 yL_principal wsL_principal) := goodIn_app (goodIn_of _ (by decide +kernel)) ggL_law_L_principal
set_option maxRecDepth 20000 in
theorem ggL_law_X8_principal : GoodIn wsL_law wsX8_principal := goodIn_r _ [943, 944, 945, 946, 5, 947, 505, 715, 716, 717, 718, 394, 529, 530, 531, 532, 417, 418, 419, 420, 1519, 1520, 1521, 1522, 1523, 1524, 1525, 1526, 1527, 1528, 1529, 1530, 1531, 1532, 1533, 1534, 1535, 1536, 1537, 1538, 1539, 1540, 1541, 1542, 1543, 1544, 1545, 1546, 1547] (by decide +kernel) (by decide +kernel)
set_option maxRecDepth 20000 in
theorem gL_law_X8_principal : GoodIn wsL_law (wsV RL 236 RX8 yX8_principal wsX8_principal) := goodIn_app (goodIn_of _ (by decide +kernel)) ggL_law_X8_principal
set_option maxRecDepth 20000 in
theorem ggL_law_L_balance : GoodIn wsL_law wsL_balance := goodIn_ca (goodIn_r _ [950, 697, 951, 952, 953, 2, 954, 735, 702, 703, 704, 705, 706, 707, 19, 550, 708, 1556, 1557, 1558, 1559, 1560, 1561, 1562, 1563, 1564, 1565, 1508, 1509, 1510, 1511, 1512, 1513, 1514, 1515, 1516, 1517, 1518, 1548, 1549, 1550] (by decide +kernel) (by decide +kernel)) (goodIn_sub (fun _ h => List.mem_append_left _ (List.mem_append_right _ h)) (by decide +kernel))
set_option maxRecDepth 20000 in
theorem gL_law_L_balance : GoodIn wsL_law (va_wsS RL 237 yL_balance wsL_balance) := goodIn_app (goodIn_of _ (by decide +kernel)) ggL_law_L_balance
set_option maxRecDepth 20000 in
theorem ggL_law_X8_balance : GoodIn wsL_law wsX8_balance := goodIn_r _ [958, 944, 945, 946, 5, 947, 505, 715, 716, 717, 718, 394, 529, 530, 531, 532, 417, 418, 419, 420, 1519, 1520, 1521, 1522, 1523, 1524, 1525, 1526, 1527, 1528, 1529, 1530, 1531, 1532, 1533, 1534, 1535, 1536, 1537, 1538, 1539, 1540, 1541, 1542, 1543, 1544, 1545, 1546, 1547] (by decide +kernel) (by decide +kernel)
set_option maxRecDepth 20000 in
theorem gL_law_X8_balance : GoodIn wsL_law (wsV RL 239 RX8 yX8_balance wsX8_balance) := goodIn_app (goodIn_of _ (by decide +kernel)) ggL_law_X8_balance
set_option maxRecDepth 20000 in
theorem ggL_law_L_rate : GoodIn wsL_law wsL_rate := goodIn_ca (goodIn_r _ [961, 697, 962, 963, 964, 2, 965, 775, 702, 703, 704, 705, 706, 707, 19, 550, 708, 1556, 1557, 1558, 1559, 1560, 1561, 1562, 1563, 1564, 1565, 1508, 1509, 1510, 1511, 1512, 1513, 1514, 1515, 1516, 1517, 1518, 1548, 1549, 1550] (by decide +kernel) (by decide +kernel)) (goodIn_sub (fun _ h => List.mem_append_left _ (List.mem_append_right _ h)) (by decide +kernel))
set_option maxRecDepth 20000 in
theorem gL_law_L_rate : GoodIn wsL_law (va_wsS RL 240 yL_rate wsL_rate) := goodIn_app (goodIn_of _ (by decide +kernel)) ggL_law_L_rate
set_option maxRecDepth 20000 in
theorem ggL_law_X8_rate : GoodIn wsL_law wsX8_rate := goodIn_r _ [969, 944, 945, 946, 5, 947, 505, 715, 716, 717, 718, 394, 529, 530, 531, 532, 417, 418, 419, 420, 1519, 1520, 1521, 1522, 1523, 1524, 1525, 1526, 1527, 1528, 1529, 1530, 1531, 1532, 1533, 1534, 1535, 1536, 1537, 1538, 1539, 1540, 1541, 1542, 1543, 1544, 1545, 1546, 1547] (by decide +kernel) (by decide +kernel)
set_option maxRecDepth 20000 in
theorem gL_law_X8_rate : GoodIn wsL_law (wsV RL 242 RX8 yX8_rate wsX8_rate) := goodIn_app (goodIn_of _ (by decide +kernel)) ggL_law_X8_rate
set_option maxRecDepth 20000 in
theorem ggL_law_L_monthsLeft : GoodIn wsL_law wsL_monthsLeft := goodIn_ca (goodIn_r _ [972, 697, 973, 974, 975, 2, 976, 762, 702, 703, 704, 705, 706, 707, 19, 550, 708, 1556, 1557, 1558, 1559, 1560, 1561, 1562, 1563, 1564, 1565, 1508, 1509, 1510, 1511, 1512, 1513, 1514, 1515, 1516, 1517, 1518, 1548, 1549, 1550] (by decide +kernel) (by decide +kernel)) (goodIn_sub (fun _ h => List.mem_append_left _ (List.mem_append_right _ h)) (by decide +kernel))
set_option maxRecDepth 20000 in
theorem gL_law_L_monthsLeft : GoodIn wsL_law (va_wsS RL 243 yL_monthsLeft wsL_monthsLeft) := goodIn_app (goodIn_of _ (by decide +kernel)) ggL_law_L_monthsLeft
set_option maxRecDepth 20000 in
theorem ggL_law_X8_monthsLeft : GoodIn wsL_law wsX8_monthsLeft := goodIn_r _ [980, 944, 945, 946, 5, 947, 505, 715, 716, 717, 718, 394, 529, 530, 531, 532, 417, 418, 419, 420, 1519, 1520, 1521, 1522, 1523, 1524, 1525, 1526, 1527, 1528, 1529, 1530, 1531, 1532, 1533, 1534, 1535, 1536, 1537, 1538, 1539, 1540, 1541, 1542, 1543, 1544, 1545, 1546, 1547] (by decide +kernel) (by decide +kernel)
set_option maxRecDepth 20000 in
theorem gL_law_X8_monthsLeft : GoodIn wsL_law (wsV RL 245 RX8 yX8_monthsLeft wsX8_monthsLeft) := goodIn_app (goodIn_of _ (by decide +kernel)) ggL_law_X8_monthsLeft
set_option maxRecDepth 20000 in
theorem ggL_law_L_installment : GoodIn wsL_law wsL_installment := goodIn_ca (goodIn_r _ [983, 697, 984, 985, 986, 2, 987, 988, 702, 703, 704, 705, 706, 707, 19, 550, 708, 1556, 1557, 1558, 1559, 1560, 1561, 1562, 1563, 1564, 1565, 1508, 1509, 1510, 1511, 1512, 1513, 1514, 1515, 1516, 1517, 1518, 1548, 1549, 1550] (by decide +kernel) (by decide +kernel)) (goodIn_sub (fun _ h => List.mem_append_left _ (List.mem_append_right _ h)) (by decide +kernel))
set_option maxRecDepth 20000 in
theorem gL_law_L_installment : GoodIn wsL_law (va_wsS RL 246 yL_installment wsL_installment) := goodIn_app (goodIn_of _ (by decide +kernel)) ggL_law_L_installment
set_option maxRecDepth 20000 in
theorem ggL_law_X8_installment : GoodIn wsL_law wsX8_installment := goodIn_r _ [992, 944, 945, 946, 5, 947, 505, 715, 716, 717, 718, 394, 529, 530, 531, 532, 417, 418, 419, 420, 1519, 1520, 1521, 1522, 1523, 1524, 1525, 1526, 1527, 1528, 1529, 1530, 1531, 1532, 1533, 1534, 1535, 1536, 1537, 1538, 1539, 1540, 1541, 1542, 1543, 1544, 1545, 1546, 1547] (by decide +kernel) (by decide +kernel)
set_option maxRecDepth 20000 in
theorem gL_law_X8_installment : GoodIn wsL_law (wsV RL 248 RX8 yX8_installment wsX8_installment) := goodIn_app (goodIn_of _ (by decide +kernel)) ggL_law_X8_installment
set_option maxRecDepth 20000 in
theorem ggL_law_L_carry : GoodIn wsL_law wsL_carry := goodIn_ca (goodIn_r _ [995, 697, 996, 997, 998, 2, 999, 1000, 702, 703, 704, 705, 706, 707, 19, 550, 708, 1556, 1557, 1558, 1559, 1560, 1561, 1562, 1563, 1564, 1565, 1508, 1509, 1510, 1511, 1512, 1513, 1514, 1515, 1516, 1517, 1518, 1548, 1549, 1550] (by decide +kernel) (by decide +kernel)) (goodIn_sub (fun _ h => List.mem_append_left _ (List.mem_append_right _ h)) (by decide +kernel))
set_option maxRecDepth 20000 in
theorem gL_law_L_carry : GoodIn wsL_law (va_wsS RL 249 yL_carry wsL_carry) := goodIn_app (goodIn_of _ (by decide +kernel)) ggL_law_L_carry
set_option maxRecDepth 20000 in
theorem ggL_law_X8_carry : GoodIn wsL_law wsX8_carry := goodIn_r _ [1004, 944, 945, 946, 5, 947, 505, 715, 716, 717, 718, 394, 529, 530, 531, 532, 417, 418, 419, 420, 1519, 1520, 1521, 1522, 1523, 1524, 1525, 1526, 1527, 1528, 1529, 1530, 1531, 1532, 1533, 1534, 1535, 1536, 1537, 1538, 1539, 1540, 1541, 1542, 1543, 1544, 1545, 1546, 1547] (by decide +kernel) (by decide +kernel)
set_option maxRecDepth 20000 in
theorem gL_law_X8_carry : GoodIn wsL_law (wsV RL 251 RX8 yX8_carry wsX8_carry) := goodIn_app (goodIn_of _ (by decide +kernel)) ggL_law_X8_carry
set_option maxRecDepth 20000 in
theorem ggL_law_L_interestDue : GoodIn wsL_law wsL_interestDue := goodIn_ca (goodIn_r _ [1007, 697, 1008, 1009, 1010, 2, 1011, 702, 703, 704, 705, 706, 707, 19, 550, 708, 1012, 277, 278, 33, 279, 267, 280, 281, 282, 1508, 1509, 1510, 1511, 1512, 1513, 1514, 1515, 1516, 1517, 1518, 1548, 1549, 1550, 1556, 1557, 1558, 1559, 1560, 1561, 1562, 1563, 1564, 1565] (by decide +kernel) (by decide +kernel)) (goodIn_sub (fun _ h => List.mem_append_left _ (List.mem_append_right _ h)) (by decide +kernel))
set_option maxRecDepth 20000 in
theorem gL_law_L_interestDue : GoodIn wsL_law (va_wsS RL 252 yL_interestDue wsL_interestDue) := goodIn_app (goodIn_of _ (by decide +kernel)) ggL_law_L_interestDue
set_option maxRecDepth 20000 in
theorem ggL_law_X8_interestDue : GoodIn wsL_law wsX8_interestDue := goodIn_r _ [1016, 439, 1017, 1018, 1019, 5, 1020, 505, 715, 716, 717, 718, 394, 529, 530, 531, 532, 457, 458, 459, 460, 417, 418, 419, 420, 465, 466, 467, 468, 427, 428, 429, 430, 431, 432, 433, 434, 435, 436, 437, 438, 425, 440, 441, 442, 443, 444, 1519, 1520, 1521, 1522, 1523, 1524, 1525, 1526, 1527, 1528, 1529, 1530, 1531, 1532, 1533, 1534, 1535, 1536, 1537, 1538, 1539, 1540, 1541, 1542, 1543, 1544, 1545, 1546, 1547] (by decide +kernel) (by decide +kernel)
set_option maxRecDepth 20000 in
theorem gL_law_X8_interestDue : GoodIn wsL_law (wsV RL 254 RX8 yX8_interestDue wsX8_interestDue) := goodIn_app (goodIn_of _ (by decide +kernel)) ggL_law_X8_interestDue
set_option maxRecDepth 20000 in
theorem ggL_law_L_amountDue : GoodIn wsL_law wsL_amountDue := goodIn_ca (goodIn_r _ [1023, 697, 1024, 1025, 1026, 2, 1027, 702, 703, 704, 705, 706, 707, 19, 550, 708, 1028, 1029, 1030, 33, 1031, 267, 327, 277, 278, 279, 280, 281, 282, 294, 295, 296, 297, 298, 287, 1508, 1509, 1510, 1511, 1512, 1513, 1514, 1515, 1516, 1517, 1518, 1548, 1549, 1550, 1556, 1557, 1558, 1559, 1560, 1561, 1562, 1563, 1564, 1565] (by decide +kernel) (by decide +kernel)) (goodIn_sub (fun _ h => List.mem_append_left _ (List.mem_append_right _ h)) (by decide +kernel))
set_option maxRecDepth 20000 in
theorem gL_law_L_amountDue : GoodIn wsL_law (va_wsS RL 255 yL_amountDue wsL_amountDue) := goodIn_app (goodIn_of _ (by decide +kernel)) ggL_law_L_amountDue
set_option maxRecDepth 20000 in
theorem ggL_law_X8_amountDue : GoodIn wsL_law wsX8_amountDue := goodIn_r _ [1035, 425, 1017, 1018, 1019, 5, 1020, 505, 715, 716, 717, 718, 394, 529, 530, 531, 532, 457, 458, 459, 460, 417, 418, 419, 420, 465, 466, 467, 468, 427, 428, 429, 430, 431, 432, 433, 434, 435, 436, 437, 438, 439, 440, 441, 442, 443, 444, 1519, 1520, 1521, 1522, 1523, 1524, 1525, 1526, 1527, 1528, 1529, 1530, 1531, 1532, 1533, 1534, 1535, 1536, 1537, 1538, 1539, 1540, 1541, 1542, 1543, 1544, 1545, 1546, 1547] (by decide +kernel) (by decide +kernel)
set_option maxRecDepth 20000 in
theorem gL_law_X8_amountDue : GoodIn wsL_law (wsV RL 257 RX8 yX8_amountDue wsX8_amountDue) := goodIn_app (goodIn_of _ (by decide +kernel)) ggL_law_X8_amountDue
set_option maxRecDepth 20000 in
theorem ggL_law_L_interestSoFar : GoodIn wsL_law wsL_interestSoFar := goodIn_ca (goodIn_r _ [1038, 697, 1039, 1040, 1041, 2, 1042, 1043, 702, 703, 704, 705, 706, 707, 19, 550, 708, 1556, 1557, 1558, 1559, 1560, 1561, 1562, 1563, 1564, 1565, 1508, 1509, 1510, 1511, 1512, 1513, 1514, 1515, 1516, 1517, 1518, 1548, 1549, 1550] (by decide +kernel) (by decide +kernel)) (goodIn_sub (fun _ h => List.mem_append_left _ (List.mem_append_right _ h)) (by decide +kernel))
set_option maxRecDepth 20000 in
theorem gL_law_L_interestSoFar : GoodIn wsL_law (va_wsS RL 258 yL_interestSoFar wsL_interestSoFar) := goodIn_app (goodIn_of _ (by decide +kernel)) ggL_law_L_interestSoFar
set_option maxRecDepth 20000 in
theorem ggL_law_X8_interestSoFar : GoodIn wsL_law wsX8_interestSoFar := goodIn_r _ [1047, 944, 945, 946, 5, 947, 505, 715, 716, 717, 718, 394, 529, 530, 531, 532, 417, 418, 419, 420, 1519, 1520, 1521, 1522, 1523, 1524, 1525, 1526, 1527, 1528, 1529, 1530, 1531, 1532, 1533, 1534, 1535, 1536, 1537, 1538, 1539, 1540, 1541, 1542, 1543, 1544, 1545, 1546, 1547] (by decide +kernel) (by decide +kernel)
set_option maxRecDepth 20000 in
theorem gL_law_X8_interestSoFar : GoodIn wsL_law (wsV RL 260 RX8 yX8_interestSoFar wsX8_interestSoFar) := goodIn_app (goodIn_of _ (by decide +kernel)) ggL_law_X8_interestSoFar
set_option maxRecDepth 20000 in
theorem ggL_law_L_paidSoFar : GoodIn wsL_law wsL_paidSoFar := goodIn_ca (goodIn_r _ [1050, 697, 1051, 1052, 1053, 2, 1054, 1055, 702, 703, 704, 705, 706, 707, 19, 550, 708, 1556, 1557, 1558, 1559, 1560, 1561, 1562, 1563, 1564, 1565, 1508, 1509, 1510, 1511, 1512, 1513, 1514, 1515, 1516, 1517, 1518, 1548, 1549, 1550] (by decide +kernel) (by decide +kernel)) (goodIn_sub (fun _ h => List.mem_append_left _ (List.mem_append_right _ h)) (by decide +kernel))
set_option maxRecDepth 20000 in
theorem gL_law_L_paidSoFar : GoodIn wsL_law (va_wsS RL 261 yL_paidSoFar wsL_paidSoFar) := goodIn_app (goodIn_of _ (by decide +kernel)) ggL_law_L_paidSoFar
set_option maxRecDepth 20000 in
theorem ggL_law_X8_paidSoFar : GoodIn wsL_law wsX8_paidSoFar := goodIn_r _ [1059, 944, 945, 946, 5, 947, 505, 715, 716, 717, 718, 394, 529, 530, 531, 532, 417, 418, 419, 420, 1519, 1520, 1521, 1522, 1523, 1524, 1525, 1526, 1527, 1528, 1529, 1530, 1531, 1532, 1533, 1534, 1535, 1536, 1537, 1538, 1539, 1540, 1541, 1542, 1543, 1544, 1545, 1546, 1547] (by decide +kernel) (by decide +kernel)
set_option maxRecDepth 20000 in
theorem gL_law_X8_paidSoFar : GoodIn wsL_law (wsV RL 263 RX8 yX8_paidSoFar wsX8_paidSoFar) := goodIn_app (goodIn_of _ (by decide +kernel)) ggL_law_X8_paidSoFar
set_option maxRecDepth 20000 in
theorem ggL_law_L_paidMonths : GoodIn wsL_law wsL_paidMonths := goodIn_ca (goodIn_r _ [1062, 697, 1063, 1064, 1065, 2, 1066, 1067, 702, 703, 704, 705, 706, 707, 19, 550, 708, 1556, 1557, 1558, 1559, 1560, 1561, 1562, 1563, 1564, 1565, 1508, 1509, 1510, 1511, 1512, 1513, 1514, 1515, 1516, 1517, 1518, 1548, 1549, 1550] (by decide +kernel) (by decide +kernel)) (goodIn_sub (fun _ h => List.mem_append_left _ (List.mem_append_right _ h)) (by decide +kernel))
set_option maxRecDepth 20000 in
theorem gL_law_L_paidMonths : GoodIn wsL_law (va_wsS RL 264 yL_paidMonths wsL_paidMonths) := goodIn_app (goodIn_of _ (by decide +kernel)) ggL_law_L_paidMonths
set_option maxRecDepth 20000 in
theorem ggL_law_X8_paidMonths : GoodIn wsL_law wsX8_paidMonths := goodIn_r _ [1071, 944, 945, 946, 5, 947, 505, 715, 716, 717, 718, 394, 529, 530, 531, 532, 417, 418, 419, 420, 1519, 1520, 1521, 1522, 1523, 1524, 1525, 1526, 1527, 1528, 1529, 1530, 1531, 1532, 1533, 1534, 1535, 1536, 1537, 1538, 1539, 1540, 1541, 1542, 1543, 1544, 1545, 1546, 1547] (by decide +kernel) (by decide +kernel)
set_option maxRecDepth 20000 in
theorem gL_law_X8_paidMonths : GoodIn wsL_law (wsV RL 266 RX8 yX8_paidMonths wsX8_paidMonths) := goodIn_app (goodIn_of _ (by decide +kernel)) ggL_law_X8_paidMonths
set_option maxRecDepth 20000 in
theorem ggL_law_L_skippedMonths : GoodIn wsL_law wsL_skippedMonths := goodIn_ca (goodIn_r _ [1074, 697, 1075, 1076, 1077, 2, 1078, 1079, 702, 703, 704, 705, 706, 707, 19, 550, 708, 1556, 1557, 1558, 1559, 1560, 1561, 1562, 1563, 1564, 1565, 1508, 1509, 1510, 1511, 1512, 1513, 1514, 1515, 1516, 1517, 1518, 1548, 1549, 1550] (by decide +kernel) (by decide +kernel)) (goodIn_sub (fun _ h => List.mem_append_left _ (List.mem_append_right _ h)) (by decide +kernel))
set_option maxRecDepth 20000 in
theorem gL_law_L_skippedMonths : GoodIn wsL_law (va_wsS RL 267 yL_skippedMonths wsL_skippedMonths) := goodIn_app (goodIn_of _ (by decide +kernel)) ggL_law_L_skippedMonths
set_option maxRecDepth 20000 in
theorem ggL_law_X8_skippedMonths : GoodIn wsL_law wsX8_skippedMonths := goodIn_r _ [1083, 944, 945, 946, 5, 947, 505, 715, 716, 717, 718, 394, 529, 530, 531, 532, 417, 418, 419, 420, 1519, 1520, 1521, 1522, 1523, 1524, 1525, 1526, 1527, 1528, 1529, 1530, 1531, 1532, 1533, 1534, 1535, 1536, 1537, 1538, 1539, 1540, 1541, 1542, 1543, 1544, 1545, 1546, 1547] (by decide +kernel) (by decide +kernel)
set_option maxRecDepth 20000 in
theorem gL_law_X8_skippedMonths : GoodIn wsL_law (wsV RL 269 RX8 yX8_skippedMonths wsX8_skippedMonths) := goodIn_app (goodIn_of _ (by decide +kernel)) ggL_law_X8_skippedMonths
set_option maxRecDepth 20000 in
theorem ggL_law_X7_entryCount : GoodIn wsL_law wsX7_entryCount := goodIn_r _ [1087, 19, 1088, 1089, 1508, 1509, 1510, 1511, 1512, 1513, 1514, 1515, 1516, 1517, 1518, 1548, 1549, 1550, 1580, 1581, 1582, 1583, 1584] (by decide +kernel) (by decide +kernel)
set_option maxRecDepth 20000 in
theorem gL_law_X7_entryCount : GoodIn wsL_law (wsV RL 270 RX7 yX7_entryCount wsX7_entryCount) := goodIn_app (goodIn_of _ (by decide +kernel)) ggL_law_X7_entryCount
set_option maxRecDepth 20000 in
theorem ggL_law_X8_entryCount : GoodIn wsL_law wsX8_entryCount := goodIn_r _ [1093, 505, 394, 1519, 1520, 1521, 1522, 1523, 1524, 1525, 1526, 1527, 1528, 1529, 1530, 1531, 1532, 1533, 1534, 1535, 1536, 1537, 1538, 1539, 1540, 1541, 1542, 1543, 1544, 1545, 1546, 1547] (by decide +kernel) (by decide +kernel)
set_option maxRecDepth 20000 in
theorem gL_law_X8_entryCount : GoodIn wsL_law (wsV RL 273 RX8 yX8_entryCount wsX8_entryCount) := goodIn_app (goodIn_of _ (by decide +kernel)) ggL_law_X8_entryCount
set_option maxRecDepth 20000 in
theorem ggL_law_X7_entryLoan : GoodIn wsL_law wsX7_entryLoan := goodIn_r _ [1097, 19, 1088, 1098, 1099, 1100, 1101, 48, 1102, 59, 58, 1508, 1509, 1510, 1511, 1512, 1513, 1514, 1515, 1516, 1517, 1518, 1548, 1549, 1550, 1580, 1581, 1582, 1583, 1584] (by decide +kernel) (by decide +kernel)
set_option maxRecDepth 20000 in
theorem gL_law_X7_entryLoan : GoodIn wsL_law (wsV RL 274 RX7 yX7_entryLoan wsX7_entryLoan) := goodIn_app (goodIn_of _ (by decide +kernel)) ggL_law_X7_entryLoan
set_option maxRecDepth 20000 in
theorem ggL_law_X8_entryLoan : GoodIn wsL_law wsX8_entryLoan := goodIn_r _ [1106, 1107, 1108, 1109, 5, 1110, 505, 394, 1519, 1520, 1521, 1522, 1523, 1524, 1525, 1526, 1527, 1528, 1529, 1530, 1531, 1532, 1533, 1534, 1535, 1536, 1537, 1538, 1539, 1540, 1541, 1542, 1543, 1544, 1545, 1546, 1547] (by decide +kernel) (by decide +kernel)
set_option maxRecDepth 20000 in
theorem gL_law_X8_entryLoan : GoodIn wsL_law (wsV RL 277 RX8 yX8_entryLoan wsX8_entryLoan) := goodIn_app (goodIn_of _ (by decide +kernel)) ggL_law_X8_entryLoan
set_option maxRecDepth 20000 in
theorem ggL_law_X7_entryAmount : GoodIn wsL_law wsX7_entryAmount := goodIn_r _ [1114, 19, 1088, 1115, 1099, 1100, 1101, 48, 1102, 59, 58, 1508, 1509, 1510, 1511, 1512, 1513, 1514, 1515, 1516, 1517, 1518, 1548, 1549, 1550, 1580, 1581, 1582, 1583, 1584] (by decide +kernel) (by decide +kernel)
set_option maxRecDepth 20000 in
theorem gL_law_X7_entryAmount : GoodIn wsL_law (wsV RL 278 RX7 yX7_entryAmount wsX7_entryAmount) := goodIn_app (goodIn_of _ (by decide +kernel)) ggL_law_X7_entryAmount
set_option maxRecDepth 20000 in
theorem ggL_law_X8_entryAmount : GoodIn wsL_law wsX8_entryAmount := goodIn_r _ [1119, 1107, 1108, 1109, 5, 1110, 505, 394, 1519, 1520, 1521, 1522, 1523, 1524, 1525, 1526, 1527, 1528, 1529, 1530, 1531, 1532, 1533, 1534, 1535, 1536, 1537, 1538, 1539, 1540, 1541, 1542, 1543, 1544, 1545, 1546, 1547] (by decide +kernel) (by decide +kernel)
set_option maxRecDepth 20000 in
theorem gL_law_X8_entryAmount : GoodIn wsL_law (wsV RL 281 RX8 yX8_entryAmount wsX8_entryAmount) := goodIn_app (goodIn_of _ (by decide +kernel)) ggL_law_X8_entryAmount
set_option maxRecDepth 20000 in
theorem ggL_law_X7_entryInterest : GoodIn wsL_law wsX7_entryInterest := goodIn_r _ [1123, 19, 1088, 1124, 1099, 1100, 1101, 48, 1102, 59, 58, 1508, 1509, 1510, 1511, 1512, 1513, 1514, 1515, 1516, 1517, 1518, 1548, 1549, 1550, 1580, 1581, 1582, 1583, 1584] (by decide +kernel) (by decide +kernel)
set_option maxRecDepth 20000 in
theorem gL_law_X7_entryInterest : GoodIn wsL_law (wsV RL 282 RX7 yX7_entryInterest wsX7_entryInterest) := goodIn_app (goodIn_of _ (by decide +kernel)) ggL_law_X7_entryInterest
set_option maxRecDepth 20000 in
theorem ggL_law_X8_entryInterest : GoodIn wsL_law wsX8_entryInterest := goodIn_r _ [1128, 1107, 1108, 1109, 5, 1110, 505, 394, 1519, 1520, 1521, 1522, 1523, 1524, 1525, 1526, 1527, 1528, 1529, 1530, 1531, 1532, 1533, 1534, 1535, 1536, 1537, 1538, 1539, 1540, 1541, 1542, 1543, 1544, 1545, 1546, 1547] (by decide +kernel) (by decide +kernel)
set_option maxRecDepth 20000 in
theorem gL_law_X8_entryInterest : GoodIn wsL_law (wsV RL 285 RX8 yX8_entryInterest wsX8_entryInterest) := goodIn_app (goodIn_of _ (by decide +kernel)) ggL_law_X8_entryInterest
set_option maxRecDepth 20000 in
theorem ggL_law_L_interestOfPayment : GoodIn wsL_law wsL_interestOfPayment := goodIn_ca (goodIn_ca (goodIn_r _ [1131, 697, 515, 1132, 1133, 1134, 2, 1135, 35, 702, 703, 704, 705, 706, 707, 19, 550, 708, 1136, 379, 380, 33, 381, 321, 267, 280, 287, 298, 281, 293, 303, 288, 322, 520, 521, 522, 523, 524, 1137, 1138, 1139, 1140, 1141, 284, 285, 286, 289, 290, 291, 292, 282, 294, 295, 296, 297, 299, 300, 301, 302, 709, 264, 265, 266, 1012, 277, 278, 279, 1508, 1509, 1510, 1511, 1512, 1513, 1514, 1515, 1516, 1517, 1518, 1548, 1549, 1550, 1556, 1557, 1558, 1559, 1560, 1561, 1562, 1563, 1564, 1565] (by decide +kernel) (by decide +kernel)) (goodIn_sub (fun _ h => List.mem_append_left _ (List.mem_append_right _ h)) (by decide +kernel))) (goodIn_sub (fun _ h => List.mem_append_left _ (List.mem_append_left _ (List.mem_append_left _ (List.mem_append_right _ h)))) (by decide +kernel))
set_option maxRecDepth 20000 in
theorem gL_law_L_interestOfPayment : GoodIn wsL_law (va_wsS RL 286 yL_interestOfPayment wsL_interestOfPayment) := goodIn_app (goodIn_of _ (by decide +kernel)) ggL_law_L_interestOfPayment
set_option maxRecDepth 20000 in
theorem ggL_law_X8_interestOfPayment : GoodIn wsL_law wsX8_interestOfPayment := goodIn_r _ [1145, 439, 1146, 1147, 1148, 5, 1149, 505, 715, 716, 717, 718, 394, 529, 530, 531, 532, 1150, 1151, 1152, 1153, 435, 427, 428, 429, 430, 417, 418, 419, 420, 431, 432, 433, 434, 436, 437, 438, 425, 440, 441, 442, 443, 444, 1519, 1520, 1521, 1522, 1523, 1524, 1525, 1526, 1527, 1528, 1529, 1530, 1531, 1532, 1533, 1534, 1535, 1536, 1537, 1538, 1539, 1540, 1541, 1542, 1543, 1544, 1545, 1546, 1547] (by decide +kernel) (by decide +kernel)
set_option maxRecDepth 20000 in
theorem gL_law_X8_interestOfPayment : GoodIn wsL_law (wsV RL 288 RX8 yX8_interestOfPayment wsX8_interestOfPayment) := goodIn_app (goodIn_of _ (by decide +kernel)) ggL_law_X8_interestOfPayment
set_option maxRecDepth 20000 in
theorem ggL_law_L_amountOfPayment : GoodIn wsL_law wsL_amountOfPayment := goodIn_ca (goodIn_ca (goodIn_r _ [1156, 697, 515, 1157, 1158, 1159, 2, 1160, 35, 702, 703, 704, 705, 706, 707, 19, 550, 708, 1136, 379, 380, 33, 381, 321, 267, 280, 287, 298, 281, 293, 303, 288, 322, 520, 521, 522, 523, 524, 1137, 1138, 1139, 1140, 1141, 284, 285, 286, 289, 290, 291, 292, 282, 294, 295, 296, 297, 299, 300, 301, 302, 709, 264, 265, 266, 1028, 1029, 1030, 1031, 327, 277, 278, 279, 1508, 1509, 1510, 1511, 1512, 1513, 1514, 1515, 1516, 1517, 1518, 1548, 1549, 1550, 1556, 1557, 1558, 1559, 1560, 1561, 1562, 1563, 1564, 1565] (by decide +kernel) (by decide +kernel)) (goodIn_sub (fun _ h => List.mem_append_left _ (List.mem_append_right _ h)) (by decide +kernel))) (goodIn_sub (fun _ h => List.mem_append_left _ (List.mem_append_left _ (List.mem_append_left _ (List.mem_append_right _ h)))) (by decide +kernel))
set_option maxRecDepth 20000 in
theorem gL_law_L_amountOfPayment : GoodIn wsL_law (va_wsS RL 289 yL_amountOfPayment wsL_amountOfPayment) := goodIn_app (goodIn_of _ (by decide +kernel)) ggL_law_L_amountOfPayment
set_option maxRecDepth 20000 in
theorem ggL_law_X8_amountOfPayment : GoodIn wsL_law wsX8_amountOfPayment := goodIn_r _ [1164, 425, 1146, 1147, 1148, 5, 1149, 505, 715, 716, 717, 718, 394, 529, 530, 531, 532, 1150, 1151, 1152, 1153, 435, 427, 428, 429, 430, 417, 418, 419, 420, 431, 432, 433, 434, 436, 437, 438, 439, 440, 441, 442, 443, 444, 1519, 1520, 1521, 1522, 1523, 1524, 1525, 1526, 1527, 1528, 1529, 1530, 1531, 1532, 1533, 1534, 1535, 1536, 1537, 1538, 1539, 1540, 1541, 1542, 1543, 1544, 1545, 1546, 1547] (by decide +kernel) (by decide +kernel)
set_option maxRecDepth 20000 in
theorem gL_law_X8_amountOfPayment : GoodIn wsL_law (wsV RL 291 RX8 yX8_amountOfPayment wsX8_amountOfPayment) := goodIn_app (goodIn_of _ (by decide +kernel)) ggL_law_X8_amountOfPayment
set_option maxRecDepth 20000 in
theorem ggL_law_L_paymentsTo : GoodIn wsL_law wsL_paymentsTo := goodIn_ca (goodIn_ca (goodIn_r _ [1167, 697, 515, 1168, 1169, 1170, 2, 1171, 678, 702, 703, 704, 705, 706, 707, 19, 550, 708, 520, 521, 522, 523, 524, 1172, 1173, 1174, 1175, 35, 735, 1136, 379, 380, 33, 381, 321, 267, 280, 287, 298, 281, 293, 303, 288, 322, 1176, 284, 285, 286, 289, 290, 291, 292, 282, 294, 295, 296, 297, 299, 300, 301, 302, 1508, 1509, 1510, 1511, 1512, 1513, 1514, 1515, 1516, 1517, 1518, 1548, 1549, 1550, 1556, 1557, 1558, 1559, 1560, 1561, 1562, 1563, 1564, 1565] (by decide +kernel) (by decide +kernel)) (goodIn_sub (fun _ h => List.mem_append_left _ (List.mem_append_right _ h)) (by decide +kernel))) (goodIn_sub (fun _ h => List.mem_append_left _ (List.mem_append_left _ (List.mem_append_left _ (List.mem_append_right _ h)))) (by decide +kernel))
set_option maxRecDepth 20000 in
theorem gL_law_L_paymentsTo : GoodIn wsL_law (va_wsS RL 292 yL_paymentsTo wsL_paymentsTo) := goodIn_app (goodIn_of _ (by decide +kernel)) ggL_law_L_paymentsTo
set_option maxRecDepth 20000 in
theorem ggL_law_X8_paymentsTo : GoodIn wsL_law wsX8_paymentsTo := goodIn_r _ [1180, 505, 626, 435, 715, 716, 717, 5, 718, 394, 529, 530, 531, 532, 427, 428, 429, 430, 417, 418, 419, 420, 431, 432, 433, 434, 436, 437, 438, 425, 439, 440, 441, 442, 443, 444, 1519, 1520, 1521, 1522, 1523, 1524, 1525, 1526, 1527, 1528, 1529, 1530, 1531, 1532, 1533, 1534, 1535, 1536, 1537, 1538, 1539, 1540, 1541, 1542, 1543, 1544, 1545, 1546, 1547] (by decide +kernel) (by decide +kernel)
set_option maxRecDepth 20000 in
theorem gL_law_X8_paymentsTo : GoodIn wsL_law (wsV RL 294 RX8 yX8_paymentsTo wsX8_paymentsTo) := goodIn_app (goodIn_of _ (by decide +kernel)) ggL_law_X8_paymentsTo
set_option maxRecDepth 20000 in
theorem ggL_law_L_balanceAfter : GoodIn wsL_law wsL_balanceAfter := goodIn_ca (goodIn_ca (goodIn_r _ [1183, 697, 515, 1184, 1185, 1186, 2, 1187, 35, 735, 702, 703, 704, 705, 706, 707, 19, 550, 708, 1136, 379, 380, 33, 381, 321, 267, 280, 287, 298, 281, 293, 303, 288, 322, 520, 521, 522, 523, 524, 1137, 1138, 1139, 1140, 1141, 284, 285, 286, 289, 290, 291, 292, 282, 294, 295, 296, 297, 299, 300, 301, 302, 1508, 1509, 1510, 1511, 1512, 1513, 1514, 1515, 1516, 1517, 1518, 1556, 1557, 1558, 1559, 1560, 1561, 1562, 1563, 1564, 1565, 1548, 1549, 1550] (by decide +kernel) (by decide +kernel)) (goodIn_sub (fun _ h => List.mem_append_left _ (List.mem_append_right _ h)) (by decide +kernel))) (goodIn_sub (fun _ h => List.mem_append_left _ (List.mem_append_left _ (List.mem_append_left _ (List.mem_append_right _ h)))) (by decide +kernel))
set_option maxRecDepth 20000 in
theorem gL_law_L_balanceAfter : GoodIn wsL_law (va_wsS RL 295 yL_balanceAfter wsL_balanceAfter) := goodIn_app (goodIn_of _ (by decide +kernel)) ggL_law_L_balanceAfter
set_option maxRecDepth 20000 in
theorem ggL_law_X8_balanceAfter : GoodIn wsL_law wsX8_balanceAfter := goodIn_r _ [1191, 505, 435, 715, 716, 717, 5, 718, 394, 529, 530, 531, 532, 427, 428, 429, 430, 417, 418, 419, 420, 431, 432, 433, 434, 436, 437, 438, 425, 439, 440, 441, 442, 443, 444, 1519, 1520, 1521, 1522, 1523, 1524, 1525, 1526, 1527, 1528, 1529, 1530, 1531, 1532, 1533, 1534, 1535, 1536, 1537, 1538, 1539, 1540, 1541, 1542, 1543, 1544, 1545, 1546, 1547] (by decide +kernel) (by decide +kernel)
set_option maxRecDepth 20000 in
theorem gL_law_X8_balanceAfter : GoodIn wsL_law (wsV RL 297 RX8 yX8_balanceAfter wsX8_balanceAfter) := goodIn_app (goodIn_of _ (by decide +kernel)) ggL_law_X8_balanceAfter
set_option maxRecDepth 20000 in
theorem ggL_law_L_interestAhead : GoodIn wsL_law wsL_interestAhead := goodIn_ca (goodIn_r _ [1194, 697, 1195, 1196, 1197, 2, 1198, 702, 703, 704, 705, 706, 707, 19, 550, 708, 1199, 1200, 1201, 1202, 35, 1043, 1136, 379, 380, 33, 381, 321, 267, 280, 287, 298, 281, 293, 303, 288, 322, 1137, 1138, 1139, 1140, 1141, 284, 285, 286, 289, 290, 291, 292, 282, 294, 295, 296, 297, 299, 300, 301, 302, 1508, 1509, 1510, 1511, 1512, 1513, 1514, 1515, 1516, 1517, 1518, 1548, 1549, 1550, 1556, 1557, 1558, 1559, 1560, 1561, 1562, 1563, 1564, 1565] (by decide +kernel) (by decide +kernel)) (goodIn_sub (fun _ h => List.mem_append_left _ (List.mem_append_right _ h)) (by decide +kernel))
set_option maxRecDepth 20000 in
theorem gL_law_L_interestAhead : GoodIn wsL_law (va_wsS RL 298 yL_interestAhead wsL_interestAhead) := goodIn_app (goodIn_of _ (by decide +kernel)) ggL_law_L_interestAhead
set_option maxRecDepth 20000 in
theorem ggL_law_X8_interestAhead : GoodIn wsL_law wsX8_interestAhead := goodIn_r _ [1206, 1017, 1018, 1019, 5, 1020, 505, 715, 716, 717, 718, 394, 529, 530, 531, 532, 457, 458, 459, 460, 417, 418, 419, 420, 1207, 1208, 1209, 1210, 438, 1211, 1212, 1213, 1214, 427, 428, 429, 430, 431, 432, 433, 434, 435, 436, 437, 425, 439, 449, 450, 451, 452, 440, 441, 442, 443, 444, 1519, 1520, 1521, 1522, 1523, 1524, 1525, 1526, 1527, 1528, 1529, 1530, 1531, 1532, 1533, 1534, 1535, 1536, 1537, 1538, 1539, 1540, 1541, 1542, 1543, 1544, 1545, 1546, 1547] (by decide +kernel) (by decide +kernel)
set_option maxRecDepth 20000 in
theorem gL_law_X8_interestAhead : GoodIn wsL_law (wsV RL 300 RX8 yX8_interestAhead wsX8_interestAhead) := goodIn_app (goodIn_of _ (by decide +kernel)) ggL_law_X8_interestAhead
set_option maxRecDepth 20000 in
theorem ggL_law_L_lastDue : GoodIn wsL_law wsL_lastDue := goodIn_ca (goodIn_r _ [1217, 697, 1218, 1219, 1220, 2, 1221, 702, 703, 704, 705, 706, 707, 19, 550, 708, 1222, 1223, 1224, 1225, 35, 1136, 379, 380, 33, 381, 321, 267, 280, 287, 298, 281, 293, 303, 288, 322, 1137, 1138, 1139, 1140, 1141, 284, 285, 286, 289, 290, 291, 292, 282, 294, 295, 296, 297, 299, 300, 301, 302, 1508, 1509, 1510, 1511, 1512, 1513, 1514, 1515, 1516, 1517, 1518, 1548, 1549, 1550, 1556, 1557, 1558, 1559, 1560, 1561, 1562, 1563, 1564, 1565] (by decide +kernel) (by decide +kernel)) (goodIn_sub (fun _ h => List.mem_append_left _ (List.mem_append_right _ h)) (by decide +kernel))
set_option maxRecDepth 20000 in
theorem gL_law_L_lastDue : GoodIn wsL_law (va_wsS RL 301 yL_lastDue wsL_lastDue) := goodIn_app (goodIn_of _ (by decide +kernel)) ggL_law_L_lastDue
set_option maxRecDepth 20000 in
theorem ggL_law_X8_lastDue : GoodIn wsL_law wsX8_lastDue := goodIn_r _ [1229, 1017, 1018, 1019, 5, 1020, 505, 715, 716, 717, 718, 394, 529, 530, 531, 532, 457, 458, 459, 460, 417, 418, 419, 420, 1211, 1212, 1213, 1214, 427, 428, 429, 430, 431, 432, 433, 434, 435, 436, 437, 438, 425, 439, 449, 450, 451, 452, 440, 441, 442, 443, 444, 1519, 1520, 1521, 1522, 1523, 1524, 1525, 1526, 1527, 1528, 1529, 1530, 1531, 1532, 1533, 1534, 1535, 1536, 1537, 1538, 1539, 1540, 1541, 1542, 1543, 1544, 1545, 1546, 1547] (by decide +kernel) (by decide +kernel)
set_option maxRecDepth 20000 in
theorem gL_law_X8_lastDue : GoodIn wsL_law (wsV RL 303 RX8 yX8_lastDue wsX8_lastDue) := goodIn_app (goodIn_of _ (by decide +kernel)) ggL_law_X8_lastDue
set_option maxRecDepth 20000 in
theorem ggL_law_L_monthsToHalf : GoodIn wsL_law wsL_monthsToHalf := goodIn_ca (goodIn_r _ [1232, 697, 1233, 1234, 1235, 2, 1236, 939, 702, 703, 704, 705, 706, 707, 19, 550, 708, 1172, 1173, 1174, 1175, 35, 735, 1136, 379, 380, 33, 381, 321, 267, 280, 287, 298, 281, 293, 303, 288, 322, 1176, 284, 285, 286, 289, 290, 291, 292, 282, 294, 295, 296, 297, 299, 300, 301, 302, 1556, 1557, 1558, 1559, 1560, 1561, 1562, 1563, 1564, 1565, 1508, 1509, 1510, 1511, 1512, 1513, 1514, 1515, 1516, 1517, 1518, 1548, 1549, 1550] (by decide +kernel) (by decide +kernel)) (goodIn_sub (fun _ h => List.mem_append_left _ (List.mem_append_right _ h)) (by decide +kernel))
set_option maxRecDepth 20000 in
theorem gL_law_L_monthsToHalf : GoodIn wsL_law (va_wsS RL 304 yL_monthsToHalf wsL_monthsToHalf) := goodIn_app (goodIn_of _ (by decide +kernel)) ggL_law_L_monthsToHalf
set_option maxRecDepth 20000 in
theorem ggL_law_X8_monthsToHalf : GoodIn wsL_law wsX8_monthsToHalf := goodIn_r _ [1240, 426, 435, 1017, 1018, 1019, 5, 1020, 505, 715, 716, 717, 718, 394, 529, 530, 531, 532, 457, 458, 459, 460, 417, 418, 419, 420, 427, 428, 429, 430, 431, 432, 433, 434, 436, 437, 438, 425, 439, 440, 441, 442, 443, 444, 1519, 1520, 1521, 1522, 1523, 1524, 1525, 1526, 1527, 1528, 1529, 1530, 1531, 1532, 1533, 1534, 1535, 1536, 1537, 1538, 1539, 1540, 1541, 1542, 1543, 1544, 1545, 1546, 1547] (by decide +kernel) (by decide +kernel)
set_option maxRecDepth 20000 in
theorem gL_law_X8_monthsToHalf : GoodIn wsL_law (wsV RL 306 RX8 yX8_monthsToHalf wsX8_monthsToHalf) := goodIn_app (goodIn_of _ (by decide +kernel)) ggL_law_X8_monthsToHalf
set_option maxRecDepth 20000 in
theorem ggL_law_L_installmentFor : GoodIn wsL_law wsL_installmentFor := goodIn_ca (goodIn_ca (goodIn_r _ [1243, 697, 515, 1244, 1245, 1246, 2, 1247, 702, 703, 704, 705, 706, 707, 19, 550, 708, 520, 521, 522, 523, 524, 709, 264, 265, 33, 266, 267, 1248, 324, 325, 326, 327, 277, 278, 279, 280, 281, 282, 328, 329, 330, 331, 1508, 1509, 1510, 1511, 1512, 1513, 1514, 1515, 1516, 1517, 1518, 1548, 1549, 1550, 1556, 1557, 1558, 1559, 1560, 1561, 1562, 1563, 1564, 1565] (by decide +kernel) (by decide +kernel)) (goodIn_sub (fun _ h => List.mem_append_left _ (List.mem_append_right _ h)) (by decide +kernel))) (goodIn_sub (fun _ h => List.mem_append_left _ (List.mem_append_left _ (List.mem_append_left _ (List.mem_append_right _ h)))) (by decide +kernel))
set_option maxRecDepth 20000 in
theorem gL_law_L_installmentFor : GoodIn wsL_law (va_wsS RL 307 yL_installmentFor wsL_installmentFor) := goodIn_app (goodIn_of _ (by decide +kernel)) ggL_law_L_installmentFor
set_option maxRecDepth 20000 in
theorem ggL_law_X8_installmentFor : GoodIn wsL_law wsX8_installmentFor := goodIn_r _ [1252, 505, 715, 716, 717, 5, 718, 394, 529, 530, 531, 532, 457, 458, 459, 460, 417, 418, 419, 420, 421, 422, 423, 424, 425, 426, 427, 428, 429, 430, 431, 432, 433, 434, 435, 436, 437, 438, 439, 440, 441, 442, 443, 444, 445, 446, 447, 448, 449, 450, 451, 452, 1519, 1520, 1521, 1522, 1523, 1524, 1525, 1526, 1527, 1528, 1529, 1530, 1531, 1532, 1533, 1534, 1535, 1536, 1537, 1538, 1539, 1540, 1541, 1542, 1543, 1544, 1545, 1546, 1547] (by decide +kernel) (by decide +kernel)
set_option maxRecDepth 20000 in
theorem gL_law_X8_installmentFor : GoodIn wsL_law (wsV RL 309 RX8 yX8_installmentFor wsX8_installmentFor) := goodIn_app (goodIn_of _ (by decide +kernel)) ggL_law_X8_installmentFor
set_option maxRecDepth 20000 in
theorem ggL_law_L_monthsFor : GoodIn wsL_law wsL_monthsFor := goodIn_ca (goodIn_ca (goodIn_r _ [1255, 697, 515, 1256, 1257, 1258, 2, 1259, 678, 702, 703, 704, 705, 706, 707, 19, 550, 708, 520, 521, 522, 523, 524, 709, 264, 265, 33, 266, 267, 1260, 329, 330, 331, 281, 280, 282, 1508, 1509, 1510, 1511, 1512, 1513, 1514, 1515, 1516, 1517, 1518, 1548, 1549, 1550, 1556, 1557, 1558, 1559, 1560, 1561, 1562, 1563, 1564, 1565] (by decide +kernel) (by decide +kernel)) (goodIn_sub (fun _ h => List.mem_append_left _ (List.mem_append_right _ h)) (by decide +kernel))) (goodIn_sub (fun _ h => List.mem_append_left _ (List.mem_append_left _ (List.mem_append_left _ (List.mem_append_right _ h)))) (by decide +kernel))
set_option maxRecDepth 20000 in
theorem gL_law_L_monthsFor : GoodIn wsL_law (va_wsS RL 310 yL_monthsFor wsL_monthsFor) := goodIn_app (goodIn_of _ (by decide +kernel)) ggL_law_L_monthsFor
set_option maxRecDepth 20000 in
theorem ggL_law_X8_monthsFor : GoodIn wsL_law wsX8_monthsFor := goodIn_r _ [1264, 505, 626, 715, 716, 717, 5, 718, 394, 529, 530, 531, 532, 457, 458, 459, 460, 417, 418, 419, 420, 485, 486, 487, 488, 445, 446, 447, 448, 427, 428, 429, 430, 431, 432, 433, 434, 435, 436, 437, 438, 425, 439, 449, 450, 451, 452, 440, 441, 442, 443, 444, 1519, 1520, 1521, 1522, 1523, 1524, 1525, 1526, 1527, 1528, 1529, 1530, 1531, 1532, 1533, 1534, 1535, 1536, 1537, 1538, 1539, 1540, 1541, 1542, 1543, 1544, 1545, 1546, 1547] (by decide +kernel) (by decide +kernel)
set_option maxRecDepth 20000 in
theorem gL_law_X8_monthsFor : GoodIn wsL_law (wsV RL 312 RX8 yX8_monthsFor wsX8_monthsFor) := goodIn_app (goodIn_of _ (by decide +kernel)) ggL_law_X8_monthsFor
set_option maxRecDepth 20000 in
theorem ggL_law_L_savingOfExtra : GoodIn wsL_law wsL_savingOfExtra := goodIn_ca (goodIn_ca (goodIn_r _ [1267, 697, 515, 1268, 1269, 1270, 2, 1271, 678, 34, 702, 703, 704, 705, 706, 707, 19, 550, 708, 520, 521, 522, 523, 524, 736, 338, 339, 33, 340, 267, 1136, 379, 380, 381, 321, 280, 287, 298, 281, 293, 303, 288, 322, 1272, 363, 364, 365, 299, 300, 301, 302, 323, 324, 325, 326, 327, 277, 278, 279, 282, 328, 329, 330, 331, 1199, 1200, 1201, 1202, 35, 1043, 1137, 1138, 1139, 1140, 1141, 284, 285, 286, 289, 290, 291, 292, 294, 295, 296, 297, 1508, 1509, 1510, 1511, 1512, 1513, 1514, 1515, 1516, 1517, 1518, 1548, 1549, 1550, 1556, 1557, 1558, 1559, 1560, 1561, 1562, 1563, 1564, 1565] (by decide +kernel) (by decide +kernel)) (goodIn_sub (fun _ h => List.mem_append_left _ (List.mem_append_right _ h)) (by decide +kernel))) (goodIn_sub (fun _ h => List.mem_append_left _ (List.mem_append_left _ (List.mem_append_left _ (List.mem_append_right _ h)))) (by decide +kernel))
set_option maxRecDepth 20000 in
theorem gL_law_L_savingOfExtra : GoodIn wsL_law (va_wsS RL 313 yL_savingOfExtra wsL_savingOfExtra) := goodIn_app (goodIn_of _ (by decide +kernel)) ggL_law_L_savingOfExtra
set_option maxRecDepth 20000 in
theorem ggL_law_X8_savingOfExtra : GoodIn wsL_law wsX8_savingOfExtra := goodIn_r _ [1276, 505, 626, 394, 399, 715, 716, 717, 5, 718, 529, 530, 531, 532, 639, 640, 641, 642, 457, 458, 459, 460, 417, 418, 419, 420, 568, 569, 570, 1207, 1208, 1209, 1210, 438, 1211, 1212, 1213, 1214, 427, 428, 429, 430, 431, 432, 433, 434, 435, 436, 437, 425, 439, 449, 450, 451, 452, 440, 441, 442, 443, 444, 481, 482, 483, 484, 469, 470, 471, 472, 409, 410, 411, 412, 473, 474, 475, 476, 477, 478, 479, 480, 413, 414, 415, 416, 421, 422, 423, 424, 426, 445, 446, 447, 448, 485, 486, 487, 488, 1519, 1520, 1521, 1522, 1523, 1524, 1525, 1526, 1527, 1528, 1529, 1530, 1531, 1532, 1533, 1534, 1535, 1536, 1537, 1538, 1539, 1540, 1541, 1542, 1543, 1544, 1545, 1546, 1547] (by decide +kernel) (by decide +kernel)
set_option maxRecDepth 20000 in
theorem gL_law_X8_savingOfExtra : GoodIn wsL_law (wsV RL 315 RX8 yX8_savingOfExtra wsX8_savingOfExtra) := goodIn_app (goodIn_of _ (by decide +kernel)) ggL_law_X8_savingOfExtra
set_option maxRecDepth 20000 in
theorem ggL_law_L_interestIfRate : GoodIn wsL_law wsL_interestIfRate := goodIn_ca (goodIn_ca (goodIn_r _ [1279, 697, 515, 1280, 1281, 1282, 2, 1283, 762, 702, 703, 704, 705, 706, 707, 19, 550, 708, 520, 521, 522, 523, 524, 709, 264, 265, 33, 266, 267, 1284, 1285, 1286, 1287, 34, 1136, 379, 380, 381, 321, 280, 287, 298, 281, 293, 303, 288, 322, 763, 371, 372, 373, 323, 324, 325, 326, 327, 277, 278, 279, 282, 328, 329, 330, 331, 1199, 1200, 1201, 1202, 35, 1043, 1137, 1138, 1139, 1140, 1141, 284, 285, 286, 289, 290, 291, 292, 294, 295, 296, 297, 299, 300, 301, 302, 1556, 1557, 1558, 1559, 1560, 1561, 1562, 1563, 1564, 1565, 1508, 1509, 1510, 1511, 1512, 1513, 1514, 1515, 1516, 1517, 1518, 1548, 1549, 1550] (by decide +kernel) (by decide +kernel)) (goodIn_sub (fun _ h => List.mem_append_left _ (List.mem_append_right _ h)) (by decide +kernel))) (goodIn_sub (fun _ h => List.mem_append_left _ (List.mem_append_left _ (List.mem_append_left _ (List.mem_append_right _ h)))) (by decide +kernel))
set_option maxRecDepth 20000 in
theorem gL_law_L_interestIfRate : GoodIn wsL_law (va_wsS RL 316 yL_interestIfRate wsL_interestIfRate) := goodIn_app (goodIn_of _ (by decide +kernel)) ggL_law_L_interestIfRate
set_option maxRecDepth 20000 in
theorem ggL_law_X8_interestIfRate : GoodIn wsL_law wsX8_interestIfRate := goodIn_r _ [1291, 505, 394, 399, 715, 716, 717, 5, 718, 529, 530, 531, 532, 457, 458, 459, 460, 417, 418, 419, 420, 568, 569, 570, 652, 653, 654, 655, 409, 410, 411, 412, 413, 414, 415, 416, 421, 422, 423, 424, 425, 426, 427, 428, 429, 430, 431, 432, 433, 434, 435, 436, 437, 438, 439, 440, 441, 442, 443, 444, 445, 446, 447, 448, 449, 450, 451, 452, 1207, 1208, 1209, 1210, 1211, 1212, 1213, 1214, 1519, 1520, 1521, 1522, 1523, 1524, 1525, 1526, 1527, 1528, 1529, 1530, 1531, 1532, 1533, 1534, 1535, 1536, 1537, 1538, 1539, 1540, 1541, 1542, 1543, 1544, 1545, 1546, 1547] (by decide +kernel) (by decide +kernel)
set_option maxRecDepth 20000 in
theorem gL_law_X8_interestIfRate : GoodIn wsL_law (wsV RL 318 RX8 yX8_interestIfRate wsX8_interestIfRate) := goodIn_app (goodIn_of _ (by decide +kernel)) ggL_law_X8_interestIfRate
set_option maxRecDepth 20000 in
theorem ggL_law_L_isCheaper : GoodIn wsL_law wsL_isCheaper := goodIn_ca (goodIn_ca (goodIn_r _ [1294, 697, 515, 1295, 1296, 1297, 2, 1298, 702, 703, 704, 705, 706, 707, 19, 550, 708, 520, 521, 522, 523, 524, 709, 264, 265, 33, 266, 267, 1284, 1285, 1286, 1287, 34, 1136, 379, 380, 381, 321, 280, 287, 298, 281, 293, 303, 288, 322, 763, 371, 372, 373, 323, 324, 325, 326, 327, 277, 278, 279, 282, 328, 329, 330, 331, 1199, 1200, 1201, 1202, 35, 1043, 1137, 1138, 1139, 1140, 1141, 284, 285, 286, 289, 290, 291, 292, 294, 295, 296, 297, 299, 300, 301, 302, 1508, 1509, 1510, 1511, 1512, 1513, 1514, 1515, 1516, 1517, 1518, 1548, 1549, 1550, 1556, 1557, 1558, 1559, 1560, 1561, 1562, 1563, 1564, 1565] (by decide +kernel) (by decide +kernel)) (goodIn_sub (fun _ h => List.mem_append_left _ (List.mem_append_right _ h)) (by decide +kernel))) (goodIn_sub (fun _ h => List.mem_append_left _ (List.mem_append_left _ (List.mem_append_left _ (List.mem_append_right _ h)))) (by decide +kernel))
set_option maxRecDepth 20000 in
theorem gL_law_L_isCheaper : GoodIn wsL_law (va_wsS RL 319 yL_isCheaper wsL_isCheaper) := goodIn_app (goodIn_of _ (by decide +kernel)) ggL_law_L_isCheaper
set_option maxRecDepth 20000 in
theorem ggL_law_X8_isCheaper : GoodIn wsL_law wsX8_isCheaper := goodIn_r _ [1302, 505, 394, 399, 715, 716, 717, 5, 718, 529, 530, 531, 532, 792, 793, 794, 795, 457, 458, 459, 460, 417, 418, 419, 420, 568, 569, 570, 1207, 1208, 1209, 1210, 438, 1211, 1212, 1213, 1214, 427, 428, 429, 430, 431, 432, 433, 434, 435, 436, 437, 425, 439, 449, 450, 451, 452, 440, 441, 442, 443, 444, 796, 797, 798, 799, 409, 410, 411, 412, 413, 414, 415, 416, 421, 422, 423, 424, 426, 445, 446, 447, 448, 1519, 1520, 1521, 1522, 1523, 1524, 1525, 1526, 1527, 1528, 1529, 1530, 1531, 1532, 1533, 1534, 1535, 1536, 1537, 1538, 1539, 1540, 1541, 1542, 1543, 1544, 1545, 1546, 1547] (by decide +kernel) (by decide +kernel)
set_option maxRecDepth 20000 in
theorem gL_law_X8_isCheaper : GoodIn wsL_law (wsV RL 321 RX8 yX8_isCheaper wsX8_isCheaper) := goodIn_app (goodIn_of _ (by decide +kernel)) ggL_law_X8_isCheaper
set_option maxRecDepth 20000 in
theorem ggL_law_L_skipsWithin : GoodIn wsL_law wsL_skipsWithin := goodIn_ca (goodIn_ca (goodIn_r _ [1305, 697, 515, 1306, 1307, 1308, 2, 1309, 34, 678, 988, 702, 703, 704, 705, 706, 707, 19, 550, 708, 1136, 379, 380, 33, 381, 321, 267, 280, 287, 298, 281, 293, 303, 288, 322, 520, 521, 522, 523, 524, 749, 342, 343, 344, 345, 327, 277, 278, 279, 282, 750, 367, 368, 369, 289, 290, 291, 292, 323, 324, 325, 326, 328, 329, 330, 331, 1508, 1509, 1510, 1511, 1512, 1513, 1514, 1515, 1516, 1517, 1518, 1556, 1557, 1558, 1559, 1560, 1561, 1562, 1563, 1564, 1565, 1548, 1549, 1550] (by decide +kernel) (by decide +kernel)) (goodIn_sub (fun _ h => List.mem_append_left _ (List.mem_append_right _ h)) (by decide +kernel))) (goodIn_sub (fun _ h => List.mem_append_left _ (List.mem_append_left _ (List.mem_append_left _ (List.mem_append_right _ h)))) (by decide +kernel))
set_option maxRecDepth 20000 in
theorem gL_law_L_skipsWithin : GoodIn wsL_law (va_wsS RL 322 yL_skipsWithin wsL_skipsWithin) := goodIn_app (goodIn_of _ (by decide +kernel)) ggL_law_L_skipsWithin
set_option maxRecDepth 20000 in
theorem ggL_law_X8_skipsWithin : GoodIn wsL_law wsX8_skipsWithin := goodIn_r _ [1313, 505, 626, 394, 399, 715, 716, 717, 5, 718, 529, 530, 531, 532, 568, 569, 570, 647, 648, 649, 650, 439, 651, 457, 458, 459, 460, 417, 418, 419, 420, 465, 466, 467, 468, 427, 428, 429, 430, 431, 432, 433, 434, 435, 436, 437, 438, 425, 440, 441, 442, 443, 444, 489, 490, 491, 492, 409, 410, 411, 412, 469, 470, 471, 472, 413, 414, 415, 416, 421, 422, 423, 424, 426, 445, 446, 447, 448, 449, 450, 451, 452, 1519, 1520, 1521, 1522, 1523, 1524, 1525, 1526, 1527, 1528, 1529, 1530, 1531, 1532, 1533, 1534, 1535, 1536, 1537, 1538, 1539, 1540, 1541, 1542, 1543, 1544, 1545, 1546, 1547] (by decide +kernel) (by decide +kernel)
set_option maxRecDepth 20000 in
theorem gL_law_X8_skipsWithin : GoodIn wsL_law (wsV RL 324 RX8 yX8_skipsWithin wsX8_skipsWithin) := goodIn_app (goodIn_of _ (by decide +kernel)) ggL_law_X8_skipsWithin
set_option maxRecDepth 20000 in
theorem ggL_law_X7_totalInterestAhead : GoodIn wsL_law wsX7_totalInterestAhead := goodIn_r _ [1317, 19, 550, 708, 1199, 1200, 1201, 2, 1202, 35, 1043, 1136, 379, 380, 33, 381, 321, 267, 280, 287, 298, 281, 293, 303, 288, 322, 1137, 1138, 1139, 1140, 1141, 284, 285, 286, 289, 290, 291, 292, 282, 294, 295, 296, 297, 299, 300, 301, 302, 1508, 1509, 1510, 1511, 1512, 1513, 1514, 1515, 1516, 1517, 1518, 1548, 1549, 1550, 1556, 1557, 1558, 1559, 1560, 1561, 1562, 1563, 1564, 1565] (by decide +kernel) (by decide +kernel)
set_option maxRecDepth 20000 in
theorem gL_law_X7_totalInterestAhead : GoodIn wsL_law (wsV RL 325 RX7 yX7_totalInterestAhead wsX7_totalInterestAhead) := goodIn_app (goodIn_of _ (by decide +kernel)) ggL_law_X7_totalInterestAhead
set_option maxRecDepth 20000 in
theorem ggL_law_X8_totalInterestAhead : GoodIn wsL_law wsX8_totalInterestAhead := goodIn_r _ [1321, 505, 394, 457, 458, 459, 5, 460, 417, 418, 419, 420, 1207, 1208, 1209, 1210, 438, 1211, 1212, 1213, 1214, 427, 428, 429, 430, 431, 432, 433, 434, 435, 436, 437, 425, 439, 449, 450, 451, 452, 440, 441, 442, 443, 444, 1519, 1520, 1521, 1522, 1523, 1524, 1525, 1526, 1527, 1528, 1529, 1530, 1531, 1532, 1533, 1534, 1535, 1536, 1537, 1538, 1539, 1540, 1541, 1542, 1543, 1544, 1545, 1546, 1547] (by decide +kernel) (by decide +kernel)
set_option maxRecDepth 20000 in
theorem gL_law_X8_totalInterestAhead : GoodIn wsL_law (wsV RL 328 RX8 yX8_totalInterestAhead wsX8_totalInterestAhead) := goodIn_app (goodIn_of _ (by decide +kernel)) ggL_law_X8_totalInterestAhead
set_option maxRecDepth 20000 in
theorem ggL_law_X7_dearestLoan : GoodIn wsL_law wsX7_dearestLoan := goodIn_r _ [1325, 19, 1326, 814, 815, 18, 816, 50, 45, 817, 263, 264, 265, 33, 266, 267, 1508, 1509, 1510, 1511, 1512, 1513, 1514, 1515, 1516, 1517, 1518, 1548, 1549, 1550, 1556, 1557, 1558, 1559, 1560, 1561, 1562, 1563, 1564, 1565] (by decide +kernel) (by decide +kernel)
set_option maxRecDepth 20000 in
theorem gL_law_X7_dearestLoan : GoodIn wsL_law (wsV RL 329 RX7 yX7_dearestLoan wsX7_dearestLoan) := goodIn_app (goodIn_of _ (by decide +kernel)) ggL_law_X7_dearestLoan
set_option maxRecDepth 20000 in
theorem ggL_law_X8_dearestLoan : GoodIn wsL_law wsX8_dearestLoan := goodIn_r _ [1330, 505, 828, 829, 830, 5, 831, 394, 457, 458, 459, 460, 417, 418, 419, 420, 1519, 1520, 1521, 1522, 1523, 1524, 1525, 1526, 1527, 1528, 1529, 1530, 1531, 1532, 1533, 1534, 1535, 1536, 1537, 1538, 1539, 1540, 1541, 1542, 1543, 1544, 1545, 1546, 1547] (by decide +kernel) (by decide +kernel)
set_option maxRecDepth 20000 in
theorem gL_law_X8_dearestLoan : GoodIn wsL_law (wsV RL 332 RX8 yX8_dearestLoan wsX8_dearestLoan) := goodIn_app (goodIn_of _ (by decide +kernel)) ggL_law_X8_dearestLoan
set_option maxRecDepth 20000 in
theorem ggL_law_X7_smallestLoan : GoodIn wsL_law wsX7_smallestLoan := goodIn_r _ [1334, 19, 1335, 819, 820, 18, 821, 822, 50, 45, 811, 263, 264, 265, 33, 266, 267, 1508, 1509, 1510, 1511, 1512, 1513, 1514, 1515, 1516, 1517, 1518, 1548, 1549, 1550, 1556, 1557, 1558, 1559, 1560, 1561, 1562, 1563, 1564, 1565] (by decide +kernel) (by decide +kernel)
set_option maxRecDepth 20000 in
theorem gL_law_X7_smallestLoan : GoodIn wsL_law (wsV RL 333 RX7 yX7_smallestLoan wsX7_smallestLoan) := goodIn_app (goodIn_of _ (by decide +kernel)) ggL_law_X7_smallestLoan
set_option maxRecDepth 20000 in
theorem ggL_law_X8_smallestLoan : GoodIn wsL_law wsX8_smallestLoan := goodIn_r _ [1339, 505, 1340, 1341, 1342, 5, 1343, 394, 457, 458, 459, 460, 417, 418, 419, 420, 1519, 1520, 1521, 1522, 1523, 1524, 1525, 1526, 1527, 1528, 1529, 1530, 1531, 1532, 1533, 1534, 1535, 1536, 1537, 1538, 1539, 1540, 1541, 1542, 1543, 1544, 1545, 1546, 1547] (by decide +kernel) (by decide +kernel)
set_option maxRecDepth 20000 in
theorem gL_law_X8_smallestLoan : GoodIn wsL_law (wsV RL 336 RX8 yX8_smallestLoan wsX8_smallestLoan) := goodIn_app (goodIn_of _ (by decide +kernel)) ggL_law_X8_smallestLoan
set_option maxRecDepth 20000 in
theorem ggL_law_X7_totalDue : GoodIn wsL_law wsX7_totalDue := goodIn_r _ [1347, 19, 1348, 1349, 1350, 18, 1351, 50, 45, 1352, 1029, 1030, 33, 1031, 267, 327, 277, 278, 279, 280, 281, 282, 294, 295, 296, 297, 298, 287, 1508, 1509, 1510, 1511, 1512, 1513, 1514, 1515, 1516, 1517, 1518, 1548, 1549, 1550, 1556, 1557, 1558, 1559, 1560, 1561, 1562, 1563, 1564, 1565] (by decide +kernel) (by decide +kernel)
set_option maxRecDepth 20000 in
theorem gL_law_X7_totalDue : GoodIn wsL_law (wsV RL 337 RX7 yX7_totalDue wsX7_totalDue) := goodIn_app (goodIn_of _ (by decide +kernel)) ggL_law_X7_totalDue
set_option maxRecDepth 20000 in
theorem ggL_law_X8_totalDue : GoodIn wsL_law wsX8_totalDue := goodIn_r _ [1356, 505, 1357, 1358, 1359, 5, 1360, 394, 425, 457, 458, 459, 460, 417, 418, 419, 420, 465, 466, 467, 468, 427, 428, 429, 430, 431, 432, 433, 434, 435, 436, 437, 438, 439, 440, 441, 442, 443, 444, 1519, 1520, 1521, 1522, 1523, 1524, 1525, 1526, 1527, 1528, 1529, 1530, 1531, 1532, 1533, 1534, 1535, 1536, 1537, 1538, 1539, 1540, 1541, 1542, 1543, 1544, 1545, 1546, 1547] (by decide +kernel) (by decide +kernel)
set_option maxRecDepth 20000 in
theorem gL_law_X8_totalDue : GoodIn wsL_law (wsV RL 340 RX8 yX8_totalDue wsX8_totalDue) := goodIn_app (goodIn_of _ (by decide +kernel)) ggL_law_X8_totalDue
set_option maxRecDepth 20000 in
theorem ggL_law_X7_totalBalance : GoodIn wsL_law wsX7_totalBalance := goodIn_r _ [1364, 19, 1365, 1366, 1367, 18, 1368, 50, 45, 811, 1508, 1509, 1510, 1511, 1512, 1513, 1514, 1515, 1516, 1517, 1518, 1548, 1549, 1550, 1556, 1557, 1558, 1559, 1560, 1561, 1562, 1563, 1564, 1565] (by decide +kernel) (by decide +kernel)
set_option maxRecDepth 20000 in
theorem gL_law_X7_totalBalance : GoodIn wsL_law (wsV RL 341 RX7 yX7_totalBalance wsX7_totalBalance) := goodIn_app (goodIn_of _ (by decide +kernel)) ggL_law_X7_totalBalance
set_option maxRecDepth 20000 in
theorem ggL_law_X8_totalBalance : GoodIn wsL_law wsX8_totalBalance := goodIn_r _ [1372, 505, 1373, 1374, 1375, 5, 1376, 394, 417, 418, 419, 420, 1519, 1520, 1521, 1522, 1523, 1524, 1525, 1526, 1527, 1528, 1529, 1530, 1531, 1532, 1533, 1534, 1535, 1536, 1537, 1538, 1539, 1540, 1541, 1542, 1543, 1544, 1545, 1546, 1547] (by decide +kernel) (by decide +kernel)
set_option maxRecDepth 20000 in
theorem gL_law_X8_totalBalance : GoodIn wsL_law (wsV RL 344 RX8 yX8_totalBalance wsX8_totalBalance) := goodIn_app (goodIn_of _ (by decide +kernel)) ggL_law_X8_totalBalance
set_option maxRecDepth 20000 in
theorem ggL_law_X7_monthsToFreedom : GoodIn wsL_law wsX7_monthsToFreedom := goodIn_r _ [1380, 19, 550, 708, 1381, 1382, 168, 1383, 1172, 1173, 1174, 2, 1175, 35, 735, 1136, 379, 380, 33, 381, 321, 267, 280, 287, 298, 281, 293, 303, 288, 322, 1176, 284, 285, 286, 289, 290, 291, 292, 282, 294, 295, 296, 297, 299, 300, 301, 302, 1508, 1509, 1510, 1511, 1512, 1513, 1514, 1515, 1516, 1517, 1518, 1548, 1549, 1550, 1556, 1557, 1558, 1559, 1560, 1561, 1562, 1563, 1564, 1565] (by decide +kernel) (by decide +kernel)
set_option maxRecDepth 20000 in
theorem gL_law_X7_monthsToFreedom : GoodIn wsL_law (wsV RL 345 RX7 yX7_monthsToFreedom wsX7_monthsToFreedom) := goodIn_app (goodIn_of _ (by decide +kernel)) ggL_law_X7_monthsToFreedom
set_option maxRecDepth 20000 in
theorem ggL_law_X8_monthsToFreedom : GoodIn wsL_law wsX8_monthsToFreedom := goodIn_r _ [1387, 505, 394, 437, 1211, 1212, 1213, 5, 1214, 427, 428, 429, 430, 417, 418, 419, 420, 431, 432, 433, 434, 435, 436, 438, 425, 439, 449, 450, 451, 452, 440, 441, 442, 443, 444, 1519, 1520, 1521, 1522, 1523, 1524, 1525, 1526, 1527, 1528, 1529, 1530, 1531, 1532, 1533, 1534, 1535, 1536, 1537, 1538, 1539, 1540, 1541, 1542, 1543, 1544, 1545, 1546, 1547] (by decide +kernel) (by decide +kernel)
set_option maxRecDepth 20000 in
theorem gL_law_X8_monthsToFreedom : GoodIn wsL_law (wsV RL 348 RX8 yX8_monthsToFreedom wsX8_monthsToFreedom) := goodIn_app (goodIn_of _ (by decide +kernel)) ggL_law_X8_monthsToFreedom
set_option maxRecDepth 20000 in
theorem ggL_law_L_budgetMonths : GoodIn wsL_law wsL_budgetMonths := goodIn_ca (goodIn_r _ [1390, 515, 1391, 1392, 1393, 2, 1394, 678, 30, 19, 520, 521, 522, 523, 524, 374, 375, 376, 18, 377, 50, 45, 49, 378, 379, 380, 33, 381, 321, 267, 280, 287, 298, 281, 293, 303, 288, 322, 382, 383, 384, 48, 385, 55, 386, 387, 388, 389, 56, 57, 58, 59, 1395, 1396, 1397, 1398, 1399, 910, 911, 912, 263, 264, 265, 266, 1400, 1349, 1350, 1351, 1352, 1029, 1030, 1031, 327, 277, 278, 279, 282, 294, 295, 296, 297, 1401, 260, 261, 262, 268, 269, 270, 271, 272, 273, 274, 275, 276, 283, 284, 285, 286, 289, 290, 291, 292, 299, 300, 301, 302, 304, 305, 306, 307, 308, 167, 168, 169, 1402, 808, 809, 810, 811, 812, 813, 814, 815, 816, 817, 818, 819, 820, 821, 822, 823, 359, 360, 361, 362, 363, 364, 365, 323, 324, 325, 326, 328, 329, 330, 331, 1508, 1509, 1510, 1511, 1512, 1513, 1514, 1515, 1516, 1517, 1518, 1548, 1549, 1550, 1556, 1557, 1558, 1559, 1560, 1561, 1562, 1563, 1564, 1565, 1580, 1581, 1582, 1583, 1584] (by decide +kernel) (by decide +kernel)) (goodIn_sub (fun _ h => List.mem_append_left _ (List.mem_append_left _ (List.mem_append_left _ (List.mem_append_right _ h)))) (by decide +kernel))
set_option maxRecDepth 20000 in
theorem gL_law_L_budgetMonths : GoodIn wsL_law (va_wsS RL 349 yL_budgetMonths wsL_budgetMonths) := goodIn_app (goodIn_of _ (by decide +kernel)) ggL_law_L_budgetMonths
set_option maxRecDepth 20000 in
theorem ggL_law_X8_budgetMonths : GoodIn wsL_law wsX8_budgetMonths := goodIn_r _ [1406, 505, 626, 529, 530, 531, 5, 532, 1407, 1408, 1409, 1410, 394, 399, 1411, 568, 569, 570, 1412, 1413, 1414, 1415, 417, 418, 419, 420, 917, 918, 919, 920, 457, 458, 459, 460, 1357, 1358, 1359, 1360, 425, 465, 466, 467, 468, 427, 428, 429, 430, 431, 432, 433, 434, 435, 436, 437, 438, 439, 440, 441, 442, 443, 444, 1416, 1417, 1418, 1419, 453, 454, 455, 456, 461, 462, 463, 464, 409, 410, 411, 412, 469, 470, 471, 472, 473, 474, 475, 476, 477, 478, 479, 480, 1420, 1421, 1422, 1423, 828, 829, 830, 831, 1340, 1341, 1342, 1343, 481, 482, 483, 484, 413, 414, 415, 416, 421, 422, 423, 424, 426, 445, 446, 447, 448, 449, 450, 451, 452, 485, 486, 487, 488, 1519, 1520, 1521, 1522, 1523, 1524, 1525, 1526, 1527, 1528, 1529, 1530, 1531, 1532, 1533, 1534, 1535, 1536, 1537, 1538, 1539, 1540, 1541, 1542, 1543, 1544, 1545, 1546, 1547] (by decide +kernel) (by decide +kernel)
set_option maxRecDepth 20000 in
theorem gL_law_X8_budgetMonths : GoodIn wsL_law (wsV RL 352 RX8 yX8_budgetMonths wsX8_budgetMonths) := goodIn_app (goodIn_of _ (by decide +kernel)) ggL_law_X8_budgetMonths
set_option maxRecDepth 20000 in
theorem ggL_law_L_budgetInterest : GoodIn wsL_law wsL_budgetInterest := goodIn_ca (goodIn_r _ [1426, 515, 1427, 1428, 1429, 2, 1430, 678, 30, 19, 520, 521, 522, 523, 524, 374, 375, 376, 18, 377, 50, 45, 49, 378, 379, 380, 33, 381, 321, 267, 280, 287, 298, 281, 293, 303, 288, 322, 382, 383, 384, 48, 385, 55, 386, 387, 388, 389, 56, 57, 58, 59, 1395, 1396, 1397, 1398, 1399, 910, 911, 912, 263, 264, 265, 266, 1400, 1349, 1350, 1351, 1352, 1029, 1030, 1031, 327, 277, 278, 279, 282, 294, 295, 296, 297, 1401, 260, 261, 262, 268, 269, 270, 271, 272, 273, 274, 275, 276, 283, 284, 285, 286, 289, 290, 291, 292, 299, 300, 301, 302, 304, 305, 306, 307, 308, 167, 168, 169, 1402, 808, 809, 810, 811, 812, 813, 814, 815, 816, 817, 818, 819, 820, 821, 822, 823, 359, 360, 361, 362, 363, 364, 365, 323, 324, 325, 326, 328, 329, 330, 331, 1431, 1432, 1433, 1434, 1435, 1508, 1509, 1510, 1511, 1512, 1513, 1514, 1515, 1516, 1517, 1518, 1548, 1549, 1550, 1556, 1557, 1558, 1559, 1560, 1561, 1562, 1563, 1564, 1565, 1580, 1581, 1582, 1583, 1584] (by decide +kernel) (by decide +kernel)) (goodIn_sub (fun _ h => List.mem_append_left _ (List.mem_append_left _ (List.mem_append_left _ (List.mem_append_right _ h)))) (by decide +kernel))
set_option maxRecDepth 20000 in
theorem gL_law_L_budgetInterest : GoodIn wsL_law (va_wsS RL 353 yL_budgetInterest wsL_budgetInterest) := goodIn_app (goodIn_of _ (by decide +kernel)) ggL_law_L_budgetInterest
set_option maxRecDepth 20000 in
theorem ggL_law_X8_budgetInterest : GoodIn wsL_law wsX8_budgetInterest := goodIn_r _ [1439, 505, 626, 1411, 529, 530, 531, 5, 532, 1407, 1408, 1409, 1410, 394, 399, 568, 569, 570, 1412, 1413, 1414, 1415, 417, 418, 419, 420, 917, 918, 919, 920, 457, 458, 459, 460, 1357, 1358, 1359, 1360, 425, 465, 466, 467, 468, 427, 428, 429, 430, 431, 432, 433, 434, 435, 436, 437, 438, 439, 440, 441, 442, 443, 444, 1416, 1417, 1418, 1419, 453, 454, 455, 456, 461, 462, 463, 464, 409, 410, 411, 412, 469, 470, 471, 472, 473, 474, 475, 476, 477, 478, 479, 480, 1420, 1421, 1422, 1423, 828, 829, 830, 831, 1340, 1341, 1342, 1343, 481, 482, 483, 484, 413, 414, 415, 416, 421, 422, 423, 424, 426, 445, 446, 447, 448, 449, 450, 451, 452, 485, 486, 487, 488, 1519, 1520, 1521, 1522, 1523, 1524, 1525, 1526, 1527, 1528, 1529, 1530, 1531, 1532, 1533, 1534, 1535, 1536, 1537, 1538, 1539, 1540, 1541, 1542, 1543, 1544, 1545, 1546, 1547] (by decide +kernel) (by decide +kernel)
set_option maxRecDepth 20000 in
theorem gL_law_X8_budgetInterest : GoodIn wsL_law (wsV RL 355 RX8 yX8_budgetInterest wsX8_budgetInterest) := goodIn_app (goodIn_of _ (by decide +kernel)) ggL_law_X8_budgetInterest
set_option maxRecDepth 20000 in
theorem ggL_law_X7_averageRate : GoodIn wsL_law wsX7_averageRate := goodIn_r _ [1443, 19, 550, 708, 735, 775, 1365, 1366, 1367, 18, 1368, 50, 45, 811, 1508, 1509, 1510, 1511, 1512, 1513, 1514, 1515, 1516, 1517, 1518, 1548, 1549, 1550, 1556, 1557, 1558, 1559, 1560, 1561, 1562, 1563, 1564, 1565] (by decide +kernel) (by decide +kernel)
set_option maxRecDepth 20000 in
theorem gL_law_X7_averageRate : GoodIn wsL_law (wsV RL 356 RX7 yX7_averageRate wsX7_averageRate) := goodIn_app (goodIn_of _ (by decide +kernel)) ggL_law_X7_averageRate
set_option maxRecDepth 20000 in
theorem ggL_law_X8_averageRate : GoodIn wsL_law wsX8_averageRate := goodIn_r _ [1447, 505, 394, 417, 418, 419, 5, 420, 1373, 1374, 1375, 1376, 1519, 1520, 1521, 1522, 1523, 1524, 1525, 1526, 1527, 1528, 1529, 1530, 1531, 1532, 1533, 1534, 1535, 1536, 1537, 1538, 1539, 1540, 1541, 1542, 1543, 1544, 1545, 1546, 1547] (by decide +kernel) (by decide +kernel)
set_option maxRecDepth 20000 in
theorem gL_law_X8_averageRate : GoodIn wsL_law (wsV RL 360 RX8 yX8_averageRate wsX8_averageRate) := goodIn_app (goodIn_of _ (by decide +kernel)) ggL_law_X8_averageRate
set_option maxRecDepth 20000 in
theorem ggL_law_X7_closedShare : GoodIn wsL_law wsX7_closedShare := goodIn_r _ [1451, 19, 550, 909, 910, 911, 18, 912, 50, 45, 263, 264, 265, 33, 266, 267, 1508, 1509, 1510, 1511, 1512, 1513, 1514, 1515, 1516, 1517, 1518, 1548, 1549, 1550, 1556, 1557, 1558, 1559, 1560, 1561, 1562, 1563, 1564, 1565] (by decide +kernel) (by decide +kernel)
set_option maxRecDepth 20000 in
theorem gL_law_X7_closedShare : GoodIn wsL_law (wsV RL 361 RX7 yX7_closedShare wsX7_closedShare) := goodIn_app (goodIn_of _ (by decide +kernel)) ggL_law_X7_closedShare
set_option maxRecDepth 20000 in
theorem ggL_law_X8_closedShare : GoodIn wsL_law wsX8_closedShare := goodIn_r _ [1455, 505, 394, 917, 918, 919, 5, 920, 457, 458, 459, 460, 417, 418, 419, 420, 1519, 1520, 1521, 1522, 1523, 1524, 1525, 1526, 1527, 1528, 1529, 1530, 1531, 1532, 1533, 1534, 1535, 1536, 1537, 1538, 1539, 1540, 1541, 1542, 1543, 1544, 1545, 1546, 1547] (by decide +kernel) (by decide +kernel)
set_option maxRecDepth 20000 in
theorem gL_law_X8_closedShare : GoodIn wsL_law (wsV RL 365 RX8 yX8_closedShare wsX8_closedShare) := goodIn_app (goodIn_of _ (by decide +kernel)) ggL_law_X8_closedShare
set_option maxRecDepth 20000 in
theorem ggL_law_X7_violations : GoodIn wsL_law wsX7_violations := goodIn_r _ [1459, 19, 550, 708, 939, 1043, 1055, 735, 1000, 1460, 988, 709, 264, 265, 33, 266, 267, 1222, 1223, 1224, 2, 1225, 35, 1136, 379, 380, 381, 321, 280, 287, 298, 281, 293, 303, 288, 322, 1137, 1138, 1139, 1140, 1141, 284, 285, 286, 289, 290, 291, 292, 282, 294, 295, 296, 297, 299, 300, 301, 302, 1508, 1509, 1510, 1511, 1512, 1513, 1514, 1515, 1516, 1517, 1518, 1548, 1549, 1550, 1556, 1557, 1558, 1559, 1560, 1561, 1562, 1563, 1564, 1565] (by decide +kernel) (by decide +kernel)
set_option maxRecDepth 20000 in
theorem gL_law_X7_violations : GoodIn wsL_law (wsV RL 366 RX7 yX7_violations wsX7_violations) := goodIn_app (goodIn_of _ (by decide +kernel)) ggL_law_X7_violations
set_option maxRecDepth 20000 in
theorem ggL_law_X8_violations : GoodIn wsL_law wsX8_violations := goodIn_r _ [1464, 505, 394, 403, 417, 418, 419, 5, 420, 457, 458, 459, 460, 1211, 1212, 1213, 1214, 427, 428, 429, 430, 431, 432, 433, 434, 435, 436, 437, 438, 425, 439, 449, 450, 451, 452, 440, 441, 442, 443, 444, 1519, 1520, 1521, 1522, 1523, 1524, 1525, 1526, 1527, 1528, 1529, 1530, 1531, 1532, 1533, 1534, 1535, 1536, 1537, 1538, 1539, 1540, 1541, 1542, 1543, 1544, 1545, 1546, 1547] (by decide +kernel) (by decide +kernel)
set_option maxRecDepth 20000 in
theorem gL_law_X8_violations : GoodIn wsL_law (wsV RL 369 RX8 yX8_violations wsX8_violations) := goodIn_app (goodIn_of _ (by decide +kernel)) ggL_law_X8_violations
set_option maxRecDepth 20000 in
theorem ggL_law_L_writeSchedule : GoodIn wsL_law wsL_writeSchedule := goodIn_ca (goodIn_r _ [1467, 697, 1468, 1469, 1470, 2, 1471, 35, 29, 1472, 702, 703, 704, 705, 706, 707, 19, 550, 708, 1136, 379, 380, 33, 381, 321, 267, 280, 287, 298, 281, 293, 303, 288, 322, 709, 264, 265, 266, 1473, 1474, 1475, 28, 1476, 76, 75, 1012, 277, 278, 279, 282, 1176, 284, 285, 286, 289, 290, 291, 292, 294, 295, 296, 297, 299, 300, 301, 302, 1477, 1478, 1479, 1480, 1481, 1482, 1483, 1484, 1485, 1508, 1509, 1510, 1511, 1512, 1513, 1514, 1515, 1516, 1517, 1518, 1554, 1555, 1548, 1549, 1550, 1556, 1557, 1558, 1559, 1560, 1561, 1562, 1563, 1564, 1565] (by decide +kernel) (by decide +kernel)) (goodIn_sub (fun _ h => List.mem_append_left _ (List.mem_append_right _ h)) (by decide +kernel))
set_option maxRecDepth 20000 in
theorem gL_law_L_writeSchedule : GoodIn wsL_law (va_wsS RL 370 yL_writeSchedule wsL_writeSchedule) := goodIn_app (goodIn_of _ (by decide +kernel)) ggL_law_L_writeSchedule
set_option maxRecDepth 20000 in
theorem ggL_law_X8_writeSchedule : GoodIn wsL_law wsX8_writeSchedule := goodIn_r _ [1489, 505, 1490, 435, 425, 439, 715, 716, 717, 5, 718, 394, 529, 530, 531, 532, 427, 428, 429, 430, 417, 418, 419, 420, 431, 432, 433, 434, 436, 437, 438, 1491, 1492, 1493, 1494, 401, 440, 441, 442, 443, 444, 1495, 1496, 1497, 1498, 1519, 1520, 1521, 1522, 1523, 1524, 1525, 1526, 1527, 1528, 1529, 1530, 1531, 1532, 1533, 1534, 1535, 1536, 1537, 1538, 1539, 1540, 1541, 1542, 1543, 1544, 1545, 1546, 1547] (by decide +kernel) (by decide +kernel)
set_option maxRecDepth 20000 in
theorem gL_law_X8_writeSchedule : GoodIn wsL_law (wsV RL 372 RX8 yX8_writeSchedule wsX8_writeSchedule) := goodIn_app (goodIn_of _ (by decide +kernel)) ggL_law_X8_writeSchedule
set_option maxRecDepth 20000 in
theorem ggL_law_X7_reportByte : GoodIn wsL_law wsX7_reportByte := goodIn_r _ [1502, 29, 1472, 1503, 1508, 1509, 1510, 1511, 1512, 1513, 1514, 1515, 1516, 1517, 1518, 1554, 1555] (by decide +kernel) (by decide +kernel)
set_option maxRecDepth 20000 in
theorem gL_law_X7_reportByte : GoodIn wsL_law (wsV RL 373 RX7 yX7_reportByte wsX7_reportByte) := goodIn_app (goodIn_of _ (by decide +kernel)) ggL_law_X7_reportByte
set_option maxRecDepth 20000 in
theorem ggL_law_X8_reportByte : GoodIn wsL_law wsX8_reportByte := goodIn_r _ [1507, 505, 1490, 401, 1519, 1520, 1521, 1522, 1523, 1524, 1525, 1526, 1527, 1528, 1529, 1530, 1531, 1532, 1533, 1534, 1535, 1536, 1537, 1538, 1539, 1540, 1541, 1542, 1543, 1544, 1545, 1546, 1547] (by decide +kernel) (by decide +kernel)
set_option maxRecDepth 20000 in
theorem gL_law_X8_reportByte : GoodIn wsL_law (wsV RL 376 RX8 yX8_reportByte wsX8_reportByte) := goodIn_app (goodIn_of _ (by decide +kernel)) ggL_law_X8_reportByte
theorem dL_law_0 : decode cL_law 0 = .ok (.new 8, 3) := by decide +kernel
theorem dL_law_3 : decode cL_law 3 = .ok (.dup, 1) := by decide +kernel
theorem dL_law_4 : decode cL_law 4 = .ok (.invokespecial 142, 3) := by decide +kernel
theorem dL_law_7 : decode cL_law 7 = .ok (.astore_n 1, 1) := by decide +kernel
theorem dL_law_8 : decode cL_law 8 = .ok (.new 143, 3) := by decide +kernel
theorem dL_law_11 : decode cL_law 11 = .ok (.dup, 1) := by decide +kernel
theorem dL_law_12 : decode cL_law 12 = .ok (.invokespecial 145, 3) := by decide +kernel
theorem dL_law_15 : decode cL_law 15 = .ok (.astore_n 2, 1) := by decide +kernel
theorem dL_law_16 : decode cL_law 16 = .ok (.iconst 1, 1) := by decide +kernel
theorem dL_law_17 : decode cL_law 17 = .ok (.newarray .long, 2) := by decide +kernel
theorem dL_law_19 : decode cL_law 19 = .ok (.astore_n 3, 1) := by decide +kernel
theorem dL_law_20 : decode cL_law 20 = .ok (.iconst 0, 1) := by decide +kernel
theorem dL_law_21 : decode cL_law 21 = .ok (.istore 4, 2) := by decide +kernel
theorem dL_law_23 : decode cL_law 23 = .ok (.iload 4, 2) := by decide +kernel
theorem dL_law_25 : decode cL_law 25 = .ok (.aload_n 0, 1) := by decide +kernel
theorem dL_law_26 : decode cL_law 26 = .ok (.arraylength, 1) := by decide +kernel
theorem dL_law_27 : decode cL_law 27 = .ok (.bipush 6, 2) := by decide +kernel
theorem dL_law_29 : decode cL_law 29 = .ok (.isub, 1) := by decide +kernel
theorem dL_law_30 : decode cL_law 30 = .ok (.if_icmp .gt 3293, 3) := by decide +kernel
theorem dL_law_33 : decode cL_law 33 = .ok (.aload_n 0, 1) := by decide +kernel
theorem dL_law_34 : decode cL_law 34 = .ok (.iload 4, 2) := by decide +kernel
theorem dL_law_36 : decode cL_law 36 = .ok (.iaload, 1) := by decide +kernel
theorem dL_law_37 : decode cL_law 37 = .ok (.bipush 63, 2) := by decide +kernel
theorem dL_law_39 : decode cL_law 39 = .ok (.iand, 1) := by decide +kernel
theorem dL_law_40 : decode cL_law 40 = .ok (.tableswitch 3277 0 63 #[272, 345, 401, 414, 427, 507, 563, 576, 672, 728, 796, 864, 944, 1000, 1013, 1026, 1039, 1083, 1096, 1109, 1122, 1135, 1198, 1254, 1310, 1366, 1422, 1478, 1534, 1590, 1646, 1702, 1758, 1814, 1870, 1883, 1908, 1933, 1958, 2026, 2094, 2162, 2230, 2286, 2342, 2398, 2466, 2534, 2630, 2698, 2785, 2853, 2866, 2879, 2892, 2905, 2918, 2931, 3015, 3099, 3140, 3183, 3196, 3252], 272) := by decide +kernel
theorem dL_law_312 : decode cL_law 312 = .ok (.aload_n 1, 1) := by decide +kernel
theorem dL_law_313 : decode cL_law 313 = .ok (.aload_n 0, 1) := by decide +kernel
theorem dL_law_314 : decode cL_law 314 = .ok (.iload 4, 2) := by decide +kernel
theorem dL_law_316 : decode cL_law 316 = .ok (.iconst 1, 1) := by decide +kernel
theorem dL_law_317 : decode cL_law 317 = .ok (.iadd, 1) := by decide +kernel
theorem dL_law_318 : decode cL_law 318 = .ok (.iaload, 1) := by decide +kernel
theorem dL_law_319 : decode cL_law 319 = .ok (.aload_n 0, 1) := by decide +kernel
theorem dL_law_320 : decode cL_law 320 = .ok (.iload 4, 2) := by decide +kernel
theorem dL_law_322 : decode cL_law 322 = .ok (.iconst 2, 1) := by decide +kernel
theorem dL_law_323 : decode cL_law 323 = .ok (.iadd, 1) := by decide +kernel
theorem dL_law_324 : decode cL_law 324 = .ok (.iaload, 1) := by decide +kernel
theorem dL_law_325 : decode cL_law 325 = .ok (.aload_n 0, 1) := by decide +kernel
theorem dL_law_326 : decode cL_law 326 = .ok (.iload 4, 2) := by decide +kernel
theorem dL_law_328 : decode cL_law 328 = .ok (.iconst 3, 1) := by decide +kernel
theorem dL_law_329 : decode cL_law 329 = .ok (.iadd, 1) := by decide +kernel
theorem dL_law_330 : decode cL_law 330 = .ok (.iaload, 1) := by decide +kernel
theorem dL_law_331 : decode cL_law 331 = .ok (.aload_n 0, 1) := by decide +kernel
theorem dL_law_332 : decode cL_law 332 = .ok (.iload 4, 2) := by decide +kernel
theorem dL_law_334 : decode cL_law 334 = .ok (.iconst 4, 1) := by decide +kernel
theorem dL_law_335 : decode cL_law 335 = .ok (.iadd, 1) := by decide +kernel
theorem dL_law_336 : decode cL_law 336 = .ok (.iaload, 1) := by decide +kernel
theorem dL_law_337 : decode cL_law 337 = .ok (.aload_n 0, 1) := by decide +kernel
theorem dL_law_338 : decode cL_law 338 = .ok (.iload 4, 2) := by decide +kernel
theorem dL_law_340 : decode cL_law 340 = .ok (.iconst 5, 1) := by decide +kernel
theorem dL_law_341 : decode cL_law 341 = .ok (.iadd, 1) := by decide +kernel
theorem dL_law_342 : decode cL_law 342 = .ok (.iaload, 1) := by decide +kernel
theorem dL_law_343 : decode cL_law 343 = .ok (.invokevirtual 146, 3) := by decide +kernel
theorem dL_law_346 : decode cL_law 346 = .ok (.aload_n 2, 1) := by decide +kernel
theorem dL_law_347 : decode cL_law 347 = .ok (.aload_n 0, 1) := by decide +kernel
theorem dL_law_348 : decode cL_law 348 = .ok (.iload 4, 2) := by decide +kernel
theorem dL_law_350 : decode cL_law 350 = .ok (.iconst 1, 1) := by decide +kernel
theorem dL_law_351 : decode cL_law 351 = .ok (.iadd, 1) := by decide +kernel
theorem dL_law_352 : decode cL_law 352 = .ok (.iaload, 1) := by decide +kernel
theorem dL_law_353 : decode cL_law 353 = .ok (.aload_n 0, 1) := by decide +kernel
theorem dL_law_354 : decode cL_law 354 = .ok (.iload 4, 2) := by decide +kernel
theorem dL_law_356 : decode cL_law 356 = .ok (.iconst 2, 1) := by decide +kernel
theorem dL_law_357 : decode cL_law 357 = .ok (.iadd, 1) := by decide +kernel
theorem dL_law_358 : decode cL_law 358 = .ok (.iaload, 1) := by decide +kernel
theorem dL_law_359 : decode cL_law 359 = .ok (.aload_n 0, 1) := by decide +kernel
theorem dL_law_360 : decode cL_law 360 = .ok (.iload 4, 2) := by decide +kernel
theorem dL_law_362 : decode cL_law 362 = .ok (.iconst 3, 1) := by decide +kernel
theorem dL_law_363 : decode cL_law 363 = .ok (.iadd, 1) := by decide +kernel
theorem dL_law_364 : decode cL_law 364 = .ok (.iaload, 1) := by decide +kernel
theorem dL_law_365 : decode cL_law 365 = .ok (.aload_n 0, 1) := by decide +kernel
theorem dL_law_366 : decode cL_law 366 = .ok (.iload 4, 2) := by decide +kernel
theorem dL_law_368 : decode cL_law 368 = .ok (.iconst 4, 1) := by decide +kernel
theorem dL_law_369 : decode cL_law 369 = .ok (.iadd, 1) := by decide +kernel
theorem dL_law_370 : decode cL_law 370 = .ok (.iaload, 1) := by decide +kernel
theorem dL_law_371 : decode cL_law 371 = .ok (.aload_n 0, 1) := by decide +kernel
theorem dL_law_372 : decode cL_law 372 = .ok (.iload 4, 2) := by decide +kernel
theorem dL_law_374 : decode cL_law 374 = .ok (.iconst 5, 1) := by decide +kernel
theorem dL_law_375 : decode cL_law 375 = .ok (.iadd, 1) := by decide +kernel
theorem dL_law_376 : decode cL_law 376 = .ok (.iaload, 1) := by decide +kernel
theorem dL_law_377 : decode cL_law 377 = .ok (.invokevirtual 150, 3) := by decide +kernel
theorem dL_law_380 : decode cL_law 380 = .ok (.if_icmp .eq 2937, 3) := by decide +kernel
theorem dL_law_383 : decode cL_law 383 = .ok (.iconst 0, 1) := by decide +kernel
theorem dL_law_384 : decode cL_law 384 = .ok (.ireturn, 1) := by decide +kernel
theorem dL_law_385 : decode cL_law 385 = .ok (.aload_n 1, 1) := by decide +kernel
theorem dL_law_386 : decode cL_law 386 = .ok (.aload_n 0, 1) := by decide +kernel
theorem dL_law_387 : decode cL_law 387 = .ok (.iload 4, 2) := by decide +kernel
theorem dL_law_389 : decode cL_law 389 = .ok (.iconst 1, 1) := by decide +kernel
theorem dL_law_390 : decode cL_law 390 = .ok (.iadd, 1) := by decide +kernel
theorem dL_law_391 : decode cL_law 391 = .ok (.iaload, 1) := by decide +kernel
theorem dL_law_392 : decode cL_law 392 = .ok (.aload_n 3, 1) := by decide +kernel
theorem dL_law_393 : decode cL_law 393 = .ok (.invokestatic 151, 3) := by decide +kernel
theorem dL_law_396 : decode cL_law 396 = .ok (.istore 5, 2) := by decide +kernel
theorem dL_law_398 : decode cL_law 398 = .ok (.aload_n 2, 1) := by decide +kernel
theorem dL_law_399 : decode cL_law 399 = .ok (.aload_n 0, 1) := by decide +kernel
theorem dL_law_400 : decode cL_law 400 = .ok (.iload 4, 2) := by decide +kernel
theorem dL_law_402 : decode cL_law 402 = .ok (.iconst 1, 1) := by decide +kernel
theorem dL_law_403 : decode cL_law 403 = .ok (.iadd, 1) := by decide +kernel
theorem dL_law_404 : decode cL_law 404 = .ok (.iaload, 1) := by decide +kernel
theorem dL_law_405 : decode cL_law 405 = .ok (.invokevirtual 156, 3) := by decide +kernel
theorem dL_law_408 : decode cL_law 408 = .ok (.istore 6, 2) := by decide +kernel
theorem dL_law_410 : decode cL_law 410 = .ok (.aload_n 2, 1) := by decide +kernel
theorem dL_law_411 : decode cL_law 411 = .ok (.invokevirtual 157, 3) := by decide +kernel
theorem dL_law_414 : decode cL_law 414 = .ok (.iload 5, 2) := by decide +kernel
theorem dL_law_416 : decode cL_law 416 = .ok (.if_icmp .eq 5, 3) := by decide +kernel
theorem dL_law_419 : decode cL_law 419 = .ok (.iconst 0, 1) := by decide +kernel
theorem dL_law_420 : decode cL_law 420 = .ok (.ireturn, 1) := by decide +kernel
theorem dL_law_421 : decode cL_law 421 = .ok (.iload 5, 2) := by decide +kernel
theorem dL_law_423 : decode cL_law 423 = .ok (.ifCond .ne 15, 3) := by decide +kernel
theorem dL_law_426 : decode cL_law 426 = .ok (.aload_n 3, 1) := by decide +kernel
theorem dL_law_427 : decode cL_law 427 = .ok (.iconst 0, 1) := by decide +kernel
theorem dL_law_428 : decode cL_law 428 = .ok (.laload, 1) := by decide +kernel
theorem dL_law_429 : decode cL_law 429 = .ok (.iload 6, 2) := by decide +kernel
theorem dL_law_431 : decode cL_law 431 = .ok (.i2l, 1) := by decide +kernel
theorem dL_law_432 : decode cL_law 432 = .ok (.lcmp, 1) := by decide +kernel
theorem dL_law_433 : decode cL_law 433 = .ok (.ifCond .eq 5, 3) := by decide +kernel
theorem dL_law_436 : decode cL_law 436 = .ok (.iconst 0, 1) := by decide +kernel
theorem dL_law_437 : decode cL_law 437 = .ok (.ireturn, 1) := by decide +kernel
theorem dL_law_438 : decode cL_law 438 = .ok (.goto 2879, 3) := by decide +kernel
theorem dL_law_441 : decode cL_law 441 = .ok (.aload_n 1, 1) := by decide +kernel
theorem dL_law_442 : decode cL_law 442 = .ok (.invokevirtual 160, 3) := by decide +kernel
theorem dL_law_445 : decode cL_law 445 = .ok (.aload_n 2, 1) := by decide +kernel
theorem dL_law_446 : decode cL_law 446 = .ok (.invokevirtual 163, 3) := by decide +kernel
theorem dL_law_449 : decode cL_law 449 = .ok (.if_icmp .eq 2868, 3) := by decide +kernel
theorem dL_law_452 : decode cL_law 452 = .ok (.iconst 0, 1) := by decide +kernel
theorem dL_law_453 : decode cL_law 453 = .ok (.ireturn, 1) := by decide +kernel
theorem dL_law_454 : decode cL_law 454 = .ok (.aload_n 1, 1) := by decide +kernel
theorem dL_law_455 : decode cL_law 455 = .ok (.invokevirtual 164, 3) := by decide +kernel
theorem dL_law_458 : decode cL_law 458 = .ok (.aload_n 2, 1) := by decide +kernel
theorem dL_law_459 : decode cL_law 459 = .ok (.invokevirtual 167, 3) := by decide +kernel
theorem dL_law_462 : decode cL_law 462 = .ok (.if_icmp .eq 2855, 3) := by decide +kernel
theorem dL_law_465 : decode cL_law 465 = .ok (.iconst 0, 1) := by decide +kernel
theorem dL_law_466 : decode cL_law 466 = .ok (.ireturn, 1) := by decide +kernel
theorem dL_law_467 : decode cL_law 467 = .ok (.aload_n 1, 1) := by decide +kernel
theorem dL_law_468 : decode cL_law 468 = .ok (.aload_n 0, 1) := by decide +kernel
theorem dL_law_469 : decode cL_law 469 = .ok (.iload 4, 2) := by decide +kernel
theorem dL_law_471 : decode cL_law 471 = .ok (.iconst 1, 1) := by decide +kernel
theorem dL_law_472 : decode cL_law 472 = .ok (.iadd, 1) := by decide +kernel
theorem dL_law_473 : decode cL_law 473 = .ok (.iaload, 1) := by decide +kernel
theorem dL_law_474 : decode cL_law 474 = .ok (.aload_n 0, 1) := by decide +kernel
theorem dL_law_475 : decode cL_law 475 = .ok (.iload 4, 2) := by decide +kernel
theorem dL_law_477 : decode cL_law 477 = .ok (.iconst 2, 1) := by decide +kernel
theorem dL_law_478 : decode cL_law 478 = .ok (.iadd, 1) := by decide +kernel
theorem dL_law_479 : decode cL_law 479 = .ok (.iaload, 1) := by decide +kernel
theorem dL_law_480 : decode cL_law 480 = .ok (.aload_n 0, 1) := by decide +kernel
theorem dL_law_481 : decode cL_law 481 = .ok (.iload 4, 2) := by decide +kernel
theorem dL_law_483 : decode cL_law 483 = .ok (.iconst 3, 1) := by decide +kernel
theorem dL_law_484 : decode cL_law 484 = .ok (.iadd, 1) := by decide +kernel
theorem dL_law_485 : decode cL_law 485 = .ok (.iaload, 1) := by decide +kernel
theorem dL_law_486 : decode cL_law 486 = .ok (.aload_n 3, 1) := by decide +kernel
theorem dL_law_487 : decode cL_law 487 = .ok (.invokestatic 168, 3) := by decide +kernel
theorem dL_law_490 : decode cL_law 490 = .ok (.istore 5, 2) := by decide +kernel
theorem dL_law_492 : decode cL_law 492 = .ok (.aload_n 2, 1) := by decide +kernel
theorem dL_law_493 : decode cL_law 493 = .ok (.aload_n 0, 1) := by decide +kernel
theorem dL_law_494 : decode cL_law 494 = .ok (.iload 4, 2) := by decide +kernel
theorem dL_law_496 : decode cL_law 496 = .ok (.iconst 1, 1) := by decide +kernel
theorem dL_law_497 : decode cL_law 497 = .ok (.iadd, 1) := by decide +kernel
theorem dL_law_498 : decode cL_law 498 = .ok (.iaload, 1) := by decide +kernel
theorem dL_law_499 : decode cL_law 499 = .ok (.aload_n 0, 1) := by decide +kernel
theorem dL_law_500 : decode cL_law 500 = .ok (.iload 4, 2) := by decide +kernel
theorem dL_law_502 : decode cL_law 502 = .ok (.iconst 2, 1) := by decide +kernel
theorem dL_law_503 : decode cL_law 503 = .ok (.iadd, 1) := by decide +kernel
theorem dL_law_504 : decode cL_law 504 = .ok (.iaload, 1) := by decide +kernel
theorem dL_law_505 : decode cL_law 505 = .ok (.aload_n 0, 1) := by decide +kernel
theorem dL_law_506 : decode cL_law 506 = .ok (.iload 4, 2) := by decide +kernel
theorem dL_law_508 : decode cL_law 508 = .ok (.iconst 3, 1) := by decide +kernel
theorem dL_law_509 : decode cL_law 509 = .ok (.iadd, 1) := by decide +kernel
theorem dL_law_510 : decode cL_law 510 = .ok (.iaload, 1) := by decide +kernel
theorem dL_law_511 : decode cL_law 511 = .ok (.invokevirtual 171, 3) := by decide +kernel
theorem dL_law_514 : decode cL_law 514 = .ok (.istore 6, 2) := by decide +kernel
theorem dL_law_516 : decode cL_law 516 = .ok (.aload_n 2, 1) := by decide +kernel
theorem dL_law_517 : decode cL_law 517 = .ok (.invokevirtual 157, 3) := by decide +kernel
theorem dL_law_520 : decode cL_law 520 = .ok (.iload 5, 2) := by decide +kernel
theorem dL_law_522 : decode cL_law 522 = .ok (.if_icmp .eq 5, 3) := by decide +kernel
theorem dL_law_525 : decode cL_law 525 = .ok (.iconst 0, 1) := by decide +kernel
theorem dL_law_526 : decode cL_law 526 = .ok (.ireturn, 1) := by decide +kernel
theorem dL_law_527 : decode cL_law 527 = .ok (.iload 5, 2) := by decide +kernel
theorem dL_law_529 : decode cL_law 529 = .ok (.ifCond .ne 15, 3) := by decide +kernel
theorem dL_law_532 : decode cL_law 532 = .ok (.aload_n 3, 1) := by decide +kernel
theorem dL_law_533 : decode cL_law 533 = .ok (.iconst 0, 1) := by decide +kernel
theorem dL_law_534 : decode cL_law 534 = .ok (.laload, 1) := by decide +kernel
theorem dL_law_535 : decode cL_law 535 = .ok (.iload 6, 2) := by decide +kernel
theorem dL_law_537 : decode cL_law 537 = .ok (.i2l, 1) := by decide +kernel
theorem dL_law_538 : decode cL_law 538 = .ok (.lcmp, 1) := by decide +kernel
theorem dL_law_539 : decode cL_law 539 = .ok (.ifCond .eq 5, 3) := by decide +kernel
theorem dL_law_542 : decode cL_law 542 = .ok (.iconst 0, 1) := by decide +kernel
theorem dL_law_543 : decode cL_law 543 = .ok (.ireturn, 1) := by decide +kernel
theorem dL_law_544 : decode cL_law 544 = .ok (.goto 2773, 3) := by decide +kernel
theorem dL_law_547 : decode cL_law 547 = .ok (.aload_n 1, 1) := by decide +kernel
theorem dL_law_548 : decode cL_law 548 = .ok (.aload_n 0, 1) := by decide +kernel
theorem dL_law_549 : decode cL_law 549 = .ok (.iload 4, 2) := by decide +kernel
theorem dL_law_551 : decode cL_law 551 = .ok (.iconst 1, 1) := by decide +kernel
theorem dL_law_552 : decode cL_law 552 = .ok (.iadd, 1) := by decide +kernel
theorem dL_law_553 : decode cL_law 553 = .ok (.iaload, 1) := by decide +kernel
theorem dL_law_554 : decode cL_law 554 = .ok (.aload_n 3, 1) := by decide +kernel
theorem dL_law_555 : decode cL_law 555 = .ok (.invokestatic 172, 3) := by decide +kernel
theorem dL_law_558 : decode cL_law 558 = .ok (.istore 5, 2) := by decide +kernel
theorem dL_law_560 : decode cL_law 560 = .ok (.aload_n 2, 1) := by decide +kernel
theorem dL_law_561 : decode cL_law 561 = .ok (.aload_n 0, 1) := by decide +kernel
theorem dL_law_562 : decode cL_law 562 = .ok (.iload 4, 2) := by decide +kernel
theorem dL_law_564 : decode cL_law 564 = .ok (.iconst 1, 1) := by decide +kernel
theorem dL_law_565 : decode cL_law 565 = .ok (.iadd, 1) := by decide +kernel
theorem dL_law_566 : decode cL_law 566 = .ok (.iaload, 1) := by decide +kernel
theorem dL_law_567 : decode cL_law 567 = .ok (.invokevirtual 174, 3) := by decide +kernel
theorem dL_law_570 : decode cL_law 570 = .ok (.istore 6, 2) := by decide +kernel
theorem dL_law_572 : decode cL_law 572 = .ok (.aload_n 2, 1) := by decide +kernel
theorem dL_law_573 : decode cL_law 573 = .ok (.invokevirtual 157, 3) := by decide +kernel
theorem dL_law_576 : decode cL_law 576 = .ok (.iload 5, 2) := by decide +kernel
theorem dL_law_578 : decode cL_law 578 = .ok (.if_icmp .eq 5, 3) := by decide +kernel
theorem dL_law_581 : decode cL_law 581 = .ok (.iconst 0, 1) := by decide +kernel
theorem dL_law_582 : decode cL_law 582 = .ok (.ireturn, 1) := by decide +kernel
theorem dL_law_583 : decode cL_law 583 = .ok (.iload 5, 2) := by decide +kernel
theorem dL_law_585 : decode cL_law 585 = .ok (.ifCond .ne 15, 3) := by decide +kernel
theorem dL_law_588 : decode cL_law 588 = .ok (.aload_n 3, 1) := by decide +kernel
theorem dL_law_589 : decode cL_law 589 = .ok (.iconst 0, 1) := by decide +kernel
theorem dL_law_590 : decode cL_law 590 = .ok (.laload, 1) := by decide +kernel
theorem dL_law_591 : decode cL_law 591 = .ok (.iload 6, 2) := by decide +kernel
theorem dL_law_593 : decode cL_law 593 = .ok (.i2l, 1) := by decide +kernel
theorem dL_law_594 : decode cL_law 594 = .ok (.lcmp, 1) := by decide +kernel
theorem dL_law_595 : decode cL_law 595 = .ok (.ifCond .eq 5, 3) := by decide +kernel
theorem dL_law_598 : decode cL_law 598 = .ok (.iconst 0, 1) := by decide +kernel
theorem dL_law_599 : decode cL_law 599 = .ok (.ireturn, 1) := by decide +kernel
theorem dL_law_600 : decode cL_law 600 = .ok (.goto 2717, 3) := by decide +kernel
theorem dL_law_603 : decode cL_law 603 = .ok (.aload_n 1, 1) := by decide +kernel
theorem dL_law_604 : decode cL_law 604 = .ok (.invokevirtual 175, 3) := by decide +kernel
theorem dL_law_607 : decode cL_law 607 = .ok (.aload_n 2, 1) := by decide +kernel
theorem dL_law_608 : decode cL_law 608 = .ok (.invokevirtual 178, 3) := by decide +kernel
theorem dL_law_611 : decode cL_law 611 = .ok (.if_icmp .eq 2706, 3) := by decide +kernel
theorem dL_law_614 : decode cL_law 614 = .ok (.iconst 0, 1) := by decide +kernel
theorem dL_law_615 : decode cL_law 615 = .ok (.ireturn, 1) := by decide +kernel
theorem dL_law_616 : decode cL_law 616 = .ok (.aload_n 1, 1) := by decide +kernel
theorem dL_law_617 : decode cL_law 617 = .ok (.aload_n 0, 1) := by decide +kernel
theorem dL_law_618 : decode cL_law 618 = .ok (.iload 4, 2) := by decide +kernel
theorem dL_law_620 : decode cL_law 620 = .ok (.iconst 1, 1) := by decide +kernel
theorem dL_law_621 : decode cL_law 621 = .ok (.iadd, 1) := by decide +kernel
theorem dL_law_622 : decode cL_law 622 = .ok (.iaload, 1) := by decide +kernel
theorem dL_law_623 : decode cL_law 623 = .ok (.aload_n 0, 1) := by decide +kernel
theorem dL_law_624 : decode cL_law 624 = .ok (.iload 4, 2) := by decide +kernel
theorem dL_law_626 : decode cL_law 626 = .ok (.iconst 2, 1) := by decide +kernel
theorem dL_law_627 : decode cL_law 627 = .ok (.iadd, 1) := by decide +kernel
theorem dL_law_628 : decode cL_law 628 = .ok (.iaload, 1) := by decide +kernel
theorem dL_law_629 : decode cL_law 629 = .ok (.aload_n 0, 1) := by decide +kernel
theorem dL_law_630 : decode cL_law 630 = .ok (.iload 4, 2) := by decide +kernel
theorem dL_law_632 : decode cL_law 632 = .ok (.iconst 3, 1) := by decide +kernel
theorem dL_law_633 : decode cL_law 633 = .ok (.iadd, 1) := by decide +kernel
theorem dL_law_634 : decode cL_law 634 = .ok (.iaload, 1) := by decide +kernel
theorem dL_law_635 : decode cL_law 635 = .ok (.ifCond .eq 7, 3) := by decide +kernel
theorem dL_law_638 : decode cL_law 638 = .ok (.iconst 1, 1) := by decide +kernel
theorem dL_law_639 : decode cL_law 639 = .ok (.goto 4, 3) := by decide +kernel
theorem dL_law_642 : decode cL_law 642 = .ok (.iconst 0, 1) := by decide +kernel
theorem dL_law_643 : decode cL_law 643 = .ok (.aload_n 3, 1) := by decide +kernel
theorem dL_law_644 : decode cL_law 644 = .ok (.invokestatic 179, 3) := by decide +kernel
theorem dL_law_647 : decode cL_law 647 = .ok (.istore 5, 2) := by decide +kernel
theorem dL_law_649 : decode cL_law 649 = .ok (.aload_n 2, 1) := by decide +kernel
theorem dL_law_650 : decode cL_law 650 = .ok (.aload_n 0, 1) := by decide +kernel
theorem dL_law_651 : decode cL_law 651 = .ok (.iload 4, 2) := by decide +kernel
theorem dL_law_653 : decode cL_law 653 = .ok (.iconst 1, 1) := by decide +kernel
theorem dL_law_654 : decode cL_law 654 = .ok (.iadd, 1) := by decide +kernel
theorem dL_law_655 : decode cL_law 655 = .ok (.iaload, 1) := by decide +kernel
theorem dL_law_656 : decode cL_law 656 = .ok (.aload_n 0, 1) := by decide +kernel
theorem dL_law_657 : decode cL_law 657 = .ok (.iload 4, 2) := by decide +kernel
theorem dL_law_659 : decode cL_law 659 = .ok (.iconst 2, 1) := by decide +kernel
theorem dL_law_660 : decode cL_law 660 = .ok (.iadd, 1) := by decide +kernel
theorem dL_law_661 : decode cL_law 661 = .ok (.iaload, 1) := by decide +kernel
theorem dL_law_662 : decode cL_law 662 = .ok (.aload_n 0, 1) := by decide +kernel
theorem dL_law_663 : decode cL_law 663 = .ok (.iload 4, 2) := by decide +kernel
theorem dL_law_665 : decode cL_law 665 = .ok (.iconst 3, 1) := by decide +kernel
theorem dL_law_666 : decode cL_law 666 = .ok (.iadd, 1) := by decide +kernel
theorem dL_law_667 : decode cL_law 667 = .ok (.iaload, 1) := by decide +kernel
theorem dL_law_668 : decode cL_law 668 = .ok (.ifCond .eq 7, 3) := by decide +kernel
theorem dL_law_671 : decode cL_law 671 = .ok (.iconst 1, 1) := by decide +kernel
theorem dL_law_672 : decode cL_law 672 = .ok (.goto 4, 3) := by decide +kernel
theorem dL_law_675 : decode cL_law 675 = .ok (.iconst 0, 1) := by decide +kernel
theorem dL_law_676 : decode cL_law 676 = .ok (.invokevirtual 182, 3) := by decide +kernel
theorem dL_law_679 : decode cL_law 679 = .ok (.istore 6, 2) := by decide +kernel
theorem dL_law_681 : decode cL_law 681 = .ok (.aload_n 2, 1) := by decide +kernel
theorem dL_law_682 : decode cL_law 682 = .ok (.invokevirtual 157, 3) := by decide +kernel
theorem dL_law_685 : decode cL_law 685 = .ok (.iload 5, 2) := by decide +kernel
theorem dL_law_687 : decode cL_law 687 = .ok (.if_icmp .eq 5, 3) := by decide +kernel
theorem dL_law_690 : decode cL_law 690 = .ok (.iconst 0, 1) := by decide +kernel
theorem dL_law_691 : decode cL_law 691 = .ok (.ireturn, 1) := by decide +kernel
theorem dL_law_692 : decode cL_law 692 = .ok (.iload 5, 2) := by decide +kernel
theorem dL_law_694 : decode cL_law 694 = .ok (.ifCond .ne 15, 3) := by decide +kernel
theorem dL_law_697 : decode cL_law 697 = .ok (.aload_n 3, 1) := by decide +kernel
theorem dL_law_698 : decode cL_law 698 = .ok (.iconst 0, 1) := by decide +kernel
theorem dL_law_699 : decode cL_law 699 = .ok (.laload, 1) := by decide +kernel
theorem dL_law_700 : decode cL_law 700 = .ok (.iload 6, 2) := by decide +kernel
theorem dL_law_702 : decode cL_law 702 = .ok (.i2l, 1) := by decide +kernel
theorem dL_law_703 : decode cL_law 703 = .ok (.lcmp, 1) := by decide +kernel
theorem dL_law_704 : decode cL_law 704 = .ok (.ifCond .eq 5, 3) := by decide +kernel
theorem dL_law_707 : decode cL_law 707 = .ok (.iconst 0, 1) := by decide +kernel
theorem dL_law_708 : decode cL_law 708 = .ok (.ireturn, 1) := by decide +kernel
theorem dL_law_709 : decode cL_law 709 = .ok (.goto 2608, 3) := by decide +kernel
theorem dL_law_712 : decode cL_law 712 = .ok (.aload_n 1, 1) := by decide +kernel
theorem dL_law_713 : decode cL_law 713 = .ok (.aload_n 0, 1) := by decide +kernel
theorem dL_law_714 : decode cL_law 714 = .ok (.iload 4, 2) := by decide +kernel
theorem dL_law_716 : decode cL_law 716 = .ok (.iconst 1, 1) := by decide +kernel
theorem dL_law_717 : decode cL_law 717 = .ok (.iadd, 1) := by decide +kernel
theorem dL_law_718 : decode cL_law 718 = .ok (.iaload, 1) := by decide +kernel
theorem dL_law_719 : decode cL_law 719 = .ok (.aload_n 3, 1) := by decide +kernel
theorem dL_law_720 : decode cL_law 720 = .ok (.invokestatic 183, 3) := by decide +kernel
theorem dL_law_723 : decode cL_law 723 = .ok (.istore 5, 2) := by decide +kernel
theorem dL_law_725 : decode cL_law 725 = .ok (.aload_n 2, 1) := by decide +kernel
theorem dL_law_726 : decode cL_law 726 = .ok (.aload_n 0, 1) := by decide +kernel
theorem dL_law_727 : decode cL_law 727 = .ok (.iload 4, 2) := by decide +kernel
theorem dL_law_729 : decode cL_law 729 = .ok (.iconst 1, 1) := by decide +kernel
theorem dL_law_730 : decode cL_law 730 = .ok (.iadd, 1) := by decide +kernel
theorem dL_law_731 : decode cL_law 731 = .ok (.iaload, 1) := by decide +kernel
theorem dL_law_732 : decode cL_law 732 = .ok (.invokevirtual 185, 3) := by decide +kernel
theorem dL_law_735 : decode cL_law 735 = .ok (.istore 6, 2) := by decide +kernel
theorem dL_law_737 : decode cL_law 737 = .ok (.aload_n 2, 1) := by decide +kernel
theorem dL_law_738 : decode cL_law 738 = .ok (.invokevirtual 157, 3) := by decide +kernel
theorem dL_law_741 : decode cL_law 741 = .ok (.iload 5, 2) := by decide +kernel
theorem dL_law_743 : decode cL_law 743 = .ok (.if_icmp .eq 5, 3) := by decide +kernel
theorem dL_law_746 : decode cL_law 746 = .ok (.iconst 0, 1) := by decide +kernel
theorem dL_law_747 : decode cL_law 747 = .ok (.ireturn, 1) := by decide +kernel
theorem dL_law_748 : decode cL_law 748 = .ok (.iload 5, 2) := by decide +kernel
theorem dL_law_750 : decode cL_law 750 = .ok (.ifCond .ne 15, 3) := by decide +kernel
theorem dL_law_753 : decode cL_law 753 = .ok (.aload_n 3, 1) := by decide +kernel
theorem dL_law_754 : decode cL_law 754 = .ok (.iconst 0, 1) := by decide +kernel
theorem dL_law_755 : decode cL_law 755 = .ok (.laload, 1) := by decide +kernel
theorem dL_law_756 : decode cL_law 756 = .ok (.iload 6, 2) := by decide +kernel
theorem dL_law_758 : decode cL_law 758 = .ok (.i2l, 1) := by decide +kernel
theorem dL_law_759 : decode cL_law 759 = .ok (.lcmp, 1) := by decide +kernel
theorem dL_law_760 : decode cL_law 760 = .ok (.ifCond .eq 5, 3) := by decide +kernel
theorem dL_law_763 : decode cL_law 763 = .ok (.iconst 0, 1) := by decide +kernel
theorem dL_law_764 : decode cL_law 764 = .ok (.ireturn, 1) := by decide +kernel
theorem dL_law_765 : decode cL_law 765 = .ok (.goto 2552, 3) := by decide +kernel
theorem dL_law_768 : decode cL_law 768 = .ok (.aload_n 1, 1) := by decide +kernel
theorem dL_law_769 : decode cL_law 769 = .ok (.aload_n 0, 1) := by decide +kernel
theorem dL_law_770 : decode cL_law 770 = .ok (.iload 4, 2) := by decide +kernel
theorem dL_law_772 : decode cL_law 772 = .ok (.iconst 1, 1) := by decide +kernel
theorem dL_law_773 : decode cL_law 773 = .ok (.iadd, 1) := by decide +kernel
theorem dL_law_774 : decode cL_law 774 = .ok (.iaload, 1) := by decide +kernel
theorem dL_law_775 : decode cL_law 775 = .ok (.aload_n 0, 1) := by decide +kernel
theorem dL_law_776 : decode cL_law 776 = .ok (.iload 4, 2) := by decide +kernel
theorem dL_law_778 : decode cL_law 778 = .ok (.iconst 2, 1) := by decide +kernel
theorem dL_law_779 : decode cL_law 779 = .ok (.iadd, 1) := by decide +kernel
theorem dL_law_780 : decode cL_law 780 = .ok (.iaload, 1) := by decide +kernel
theorem dL_law_781 : decode cL_law 781 = .ok (.aload_n 3, 1) := by decide +kernel
theorem dL_law_782 : decode cL_law 782 = .ok (.invokestatic 186, 3) := by decide +kernel
theorem dL_law_785 : decode cL_law 785 = .ok (.istore 5, 2) := by decide +kernel
theorem dL_law_787 : decode cL_law 787 = .ok (.aload_n 2, 1) := by decide +kernel
theorem dL_law_788 : decode cL_law 788 = .ok (.aload_n 0, 1) := by decide +kernel
theorem dL_law_789 : decode cL_law 789 = .ok (.iload 4, 2) := by decide +kernel
theorem dL_law_791 : decode cL_law 791 = .ok (.iconst 1, 1) := by decide +kernel
theorem dL_law_792 : decode cL_law 792 = .ok (.iadd, 1) := by decide +kernel
theorem dL_law_793 : decode cL_law 793 = .ok (.iaload, 1) := by decide +kernel
theorem dL_law_794 : decode cL_law 794 = .ok (.aload_n 0, 1) := by decide +kernel
theorem dL_law_795 : decode cL_law 795 = .ok (.iload 4, 2) := by decide +kernel
theorem dL_law_797 : decode cL_law 797 = .ok (.iconst 2, 1) := by decide +kernel
theorem dL_law_798 : decode cL_law 798 = .ok (.iadd, 1) := by decide +kernel
theorem dL_law_799 : decode cL_law 799 = .ok (.iaload, 1) := by decide +kernel
theorem dL_law_800 : decode cL_law 800 = .ok (.invokevirtual 189, 3) := by decide +kernel
theorem dL_law_803 : decode cL_law 803 = .ok (.istore 6, 2) := by decide +kernel
theorem dL_law_805 : decode cL_law 805 = .ok (.aload_n 2, 1) := by decide +kernel
theorem dL_law_806 : decode cL_law 806 = .ok (.invokevirtual 157, 3) := by decide +kernel
theorem dL_law_809 : decode cL_law 809 = .ok (.iload 5, 2) := by decide +kernel
theorem dL_law_811 : decode cL_law 811 = .ok (.if_icmp .eq 5, 3) := by decide +kernel
theorem dL_law_814 : decode cL_law 814 = .ok (.iconst 0, 1) := by decide +kernel
theorem dL_law_815 : decode cL_law 815 = .ok (.ireturn, 1) := by decide +kernel
theorem dL_law_816 : decode cL_law 816 = .ok (.iload 5, 2) := by decide +kernel
theorem dL_law_818 : decode cL_law 818 = .ok (.ifCond .ne 15, 3) := by decide +kernel
theorem dL_law_821 : decode cL_law 821 = .ok (.aload_n 3, 1) := by decide +kernel
theorem dL_law_822 : decode cL_law 822 = .ok (.iconst 0, 1) := by decide +kernel
theorem dL_law_823 : decode cL_law 823 = .ok (.laload, 1) := by decide +kernel
theorem dL_law_824 : decode cL_law 824 = .ok (.iload 6, 2) := by decide +kernel
theorem dL_law_826 : decode cL_law 826 = .ok (.i2l, 1) := by decide +kernel
theorem dL_law_827 : decode cL_law 827 = .ok (.lcmp, 1) := by decide +kernel
theorem dL_law_828 : decode cL_law 828 = .ok (.ifCond .eq 5, 3) := by decide +kernel
theorem dL_law_831 : decode cL_law 831 = .ok (.iconst 0, 1) := by decide +kernel
theorem dL_law_832 : decode cL_law 832 = .ok (.ireturn, 1) := by decide +kernel
theorem dL_law_833 : decode cL_law 833 = .ok (.goto 2484, 3) := by decide +kernel
theorem dL_law_836 : decode cL_law 836 = .ok (.aload_n 1, 1) := by decide +kernel
theorem dL_law_837 : decode cL_law 837 = .ok (.aload_n 0, 1) := by decide +kernel
theorem dL_law_838 : decode cL_law 838 = .ok (.iload 4, 2) := by decide +kernel
theorem dL_law_840 : decode cL_law 840 = .ok (.iconst 1, 1) := by decide +kernel
theorem dL_law_841 : decode cL_law 841 = .ok (.iadd, 1) := by decide +kernel
theorem dL_law_842 : decode cL_law 842 = .ok (.iaload, 1) := by decide +kernel
theorem dL_law_843 : decode cL_law 843 = .ok (.aload_n 0, 1) := by decide +kernel
theorem dL_law_844 : decode cL_law 844 = .ok (.iload 4, 2) := by decide +kernel
theorem dL_law_846 : decode cL_law 846 = .ok (.iconst 2, 1) := by decide +kernel
theorem dL_law_847 : decode cL_law 847 = .ok (.iadd, 1) := by decide +kernel
theorem dL_law_848 : decode cL_law 848 = .ok (.iaload, 1) := by decide +kernel
theorem dL_law_849 : decode cL_law 849 = .ok (.aload_n 3, 1) := by decide +kernel
theorem dL_law_850 : decode cL_law 850 = .ok (.invokestatic 190, 3) := by decide +kernel
theorem dL_law_853 : decode cL_law 853 = .ok (.istore 5, 2) := by decide +kernel
theorem dL_law_855 : decode cL_law 855 = .ok (.aload_n 2, 1) := by decide +kernel
theorem dL_law_856 : decode cL_law 856 = .ok (.aload_n 0, 1) := by decide +kernel
theorem dL_law_857 : decode cL_law 857 = .ok (.iload 4, 2) := by decide +kernel
theorem dL_law_859 : decode cL_law 859 = .ok (.iconst 1, 1) := by decide +kernel
theorem dL_law_860 : decode cL_law 860 = .ok (.iadd, 1) := by decide +kernel
theorem dL_law_861 : decode cL_law 861 = .ok (.iaload, 1) := by decide +kernel
theorem dL_law_862 : decode cL_law 862 = .ok (.aload_n 0, 1) := by decide +kernel
theorem dL_law_863 : decode cL_law 863 = .ok (.iload 4, 2) := by decide +kernel
theorem dL_law_865 : decode cL_law 865 = .ok (.iconst 2, 1) := by decide +kernel
theorem dL_law_866 : decode cL_law 866 = .ok (.iadd, 1) := by decide +kernel
theorem dL_law_867 : decode cL_law 867 = .ok (.iaload, 1) := by decide +kernel
theorem dL_law_868 : decode cL_law 868 = .ok (.invokevirtual 192, 3) := by decide +kernel
theorem dL_law_871 : decode cL_law 871 = .ok (.istore 6, 2) := by decide +kernel
theorem dL_law_873 : decode cL_law 873 = .ok (.aload_n 2, 1) := by decide +kernel
theorem dL_law_874 : decode cL_law 874 = .ok (.invokevirtual 157, 3) := by decide +kernel
theorem dL_law_877 : decode cL_law 877 = .ok (.iload 5, 2) := by decide +kernel
theorem dL_law_879 : decode cL_law 879 = .ok (.if_icmp .eq 5, 3) := by decide +kernel
theorem dL_law_882 : decode cL_law 882 = .ok (.iconst 0, 1) := by decide +kernel
theorem dL_law_883 : decode cL_law 883 = .ok (.ireturn, 1) := by decide +kernel
theorem dL_law_884 : decode cL_law 884 = .ok (.iload 5, 2) := by decide +kernel
theorem dL_law_886 : decode cL_law 886 = .ok (.ifCond .ne 15, 3) := by decide +kernel
theorem dL_law_889 : decode cL_law 889 = .ok (.aload_n 3, 1) := by decide +kernel
theorem dL_law_890 : decode cL_law 890 = .ok (.iconst 0, 1) := by decide +kernel
theorem dL_law_891 : decode cL_law 891 = .ok (.laload, 1) := by decide +kernel
theorem dL_law_892 : decode cL_law 892 = .ok (.iload 6, 2) := by decide +kernel
theorem dL_law_894 : decode cL_law 894 = .ok (.i2l, 1) := by decide +kernel
theorem dL_law_895 : decode cL_law 895 = .ok (.lcmp, 1) := by decide +kernel
theorem dL_law_896 : decode cL_law 896 = .ok (.ifCond .eq 5, 3) := by decide +kernel
theorem dL_law_899 : decode cL_law 899 = .ok (.iconst 0, 1) := by decide +kernel
theorem dL_law_900 : decode cL_law 900 = .ok (.ireturn, 1) := by decide +kernel
theorem dL_law_901 : decode cL_law 901 = .ok (.goto 2416, 3) := by decide +kernel
theorem dL_law_904 : decode cL_law 904 = .ok (.aload_n 1, 1) := by decide +kernel
theorem dL_law_905 : decode cL_law 905 = .ok (.aload_n 0, 1) := by decide +kernel
theorem dL_law_906 : decode cL_law 906 = .ok (.iload 4, 2) := by decide +kernel
theorem dL_law_908 : decode cL_law 908 = .ok (.iconst 1, 1) := by decide +kernel
theorem dL_law_909 : decode cL_law 909 = .ok (.iadd, 1) := by decide +kernel
theorem dL_law_910 : decode cL_law 910 = .ok (.iaload, 1) := by decide +kernel
theorem dL_law_911 : decode cL_law 911 = .ok (.aload_n 0, 1) := by decide +kernel
theorem dL_law_912 : decode cL_law 912 = .ok (.iload 4, 2) := by decide +kernel
theorem dL_law_914 : decode cL_law 914 = .ok (.iconst 2, 1) := by decide +kernel
theorem dL_law_915 : decode cL_law 915 = .ok (.iadd, 1) := by decide +kernel
theorem dL_law_916 : decode cL_law 916 = .ok (.iaload, 1) := by decide +kernel
theorem dL_law_917 : decode cL_law 917 = .ok (.aload_n 0, 1) := by decide +kernel
theorem dL_law_918 : decode cL_law 918 = .ok (.iload 4, 2) := by decide +kernel
theorem dL_law_920 : decode cL_law 920 = .ok (.iconst 3, 1) := by decide +kernel
theorem dL_law_921 : decode cL_law 921 = .ok (.iadd, 1) := by decide +kernel
theorem dL_law_922 : decode cL_law 922 = .ok (.iaload, 1) := by decide +kernel
theorem dL_law_923 : decode cL_law 923 = .ok (.aload_n 3, 1) := by decide +kernel
theorem dL_law_924 : decode cL_law 924 = .ok (.invokestatic 193, 3) := by decide +kernel
theorem dL_law_927 : decode cL_law 927 = .ok (.istore 5, 2) := by decide +kernel
theorem dL_law_929 : decode cL_law 929 = .ok (.aload_n 2, 1) := by decide +kernel
theorem dL_law_930 : decode cL_law 930 = .ok (.aload_n 0, 1) := by decide +kernel
theorem dL_law_931 : decode cL_law 931 = .ok (.iload 4, 2) := by decide +kernel
theorem dL_law_933 : decode cL_law 933 = .ok (.iconst 1, 1) := by decide +kernel
theorem dL_law_934 : decode cL_law 934 = .ok (.iadd, 1) := by decide +kernel
theorem dL_law_935 : decode cL_law 935 = .ok (.iaload, 1) := by decide +kernel
theorem dL_law_936 : decode cL_law 936 = .ok (.aload_n 0, 1) := by decide +kernel
theorem dL_law_937 : decode cL_law 937 = .ok (.iload 4, 2) := by decide +kernel
theorem dL_law_939 : decode cL_law 939 = .ok (.iconst 2, 1) := by decide +kernel
theorem dL_law_940 : decode cL_law 940 = .ok (.iadd, 1) := by decide +kernel
theorem dL_law_941 : decode cL_law 941 = .ok (.iaload, 1) := by decide +kernel
theorem dL_law_942 : decode cL_law 942 = .ok (.aload_n 0, 1) := by decide +kernel
theorem dL_law_943 : decode cL_law 943 = .ok (.iload 4, 2) := by decide +kernel
theorem dL_law_945 : decode cL_law 945 = .ok (.iconst 3, 1) := by decide +kernel
theorem dL_law_946 : decode cL_law 946 = .ok (.iadd, 1) := by decide +kernel
theorem dL_law_947 : decode cL_law 947 = .ok (.iaload, 1) := by decide +kernel
theorem dL_law_948 : decode cL_law 948 = .ok (.invokevirtual 195, 3) := by decide +kernel
theorem dL_law_951 : decode cL_law 951 = .ok (.istore 6, 2) := by decide +kernel
theorem dL_law_953 : decode cL_law 953 = .ok (.aload_n 2, 1) := by decide +kernel
theorem dL_law_954 : decode cL_law 954 = .ok (.invokevirtual 157, 3) := by decide +kernel
theorem dL_law_957 : decode cL_law 957 = .ok (.iload 5, 2) := by decide +kernel
theorem dL_law_959 : decode cL_law 959 = .ok (.if_icmp .eq 5, 3) := by decide +kernel
theorem dL_law_962 : decode cL_law 962 = .ok (.iconst 0, 1) := by decide +kernel
theorem dL_law_963 : decode cL_law 963 = .ok (.ireturn, 1) := by decide +kernel
theorem dL_law_964 : decode cL_law 964 = .ok (.iload 5, 2) := by decide +kernel
theorem dL_law_966 : decode cL_law 966 = .ok (.ifCond .ne 15, 3) := by decide +kernel
theorem dL_law_969 : decode cL_law 969 = .ok (.aload_n 3, 1) := by decide +kernel
theorem dL_law_970 : decode cL_law 970 = .ok (.iconst 0, 1) := by decide +kernel
theorem dL_law_971 : decode cL_law 971 = .ok (.laload, 1) := by decide +kernel
theorem dL_law_972 : decode cL_law 972 = .ok (.iload 6, 2) := by decide +kernel
theorem dL_law_974 : decode cL_law 974 = .ok (.i2l, 1) := by decide +kernel
theorem dL_law_975 : decode cL_law 975 = .ok (.lcmp, 1) := by decide +kernel
theorem dL_law_976 : decode cL_law 976 = .ok (.ifCond .eq 5, 3) := by decide +kernel
theorem dL_law_979 : decode cL_law 979 = .ok (.iconst 0, 1) := by decide +kernel
theorem dL_law_980 : decode cL_law 980 = .ok (.ireturn, 1) := by decide +kernel
theorem dL_law_981 : decode cL_law 981 = .ok (.goto 2336, 3) := by decide +kernel
theorem dL_law_984 : decode cL_law 984 = .ok (.aload_n 1, 1) := by decide +kernel
theorem dL_law_985 : decode cL_law 985 = .ok (.aload_n 0, 1) := by decide +kernel
theorem dL_law_986 : decode cL_law 986 = .ok (.iload 4, 2) := by decide +kernel
theorem dL_law_988 : decode cL_law 988 = .ok (.iconst 1, 1) := by decide +kernel
theorem dL_law_989 : decode cL_law 989 = .ok (.iadd, 1) := by decide +kernel
theorem dL_law_990 : decode cL_law 990 = .ok (.iaload, 1) := by decide +kernel
theorem dL_law_991 : decode cL_law 991 = .ok (.aload_n 3, 1) := by decide +kernel
theorem dL_law_992 : decode cL_law 992 = .ok (.invokestatic 196, 3) := by decide +kernel
theorem dL_law_995 : decode cL_law 995 = .ok (.istore 5, 2) := by decide +kernel
theorem dL_law_997 : decode cL_law 997 = .ok (.aload_n 2, 1) := by decide +kernel
theorem dL_law_998 : decode cL_law 998 = .ok (.aload_n 0, 1) := by decide +kernel
theorem dL_law_999 : decode cL_law 999 = .ok (.iload 4, 2) := by decide +kernel
theorem dL_law_1001 : decode cL_law 1001 = .ok (.iconst 1, 1) := by decide +kernel
theorem dL_law_1002 : decode cL_law 1002 = .ok (.iadd, 1) := by decide +kernel
theorem dL_law_1003 : decode cL_law 1003 = .ok (.iaload, 1) := by decide +kernel
theorem dL_law_1004 : decode cL_law 1004 = .ok (.invokevirtual 198, 3) := by decide +kernel
theorem dL_law_1007 : decode cL_law 1007 = .ok (.istore 6, 2) := by decide +kernel
theorem dL_law_1009 : decode cL_law 1009 = .ok (.aload_n 2, 1) := by decide +kernel
theorem dL_law_1010 : decode cL_law 1010 = .ok (.invokevirtual 157, 3) := by decide +kernel
theorem dL_law_1013 : decode cL_law 1013 = .ok (.iload 5, 2) := by decide +kernel
theorem dL_law_1015 : decode cL_law 1015 = .ok (.if_icmp .eq 5, 3) := by decide +kernel
theorem dL_law_1018 : decode cL_law 1018 = .ok (.iconst 0, 1) := by decide +kernel
theorem dL_law_1019 : decode cL_law 1019 = .ok (.ireturn, 1) := by decide +kernel
theorem dL_law_1020 : decode cL_law 1020 = .ok (.iload 5, 2) := by decide +kernel
theorem dL_law_1022 : decode cL_law 1022 = .ok (.ifCond .ne 15, 3) := by decide +kernel
theorem dL_law_1025 : decode cL_law 1025 = .ok (.aload_n 3, 1) := by decide +kernel
theorem dL_law_1026 : decode cL_law 1026 = .ok (.iconst 0, 1) := by decide +kernel
theorem dL_law_1027 : decode cL_law 1027 = .ok (.laload, 1) := by decide +kernel
theorem dL_law_1028 : decode cL_law 1028 = .ok (.iload 6, 2) := by decide +kernel
theorem dL_law_1030 : decode cL_law 1030 = .ok (.i2l, 1) := by decide +kernel
theorem dL_law_1031 : decode cL_law 1031 = .ok (.lcmp, 1) := by decide +kernel
theorem dL_law_1032 : decode cL_law 1032 = .ok (.ifCond .eq 5, 3) := by decide +kernel
theorem dL_law_1035 : decode cL_law 1035 = .ok (.iconst 0, 1) := by decide +kernel
theorem dL_law_1036 : decode cL_law 1036 = .ok (.ireturn, 1) := by decide +kernel
theorem dL_law_1037 : decode cL_law 1037 = .ok (.goto 2280, 3) := by decide +kernel
theorem dL_law_1040 : decode cL_law 1040 = .ok (.aload_n 1, 1) := by decide +kernel
theorem dL_law_1041 : decode cL_law 1041 = .ok (.invokevirtual 199, 3) := by decide +kernel
theorem dL_law_1044 : decode cL_law 1044 = .ok (.aload_n 2, 1) := by decide +kernel
theorem dL_law_1045 : decode cL_law 1045 = .ok (.invokevirtual 202, 3) := by decide +kernel
theorem dL_law_1048 : decode cL_law 1048 = .ok (.if_icmp .eq 2269, 3) := by decide +kernel
theorem dL_law_1051 : decode cL_law 1051 = .ok (.iconst 0, 1) := by decide +kernel
theorem dL_law_1052 : decode cL_law 1052 = .ok (.ireturn, 1) := by decide +kernel
theorem dL_law_1053 : decode cL_law 1053 = .ok (.aload_n 1, 1) := by decide +kernel
theorem dL_law_1054 : decode cL_law 1054 = .ok (.invokevirtual 203, 3) := by decide +kernel
theorem dL_law_1057 : decode cL_law 1057 = .ok (.aload_n 2, 1) := by decide +kernel
theorem dL_law_1058 : decode cL_law 1058 = .ok (.invokevirtual 206, 3) := by decide +kernel
theorem dL_law_1061 : decode cL_law 1061 = .ok (.if_icmp .eq 2256, 3) := by decide +kernel
theorem dL_law_1064 : decode cL_law 1064 = .ok (.iconst 0, 1) := by decide +kernel
theorem dL_law_1065 : decode cL_law 1065 = .ok (.ireturn, 1) := by decide +kernel
theorem dL_law_1066 : decode cL_law 1066 = .ok (.aload_n 1, 1) := by decide +kernel
theorem dL_law_1067 : decode cL_law 1067 = .ok (.invokevirtual 207, 3) := by decide +kernel
theorem dL_law_1070 : decode cL_law 1070 = .ok (.aload_n 2, 1) := by decide +kernel
theorem dL_law_1071 : decode cL_law 1071 = .ok (.invokevirtual 210, 3) := by decide +kernel
theorem dL_law_1074 : decode cL_law 1074 = .ok (.if_icmp .eq 2243, 3) := by decide +kernel
theorem dL_law_1077 : decode cL_law 1077 = .ok (.iconst 0, 1) := by decide +kernel
theorem dL_law_1078 : decode cL_law 1078 = .ok (.ireturn, 1) := by decide +kernel
theorem dL_law_1079 : decode cL_law 1079 = .ok (.aload_n 1, 1) := by decide +kernel
theorem dL_law_1080 : decode cL_law 1080 = .ok (.aload_n 3, 1) := by decide +kernel
theorem dL_law_1081 : decode cL_law 1081 = .ok (.invokestatic 211, 3) := by decide +kernel
theorem dL_law_1084 : decode cL_law 1084 = .ok (.istore 5, 2) := by decide +kernel
theorem dL_law_1086 : decode cL_law 1086 = .ok (.aload_n 2, 1) := by decide +kernel
theorem dL_law_1087 : decode cL_law 1087 = .ok (.invokevirtual 214, 3) := by decide +kernel
theorem dL_law_1090 : decode cL_law 1090 = .ok (.istore 6, 2) := by decide +kernel
theorem dL_law_1092 : decode cL_law 1092 = .ok (.aload_n 2, 1) := by decide +kernel
theorem dL_law_1093 : decode cL_law 1093 = .ok (.invokevirtual 157, 3) := by decide +kernel
theorem dL_law_1096 : decode cL_law 1096 = .ok (.iload 5, 2) := by decide +kernel
theorem dL_law_1098 : decode cL_law 1098 = .ok (.if_icmp .eq 5, 3) := by decide +kernel
theorem dL_law_1101 : decode cL_law 1101 = .ok (.iconst 0, 1) := by decide +kernel
theorem dL_law_1102 : decode cL_law 1102 = .ok (.ireturn, 1) := by decide +kernel
theorem dL_law_1103 : decode cL_law 1103 = .ok (.iload 5, 2) := by decide +kernel
theorem dL_law_1105 : decode cL_law 1105 = .ok (.ifCond .ne 15, 3) := by decide +kernel
theorem dL_law_1108 : decode cL_law 1108 = .ok (.aload_n 3, 1) := by decide +kernel
theorem dL_law_1109 : decode cL_law 1109 = .ok (.iconst 0, 1) := by decide +kernel
theorem dL_law_1110 : decode cL_law 1110 = .ok (.laload, 1) := by decide +kernel
theorem dL_law_1111 : decode cL_law 1111 = .ok (.iload 6, 2) := by decide +kernel
theorem dL_law_1113 : decode cL_law 1113 = .ok (.i2l, 1) := by decide +kernel
theorem dL_law_1114 : decode cL_law 1114 = .ok (.lcmp, 1) := by decide +kernel
theorem dL_law_1115 : decode cL_law 1115 = .ok (.ifCond .eq 5, 3) := by decide +kernel
theorem dL_law_1118 : decode cL_law 1118 = .ok (.iconst 0, 1) := by decide +kernel
theorem dL_law_1119 : decode cL_law 1119 = .ok (.ireturn, 1) := by decide +kernel
theorem dL_law_1120 : decode cL_law 1120 = .ok (.goto 2197, 3) := by decide +kernel
theorem dL_law_1123 : decode cL_law 1123 = .ok (.aload_n 1, 1) := by decide +kernel
theorem dL_law_1124 : decode cL_law 1124 = .ok (.invokevirtual 215, 3) := by decide +kernel
theorem dL_law_1127 : decode cL_law 1127 = .ok (.aload_n 2, 1) := by decide +kernel
theorem dL_law_1128 : decode cL_law 1128 = .ok (.invokevirtual 218, 3) := by decide +kernel
theorem dL_law_1131 : decode cL_law 1131 = .ok (.if_icmp .eq 2186, 3) := by decide +kernel
theorem dL_law_1134 : decode cL_law 1134 = .ok (.iconst 0, 1) := by decide +kernel
theorem dL_law_1135 : decode cL_law 1135 = .ok (.ireturn, 1) := by decide +kernel
theorem dL_law_1136 : decode cL_law 1136 = .ok (.aload_n 1, 1) := by decide +kernel
theorem dL_law_1137 : decode cL_law 1137 = .ok (.invokevirtual 219, 3) := by decide +kernel
theorem dL_law_1140 : decode cL_law 1140 = .ok (.aload_n 2, 1) := by decide +kernel
theorem dL_law_1141 : decode cL_law 1141 = .ok (.invokevirtual 222, 3) := by decide +kernel
theorem dL_law_1144 : decode cL_law 1144 = .ok (.if_icmp .eq 2173, 3) := by decide +kernel
theorem dL_law_1147 : decode cL_law 1147 = .ok (.iconst 0, 1) := by decide +kernel
theorem dL_law_1148 : decode cL_law 1148 = .ok (.ireturn, 1) := by decide +kernel
theorem dL_law_1149 : decode cL_law 1149 = .ok (.aload_n 1, 1) := by decide +kernel
theorem dL_law_1150 : decode cL_law 1150 = .ok (.invokevirtual 223, 3) := by decide +kernel
theorem dL_law_1153 : decode cL_law 1153 = .ok (.aload_n 2, 1) := by decide +kernel
theorem dL_law_1154 : decode cL_law 1154 = .ok (.invokevirtual 226, 3) := by decide +kernel
theorem dL_law_1157 : decode cL_law 1157 = .ok (.if_icmp .eq 2160, 3) := by decide +kernel
theorem dL_law_1160 : decode cL_law 1160 = .ok (.iconst 0, 1) := by decide +kernel
theorem dL_law_1161 : decode cL_law 1161 = .ok (.ireturn, 1) := by decide +kernel
theorem dL_law_1162 : decode cL_law 1162 = .ok (.aload_n 1, 1) := by decide +kernel
theorem dL_law_1163 : decode cL_law 1163 = .ok (.invokevirtual 227, 3) := by decide +kernel
theorem dL_law_1166 : decode cL_law 1166 = .ok (.aload_n 2, 1) := by decide +kernel
theorem dL_law_1167 : decode cL_law 1167 = .ok (.invokevirtual 230, 3) := by decide +kernel
theorem dL_law_1170 : decode cL_law 1170 = .ok (.if_icmp .eq 2147, 3) := by decide +kernel
theorem dL_law_1173 : decode cL_law 1173 = .ok (.iconst 0, 1) := by decide +kernel
theorem dL_law_1174 : decode cL_law 1174 = .ok (.ireturn, 1) := by decide +kernel
theorem dL_law_1175 : decode cL_law 1175 = .ok (.aload_n 1, 1) := by decide +kernel
theorem dL_law_1176 : decode cL_law 1176 = .ok (.aload_n 0, 1) := by decide +kernel
theorem dL_law_1177 : decode cL_law 1177 = .ok (.iload 4, 2) := by decide +kernel
theorem dL_law_1179 : decode cL_law 1179 = .ok (.iconst 1, 1) := by decide +kernel
theorem dL_law_1180 : decode cL_law 1180 = .ok (.iadd, 1) := by decide +kernel
theorem dL_law_1181 : decode cL_law 1181 = .ok (.iaload, 1) := by decide +kernel
theorem dL_law_1182 : decode cL_law 1182 = .ok (.aload_n 3, 1) := by decide +kernel
theorem dL_law_1183 : decode cL_law 1183 = .ok (.invokestatic 231, 3) := by decide +kernel
theorem dL_law_1186 : decode cL_law 1186 = .ok (.istore 5, 2) := by decide +kernel
theorem dL_law_1188 : decode cL_law 1188 = .ok (.aload_n 2, 1) := by decide +kernel
theorem dL_law_1189 : decode cL_law 1189 = .ok (.aload_n 0, 1) := by decide +kernel
theorem dL_law_1190 : decode cL_law 1190 = .ok (.iload 4, 2) := by decide +kernel
theorem dL_law_1192 : decode cL_law 1192 = .ok (.iconst 1, 1) := by decide +kernel
theorem dL_law_1193 : decode cL_law 1193 = .ok (.iadd, 1) := by decide +kernel
theorem dL_law_1194 : decode cL_law 1194 = .ok (.iaload, 1) := by decide +kernel
theorem dL_law_1195 : decode cL_law 1195 = .ok (.invokevirtual 233, 3) := by decide +kernel
theorem dL_law_1198 : decode cL_law 1198 = .ok (.istore 6, 2) := by decide +kernel
theorem dL_law_1200 : decode cL_law 1200 = .ok (.aload_n 2, 1) := by decide +kernel
theorem dL_law_1201 : decode cL_law 1201 = .ok (.invokevirtual 157, 3) := by decide +kernel
theorem dL_law_1204 : decode cL_law 1204 = .ok (.iload 5, 2) := by decide +kernel
theorem dL_law_1206 : decode cL_law 1206 = .ok (.if_icmp .eq 5, 3) := by decide +kernel
theorem dL_law_1209 : decode cL_law 1209 = .ok (.iconst 0, 1) := by decide +kernel
theorem dL_law_1210 : decode cL_law 1210 = .ok (.ireturn, 1) := by decide +kernel
theorem dL_law_1211 : decode cL_law 1211 = .ok (.iload 5, 2) := by decide +kernel
theorem dL_law_1213 : decode cL_law 1213 = .ok (.ifCond .ne 22, 3) := by decide +kernel
theorem dL_law_1216 : decode cL_law 1216 = .ok (.aload_n 3, 1) := by decide +kernel
theorem dL_law_1217 : decode cL_law 1217 = .ok (.iconst 0, 1) := by decide +kernel
theorem dL_law_1218 : decode cL_law 1218 = .ok (.laload, 1) := by decide +kernel
theorem dL_law_1219 : decode cL_law 1219 = .ok (.iload 6, 2) := by decide +kernel
theorem dL_law_1221 : decode cL_law 1221 = .ok (.ifCond .eq 7, 3) := by decide +kernel
theorem dL_law_1224 : decode cL_law 1224 = .ok (.lconst 1, 1) := by decide +kernel
theorem dL_law_1225 : decode cL_law 1225 = .ok (.goto 4, 3) := by decide +kernel
theorem dL_law_1228 : decode cL_law 1228 = .ok (.lconst 0, 1) := by decide +kernel
theorem dL_law_1229 : decode cL_law 1229 = .ok (.lcmp, 1) := by decide +kernel
theorem dL_law_1230 : decode cL_law 1230 = .ok (.ifCond .eq 5, 3) := by decide +kernel
theorem dL_law_1233 : decode cL_law 1233 = .ok (.iconst 0, 1) := by decide +kernel
theorem dL_law_1234 : decode cL_law 1234 = .ok (.ireturn, 1) := by decide +kernel
theorem dL_law_1235 : decode cL_law 1235 = .ok (.goto 2082, 3) := by decide +kernel
theorem dL_law_1238 : decode cL_law 1238 = .ok (.aload_n 1, 1) := by decide +kernel
theorem dL_law_1239 : decode cL_law 1239 = .ok (.aload_n 0, 1) := by decide +kernel
theorem dL_law_1240 : decode cL_law 1240 = .ok (.iload 4, 2) := by decide +kernel
theorem dL_law_1242 : decode cL_law 1242 = .ok (.iconst 1, 1) := by decide +kernel
theorem dL_law_1243 : decode cL_law 1243 = .ok (.iadd, 1) := by decide +kernel
theorem dL_law_1244 : decode cL_law 1244 = .ok (.iaload, 1) := by decide +kernel
theorem dL_law_1245 : decode cL_law 1245 = .ok (.aload_n 3, 1) := by decide +kernel
theorem dL_law_1246 : decode cL_law 1246 = .ok (.invokestatic 234, 3) := by decide +kernel
theorem dL_law_1249 : decode cL_law 1249 = .ok (.istore 5, 2) := by decide +kernel
theorem dL_law_1251 : decode cL_law 1251 = .ok (.aload_n 2, 1) := by decide +kernel
theorem dL_law_1252 : decode cL_law 1252 = .ok (.aload_n 0, 1) := by decide +kernel
theorem dL_law_1253 : decode cL_law 1253 = .ok (.iload 4, 2) := by decide +kernel
theorem dL_law_1255 : decode cL_law 1255 = .ok (.iconst 1, 1) := by decide +kernel
theorem dL_law_1256 : decode cL_law 1256 = .ok (.iadd, 1) := by decide +kernel
theorem dL_law_1257 : decode cL_law 1257 = .ok (.iaload, 1) := by decide +kernel
theorem dL_law_1258 : decode cL_law 1258 = .ok (.invokevirtual 236, 3) := by decide +kernel
theorem dL_law_1261 : decode cL_law 1261 = .ok (.istore 6, 2) := by decide +kernel
theorem dL_law_1263 : decode cL_law 1263 = .ok (.aload_n 2, 1) := by decide +kernel
theorem dL_law_1264 : decode cL_law 1264 = .ok (.invokevirtual 157, 3) := by decide +kernel
theorem dL_law_1267 : decode cL_law 1267 = .ok (.iload 5, 2) := by decide +kernel
theorem dL_law_1269 : decode cL_law 1269 = .ok (.if_icmp .eq 5, 3) := by decide +kernel
theorem dL_law_1272 : decode cL_law 1272 = .ok (.iconst 0, 1) := by decide +kernel
theorem dL_law_1273 : decode cL_law 1273 = .ok (.ireturn, 1) := by decide +kernel
theorem dL_law_1274 : decode cL_law 1274 = .ok (.iload 5, 2) := by decide +kernel
theorem dL_law_1276 : decode cL_law 1276 = .ok (.ifCond .ne 15, 3) := by decide +kernel
theorem dL_law_1279 : decode cL_law 1279 = .ok (.aload_n 3, 1) := by decide +kernel
theorem dL_law_1280 : decode cL_law 1280 = .ok (.iconst 0, 1) := by decide +kernel
theorem dL_law_1281 : decode cL_law 1281 = .ok (.laload, 1) := by decide +kernel
theorem dL_law_1282 : decode cL_law 1282 = .ok (.iload 6, 2) := by decide +kernel
theorem dL_law_1284 : decode cL_law 1284 = .ok (.i2l, 1) := by decide +kernel
theorem dL_law_1285 : decode cL_law 1285 = .ok (.lcmp, 1) := by decide +kernel
theorem dL_law_1286 : decode cL_law 1286 = .ok (.ifCond .eq 5, 3) := by decide +kernel
theorem dL_law_1289 : decode cL_law 1289 = .ok (.iconst 0, 1) := by decide +kernel
theorem dL_law_1290 : decode cL_law 1290 = .ok (.ireturn, 1) := by decide +kernel
theorem dL_law_1291 : decode cL_law 1291 = .ok (.goto 2026, 3) := by decide +kernel
theorem dL_law_1294 : decode cL_law 1294 = .ok (.aload_n 1, 1) := by decide +kernel
theorem dL_law_1295 : decode cL_law 1295 = .ok (.aload_n 0, 1) := by decide +kernel
theorem dL_law_1296 : decode cL_law 1296 = .ok (.iload 4, 2) := by decide +kernel
theorem dL_law_1298 : decode cL_law 1298 = .ok (.iconst 1, 1) := by decide +kernel
theorem dL_law_1299 : decode cL_law 1299 = .ok (.iadd, 1) := by decide +kernel
theorem dL_law_1300 : decode cL_law 1300 = .ok (.iaload, 1) := by decide +kernel
theorem dL_law_1301 : decode cL_law 1301 = .ok (.aload_n 3, 1) := by decide +kernel
theorem dL_law_1302 : decode cL_law 1302 = .ok (.invokestatic 237, 3) := by decide +kernel
theorem dL_law_1305 : decode cL_law 1305 = .ok (.istore 5, 2) := by decide +kernel
theorem dL_law_1307 : decode cL_law 1307 = .ok (.aload_n 2, 1) := by decide +kernel
theorem dL_law_1308 : decode cL_law 1308 = .ok (.aload_n 0, 1) := by decide +kernel
theorem dL_law_1309 : decode cL_law 1309 = .ok (.iload 4, 2) := by decide +kernel
theorem dL_law_1311 : decode cL_law 1311 = .ok (.iconst 1, 1) := by decide +kernel
theorem dL_law_1312 : decode cL_law 1312 = .ok (.iadd, 1) := by decide +kernel
theorem dL_law_1313 : decode cL_law 1313 = .ok (.iaload, 1) := by decide +kernel
theorem dL_law_1314 : decode cL_law 1314 = .ok (.invokevirtual 239, 3) := by decide +kernel
theorem dL_law_1317 : decode cL_law 1317 = .ok (.istore 6, 2) := by decide +kernel
theorem dL_law_1319 : decode cL_law 1319 = .ok (.aload_n 2, 1) := by decide +kernel
theorem dL_law_1320 : decode cL_law 1320 = .ok (.invokevirtual 157, 3) := by decide +kernel
theorem dL_law_1323 : decode cL_law 1323 = .ok (.iload 5, 2) := by decide +kernel
theorem dL_law_1325 : decode cL_law 1325 = .ok (.if_icmp .eq 5, 3) := by decide +kernel
theorem dL_law_1328 : decode cL_law 1328 = .ok (.iconst 0, 1) := by decide +kernel
theorem dL_law_1329 : decode cL_law 1329 = .ok (.ireturn, 1) := by decide +kernel
theorem dL_law_1330 : decode cL_law 1330 = .ok (.iload 5, 2) := by decide +kernel
theorem dL_law_1332 : decode cL_law 1332 = .ok (.ifCond .ne 15, 3) := by decide +kernel
theorem dL_law_1335 : decode cL_law 1335 = .ok (.aload_n 3, 1) := by decide +kernel
theorem dL_law_1336 : decode cL_law 1336 = .ok (.iconst 0, 1) := by decide +kernel
theorem dL_law_1337 : decode cL_law 1337 = .ok (.laload, 1) := by decide +kernel
theorem dL_law_1338 : decode cL_law 1338 = .ok (.iload 6, 2) := by decide +kernel
theorem dL_law_1340 : decode cL_law 1340 = .ok (.i2l, 1) := by decide +kernel
theorem dL_law_1341 : decode cL_law 1341 = .ok (.lcmp, 1) := by decide +kernel
theorem dL_law_1342 : decode cL_law 1342 = .ok (.ifCond .eq 5, 3) := by decide +kernel
theorem dL_law_1345 : decode cL_law 1345 = .ok (.iconst 0, 1) := by decide +kernel
theorem dL_law_1346 : decode cL_law 1346 = .ok (.ireturn, 1) := by decide +kernel
theorem dL_law_1347 : decode cL_law 1347 = .ok (.goto 1970, 3) := by decide +kernel
theorem dL_law_1350 : decode cL_law 1350 = .ok (.aload_n 1, 1) := by decide +kernel
theorem dL_law_1351 : decode cL_law 1351 = .ok (.aload_n 0, 1) := by decide +kernel
theorem dL_law_1352 : decode cL_law 1352 = .ok (.iload 4, 2) := by decide +kernel
theorem dL_law_1354 : decode cL_law 1354 = .ok (.iconst 1, 1) := by decide +kernel
theorem dL_law_1355 : decode cL_law 1355 = .ok (.iadd, 1) := by decide +kernel
theorem dL_law_1356 : decode cL_law 1356 = .ok (.iaload, 1) := by decide +kernel
theorem dL_law_1357 : decode cL_law 1357 = .ok (.aload_n 3, 1) := by decide +kernel
theorem dL_law_1358 : decode cL_law 1358 = .ok (.invokestatic 240, 3) := by decide +kernel
theorem dL_law_1361 : decode cL_law 1361 = .ok (.istore 5, 2) := by decide +kernel
theorem dL_law_1363 : decode cL_law 1363 = .ok (.aload_n 2, 1) := by decide +kernel
theorem dL_law_1364 : decode cL_law 1364 = .ok (.aload_n 0, 1) := by decide +kernel
theorem dL_law_1365 : decode cL_law 1365 = .ok (.iload 4, 2) := by decide +kernel
theorem dL_law_1367 : decode cL_law 1367 = .ok (.iconst 1, 1) := by decide +kernel
theorem dL_law_1368 : decode cL_law 1368 = .ok (.iadd, 1) := by decide +kernel
theorem dL_law_1369 : decode cL_law 1369 = .ok (.iaload, 1) := by decide +kernel
theorem dL_law_1370 : decode cL_law 1370 = .ok (.invokevirtual 242, 3) := by decide +kernel
theorem dL_law_1373 : decode cL_law 1373 = .ok (.istore 6, 2) := by decide +kernel
theorem dL_law_1375 : decode cL_law 1375 = .ok (.aload_n 2, 1) := by decide +kernel
theorem dL_law_1376 : decode cL_law 1376 = .ok (.invokevirtual 157, 3) := by decide +kernel
theorem dL_law_1379 : decode cL_law 1379 = .ok (.iload 5, 2) := by decide +kernel
theorem dL_law_1381 : decode cL_law 1381 = .ok (.if_icmp .eq 5, 3) := by decide +kernel
theorem dL_law_1384 : decode cL_law 1384 = .ok (.iconst 0, 1) := by decide +kernel
theorem dL_law_1385 : decode cL_law 1385 = .ok (.ireturn, 1) := by decide +kernel
theorem dL_law_1386 : decode cL_law 1386 = .ok (.iload 5, 2) := by decide +kernel
theorem dL_law_1388 : decode cL_law 1388 = .ok (.ifCond .ne 15, 3) := by decide +kernel
theorem dL_law_1391 : decode cL_law 1391 = .ok (.aload_n 3, 1) := by decide +kernel
theorem dL_law_1392 : decode cL_law 1392 = .ok (.iconst 0, 1) := by decide +kernel
theorem dL_law_1393 : decode cL_law 1393 = .ok (.laload, 1) := by decide +kernel
theorem dL_law_1394 : decode cL_law 1394 = .ok (.iload 6, 2) := by decide +kernel
theorem dL_law_1396 : decode cL_law 1396 = .ok (.i2l, 1) := by decide +kernel
theorem dL_law_1397 : decode cL_law 1397 = .ok (.lcmp, 1) := by decide +kernel
theorem dL_law_1398 : decode cL_law 1398 = .ok (.ifCond .eq 5, 3) := by decide +kernel
theorem dL_law_1401 : decode cL_law 1401 = .ok (.iconst 0, 1) := by decide +kernel
theorem dL_law_1402 : decode cL_law 1402 = .ok (.ireturn, 1) := by decide +kernel
theorem dL_law_1403 : decode cL_law 1403 = .ok (.goto 1914, 3) := by decide +kernel
theorem dL_law_1406 : decode cL_law 1406 = .ok (.aload_n 1, 1) := by decide +kernel
theorem dL_law_1407 : decode cL_law 1407 = .ok (.aload_n 0, 1) := by decide +kernel
theorem dL_law_1408 : decode cL_law 1408 = .ok (.iload 4, 2) := by decide +kernel
theorem dL_law_1410 : decode cL_law 1410 = .ok (.iconst 1, 1) := by decide +kernel
theorem dL_law_1411 : decode cL_law 1411 = .ok (.iadd, 1) := by decide +kernel
theorem dL_law_1412 : decode cL_law 1412 = .ok (.iaload, 1) := by decide +kernel
theorem dL_law_1413 : decode cL_law 1413 = .ok (.aload_n 3, 1) := by decide +kernel
theorem dL_law_1414 : decode cL_law 1414 = .ok (.invokestatic 243, 3) := by decide +kernel
theorem dL_law_1417 : decode cL_law 1417 = .ok (.istore 5, 2) := by decide +kernel
theorem dL_law_1419 : decode cL_law 1419 = .ok (.aload_n 2, 1) := by decide +kernel
theorem dL_law_1420 : decode cL_law 1420 = .ok (.aload_n 0, 1) := by decide +kernel
theorem dL_law_1421 : decode cL_law 1421 = .ok (.iload 4, 2) := by decide +kernel
theorem dL_law_1423 : decode cL_law 1423 = .ok (.iconst 1, 1) := by decide +kernel
theorem dL_law_1424 : decode cL_law 1424 = .ok (.iadd, 1) := by decide +kernel
theorem dL_law_1425 : decode cL_law 1425 = .ok (.iaload, 1) := by decide +kernel
theorem dL_law_1426 : decode cL_law 1426 = .ok (.invokevirtual 245, 3) := by decide +kernel
theorem dL_law_1429 : decode cL_law 1429 = .ok (.istore 6, 2) := by decide +kernel
theorem dL_law_1431 : decode cL_law 1431 = .ok (.aload_n 2, 1) := by decide +kernel
theorem dL_law_1432 : decode cL_law 1432 = .ok (.invokevirtual 157, 3) := by decide +kernel
theorem dL_law_1435 : decode cL_law 1435 = .ok (.iload 5, 2) := by decide +kernel
theorem dL_law_1437 : decode cL_law 1437 = .ok (.if_icmp .eq 5, 3) := by decide +kernel
theorem dL_law_1440 : decode cL_law 1440 = .ok (.iconst 0, 1) := by decide +kernel
theorem dL_law_1441 : decode cL_law 1441 = .ok (.ireturn, 1) := by decide +kernel
theorem dL_law_1442 : decode cL_law 1442 = .ok (.iload 5, 2) := by decide +kernel
theorem dL_law_1444 : decode cL_law 1444 = .ok (.ifCond .ne 15, 3) := by decide +kernel
theorem dL_law_1447 : decode cL_law 1447 = .ok (.aload_n 3, 1) := by decide +kernel
theorem dL_law_1448 : decode cL_law 1448 = .ok (.iconst 0, 1) := by decide +kernel
theorem dL_law_1449 : decode cL_law 1449 = .ok (.laload, 1) := by decide +kernel
theorem dL_law_1450 : decode cL_law 1450 = .ok (.iload 6, 2) := by decide +kernel
theorem dL_law_1452 : decode cL_law 1452 = .ok (.i2l, 1) := by decide +kernel
theorem dL_law_1453 : decode cL_law 1453 = .ok (.lcmp, 1) := by decide +kernel
theorem dL_law_1454 : decode cL_law 1454 = .ok (.ifCond .eq 5, 3) := by decide +kernel
theorem dL_law_1457 : decode cL_law 1457 = .ok (.iconst 0, 1) := by decide +kernel
theorem dL_law_1458 : decode cL_law 1458 = .ok (.ireturn, 1) := by decide +kernel
theorem dL_law_1459 : decode cL_law 1459 = .ok (.goto 1858, 3) := by decide +kernel
theorem dL_law_1462 : decode cL_law 1462 = .ok (.aload_n 1, 1) := by decide +kernel
theorem dL_law_1463 : decode cL_law 1463 = .ok (.aload_n 0, 1) := by decide +kernel
theorem dL_law_1464 : decode cL_law 1464 = .ok (.iload 4, 2) := by decide +kernel
theorem dL_law_1466 : decode cL_law 1466 = .ok (.iconst 1, 1) := by decide +kernel
theorem dL_law_1467 : decode cL_law 1467 = .ok (.iadd, 1) := by decide +kernel
theorem dL_law_1468 : decode cL_law 1468 = .ok (.iaload, 1) := by decide +kernel
theorem dL_law_1469 : decode cL_law 1469 = .ok (.aload_n 3, 1) := by decide +kernel
theorem dL_law_1470 : decode cL_law 1470 = .ok (.invokestatic 246, 3) := by decide +kernel
theorem dL_law_1473 : decode cL_law 1473 = .ok (.istore 5, 2) := by decide +kernel
theorem dL_law_1475 : decode cL_law 1475 = .ok (.aload_n 2, 1) := by decide +kernel
theorem dL_law_1476 : decode cL_law 1476 = .ok (.aload_n 0, 1) := by decide +kernel
theorem dL_law_1477 : decode cL_law 1477 = .ok (.iload 4, 2) := by decide +kernel
theorem dL_law_1479 : decode cL_law 1479 = .ok (.iconst 1, 1) := by decide +kernel
theorem dL_law_1480 : decode cL_law 1480 = .ok (.iadd, 1) := by decide +kernel
theorem dL_law_1481 : decode cL_law 1481 = .ok (.iaload, 1) := by decide +kernel
theorem dL_law_1482 : decode cL_law 1482 = .ok (.invokevirtual 248, 3) := by decide +kernel
theorem dL_law_1485 : decode cL_law 1485 = .ok (.istore 6, 2) := by decide +kernel
theorem dL_law_1487 : decode cL_law 1487 = .ok (.aload_n 2, 1) := by decide +kernel
theorem dL_law_1488 : decode cL_law 1488 = .ok (.invokevirtual 157, 3) := by decide +kernel
theorem dL_law_1491 : decode cL_law 1491 = .ok (.iload 5, 2) := by decide +kernel
theorem dL_law_1493 : decode cL_law 1493 = .ok (.if_icmp .eq 5, 3) := by decide +kernel
theorem dL_law_1496 : decode cL_law 1496 = .ok (.iconst 0, 1) := by decide +kernel
theorem dL_law_1497 : decode cL_law 1497 = .ok (.ireturn, 1) := by decide +kernel
theorem dL_law_1498 : decode cL_law 1498 = .ok (.iload 5, 2) := by decide +kernel
theorem dL_law_1500 : decode cL_law 1500 = .ok (.ifCond .ne 15, 3) := by decide +kernel
theorem dL_law_1503 : decode cL_law 1503 = .ok (.aload_n 3, 1) := by decide +kernel
theorem dL_law_1504 : decode cL_law 1504 = .ok (.iconst 0, 1) := by decide +kernel
theorem dL_law_1505 : decode cL_law 1505 = .ok (.laload, 1) := by decide +kernel
theorem dL_law_1506 : decode cL_law 1506 = .ok (.iload 6, 2) := by decide +kernel
theorem dL_law_1508 : decode cL_law 1508 = .ok (.i2l, 1) := by decide +kernel
theorem dL_law_1509 : decode cL_law 1509 = .ok (.lcmp, 1) := by decide +kernel
theorem dL_law_1510 : decode cL_law 1510 = .ok (.ifCond .eq 5, 3) := by decide +kernel
theorem dL_law_1513 : decode cL_law 1513 = .ok (.iconst 0, 1) := by decide +kernel
theorem dL_law_1514 : decode cL_law 1514 = .ok (.ireturn, 1) := by decide +kernel
theorem dL_law_1515 : decode cL_law 1515 = .ok (.goto 1802, 3) := by decide +kernel
theorem dL_law_1518 : decode cL_law 1518 = .ok (.aload_n 1, 1) := by decide +kernel
theorem dL_law_1519 : decode cL_law 1519 = .ok (.aload_n 0, 1) := by decide +kernel
theorem dL_law_1520 : decode cL_law 1520 = .ok (.iload 4, 2) := by decide +kernel
theorem dL_law_1522 : decode cL_law 1522 = .ok (.iconst 1, 1) := by decide +kernel
theorem dL_law_1523 : decode cL_law 1523 = .ok (.iadd, 1) := by decide +kernel
theorem dL_law_1524 : decode cL_law 1524 = .ok (.iaload, 1) := by decide +kernel
theorem dL_law_1525 : decode cL_law 1525 = .ok (.aload_n 3, 1) := by decide +kernel
theorem dL_law_1526 : decode cL_law 1526 = .ok (.invokestatic 249, 3) := by decide +kernel
theorem dL_law_1529 : decode cL_law 1529 = .ok (.istore 5, 2) := by decide +kernel
theorem dL_law_1531 : decode cL_law 1531 = .ok (.aload_n 2, 1) := by decide +kernel
theorem dL_law_1532 : decode cL_law 1532 = .ok (.aload_n 0, 1) := by decide +kernel
theorem dL_law_1533 : decode cL_law 1533 = .ok (.iload 4, 2) := by decide +kernel
theorem dL_law_1535 : decode cL_law 1535 = .ok (.iconst 1, 1) := by decide +kernel
theorem dL_law_1536 : decode cL_law 1536 = .ok (.iadd, 1) := by decide +kernel
theorem dL_law_1537 : decode cL_law 1537 = .ok (.iaload, 1) := by decide +kernel
theorem dL_law_1538 : decode cL_law 1538 = .ok (.invokevirtual 251, 3) := by decide +kernel
theorem dL_law_1541 : decode cL_law 1541 = .ok (.istore 6, 2) := by decide +kernel
theorem dL_law_1543 : decode cL_law 1543 = .ok (.aload_n 2, 1) := by decide +kernel
theorem dL_law_1544 : decode cL_law 1544 = .ok (.invokevirtual 157, 3) := by decide +kernel
theorem dL_law_1547 : decode cL_law 1547 = .ok (.iload 5, 2) := by decide +kernel
theorem dL_law_1549 : decode cL_law 1549 = .ok (.if_icmp .eq 5, 3) := by decide +kernel
theorem dL_law_1552 : decode cL_law 1552 = .ok (.iconst 0, 1) := by decide +kernel
theorem dL_law_1553 : decode cL_law 1553 = .ok (.ireturn, 1) := by decide +kernel
theorem dL_law_1554 : decode cL_law 1554 = .ok (.iload 5, 2) := by decide +kernel
theorem dL_law_1556 : decode cL_law 1556 = .ok (.ifCond .ne 15, 3) := by decide +kernel
theorem dL_law_1559 : decode cL_law 1559 = .ok (.aload_n 3, 1) := by decide +kernel
theorem dL_law_1560 : decode cL_law 1560 = .ok (.iconst 0, 1) := by decide +kernel
theorem dL_law_1561 : decode cL_law 1561 = .ok (.laload, 1) := by decide +kernel
theorem dL_law_1562 : decode cL_law 1562 = .ok (.iload 6, 2) := by decide +kernel
theorem dL_law_1564 : decode cL_law 1564 = .ok (.i2l, 1) := by decide +kernel
theorem dL_law_1565 : decode cL_law 1565 = .ok (.lcmp, 1) := by decide +kernel
theorem dL_law_1566 : decode cL_law 1566 = .ok (.ifCond .eq 5, 3) := by decide +kernel
theorem dL_law_1569 : decode cL_law 1569 = .ok (.iconst 0, 1) := by decide +kernel
theorem dL_law_1570 : decode cL_law 1570 = .ok (.ireturn, 1) := by decide +kernel
theorem dL_law_1571 : decode cL_law 1571 = .ok (.goto 1746, 3) := by decide +kernel
theorem dL_law_1574 : decode cL_law 1574 = .ok (.aload_n 1, 1) := by decide +kernel
theorem dL_law_1575 : decode cL_law 1575 = .ok (.aload_n 0, 1) := by decide +kernel
theorem dL_law_1576 : decode cL_law 1576 = .ok (.iload 4, 2) := by decide +kernel
theorem dL_law_1578 : decode cL_law 1578 = .ok (.iconst 1, 1) := by decide +kernel
theorem dL_law_1579 : decode cL_law 1579 = .ok (.iadd, 1) := by decide +kernel
theorem dL_law_1580 : decode cL_law 1580 = .ok (.iaload, 1) := by decide +kernel
theorem dL_law_1581 : decode cL_law 1581 = .ok (.aload_n 3, 1) := by decide +kernel
theorem dL_law_1582 : decode cL_law 1582 = .ok (.invokestatic 252, 3) := by decide +kernel
theorem dL_law_1585 : decode cL_law 1585 = .ok (.istore 5, 2) := by decide +kernel
theorem dL_law_1587 : decode cL_law 1587 = .ok (.aload_n 2, 1) := by decide +kernel
theorem dL_law_1588 : decode cL_law 1588 = .ok (.aload_n 0, 1) := by decide +kernel
theorem dL_law_1589 : decode cL_law 1589 = .ok (.iload 4, 2) := by decide +kernel
theorem dL_law_1591 : decode cL_law 1591 = .ok (.iconst 1, 1) := by decide +kernel
theorem dL_law_1592 : decode cL_law 1592 = .ok (.iadd, 1) := by decide +kernel
theorem dL_law_1593 : decode cL_law 1593 = .ok (.iaload, 1) := by decide +kernel
theorem dL_law_1594 : decode cL_law 1594 = .ok (.invokevirtual 254, 3) := by decide +kernel
theorem dL_law_1597 : decode cL_law 1597 = .ok (.istore 6, 2) := by decide +kernel
theorem dL_law_1599 : decode cL_law 1599 = .ok (.aload_n 2, 1) := by decide +kernel
theorem dL_law_1600 : decode cL_law 1600 = .ok (.invokevirtual 157, 3) := by decide +kernel
theorem dL_law_1603 : decode cL_law 1603 = .ok (.iload 5, 2) := by decide +kernel
theorem dL_law_1605 : decode cL_law 1605 = .ok (.if_icmp .eq 5, 3) := by decide +kernel
theorem dL_law_1608 : decode cL_law 1608 = .ok (.iconst 0, 1) := by decide +kernel
theorem dL_law_1609 : decode cL_law 1609 = .ok (.ireturn, 1) := by decide +kernel
theorem dL_law_1610 : decode cL_law 1610 = .ok (.iload 5, 2) := by decide +kernel
theorem dL_law_1612 : decode cL_law 1612 = .ok (.ifCond .ne 15, 3) := by decide +kernel
theorem dL_law_1615 : decode cL_law 1615 = .ok (.aload_n 3, 1) := by decide +kernel
theorem dL_law_1616 : decode cL_law 1616 = .ok (.iconst 0, 1) := by decide +kernel
theorem dL_law_1617 : decode cL_law 1617 = .ok (.laload, 1) := by decide +kernel
theorem dL_law_1618 : decode cL_law 1618 = .ok (.iload 6, 2) := by decide +kernel
theorem dL_law_1620 : decode cL_law 1620 = .ok (.i2l, 1) := by decide +kernel
theorem dL_law_1621 : decode cL_law 1621 = .ok (.lcmp, 1) := by decide +kernel
theorem dL_law_1622 : decode cL_law 1622 = .ok (.ifCond .eq 5, 3) := by decide +kernel
theorem dL_law_1625 : decode cL_law 1625 = .ok (.iconst 0, 1) := by decide +kernel
theorem dL_law_1626 : decode cL_law 1626 = .ok (.ireturn, 1) := by decide +kernel
theorem dL_law_1627 : decode cL_law 1627 = .ok (.goto 1690, 3) := by decide +kernel
theorem dL_law_1630 : decode cL_law 1630 = .ok (.aload_n 1, 1) := by decide +kernel
theorem dL_law_1631 : decode cL_law 1631 = .ok (.aload_n 0, 1) := by decide +kernel
theorem dL_law_1632 : decode cL_law 1632 = .ok (.iload 4, 2) := by decide +kernel
theorem dL_law_1634 : decode cL_law 1634 = .ok (.iconst 1, 1) := by decide +kernel
theorem dL_law_1635 : decode cL_law 1635 = .ok (.iadd, 1) := by decide +kernel
theorem dL_law_1636 : decode cL_law 1636 = .ok (.iaload, 1) := by decide +kernel
theorem dL_law_1637 : decode cL_law 1637 = .ok (.aload_n 3, 1) := by decide +kernel
theorem dL_law_1638 : decode cL_law 1638 = .ok (.invokestatic 255, 3) := by decide +kernel
theorem dL_law_1641 : decode cL_law 1641 = .ok (.istore 5, 2) := by decide +kernel
theorem dL_law_1643 : decode cL_law 1643 = .ok (.aload_n 2, 1) := by decide +kernel
theorem dL_law_1644 : decode cL_law 1644 = .ok (.aload_n 0, 1) := by decide +kernel
theorem dL_law_1645 : decode cL_law 1645 = .ok (.iload 4, 2) := by decide +kernel
theorem dL_law_1647 : decode cL_law 1647 = .ok (.iconst 1, 1) := by decide +kernel
theorem dL_law_1648 : decode cL_law 1648 = .ok (.iadd, 1) := by decide +kernel
theorem dL_law_1649 : decode cL_law 1649 = .ok (.iaload, 1) := by decide +kernel
theorem dL_law_1650 : decode cL_law 1650 = .ok (.invokevirtual 257, 3) := by decide +kernel
theorem dL_law_1653 : decode cL_law 1653 = .ok (.istore 6, 2) := by decide +kernel
theorem dL_law_1655 : decode cL_law 1655 = .ok (.aload_n 2, 1) := by decide +kernel
theorem dL_law_1656 : decode cL_law 1656 = .ok (.invokevirtual 157, 3) := by decide +kernel
theorem dL_law_1659 : decode cL_law 1659 = .ok (.iload 5, 2) := by decide +kernel
theorem dL_law_1661 : decode cL_law 1661 = .ok (.if_icmp .eq 5, 3) := by decide +kernel
theorem dL_law_1664 : decode cL_law 1664 = .ok (.iconst 0, 1) := by decide +kernel
theorem dL_law_1665 : decode cL_law 1665 = .ok (.ireturn, 1) := by decide +kernel
theorem dL_law_1666 : decode cL_law 1666 = .ok (.iload 5, 2) := by decide +kernel
theorem dL_law_1668 : decode cL_law 1668 = .ok (.ifCond .ne 15, 3) := by decide +kernel
theorem dL_law_1671 : decode cL_law 1671 = .ok (.aload_n 3, 1) := by decide +kernel
theorem dL_law_1672 : decode cL_law 1672 = .ok (.iconst 0, 1) := by decide +kernel
theorem dL_law_1673 : decode cL_law 1673 = .ok (.laload, 1) := by decide +kernel
theorem dL_law_1674 : decode cL_law 1674 = .ok (.iload 6, 2) := by decide +kernel
theorem dL_law_1676 : decode cL_law 1676 = .ok (.i2l, 1) := by decide +kernel
theorem dL_law_1677 : decode cL_law 1677 = .ok (.lcmp, 1) := by decide +kernel
theorem dL_law_1678 : decode cL_law 1678 = .ok (.ifCond .eq 5, 3) := by decide +kernel
theorem dL_law_1681 : decode cL_law 1681 = .ok (.iconst 0, 1) := by decide +kernel
theorem dL_law_1682 : decode cL_law 1682 = .ok (.ireturn, 1) := by decide +kernel
theorem dL_law_1683 : decode cL_law 1683 = .ok (.goto 1634, 3) := by decide +kernel
theorem dL_law_1686 : decode cL_law 1686 = .ok (.aload_n 1, 1) := by decide +kernel
theorem dL_law_1687 : decode cL_law 1687 = .ok (.aload_n 0, 1) := by decide +kernel
theorem dL_law_1688 : decode cL_law 1688 = .ok (.iload 4, 2) := by decide +kernel
theorem dL_law_1690 : decode cL_law 1690 = .ok (.iconst 1, 1) := by decide +kernel
theorem dL_law_1691 : decode cL_law 1691 = .ok (.iadd, 1) := by decide +kernel
theorem dL_law_1692 : decode cL_law 1692 = .ok (.iaload, 1) := by decide +kernel
theorem dL_law_1693 : decode cL_law 1693 = .ok (.aload_n 3, 1) := by decide +kernel
theorem dL_law_1694 : decode cL_law 1694 = .ok (.invokestatic 258, 3) := by decide +kernel
theorem dL_law_1697 : decode cL_law 1697 = .ok (.istore 5, 2) := by decide +kernel
theorem dL_law_1699 : decode cL_law 1699 = .ok (.aload_n 2, 1) := by decide +kernel
theorem dL_law_1700 : decode cL_law 1700 = .ok (.aload_n 0, 1) := by decide +kernel
theorem dL_law_1701 : decode cL_law 1701 = .ok (.iload 4, 2) := by decide +kernel
theorem dL_law_1703 : decode cL_law 1703 = .ok (.iconst 1, 1) := by decide +kernel
theorem dL_law_1704 : decode cL_law 1704 = .ok (.iadd, 1) := by decide +kernel
theorem dL_law_1705 : decode cL_law 1705 = .ok (.iaload, 1) := by decide +kernel
theorem dL_law_1706 : decode cL_law 1706 = .ok (.invokevirtual 260, 3) := by decide +kernel
theorem dL_law_1709 : decode cL_law 1709 = .ok (.istore 6, 2) := by decide +kernel
theorem dL_law_1711 : decode cL_law 1711 = .ok (.aload_n 2, 1) := by decide +kernel
theorem dL_law_1712 : decode cL_law 1712 = .ok (.invokevirtual 157, 3) := by decide +kernel
theorem dL_law_1715 : decode cL_law 1715 = .ok (.iload 5, 2) := by decide +kernel
theorem dL_law_1717 : decode cL_law 1717 = .ok (.if_icmp .eq 5, 3) := by decide +kernel
theorem dL_law_1720 : decode cL_law 1720 = .ok (.iconst 0, 1) := by decide +kernel
theorem dL_law_1721 : decode cL_law 1721 = .ok (.ireturn, 1) := by decide +kernel
theorem dL_law_1722 : decode cL_law 1722 = .ok (.iload 5, 2) := by decide +kernel
theorem dL_law_1724 : decode cL_law 1724 = .ok (.ifCond .ne 15, 3) := by decide +kernel
theorem dL_law_1727 : decode cL_law 1727 = .ok (.aload_n 3, 1) := by decide +kernel
theorem dL_law_1728 : decode cL_law 1728 = .ok (.iconst 0, 1) := by decide +kernel
theorem dL_law_1729 : decode cL_law 1729 = .ok (.laload, 1) := by decide +kernel
theorem dL_law_1730 : decode cL_law 1730 = .ok (.iload 6, 2) := by decide +kernel
theorem dL_law_1732 : decode cL_law 1732 = .ok (.i2l, 1) := by decide +kernel
theorem dL_law_1733 : decode cL_law 1733 = .ok (.lcmp, 1) := by decide +kernel
theorem dL_law_1734 : decode cL_law 1734 = .ok (.ifCond .eq 5, 3) := by decide +kernel
theorem dL_law_1737 : decode cL_law 1737 = .ok (.iconst 0, 1) := by decide +kernel
theorem dL_law_1738 : decode cL_law 1738 = .ok (.ireturn, 1) := by decide +kernel
theorem dL_law_1739 : decode cL_law 1739 = .ok (.goto 1578, 3) := by decide +kernel
theorem dL_law_1742 : decode cL_law 1742 = .ok (.aload_n 1, 1) := by decide +kernel
theorem dL_law_1743 : decode cL_law 1743 = .ok (.aload_n 0, 1) := by decide +kernel
theorem dL_law_1744 : decode cL_law 1744 = .ok (.iload 4, 2) := by decide +kernel
theorem dL_law_1746 : decode cL_law 1746 = .ok (.iconst 1, 1) := by decide +kernel
theorem dL_law_1747 : decode cL_law 1747 = .ok (.iadd, 1) := by decide +kernel
theorem dL_law_1748 : decode cL_law 1748 = .ok (.iaload, 1) := by decide +kernel
theorem dL_law_1749 : decode cL_law 1749 = .ok (.aload_n 3, 1) := by decide +kernel
theorem dL_law_1750 : decode cL_law 1750 = .ok (.invokestatic 261, 3) := by decide +kernel
theorem dL_law_1753 : decode cL_law 1753 = .ok (.istore 5, 2) := by decide +kernel
theorem dL_law_1755 : decode cL_law 1755 = .ok (.aload_n 2, 1) := by decide +kernel
theorem dL_law_1756 : decode cL_law 1756 = .ok (.aload_n 0, 1) := by decide +kernel
theorem dL_law_1757 : decode cL_law 1757 = .ok (.iload 4, 2) := by decide +kernel
theorem dL_law_1759 : decode cL_law 1759 = .ok (.iconst 1, 1) := by decide +kernel
theorem dL_law_1760 : decode cL_law 1760 = .ok (.iadd, 1) := by decide +kernel
theorem dL_law_1761 : decode cL_law 1761 = .ok (.iaload, 1) := by decide +kernel
theorem dL_law_1762 : decode cL_law 1762 = .ok (.invokevirtual 263, 3) := by decide +kernel
theorem dL_law_1765 : decode cL_law 1765 = .ok (.istore 6, 2) := by decide +kernel
theorem dL_law_1767 : decode cL_law 1767 = .ok (.aload_n 2, 1) := by decide +kernel
theorem dL_law_1768 : decode cL_law 1768 = .ok (.invokevirtual 157, 3) := by decide +kernel
theorem dL_law_1771 : decode cL_law 1771 = .ok (.iload 5, 2) := by decide +kernel
theorem dL_law_1773 : decode cL_law 1773 = .ok (.if_icmp .eq 5, 3) := by decide +kernel
theorem dL_law_1776 : decode cL_law 1776 = .ok (.iconst 0, 1) := by decide +kernel
theorem dL_law_1777 : decode cL_law 1777 = .ok (.ireturn, 1) := by decide +kernel
theorem dL_law_1778 : decode cL_law 1778 = .ok (.iload 5, 2) := by decide +kernel
theorem dL_law_1780 : decode cL_law 1780 = .ok (.ifCond .ne 15, 3) := by decide +kernel
theorem dL_law_1783 : decode cL_law 1783 = .ok (.aload_n 3, 1) := by decide +kernel
theorem dL_law_1784 : decode cL_law 1784 = .ok (.iconst 0, 1) := by decide +kernel
theorem dL_law_1785 : decode cL_law 1785 = .ok (.laload, 1) := by decide +kernel
theorem dL_law_1786 : decode cL_law 1786 = .ok (.iload 6, 2) := by decide +kernel
theorem dL_law_1788 : decode cL_law 1788 = .ok (.i2l, 1) := by decide +kernel
theorem dL_law_1789 : decode cL_law 1789 = .ok (.lcmp, 1) := by decide +kernel
theorem dL_law_1790 : decode cL_law 1790 = .ok (.ifCond .eq 5, 3) := by decide +kernel
theorem dL_law_1793 : decode cL_law 1793 = .ok (.iconst 0, 1) := by decide +kernel
theorem dL_law_1794 : decode cL_law 1794 = .ok (.ireturn, 1) := by decide +kernel
theorem dL_law_1795 : decode cL_law 1795 = .ok (.goto 1522, 3) := by decide +kernel
theorem dL_law_1798 : decode cL_law 1798 = .ok (.aload_n 1, 1) := by decide +kernel
theorem dL_law_1799 : decode cL_law 1799 = .ok (.aload_n 0, 1) := by decide +kernel
theorem dL_law_1800 : decode cL_law 1800 = .ok (.iload 4, 2) := by decide +kernel
theorem dL_law_1802 : decode cL_law 1802 = .ok (.iconst 1, 1) := by decide +kernel
theorem dL_law_1803 : decode cL_law 1803 = .ok (.iadd, 1) := by decide +kernel
theorem dL_law_1804 : decode cL_law 1804 = .ok (.iaload, 1) := by decide +kernel
theorem dL_law_1805 : decode cL_law 1805 = .ok (.aload_n 3, 1) := by decide +kernel
theorem dL_law_1806 : decode cL_law 1806 = .ok (.invokestatic 264, 3) := by decide +kernel
theorem dL_law_1809 : decode cL_law 1809 = .ok (.istore 5, 2) := by decide +kernel
theorem dL_law_1811 : decode cL_law 1811 = .ok (.aload_n 2, 1) := by decide +kernel
theorem dL_law_1812 : decode cL_law 1812 = .ok (.aload_n 0, 1) := by decide +kernel
theorem dL_law_1813 : decode cL_law 1813 = .ok (.iload 4, 2) := by decide +kernel
theorem dL_law_1815 : decode cL_law 1815 = .ok (.iconst 1, 1) := by decide +kernel
theorem dL_law_1816 : decode cL_law 1816 = .ok (.iadd, 1) := by decide +kernel
theorem dL_law_1817 : decode cL_law 1817 = .ok (.iaload, 1) := by decide +kernel
theorem dL_law_1818 : decode cL_law 1818 = .ok (.invokevirtual 266, 3) := by decide +kernel
theorem dL_law_1821 : decode cL_law 1821 = .ok (.istore 6, 2) := by decide +kernel
theorem dL_law_1823 : decode cL_law 1823 = .ok (.aload_n 2, 1) := by decide +kernel
theorem dL_law_1824 : decode cL_law 1824 = .ok (.invokevirtual 157, 3) := by decide +kernel
theorem dL_law_1827 : decode cL_law 1827 = .ok (.iload 5, 2) := by decide +kernel
theorem dL_law_1829 : decode cL_law 1829 = .ok (.if_icmp .eq 5, 3) := by decide +kernel
theorem dL_law_1832 : decode cL_law 1832 = .ok (.iconst 0, 1) := by decide +kernel
theorem dL_law_1833 : decode cL_law 1833 = .ok (.ireturn, 1) := by decide +kernel
theorem dL_law_1834 : decode cL_law 1834 = .ok (.iload 5, 2) := by decide +kernel
theorem dL_law_1836 : decode cL_law 1836 = .ok (.ifCond .ne 15, 3) := by decide +kernel
theorem dL_law_1839 : decode cL_law 1839 = .ok (.aload_n 3, 1) := by decide +kernel
theorem dL_law_1840 : decode cL_law 1840 = .ok (.iconst 0, 1) := by decide +kernel
theorem dL_law_1841 : decode cL_law 1841 = .ok (.laload, 1) := by decide +kernel
theorem dL_law_1842 : decode cL_law 1842 = .ok (.iload 6, 2) := by decide +kernel
theorem dL_law_1844 : decode cL_law 1844 = .ok (.i2l, 1) := by decide +kernel
theorem dL_law_1845 : decode cL_law 1845 = .ok (.lcmp, 1) := by decide +kernel
theorem dL_law_1846 : decode cL_law 1846 = .ok (.ifCond .eq 5, 3) := by decide +kernel
theorem dL_law_1849 : decode cL_law 1849 = .ok (.iconst 0, 1) := by decide +kernel
theorem dL_law_1850 : decode cL_law 1850 = .ok (.ireturn, 1) := by decide +kernel
theorem dL_law_1851 : decode cL_law 1851 = .ok (.goto 1466, 3) := by decide +kernel
theorem dL_law_1854 : decode cL_law 1854 = .ok (.aload_n 1, 1) := by decide +kernel
theorem dL_law_1855 : decode cL_law 1855 = .ok (.aload_n 0, 1) := by decide +kernel
theorem dL_law_1856 : decode cL_law 1856 = .ok (.iload 4, 2) := by decide +kernel
theorem dL_law_1858 : decode cL_law 1858 = .ok (.iconst 1, 1) := by decide +kernel
theorem dL_law_1859 : decode cL_law 1859 = .ok (.iadd, 1) := by decide +kernel
theorem dL_law_1860 : decode cL_law 1860 = .ok (.iaload, 1) := by decide +kernel
theorem dL_law_1861 : decode cL_law 1861 = .ok (.aload_n 3, 1) := by decide +kernel
theorem dL_law_1862 : decode cL_law 1862 = .ok (.invokestatic 267, 3) := by decide +kernel
theorem dL_law_1865 : decode cL_law 1865 = .ok (.istore 5, 2) := by decide +kernel
theorem dL_law_1867 : decode cL_law 1867 = .ok (.aload_n 2, 1) := by decide +kernel
theorem dL_law_1868 : decode cL_law 1868 = .ok (.aload_n 0, 1) := by decide +kernel
theorem dL_law_1869 : decode cL_law 1869 = .ok (.iload 4, 2) := by decide +kernel
theorem dL_law_1871 : decode cL_law 1871 = .ok (.iconst 1, 1) := by decide +kernel
theorem dL_law_1872 : decode cL_law 1872 = .ok (.iadd, 1) := by decide +kernel
theorem dL_law_1873 : decode cL_law 1873 = .ok (.iaload, 1) := by decide +kernel
theorem dL_law_1874 : decode cL_law 1874 = .ok (.invokevirtual 269, 3) := by decide +kernel
theorem dL_law_1877 : decode cL_law 1877 = .ok (.istore 6, 2) := by decide +kernel
theorem dL_law_1879 : decode cL_law 1879 = .ok (.aload_n 2, 1) := by decide +kernel
theorem dL_law_1880 : decode cL_law 1880 = .ok (.invokevirtual 157, 3) := by decide +kernel
theorem dL_law_1883 : decode cL_law 1883 = .ok (.iload 5, 2) := by decide +kernel
theorem dL_law_1885 : decode cL_law 1885 = .ok (.if_icmp .eq 5, 3) := by decide +kernel
theorem dL_law_1888 : decode cL_law 1888 = .ok (.iconst 0, 1) := by decide +kernel
theorem dL_law_1889 : decode cL_law 1889 = .ok (.ireturn, 1) := by decide +kernel
theorem dL_law_1890 : decode cL_law 1890 = .ok (.iload 5, 2) := by decide +kernel
theorem dL_law_1892 : decode cL_law 1892 = .ok (.ifCond .ne 15, 3) := by decide +kernel
theorem dL_law_1895 : decode cL_law 1895 = .ok (.aload_n 3, 1) := by decide +kernel
theorem dL_law_1896 : decode cL_law 1896 = .ok (.iconst 0, 1) := by decide +kernel
theorem dL_law_1897 : decode cL_law 1897 = .ok (.laload, 1) := by decide +kernel
theorem dL_law_1898 : decode cL_law 1898 = .ok (.iload 6, 2) := by decide +kernel
theorem dL_law_1900 : decode cL_law 1900 = .ok (.i2l, 1) := by decide +kernel
theorem dL_law_1901 : decode cL_law 1901 = .ok (.lcmp, 1) := by decide +kernel
theorem dL_law_1902 : decode cL_law 1902 = .ok (.ifCond .eq 5, 3) := by decide +kernel
theorem dL_law_1905 : decode cL_law 1905 = .ok (.iconst 0, 1) := by decide +kernel
theorem dL_law_1906 : decode cL_law 1906 = .ok (.ireturn, 1) := by decide +kernel
theorem dL_law_1907 : decode cL_law 1907 = .ok (.goto 1410, 3) := by decide +kernel
theorem dL_law_1910 : decode cL_law 1910 = .ok (.aload_n 1, 1) := by decide +kernel
theorem dL_law_1911 : decode cL_law 1911 = .ok (.invokevirtual 270, 3) := by decide +kernel
theorem dL_law_1914 : decode cL_law 1914 = .ok (.aload_n 2, 1) := by decide +kernel
theorem dL_law_1915 : decode cL_law 1915 = .ok (.invokevirtual 273, 3) := by decide +kernel
theorem dL_law_1918 : decode cL_law 1918 = .ok (.if_icmp .eq 1399, 3) := by decide +kernel
theorem dL_law_1921 : decode cL_law 1921 = .ok (.iconst 0, 1) := by decide +kernel
theorem dL_law_1922 : decode cL_law 1922 = .ok (.ireturn, 1) := by decide +kernel
theorem dL_law_1923 : decode cL_law 1923 = .ok (.aload_n 1, 1) := by decide +kernel
theorem dL_law_1924 : decode cL_law 1924 = .ok (.aload_n 0, 1) := by decide +kernel
theorem dL_law_1925 : decode cL_law 1925 = .ok (.iload 4, 2) := by decide +kernel
theorem dL_law_1927 : decode cL_law 1927 = .ok (.iconst 1, 1) := by decide +kernel
theorem dL_law_1928 : decode cL_law 1928 = .ok (.iadd, 1) := by decide +kernel
theorem dL_law_1929 : decode cL_law 1929 = .ok (.iaload, 1) := by decide +kernel
theorem dL_law_1930 : decode cL_law 1930 = .ok (.invokevirtual 274, 3) := by decide +kernel
theorem dL_law_1933 : decode cL_law 1933 = .ok (.aload_n 2, 1) := by decide +kernel
theorem dL_law_1934 : decode cL_law 1934 = .ok (.aload_n 0, 1) := by decide +kernel
theorem dL_law_1935 : decode cL_law 1935 = .ok (.iload 4, 2) := by decide +kernel
theorem dL_law_1937 : decode cL_law 1937 = .ok (.iconst 1, 1) := by decide +kernel
theorem dL_law_1938 : decode cL_law 1938 = .ok (.iadd, 1) := by decide +kernel
theorem dL_law_1939 : decode cL_law 1939 = .ok (.iaload, 1) := by decide +kernel
theorem dL_law_1940 : decode cL_law 1940 = .ok (.invokevirtual 277, 3) := by decide +kernel
theorem dL_law_1943 : decode cL_law 1943 = .ok (.if_icmp .eq 1374, 3) := by decide +kernel
theorem dL_law_1946 : decode cL_law 1946 = .ok (.iconst 0, 1) := by decide +kernel
theorem dL_law_1947 : decode cL_law 1947 = .ok (.ireturn, 1) := by decide +kernel
theorem dL_law_1948 : decode cL_law 1948 = .ok (.aload_n 1, 1) := by decide +kernel
theorem dL_law_1949 : decode cL_law 1949 = .ok (.aload_n 0, 1) := by decide +kernel
theorem dL_law_1950 : decode cL_law 1950 = .ok (.iload 4, 2) := by decide +kernel
theorem dL_law_1952 : decode cL_law 1952 = .ok (.iconst 1, 1) := by decide +kernel
theorem dL_law_1953 : decode cL_law 1953 = .ok (.iadd, 1) := by decide +kernel
theorem dL_law_1954 : decode cL_law 1954 = .ok (.iaload, 1) := by decide +kernel
theorem dL_law_1955 : decode cL_law 1955 = .ok (.invokevirtual 278, 3) := by decide +kernel
theorem dL_law_1958 : decode cL_law 1958 = .ok (.aload_n 2, 1) := by decide +kernel
theorem dL_law_1959 : decode cL_law 1959 = .ok (.aload_n 0, 1) := by decide +kernel
theorem dL_law_1960 : decode cL_law 1960 = .ok (.iload 4, 2) := by decide +kernel
theorem dL_law_1962 : decode cL_law 1962 = .ok (.iconst 1, 1) := by decide +kernel
theorem dL_law_1963 : decode cL_law 1963 = .ok (.iadd, 1) := by decide +kernel
theorem dL_law_1964 : decode cL_law 1964 = .ok (.iaload, 1) := by decide +kernel
theorem dL_law_1965 : decode cL_law 1965 = .ok (.invokevirtual 281, 3) := by decide +kernel
theorem dL_law_1968 : decode cL_law 1968 = .ok (.if_icmp .eq 1349, 3) := by decide +kernel
theorem dL_law_1971 : decode cL_law 1971 = .ok (.iconst 0, 1) := by decide +kernel
theorem dL_law_1972 : decode cL_law 1972 = .ok (.ireturn, 1) := by decide +kernel
theorem dL_law_1973 : decode cL_law 1973 = .ok (.aload_n 1, 1) := by decide +kernel
theorem dL_law_1974 : decode cL_law 1974 = .ok (.aload_n 0, 1) := by decide +kernel
theorem dL_law_1975 : decode cL_law 1975 = .ok (.iload 4, 2) := by decide +kernel
theorem dL_law_1977 : decode cL_law 1977 = .ok (.iconst 1, 1) := by decide +kernel
theorem dL_law_1978 : decode cL_law 1978 = .ok (.iadd, 1) := by decide +kernel
theorem dL_law_1979 : decode cL_law 1979 = .ok (.iaload, 1) := by decide +kernel
theorem dL_law_1980 : decode cL_law 1980 = .ok (.invokevirtual 282, 3) := by decide +kernel
theorem dL_law_1983 : decode cL_law 1983 = .ok (.aload_n 2, 1) := by decide +kernel
theorem dL_law_1984 : decode cL_law 1984 = .ok (.aload_n 0, 1) := by decide +kernel
theorem dL_law_1985 : decode cL_law 1985 = .ok (.iload 4, 2) := by decide +kernel
theorem dL_law_1987 : decode cL_law 1987 = .ok (.iconst 1, 1) := by decide +kernel
theorem dL_law_1988 : decode cL_law 1988 = .ok (.iadd, 1) := by decide +kernel
theorem dL_law_1989 : decode cL_law 1989 = .ok (.iaload, 1) := by decide +kernel
theorem dL_law_1990 : decode cL_law 1990 = .ok (.invokevirtual 285, 3) := by decide +kernel
theorem dL_law_1993 : decode cL_law 1993 = .ok (.if_icmp .eq 1324, 3) := by decide +kernel
theorem dL_law_1996 : decode cL_law 1996 = .ok (.iconst 0, 1) := by decide +kernel
theorem dL_law_1997 : decode cL_law 1997 = .ok (.ireturn, 1) := by decide +kernel
theorem dL_law_1998 : decode cL_law 1998 = .ok (.aload_n 1, 1) := by decide +kernel
theorem dL_law_1999 : decode cL_law 1999 = .ok (.aload_n 0, 1) := by decide +kernel
theorem dL_law_2000 : decode cL_law 2000 = .ok (.iload 4, 2) := by decide +kernel
theorem dL_law_2002 : decode cL_law 2002 = .ok (.iconst 1, 1) := by decide +kernel
theorem dL_law_2003 : decode cL_law 2003 = .ok (.iadd, 1) := by decide +kernel
theorem dL_law_2004 : decode cL_law 2004 = .ok (.iaload, 1) := by decide +kernel
theorem dL_law_2005 : decode cL_law 2005 = .ok (.aload_n 0, 1) := by decide +kernel
theorem dL_law_2006 : decode cL_law 2006 = .ok (.iload 4, 2) := by decide +kernel
theorem dL_law_2008 : decode cL_law 2008 = .ok (.iconst 2, 1) := by decide +kernel
theorem dL_law_2009 : decode cL_law 2009 = .ok (.iadd, 1) := by decide +kernel
theorem dL_law_2010 : decode cL_law 2010 = .ok (.iaload, 1) := by decide +kernel
theorem dL_law_2011 : decode cL_law 2011 = .ok (.aload_n 3, 1) := by decide +kernel
theorem dL_law_2012 : decode cL_law 2012 = .ok (.invokestatic 286, 3) := by decide +kernel
theorem dL_law_2015 : decode cL_law 2015 = .ok (.istore 5, 2) := by decide +kernel
theorem dL_law_2017 : decode cL_law 2017 = .ok (.aload_n 2, 1) := by decide +kernel
theorem dL_law_2018 : decode cL_law 2018 = .ok (.aload_n 0, 1) := by decide +kernel
theorem dL_law_2019 : decode cL_law 2019 = .ok (.iload 4, 2) := by decide +kernel
theorem dL_law_2021 : decode cL_law 2021 = .ok (.iconst 1, 1) := by decide +kernel
theorem dL_law_2022 : decode cL_law 2022 = .ok (.iadd, 1) := by decide +kernel
theorem dL_law_2023 : decode cL_law 2023 = .ok (.iaload, 1) := by decide +kernel
theorem dL_law_2024 : decode cL_law 2024 = .ok (.aload_n 0, 1) := by decide +kernel
theorem dL_law_2025 : decode cL_law 2025 = .ok (.iload 4, 2) := by decide +kernel
theorem dL_law_2027 : decode cL_law 2027 = .ok (.iconst 2, 1) := by decide +kernel
theorem dL_law_2028 : decode cL_law 2028 = .ok (.iadd, 1) := by decide +kernel
theorem dL_law_2029 : decode cL_law 2029 = .ok (.iaload, 1) := by decide +kernel
theorem dL_law_2030 : decode cL_law 2030 = .ok (.invokevirtual 288, 3) := by decide +kernel
theorem dL_law_2033 : decode cL_law 2033 = .ok (.istore 6, 2) := by decide +kernel
theorem dL_law_2035 : decode cL_law 2035 = .ok (.aload_n 2, 1) := by decide +kernel
theorem dL_law_2036 : decode cL_law 2036 = .ok (.invokevirtual 157, 3) := by decide +kernel
theorem dL_law_2039 : decode cL_law 2039 = .ok (.iload 5, 2) := by decide +kernel
theorem dL_law_2041 : decode cL_law 2041 = .ok (.if_icmp .eq 5, 3) := by decide +kernel
theorem dL_law_2044 : decode cL_law 2044 = .ok (.iconst 0, 1) := by decide +kernel
theorem dL_law_2045 : decode cL_law 2045 = .ok (.ireturn, 1) := by decide +kernel
theorem dL_law_2046 : decode cL_law 2046 = .ok (.iload 5, 2) := by decide +kernel
theorem dL_law_2048 : decode cL_law 2048 = .ok (.ifCond .ne 15, 3) := by decide +kernel
theorem dL_law_2051 : decode cL_law 2051 = .ok (.aload_n 3, 1) := by decide +kernel
theorem dL_law_2052 : decode cL_law 2052 = .ok (.iconst 0, 1) := by decide +kernel
theorem dL_law_2053 : decode cL_law 2053 = .ok (.laload, 1) := by decide +kernel
theorem dL_law_2054 : decode cL_law 2054 = .ok (.iload 6, 2) := by decide +kernel
theorem dL_law_2056 : decode cL_law 2056 = .ok (.i2l, 1) := by decide +kernel
theorem dL_law_2057 : decode cL_law 2057 = .ok (.lcmp, 1) := by decide +kernel
theorem dL_law_2058 : decode cL_law 2058 = .ok (.ifCond .eq 5, 3) := by decide +kernel
theorem dL_law_2061 : decode cL_law 2061 = .ok (.iconst 0, 1) := by decide +kernel
theorem dL_law_2062 : decode cL_law 2062 = .ok (.ireturn, 1) := by decide +kernel
theorem dL_law_2063 : decode cL_law 2063 = .ok (.goto 1254, 3) := by decide +kernel
theorem dL_law_2066 : decode cL_law 2066 = .ok (.aload_n 1, 1) := by decide +kernel
theorem dL_law_2067 : decode cL_law 2067 = .ok (.aload_n 0, 1) := by decide +kernel
theorem dL_law_2068 : decode cL_law 2068 = .ok (.iload 4, 2) := by decide +kernel
theorem dL_law_2070 : decode cL_law 2070 = .ok (.iconst 1, 1) := by decide +kernel
theorem dL_law_2071 : decode cL_law 2071 = .ok (.iadd, 1) := by decide +kernel
theorem dL_law_2072 : decode cL_law 2072 = .ok (.iaload, 1) := by decide +kernel
theorem dL_law_2073 : decode cL_law 2073 = .ok (.aload_n 0, 1) := by decide +kernel
theorem dL_law_2074 : decode cL_law 2074 = .ok (.iload 4, 2) := by decide +kernel
theorem dL_law_2076 : decode cL_law 2076 = .ok (.iconst 2, 1) := by decide +kernel
theorem dL_law_2077 : decode cL_law 2077 = .ok (.iadd, 1) := by decide +kernel
theorem dL_law_2078 : decode cL_law 2078 = .ok (.iaload, 1) := by decide +kernel
theorem dL_law_2079 : decode cL_law 2079 = .ok (.aload_n 3, 1) := by decide +kernel
theorem dL_law_2080 : decode cL_law 2080 = .ok (.invokestatic 289, 3) := by decide +kernel
theorem dL_law_2083 : decode cL_law 2083 = .ok (.istore 5, 2) := by decide +kernel
theorem dL_law_2085 : decode cL_law 2085 = .ok (.aload_n 2, 1) := by decide +kernel
theorem dL_law_2086 : decode cL_law 2086 = .ok (.aload_n 0, 1) := by decide +kernel
theorem dL_law_2087 : decode cL_law 2087 = .ok (.iload 4, 2) := by decide +kernel
theorem dL_law_2089 : decode cL_law 2089 = .ok (.iconst 1, 1) := by decide +kernel
theorem dL_law_2090 : decode cL_law 2090 = .ok (.iadd, 1) := by decide +kernel
theorem dL_law_2091 : decode cL_law 2091 = .ok (.iaload, 1) := by decide +kernel
theorem dL_law_2092 : decode cL_law 2092 = .ok (.aload_n 0, 1) := by decide +kernel
theorem dL_law_2093 : decode cL_law 2093 = .ok (.iload 4, 2) := by decide +kernel
theorem dL_law_2095 : decode cL_law 2095 = .ok (.iconst 2, 1) := by decide +kernel
theorem dL_law_2096 : decode cL_law 2096 = .ok (.iadd, 1) := by decide +kernel
theorem dL_law_2097 : decode cL_law 2097 = .ok (.iaload, 1) := by decide +kernel
theorem dL_law_2098 : decode cL_law 2098 = .ok (.invokevirtual 291, 3) := by decide +kernel
theorem dL_law_2101 : decode cL_law 2101 = .ok (.istore 6, 2) := by decide +kernel
theorem dL_law_2103 : decode cL_law 2103 = .ok (.aload_n 2, 1) := by decide +kernel
theorem dL_law_2104 : decode cL_law 2104 = .ok (.invokevirtual 157, 3) := by decide +kernel
theorem dL_law_2107 : decode cL_law 2107 = .ok (.iload 5, 2) := by decide +kernel
theorem dL_law_2109 : decode cL_law 2109 = .ok (.if_icmp .eq 5, 3) := by decide +kernel
theorem dL_law_2112 : decode cL_law 2112 = .ok (.iconst 0, 1) := by decide +kernel
theorem dL_law_2113 : decode cL_law 2113 = .ok (.ireturn, 1) := by decide +kernel
theorem dL_law_2114 : decode cL_law 2114 = .ok (.iload 5, 2) := by decide +kernel
theorem dL_law_2116 : decode cL_law 2116 = .ok (.ifCond .ne 15, 3) := by decide +kernel
theorem dL_law_2119 : decode cL_law 2119 = .ok (.aload_n 3, 1) := by decide +kernel
theorem dL_law_2120 : decode cL_law 2120 = .ok (.iconst 0, 1) := by decide +kernel
theorem dL_law_2121 : decode cL_law 2121 = .ok (.laload, 1) := by decide +kernel
theorem dL_law_2122 : decode cL_law 2122 = .ok (.iload 6, 2) := by decide +kernel
theorem dL_law_2124 : decode cL_law 2124 = .ok (.i2l, 1) := by decide +kernel
theorem dL_law_2125 : decode cL_law 2125 = .ok (.lcmp, 1) := by decide +kernel
theorem dL_law_2126 : decode cL_law 2126 = .ok (.ifCond .eq 5, 3) := by decide +kernel
theorem dL_law_2129 : decode cL_law 2129 = .ok (.iconst 0, 1) := by decide +kernel
theorem dL_law_2130 : decode cL_law 2130 = .ok (.ireturn, 1) := by decide +kernel
theorem dL_law_2131 : decode cL_law 2131 = .ok (.goto 1186, 3) := by decide +kernel
theorem dL_law_2134 : decode cL_law 2134 = .ok (.aload_n 1, 1) := by decide +kernel
theorem dL_law_2135 : decode cL_law 2135 = .ok (.aload_n 0, 1) := by decide +kernel
theorem dL_law_2136 : decode cL_law 2136 = .ok (.iload 4, 2) := by decide +kernel
theorem dL_law_2138 : decode cL_law 2138 = .ok (.iconst 1, 1) := by decide +kernel
theorem dL_law_2139 : decode cL_law 2139 = .ok (.iadd, 1) := by decide +kernel
theorem dL_law_2140 : decode cL_law 2140 = .ok (.iaload, 1) := by decide +kernel
theorem dL_law_2141 : decode cL_law 2141 = .ok (.aload_n 0, 1) := by decide +kernel
theorem dL_law_2142 : decode cL_law 2142 = .ok (.iload 4, 2) := by decide +kernel
theorem dL_law_2144 : decode cL_law 2144 = .ok (.iconst 2, 1) := by decide +kernel
theorem dL_law_2145 : decode cL_law 2145 = .ok (.iadd, 1) := by decide +kernel
theorem dL_law_2146 : decode cL_law 2146 = .ok (.iaload, 1) := by decide +kernel
theorem dL_law_2147 : decode cL_law 2147 = .ok (.aload_n 3, 1) := by decide +kernel
theorem dL_law_2148 : decode cL_law 2148 = .ok (.invokestatic 292, 3) := by decide +kernel
theorem dL_law_2151 : decode cL_law 2151 = .ok (.istore 5, 2) := by decide +kernel
theorem dL_law_2153 : decode cL_law 2153 = .ok (.aload_n 2, 1) := by decide +kernel
theorem dL_law_2154 : decode cL_law 2154 = .ok (.aload_n 0, 1) := by decide +kernel
theorem dL_law_2155 : decode cL_law 2155 = .ok (.iload 4, 2) := by decide +kernel
theorem dL_law_2157 : decode cL_law 2157 = .ok (.iconst 1, 1) := by decide +kernel
theorem dL_law_2158 : decode cL_law 2158 = .ok (.iadd, 1) := by decide +kernel
theorem dL_law_2159 : decode cL_law 2159 = .ok (.iaload, 1) := by decide +kernel
theorem dL_law_2160 : decode cL_law 2160 = .ok (.aload_n 0, 1) := by decide +kernel
theorem dL_law_2161 : decode cL_law 2161 = .ok (.iload 4, 2) := by decide +kernel
theorem dL_law_2163 : decode cL_law 2163 = .ok (.iconst 2, 1) := by decide +kernel
theorem dL_law_2164 : decode cL_law 2164 = .ok (.iadd, 1) := by decide +kernel
theorem dL_law_2165 : decode cL_law 2165 = .ok (.iaload, 1) := by decide +kernel
theorem dL_law_2166 : decode cL_law 2166 = .ok (.invokevirtual 294, 3) := by decide +kernel
theorem dL_law_2169 : decode cL_law 2169 = .ok (.istore 6, 2) := by decide +kernel
theorem dL_law_2171 : decode cL_law 2171 = .ok (.aload_n 2, 1) := by decide +kernel
theorem dL_law_2172 : decode cL_law 2172 = .ok (.invokevirtual 157, 3) := by decide +kernel
theorem dL_law_2175 : decode cL_law 2175 = .ok (.iload 5, 2) := by decide +kernel
theorem dL_law_2177 : decode cL_law 2177 = .ok (.if_icmp .eq 5, 3) := by decide +kernel
theorem dL_law_2180 : decode cL_law 2180 = .ok (.iconst 0, 1) := by decide +kernel
theorem dL_law_2181 : decode cL_law 2181 = .ok (.ireturn, 1) := by decide +kernel
theorem dL_law_2182 : decode cL_law 2182 = .ok (.iload 5, 2) := by decide +kernel
theorem dL_law_2184 : decode cL_law 2184 = .ok (.ifCond .ne 15, 3) := by decide +kernel
theorem dL_law_2187 : decode cL_law 2187 = .ok (.aload_n 3, 1) := by decide +kernel
theorem dL_law_2188 : decode cL_law 2188 = .ok (.iconst 0, 1) := by decide +kernel
theorem dL_law_2189 : decode cL_law 2189 = .ok (.laload, 1) := by decide +kernel
theorem dL_law_2190 : decode cL_law 2190 = .ok (.iload 6, 2) := by decide +kernel
theorem dL_law_2192 : decode cL_law 2192 = .ok (.i2l, 1) := by decide +kernel
theorem dL_law_2193 : decode cL_law 2193 = .ok (.lcmp, 1) := by decide +kernel
theorem dL_law_2194 : decode cL_law 2194 = .ok (.ifCond .eq 5, 3) := by decide +kernel
theorem dL_law_2197 : decode cL_law 2197 = .ok (.iconst 0, 1) := by decide +kernel
theorem dL_law_2198 : decode cL_law 2198 = .ok (.ireturn, 1) := by decide +kernel
theorem dL_law_2199 : decode cL_law 2199 = .ok (.goto 1118, 3) := by decide +kernel
theorem dL_law_2202 : decode cL_law 2202 = .ok (.aload_n 1, 1) := by decide +kernel
theorem dL_law_2203 : decode cL_law 2203 = .ok (.aload_n 0, 1) := by decide +kernel
theorem dL_law_2204 : decode cL_law 2204 = .ok (.iload 4, 2) := by decide +kernel
theorem dL_law_2206 : decode cL_law 2206 = .ok (.iconst 1, 1) := by decide +kernel
theorem dL_law_2207 : decode cL_law 2207 = .ok (.iadd, 1) := by decide +kernel
theorem dL_law_2208 : decode cL_law 2208 = .ok (.iaload, 1) := by decide +kernel
theorem dL_law_2209 : decode cL_law 2209 = .ok (.aload_n 0, 1) := by decide +kernel
theorem dL_law_2210 : decode cL_law 2210 = .ok (.iload 4, 2) := by decide +kernel
theorem dL_law_2212 : decode cL_law 2212 = .ok (.iconst 2, 1) := by decide +kernel
theorem dL_law_2213 : decode cL_law 2213 = .ok (.iadd, 1) := by decide +kernel
theorem dL_law_2214 : decode cL_law 2214 = .ok (.iaload, 1) := by decide +kernel
theorem dL_law_2215 : decode cL_law 2215 = .ok (.aload_n 3, 1) := by decide +kernel
theorem dL_law_2216 : decode cL_law 2216 = .ok (.invokestatic 295, 3) := by decide +kernel
theorem dL_law_2219 : decode cL_law 2219 = .ok (.istore 5, 2) := by decide +kernel
theorem dL_law_2221 : decode cL_law 2221 = .ok (.aload_n 2, 1) := by decide +kernel
theorem dL_law_2222 : decode cL_law 2222 = .ok (.aload_n 0, 1) := by decide +kernel
theorem dL_law_2223 : decode cL_law 2223 = .ok (.iload 4, 2) := by decide +kernel
theorem dL_law_2225 : decode cL_law 2225 = .ok (.iconst 1, 1) := by decide +kernel
theorem dL_law_2226 : decode cL_law 2226 = .ok (.iadd, 1) := by decide +kernel
theorem dL_law_2227 : decode cL_law 2227 = .ok (.iaload, 1) := by decide +kernel
theorem dL_law_2228 : decode cL_law 2228 = .ok (.aload_n 0, 1) := by decide +kernel
theorem dL_law_2229 : decode cL_law 2229 = .ok (.iload 4, 2) := by decide +kernel
theorem dL_law_2231 : decode cL_law 2231 = .ok (.iconst 2, 1) := by decide +kernel
theorem dL_law_2232 : decode cL_law 2232 = .ok (.iadd, 1) := by decide +kernel
theorem dL_law_2233 : decode cL_law 2233 = .ok (.iaload, 1) := by decide +kernel
theorem dL_law_2234 : decode cL_law 2234 = .ok (.invokevirtual 297, 3) := by decide +kernel
theorem dL_law_2237 : decode cL_law 2237 = .ok (.istore 6, 2) := by decide +kernel
theorem dL_law_2239 : decode cL_law 2239 = .ok (.aload_n 2, 1) := by decide +kernel
theorem dL_law_2240 : decode cL_law 2240 = .ok (.invokevirtual 157, 3) := by decide +kernel
theorem dL_law_2243 : decode cL_law 2243 = .ok (.iload 5, 2) := by decide +kernel
theorem dL_law_2245 : decode cL_law 2245 = .ok (.if_icmp .eq 5, 3) := by decide +kernel
theorem dL_law_2248 : decode cL_law 2248 = .ok (.iconst 0, 1) := by decide +kernel
theorem dL_law_2249 : decode cL_law 2249 = .ok (.ireturn, 1) := by decide +kernel
theorem dL_law_2250 : decode cL_law 2250 = .ok (.iload 5, 2) := by decide +kernel
theorem dL_law_2252 : decode cL_law 2252 = .ok (.ifCond .ne 15, 3) := by decide +kernel
theorem dL_law_2255 : decode cL_law 2255 = .ok (.aload_n 3, 1) := by decide +kernel
theorem dL_law_2256 : decode cL_law 2256 = .ok (.iconst 0, 1) := by decide +kernel
theorem dL_law_2257 : decode cL_law 2257 = .ok (.laload, 1) := by decide +kernel
theorem dL_law_2258 : decode cL_law 2258 = .ok (.iload 6, 2) := by decide +kernel
theorem dL_law_2260 : decode cL_law 2260 = .ok (.i2l, 1) := by decide +kernel
theorem dL_law_2261 : decode cL_law 2261 = .ok (.lcmp, 1) := by decide +kernel
theorem dL_law_2262 : decode cL_law 2262 = .ok (.ifCond .eq 5, 3) := by decide +kernel
theorem dL_law_2265 : decode cL_law 2265 = .ok (.iconst 0, 1) := by decide +kernel
theorem dL_law_2266 : decode cL_law 2266 = .ok (.ireturn, 1) := by decide +kernel
theorem dL_law_2267 : decode cL_law 2267 = .ok (.goto 1050, 3) := by decide +kernel
theorem dL_law_2270 : decode cL_law 2270 = .ok (.aload_n 1, 1) := by decide +kernel
theorem dL_law_2271 : decode cL_law 2271 = .ok (.aload_n 0, 1) := by decide +kernel
theorem dL_law_2272 : decode cL_law 2272 = .ok (.iload 4, 2) := by decide +kernel
theorem dL_law_2274 : decode cL_law 2274 = .ok (.iconst 1, 1) := by decide +kernel
theorem dL_law_2275 : decode cL_law 2275 = .ok (.iadd, 1) := by decide +kernel
theorem dL_law_2276 : decode cL_law 2276 = .ok (.iaload, 1) := by decide +kernel
theorem dL_law_2277 : decode cL_law 2277 = .ok (.aload_n 3, 1) := by decide +kernel
theorem dL_law_2278 : decode cL_law 2278 = .ok (.invokestatic 298, 3) := by decide +kernel
theorem dL_law_2281 : decode cL_law 2281 = .ok (.istore 5, 2) := by decide +kernel
theorem dL_law_2283 : decode cL_law 2283 = .ok (.aload_n 2, 1) := by decide +kernel
theorem dL_law_2284 : decode cL_law 2284 = .ok (.aload_n 0, 1) := by decide +kernel
theorem dL_law_2285 : decode cL_law 2285 = .ok (.iload 4, 2) := by decide +kernel
theorem dL_law_2287 : decode cL_law 2287 = .ok (.iconst 1, 1) := by decide +kernel
theorem dL_law_2288 : decode cL_law 2288 = .ok (.iadd, 1) := by decide +kernel
theorem dL_law_2289 : decode cL_law 2289 = .ok (.iaload, 1) := by decide +kernel
theorem dL_law_2290 : decode cL_law 2290 = .ok (.invokevirtual 300, 3) := by decide +kernel
theorem dL_law_2293 : decode cL_law 2293 = .ok (.istore 6, 2) := by decide +kernel
theorem dL_law_2295 : decode cL_law 2295 = .ok (.aload_n 2, 1) := by decide +kernel
theorem dL_law_2296 : decode cL_law 2296 = .ok (.invokevirtual 157, 3) := by decide +kernel
theorem dL_law_2299 : decode cL_law 2299 = .ok (.iload 5, 2) := by decide +kernel
theorem dL_law_2301 : decode cL_law 2301 = .ok (.if_icmp .eq 5, 3) := by decide +kernel
theorem dL_law_2304 : decode cL_law 2304 = .ok (.iconst 0, 1) := by decide +kernel
theorem dL_law_2305 : decode cL_law 2305 = .ok (.ireturn, 1) := by decide +kernel
theorem dL_law_2306 : decode cL_law 2306 = .ok (.iload 5, 2) := by decide +kernel
theorem dL_law_2308 : decode cL_law 2308 = .ok (.ifCond .ne 15, 3) := by decide +kernel
theorem dL_law_2311 : decode cL_law 2311 = .ok (.aload_n 3, 1) := by decide +kernel
theorem dL_law_2312 : decode cL_law 2312 = .ok (.iconst 0, 1) := by decide +kernel
theorem dL_law_2313 : decode cL_law 2313 = .ok (.laload, 1) := by decide +kernel
theorem dL_law_2314 : decode cL_law 2314 = .ok (.iload 6, 2) := by decide +kernel
theorem dL_law_2316 : decode cL_law 2316 = .ok (.i2l, 1) := by decide +kernel
theorem dL_law_2317 : decode cL_law 2317 = .ok (.lcmp, 1) := by decide +kernel
theorem dL_law_2318 : decode cL_law 2318 = .ok (.ifCond .eq 5, 3) := by decide +kernel
theorem dL_law_2321 : decode cL_law 2321 = .ok (.iconst 0, 1) := by decide +kernel
theorem dL_law_2322 : decode cL_law 2322 = .ok (.ireturn, 1) := by decide +kernel
theorem dL_law_2323 : decode cL_law 2323 = .ok (.goto 994, 3) := by decide +kernel
theorem dL_law_2326 : decode cL_law 2326 = .ok (.aload_n 1, 1) := by decide +kernel
theorem dL_law_2327 : decode cL_law 2327 = .ok (.aload_n 0, 1) := by decide +kernel
theorem dL_law_2328 : decode cL_law 2328 = .ok (.iload 4, 2) := by decide +kernel
theorem dL_law_2330 : decode cL_law 2330 = .ok (.iconst 1, 1) := by decide +kernel
theorem dL_law_2331 : decode cL_law 2331 = .ok (.iadd, 1) := by decide +kernel
theorem dL_law_2332 : decode cL_law 2332 = .ok (.iaload, 1) := by decide +kernel
theorem dL_law_2333 : decode cL_law 2333 = .ok (.aload_n 3, 1) := by decide +kernel
theorem dL_law_2334 : decode cL_law 2334 = .ok (.invokestatic 301, 3) := by decide +kernel
theorem dL_law_2337 : decode cL_law 2337 = .ok (.istore 5, 2) := by decide +kernel
theorem dL_law_2339 : decode cL_law 2339 = .ok (.aload_n 2, 1) := by decide +kernel
theorem dL_law_2340 : decode cL_law 2340 = .ok (.aload_n 0, 1) := by decide +kernel
theorem dL_law_2341 : decode cL_law 2341 = .ok (.iload 4, 2) := by decide +kernel
theorem dL_law_2343 : decode cL_law 2343 = .ok (.iconst 1, 1) := by decide +kernel
theorem dL_law_2344 : decode cL_law 2344 = .ok (.iadd, 1) := by decide +kernel
theorem dL_law_2345 : decode cL_law 2345 = .ok (.iaload, 1) := by decide +kernel
theorem dL_law_2346 : decode cL_law 2346 = .ok (.invokevirtual 303, 3) := by decide +kernel
theorem dL_law_2349 : decode cL_law 2349 = .ok (.istore 6, 2) := by decide +kernel
theorem dL_law_2351 : decode cL_law 2351 = .ok (.aload_n 2, 1) := by decide +kernel
theorem dL_law_2352 : decode cL_law 2352 = .ok (.invokevirtual 157, 3) := by decide +kernel
theorem dL_law_2355 : decode cL_law 2355 = .ok (.iload 5, 2) := by decide +kernel
theorem dL_law_2357 : decode cL_law 2357 = .ok (.if_icmp .eq 5, 3) := by decide +kernel
theorem dL_law_2360 : decode cL_law 2360 = .ok (.iconst 0, 1) := by decide +kernel
theorem dL_law_2361 : decode cL_law 2361 = .ok (.ireturn, 1) := by decide +kernel
theorem dL_law_2362 : decode cL_law 2362 = .ok (.iload 5, 2) := by decide +kernel
theorem dL_law_2364 : decode cL_law 2364 = .ok (.ifCond .ne 15, 3) := by decide +kernel
theorem dL_law_2367 : decode cL_law 2367 = .ok (.aload_n 3, 1) := by decide +kernel
theorem dL_law_2368 : decode cL_law 2368 = .ok (.iconst 0, 1) := by decide +kernel
theorem dL_law_2369 : decode cL_law 2369 = .ok (.laload, 1) := by decide +kernel
theorem dL_law_2370 : decode cL_law 2370 = .ok (.iload 6, 2) := by decide +kernel
theorem dL_law_2372 : decode cL_law 2372 = .ok (.i2l, 1) := by decide +kernel
theorem dL_law_2373 : decode cL_law 2373 = .ok (.lcmp, 1) := by decide +kernel
theorem dL_law_2374 : decode cL_law 2374 = .ok (.ifCond .eq 5, 3) := by decide +kernel
theorem dL_law_2377 : decode cL_law 2377 = .ok (.iconst 0, 1) := by decide +kernel
theorem dL_law_2378 : decode cL_law 2378 = .ok (.ireturn, 1) := by decide +kernel
theorem dL_law_2379 : decode cL_law 2379 = .ok (.goto 938, 3) := by decide +kernel
theorem dL_law_2382 : decode cL_law 2382 = .ok (.aload_n 1, 1) := by decide +kernel
theorem dL_law_2383 : decode cL_law 2383 = .ok (.aload_n 0, 1) := by decide +kernel
theorem dL_law_2384 : decode cL_law 2384 = .ok (.iload 4, 2) := by decide +kernel
theorem dL_law_2386 : decode cL_law 2386 = .ok (.iconst 1, 1) := by decide +kernel
theorem dL_law_2387 : decode cL_law 2387 = .ok (.iadd, 1) := by decide +kernel
theorem dL_law_2388 : decode cL_law 2388 = .ok (.iaload, 1) := by decide +kernel
theorem dL_law_2389 : decode cL_law 2389 = .ok (.aload_n 3, 1) := by decide +kernel
theorem dL_law_2390 : decode cL_law 2390 = .ok (.invokestatic 304, 3) := by decide +kernel
theorem dL_law_2393 : decode cL_law 2393 = .ok (.istore 5, 2) := by decide +kernel
theorem dL_law_2395 : decode cL_law 2395 = .ok (.aload_n 2, 1) := by decide +kernel
theorem dL_law_2396 : decode cL_law 2396 = .ok (.aload_n 0, 1) := by decide +kernel
theorem dL_law_2397 : decode cL_law 2397 = .ok (.iload 4, 2) := by decide +kernel
theorem dL_law_2399 : decode cL_law 2399 = .ok (.iconst 1, 1) := by decide +kernel
theorem dL_law_2400 : decode cL_law 2400 = .ok (.iadd, 1) := by decide +kernel
theorem dL_law_2401 : decode cL_law 2401 = .ok (.iaload, 1) := by decide +kernel
theorem dL_law_2402 : decode cL_law 2402 = .ok (.invokevirtual 306, 3) := by decide +kernel
theorem dL_law_2405 : decode cL_law 2405 = .ok (.istore 6, 2) := by decide +kernel
theorem dL_law_2407 : decode cL_law 2407 = .ok (.aload_n 2, 1) := by decide +kernel
theorem dL_law_2408 : decode cL_law 2408 = .ok (.invokevirtual 157, 3) := by decide +kernel
theorem dL_law_2411 : decode cL_law 2411 = .ok (.iload 5, 2) := by decide +kernel
theorem dL_law_2413 : decode cL_law 2413 = .ok (.if_icmp .eq 5, 3) := by decide +kernel
theorem dL_law_2416 : decode cL_law 2416 = .ok (.iconst 0, 1) := by decide +kernel
theorem dL_law_2417 : decode cL_law 2417 = .ok (.ireturn, 1) := by decide +kernel
theorem dL_law_2418 : decode cL_law 2418 = .ok (.iload 5, 2) := by decide +kernel
theorem dL_law_2420 : decode cL_law 2420 = .ok (.ifCond .ne 15, 3) := by decide +kernel
theorem dL_law_2423 : decode cL_law 2423 = .ok (.aload_n 3, 1) := by decide +kernel
theorem dL_law_2424 : decode cL_law 2424 = .ok (.iconst 0, 1) := by decide +kernel
theorem dL_law_2425 : decode cL_law 2425 = .ok (.laload, 1) := by decide +kernel
theorem dL_law_2426 : decode cL_law 2426 = .ok (.iload 6, 2) := by decide +kernel
theorem dL_law_2428 : decode cL_law 2428 = .ok (.i2l, 1) := by decide +kernel
theorem dL_law_2429 : decode cL_law 2429 = .ok (.lcmp, 1) := by decide +kernel
theorem dL_law_2430 : decode cL_law 2430 = .ok (.ifCond .eq 5, 3) := by decide +kernel
theorem dL_law_2433 : decode cL_law 2433 = .ok (.iconst 0, 1) := by decide +kernel
theorem dL_law_2434 : decode cL_law 2434 = .ok (.ireturn, 1) := by decide +kernel
theorem dL_law_2435 : decode cL_law 2435 = .ok (.goto 882, 3) := by decide +kernel
theorem dL_law_2438 : decode cL_law 2438 = .ok (.aload_n 1, 1) := by decide +kernel
theorem dL_law_2439 : decode cL_law 2439 = .ok (.aload_n 0, 1) := by decide +kernel
theorem dL_law_2440 : decode cL_law 2440 = .ok (.iload 4, 2) := by decide +kernel
theorem dL_law_2442 : decode cL_law 2442 = .ok (.iconst 1, 1) := by decide +kernel
theorem dL_law_2443 : decode cL_law 2443 = .ok (.iadd, 1) := by decide +kernel
theorem dL_law_2444 : decode cL_law 2444 = .ok (.iaload, 1) := by decide +kernel
theorem dL_law_2445 : decode cL_law 2445 = .ok (.aload_n 0, 1) := by decide +kernel
theorem dL_law_2446 : decode cL_law 2446 = .ok (.iload 4, 2) := by decide +kernel
theorem dL_law_2448 : decode cL_law 2448 = .ok (.iconst 2, 1) := by decide +kernel
theorem dL_law_2449 : decode cL_law 2449 = .ok (.iadd, 1) := by decide +kernel
theorem dL_law_2450 : decode cL_law 2450 = .ok (.iaload, 1) := by decide +kernel
theorem dL_law_2451 : decode cL_law 2451 = .ok (.aload_n 3, 1) := by decide +kernel
theorem dL_law_2452 : decode cL_law 2452 = .ok (.invokestatic 307, 3) := by decide +kernel
theorem dL_law_2455 : decode cL_law 2455 = .ok (.istore 5, 2) := by decide +kernel
theorem dL_law_2457 : decode cL_law 2457 = .ok (.aload_n 2, 1) := by decide +kernel
theorem dL_law_2458 : decode cL_law 2458 = .ok (.aload_n 0, 1) := by decide +kernel
theorem dL_law_2459 : decode cL_law 2459 = .ok (.iload 4, 2) := by decide +kernel
theorem dL_law_2461 : decode cL_law 2461 = .ok (.iconst 1, 1) := by decide +kernel
theorem dL_law_2462 : decode cL_law 2462 = .ok (.iadd, 1) := by decide +kernel
theorem dL_law_2463 : decode cL_law 2463 = .ok (.iaload, 1) := by decide +kernel
theorem dL_law_2464 : decode cL_law 2464 = .ok (.aload_n 0, 1) := by decide +kernel
theorem dL_law_2465 : decode cL_law 2465 = .ok (.iload 4, 2) := by decide +kernel
theorem dL_law_2467 : decode cL_law 2467 = .ok (.iconst 2, 1) := by decide +kernel
theorem dL_law_2468 : decode cL_law 2468 = .ok (.iadd, 1) := by decide +kernel
theorem dL_law_2469 : decode cL_law 2469 = .ok (.iaload, 1) := by decide +kernel
theorem dL_law_2470 : decode cL_law 2470 = .ok (.invokevirtual 309, 3) := by decide +kernel
theorem dL_law_2473 : decode cL_law 2473 = .ok (.istore 6, 2) := by decide +kernel
theorem dL_law_2475 : decode cL_law 2475 = .ok (.aload_n 2, 1) := by decide +kernel
theorem dL_law_2476 : decode cL_law 2476 = .ok (.invokevirtual 157, 3) := by decide +kernel
theorem dL_law_2479 : decode cL_law 2479 = .ok (.iload 5, 2) := by decide +kernel
theorem dL_law_2481 : decode cL_law 2481 = .ok (.if_icmp .eq 5, 3) := by decide +kernel
theorem dL_law_2484 : decode cL_law 2484 = .ok (.iconst 0, 1) := by decide +kernel
theorem dL_law_2485 : decode cL_law 2485 = .ok (.ireturn, 1) := by decide +kernel
theorem dL_law_2486 : decode cL_law 2486 = .ok (.iload 5, 2) := by decide +kernel
theorem dL_law_2488 : decode cL_law 2488 = .ok (.ifCond .ne 15, 3) := by decide +kernel
theorem dL_law_2491 : decode cL_law 2491 = .ok (.aload_n 3, 1) := by decide +kernel
theorem dL_law_2492 : decode cL_law 2492 = .ok (.iconst 0, 1) := by decide +kernel
theorem dL_law_2493 : decode cL_law 2493 = .ok (.laload, 1) := by decide +kernel
theorem dL_law_2494 : decode cL_law 2494 = .ok (.iload 6, 2) := by decide +kernel
theorem dL_law_2496 : decode cL_law 2496 = .ok (.i2l, 1) := by decide +kernel
theorem dL_law_2497 : decode cL_law 2497 = .ok (.lcmp, 1) := by decide +kernel
theorem dL_law_2498 : decode cL_law 2498 = .ok (.ifCond .eq 5, 3) := by decide +kernel
theorem dL_law_2501 : decode cL_law 2501 = .ok (.iconst 0, 1) := by decide +kernel
theorem dL_law_2502 : decode cL_law 2502 = .ok (.ireturn, 1) := by decide +kernel
theorem dL_law_2503 : decode cL_law 2503 = .ok (.goto 814, 3) := by decide +kernel
theorem dL_law_2506 : decode cL_law 2506 = .ok (.aload_n 1, 1) := by decide +kernel
theorem dL_law_2507 : decode cL_law 2507 = .ok (.aload_n 0, 1) := by decide +kernel
theorem dL_law_2508 : decode cL_law 2508 = .ok (.iload 4, 2) := by decide +kernel
theorem dL_law_2510 : decode cL_law 2510 = .ok (.iconst 1, 1) := by decide +kernel
theorem dL_law_2511 : decode cL_law 2511 = .ok (.iadd, 1) := by decide +kernel
theorem dL_law_2512 : decode cL_law 2512 = .ok (.iaload, 1) := by decide +kernel
theorem dL_law_2513 : decode cL_law 2513 = .ok (.aload_n 0, 1) := by decide +kernel
theorem dL_law_2514 : decode cL_law 2514 = .ok (.iload 4, 2) := by decide +kernel
theorem dL_law_2516 : decode cL_law 2516 = .ok (.iconst 2, 1) := by decide +kernel
theorem dL_law_2517 : decode cL_law 2517 = .ok (.iadd, 1) := by decide +kernel
theorem dL_law_2518 : decode cL_law 2518 = .ok (.iaload, 1) := by decide +kernel
theorem dL_law_2519 : decode cL_law 2519 = .ok (.aload_n 3, 1) := by decide +kernel
theorem dL_law_2520 : decode cL_law 2520 = .ok (.invokestatic 310, 3) := by decide +kernel
theorem dL_law_2523 : decode cL_law 2523 = .ok (.istore 5, 2) := by decide +kernel
theorem dL_law_2525 : decode cL_law 2525 = .ok (.aload_n 2, 1) := by decide +kernel
theorem dL_law_2526 : decode cL_law 2526 = .ok (.aload_n 0, 1) := by decide +kernel
theorem dL_law_2527 : decode cL_law 2527 = .ok (.iload 4, 2) := by decide +kernel
theorem dL_law_2529 : decode cL_law 2529 = .ok (.iconst 1, 1) := by decide +kernel
theorem dL_law_2530 : decode cL_law 2530 = .ok (.iadd, 1) := by decide +kernel
theorem dL_law_2531 : decode cL_law 2531 = .ok (.iaload, 1) := by decide +kernel
theorem dL_law_2532 : decode cL_law 2532 = .ok (.aload_n 0, 1) := by decide +kernel
theorem dL_law_2533 : decode cL_law 2533 = .ok (.iload 4, 2) := by decide +kernel
theorem dL_law_2535 : decode cL_law 2535 = .ok (.iconst 2, 1) := by decide +kernel
theorem dL_law_2536 : decode cL_law 2536 = .ok (.iadd, 1) := by decide +kernel
theorem dL_law_2537 : decode cL_law 2537 = .ok (.iaload, 1) := by decide +kernel
theorem dL_law_2538 : decode cL_law 2538 = .ok (.invokevirtual 312, 3) := by decide +kernel
theorem dL_law_2541 : decode cL_law 2541 = .ok (.istore 6, 2) := by decide +kernel
theorem dL_law_2543 : decode cL_law 2543 = .ok (.aload_n 2, 1) := by decide +kernel
theorem dL_law_2544 : decode cL_law 2544 = .ok (.invokevirtual 157, 3) := by decide +kernel
theorem dL_law_2547 : decode cL_law 2547 = .ok (.iload 5, 2) := by decide +kernel
theorem dL_law_2549 : decode cL_law 2549 = .ok (.if_icmp .eq 5, 3) := by decide +kernel
theorem dL_law_2552 : decode cL_law 2552 = .ok (.iconst 0, 1) := by decide +kernel
theorem dL_law_2553 : decode cL_law 2553 = .ok (.ireturn, 1) := by decide +kernel
theorem dL_law_2554 : decode cL_law 2554 = .ok (.iload 5, 2) := by decide +kernel
theorem dL_law_2556 : decode cL_law 2556 = .ok (.ifCond .ne 15, 3) := by decide +kernel
theorem dL_law_2559 : decode cL_law 2559 = .ok (.aload_n 3, 1) := by decide +kernel
theorem dL_law_2560 : decode cL_law 2560 = .ok (.iconst 0, 1) := by decide +kernel
theorem dL_law_2561 : decode cL_law 2561 = .ok (.laload, 1) := by decide +kernel
theorem dL_law_2562 : decode cL_law 2562 = .ok (.iload 6, 2) := by decide +kernel
theorem dL_law_2564 : decode cL_law 2564 = .ok (.i2l, 1) := by decide +kernel
theorem dL_law_2565 : decode cL_law 2565 = .ok (.lcmp, 1) := by decide +kernel
theorem dL_law_2566 : decode cL_law 2566 = .ok (.ifCond .eq 5, 3) := by decide +kernel
theorem dL_law_2569 : decode cL_law 2569 = .ok (.iconst 0, 1) := by decide +kernel
theorem dL_law_2570 : decode cL_law 2570 = .ok (.ireturn, 1) := by decide +kernel
theorem dL_law_2571 : decode cL_law 2571 = .ok (.goto 746, 3) := by decide +kernel
theorem dL_law_2574 : decode cL_law 2574 = .ok (.aload_n 1, 1) := by decide +kernel
theorem dL_law_2575 : decode cL_law 2575 = .ok (.aload_n 0, 1) := by decide +kernel
theorem dL_law_2576 : decode cL_law 2576 = .ok (.iload 4, 2) := by decide +kernel
theorem dL_law_2578 : decode cL_law 2578 = .ok (.iconst 1, 1) := by decide +kernel
theorem dL_law_2579 : decode cL_law 2579 = .ok (.iadd, 1) := by decide +kernel
theorem dL_law_2580 : decode cL_law 2580 = .ok (.iaload, 1) := by decide +kernel
theorem dL_law_2581 : decode cL_law 2581 = .ok (.aload_n 0, 1) := by decide +kernel
theorem dL_law_2582 : decode cL_law 2582 = .ok (.iload 4, 2) := by decide +kernel
theorem dL_law_2584 : decode cL_law 2584 = .ok (.iconst 2, 1) := by decide +kernel
theorem dL_law_2585 : decode cL_law 2585 = .ok (.iadd, 1) := by decide +kernel
theorem dL_law_2586 : decode cL_law 2586 = .ok (.iaload, 1) := by decide +kernel
theorem dL_law_2587 : decode cL_law 2587 = .ok (.aload_n 0, 1) := by decide +kernel
theorem dL_law_2588 : decode cL_law 2588 = .ok (.iload 4, 2) := by decide +kernel
theorem dL_law_2590 : decode cL_law 2590 = .ok (.iconst 3, 1) := by decide +kernel
theorem dL_law_2591 : decode cL_law 2591 = .ok (.iadd, 1) := by decide +kernel
theorem dL_law_2592 : decode cL_law 2592 = .ok (.iaload, 1) := by decide +kernel
theorem dL_law_2593 : decode cL_law 2593 = .ok (.ifCond .eq 7, 3) := by decide +kernel
theorem dL_law_2596 : decode cL_law 2596 = .ok (.iconst 1, 1) := by decide +kernel
theorem dL_law_2597 : decode cL_law 2597 = .ok (.goto 4, 3) := by decide +kernel
theorem dL_law_2600 : decode cL_law 2600 = .ok (.iconst 0, 1) := by decide +kernel
theorem dL_law_2601 : decode cL_law 2601 = .ok (.aload_n 3, 1) := by decide +kernel
theorem dL_law_2602 : decode cL_law 2602 = .ok (.invokestatic 313, 3) := by decide +kernel
theorem dL_law_2605 : decode cL_law 2605 = .ok (.istore 5, 2) := by decide +kernel
theorem dL_law_2607 : decode cL_law 2607 = .ok (.aload_n 2, 1) := by decide +kernel
theorem dL_law_2608 : decode cL_law 2608 = .ok (.aload_n 0, 1) := by decide +kernel
theorem dL_law_2609 : decode cL_law 2609 = .ok (.iload 4, 2) := by decide +kernel
theorem dL_law_2611 : decode cL_law 2611 = .ok (.iconst 1, 1) := by decide +kernel
theorem dL_law_2612 : decode cL_law 2612 = .ok (.iadd, 1) := by decide +kernel
theorem dL_law_2613 : decode cL_law 2613 = .ok (.iaload, 1) := by decide +kernel
theorem dL_law_2614 : decode cL_law 2614 = .ok (.aload_n 0, 1) := by decide +kernel
theorem dL_law_2615 : decode cL_law 2615 = .ok (.iload 4, 2) := by decide +kernel
theorem dL_law_2617 : decode cL_law 2617 = .ok (.iconst 2, 1) := by decide +kernel
theorem dL_law_2618 : decode cL_law 2618 = .ok (.iadd, 1) := by decide +kernel
theorem dL_law_2619 : decode cL_law 2619 = .ok (.iaload, 1) := by decide +kernel
theorem dL_law_2620 : decode cL_law 2620 = .ok (.aload_n 0, 1) := by decide +kernel
theorem dL_law_2621 : decode cL_law 2621 = .ok (.iload 4, 2) := by decide +kernel
theorem dL_law_2623 : decode cL_law 2623 = .ok (.iconst 3, 1) := by decide +kernel
theorem dL_law_2624 : decode cL_law 2624 = .ok (.iadd, 1) := by decide +kernel
theorem dL_law_2625 : decode cL_law 2625 = .ok (.iaload, 1) := by decide +kernel
theorem dL_law_2626 : decode cL_law 2626 = .ok (.ifCond .eq 7, 3) := by decide +kernel
theorem dL_law_2629 : decode cL_law 2629 = .ok (.iconst 1, 1) := by decide +kernel
theorem dL_law_2630 : decode cL_law 2630 = .ok (.goto 4, 3) := by decide +kernel
theorem dL_law_2633 : decode cL_law 2633 = .ok (.iconst 0, 1) := by decide +kernel
theorem dL_law_2634 : decode cL_law 2634 = .ok (.invokevirtual 315, 3) := by decide +kernel
theorem dL_law_2637 : decode cL_law 2637 = .ok (.istore 6, 2) := by decide +kernel
theorem dL_law_2639 : decode cL_law 2639 = .ok (.aload_n 2, 1) := by decide +kernel
theorem dL_law_2640 : decode cL_law 2640 = .ok (.invokevirtual 157, 3) := by decide +kernel
theorem dL_law_2643 : decode cL_law 2643 = .ok (.iload 5, 2) := by decide +kernel
theorem dL_law_2645 : decode cL_law 2645 = .ok (.if_icmp .eq 5, 3) := by decide +kernel
theorem dL_law_2648 : decode cL_law 2648 = .ok (.iconst 0, 1) := by decide +kernel
theorem dL_law_2649 : decode cL_law 2649 = .ok (.ireturn, 1) := by decide +kernel
theorem dL_law_2650 : decode cL_law 2650 = .ok (.iload 5, 2) := by decide +kernel
theorem dL_law_2652 : decode cL_law 2652 = .ok (.ifCond .ne 15, 3) := by decide +kernel
theorem dL_law_2655 : decode cL_law 2655 = .ok (.aload_n 3, 1) := by decide +kernel
theorem dL_law_2656 : decode cL_law 2656 = .ok (.iconst 0, 1) := by decide +kernel
theorem dL_law_2657 : decode cL_law 2657 = .ok (.laload, 1) := by decide +kernel
theorem dL_law_2658 : decode cL_law 2658 = .ok (.iload 6, 2) := by decide +kernel
theorem dL_law_2660 : decode cL_law 2660 = .ok (.i2l, 1) := by decide +kernel
theorem dL_law_2661 : decode cL_law 2661 = .ok (.lcmp, 1) := by decide +kernel
theorem dL_law_2662 : decode cL_law 2662 = .ok (.ifCond .eq 5, 3) := by decide +kernel
theorem dL_law_2665 : decode cL_law 2665 = .ok (.iconst 0, 1) := by decide +kernel
theorem dL_law_2666 : decode cL_law 2666 = .ok (.ireturn, 1) := by decide +kernel
theorem dL_law_2667 : decode cL_law 2667 = .ok (.goto 650, 3) := by decide +kernel
theorem dL_law_2670 : decode cL_law 2670 = .ok (.aload_n 1, 1) := by decide +kernel
theorem dL_law_2671 : decode cL_law 2671 = .ok (.aload_n 0, 1) := by decide +kernel
theorem dL_law_2672 : decode cL_law 2672 = .ok (.iload 4, 2) := by decide +kernel
theorem dL_law_2674 : decode cL_law 2674 = .ok (.iconst 1, 1) := by decide +kernel
theorem dL_law_2675 : decode cL_law 2675 = .ok (.iadd, 1) := by decide +kernel
theorem dL_law_2676 : decode cL_law 2676 = .ok (.iaload, 1) := by decide +kernel
theorem dL_law_2677 : decode cL_law 2677 = .ok (.aload_n 0, 1) := by decide +kernel
theorem dL_law_2678 : decode cL_law 2678 = .ok (.iload 4, 2) := by decide +kernel
theorem dL_law_2680 : decode cL_law 2680 = .ok (.iconst 2, 1) := by decide +kernel
theorem dL_law_2681 : decode cL_law 2681 = .ok (.iadd, 1) := by decide +kernel
theorem dL_law_2682 : decode cL_law 2682 = .ok (.iaload, 1) := by decide +kernel
theorem dL_law_2683 : decode cL_law 2683 = .ok (.aload_n 3, 1) := by decide +kernel
theorem dL_law_2684 : decode cL_law 2684 = .ok (.invokestatic 316, 3) := by decide +kernel
theorem dL_law_2687 : decode cL_law 2687 = .ok (.istore 5, 2) := by decide +kernel
theorem dL_law_2689 : decode cL_law 2689 = .ok (.aload_n 2, 1) := by decide +kernel
theorem dL_law_2690 : decode cL_law 2690 = .ok (.aload_n 0, 1) := by decide +kernel
theorem dL_law_2691 : decode cL_law 2691 = .ok (.iload 4, 2) := by decide +kernel
theorem dL_law_2693 : decode cL_law 2693 = .ok (.iconst 1, 1) := by decide +kernel
theorem dL_law_2694 : decode cL_law 2694 = .ok (.iadd, 1) := by decide +kernel
theorem dL_law_2695 : decode cL_law 2695 = .ok (.iaload, 1) := by decide +kernel
theorem dL_law_2696 : decode cL_law 2696 = .ok (.aload_n 0, 1) := by decide +kernel
theorem dL_law_2697 : decode cL_law 2697 = .ok (.iload 4, 2) := by decide +kernel
theorem dL_law_2699 : decode cL_law 2699 = .ok (.iconst 2, 1) := by decide +kernel
theorem dL_law_2700 : decode cL_law 2700 = .ok (.iadd, 1) := by decide +kernel
theorem dL_law_2701 : decode cL_law 2701 = .ok (.iaload, 1) := by decide +kernel
theorem dL_law_2702 : decode cL_law 2702 = .ok (.invokevirtual 318, 3) := by decide +kernel
theorem dL_law_2705 : decode cL_law 2705 = .ok (.istore 6, 2) := by decide +kernel
theorem dL_law_2707 : decode cL_law 2707 = .ok (.aload_n 2, 1) := by decide +kernel
theorem dL_law_2708 : decode cL_law 2708 = .ok (.invokevirtual 157, 3) := by decide +kernel
theorem dL_law_2711 : decode cL_law 2711 = .ok (.iload 5, 2) := by decide +kernel
theorem dL_law_2713 : decode cL_law 2713 = .ok (.if_icmp .eq 5, 3) := by decide +kernel
theorem dL_law_2716 : decode cL_law 2716 = .ok (.iconst 0, 1) := by decide +kernel
theorem dL_law_2717 : decode cL_law 2717 = .ok (.ireturn, 1) := by decide +kernel
theorem dL_law_2718 : decode cL_law 2718 = .ok (.iload 5, 2) := by decide +kernel
theorem dL_law_2720 : decode cL_law 2720 = .ok (.ifCond .ne 15, 3) := by decide +kernel
theorem dL_law_2723 : decode cL_law 2723 = .ok (.aload_n 3, 1) := by decide +kernel
theorem dL_law_2724 : decode cL_law 2724 = .ok (.iconst 0, 1) := by decide +kernel
theorem dL_law_2725 : decode cL_law 2725 = .ok (.laload, 1) := by decide +kernel
theorem dL_law_2726 : decode cL_law 2726 = .ok (.iload 6, 2) := by decide +kernel
theorem dL_law_2728 : decode cL_law 2728 = .ok (.i2l, 1) := by decide +kernel
theorem dL_law_2729 : decode cL_law 2729 = .ok (.lcmp, 1) := by decide +kernel
theorem dL_law_2730 : decode cL_law 2730 = .ok (.ifCond .eq 5, 3) := by decide +kernel
theorem dL_law_2733 : decode cL_law 2733 = .ok (.iconst 0, 1) := by decide +kernel
theorem dL_law_2734 : decode cL_law 2734 = .ok (.ireturn, 1) := by decide +kernel
theorem dL_law_2735 : decode cL_law 2735 = .ok (.goto 582, 3) := by decide +kernel
theorem dL_law_2738 : decode cL_law 2738 = .ok (.aload_n 1, 1) := by decide +kernel
theorem dL_law_2739 : decode cL_law 2739 = .ok (.aload_n 0, 1) := by decide +kernel
theorem dL_law_2740 : decode cL_law 2740 = .ok (.iload 4, 2) := by decide +kernel
theorem dL_law_2742 : decode cL_law 2742 = .ok (.iconst 1, 1) := by decide +kernel
theorem dL_law_2743 : decode cL_law 2743 = .ok (.iadd, 1) := by decide +kernel
theorem dL_law_2744 : decode cL_law 2744 = .ok (.iaload, 1) := by decide +kernel
theorem dL_law_2745 : decode cL_law 2745 = .ok (.aload_n 0, 1) := by decide +kernel
theorem dL_law_2746 : decode cL_law 2746 = .ok (.iload 4, 2) := by decide +kernel
theorem dL_law_2748 : decode cL_law 2748 = .ok (.iconst 2, 1) := by decide +kernel
theorem dL_law_2749 : decode cL_law 2749 = .ok (.iadd, 1) := by decide +kernel
theorem dL_law_2750 : decode cL_law 2750 = .ok (.iaload, 1) := by decide +kernel
theorem dL_law_2751 : decode cL_law 2751 = .ok (.aload_n 0, 1) := by decide +kernel
theorem dL_law_2752 : decode cL_law 2752 = .ok (.iload 4, 2) := by decide +kernel
theorem dL_law_2754 : decode cL_law 2754 = .ok (.iconst 3, 1) := by decide +kernel
theorem dL_law_2755 : decode cL_law 2755 = .ok (.iadd, 1) := by decide +kernel
theorem dL_law_2756 : decode cL_law 2756 = .ok (.iaload, 1) := by decide +kernel
theorem dL_law_2757 : decode cL_law 2757 = .ok (.aload_n 3, 1) := by decide +kernel
theorem dL_law_2758 : decode cL_law 2758 = .ok (.invokestatic 319, 3) := by decide +kernel
theorem dL_law_2761 : decode cL_law 2761 = .ok (.istore 5, 2) := by decide +kernel
theorem dL_law_2763 : decode cL_law 2763 = .ok (.aload_n 2, 1) := by decide +kernel
theorem dL_law_2764 : decode cL_law 2764 = .ok (.aload_n 0, 1) := by decide +kernel
theorem dL_law_2765 : decode cL_law 2765 = .ok (.iload 4, 2) := by decide +kernel
theorem dL_law_2767 : decode cL_law 2767 = .ok (.iconst 1, 1) := by decide +kernel
theorem dL_law_2768 : decode cL_law 2768 = .ok (.iadd, 1) := by decide +kernel
theorem dL_law_2769 : decode cL_law 2769 = .ok (.iaload, 1) := by decide +kernel
theorem dL_law_2770 : decode cL_law 2770 = .ok (.aload_n 0, 1) := by decide +kernel
theorem dL_law_2771 : decode cL_law 2771 = .ok (.iload 4, 2) := by decide +kernel
theorem dL_law_2773 : decode cL_law 2773 = .ok (.iconst 2, 1) := by decide +kernel
theorem dL_law_2774 : decode cL_law 2774 = .ok (.iadd, 1) := by decide +kernel
theorem dL_law_2775 : decode cL_law 2775 = .ok (.iaload, 1) := by decide +kernel
theorem dL_law_2776 : decode cL_law 2776 = .ok (.aload_n 0, 1) := by decide +kernel
theorem dL_law_2777 : decode cL_law 2777 = .ok (.iload 4, 2) := by decide +kernel
theorem dL_law_2779 : decode cL_law 2779 = .ok (.iconst 3, 1) := by decide +kernel
theorem dL_law_2780 : decode cL_law 2780 = .ok (.iadd, 1) := by decide +kernel
theorem dL_law_2781 : decode cL_law 2781 = .ok (.iaload, 1) := by decide +kernel
theorem dL_law_2782 : decode cL_law 2782 = .ok (.invokevirtual 321, 3) := by decide +kernel
theorem dL_law_2785 : decode cL_law 2785 = .ok (.istore 6, 2) := by decide +kernel
theorem dL_law_2787 : decode cL_law 2787 = .ok (.aload_n 2, 1) := by decide +kernel
theorem dL_law_2788 : decode cL_law 2788 = .ok (.invokevirtual 157, 3) := by decide +kernel
theorem dL_law_2791 : decode cL_law 2791 = .ok (.iload 5, 2) := by decide +kernel
theorem dL_law_2793 : decode cL_law 2793 = .ok (.if_icmp .eq 5, 3) := by decide +kernel
theorem dL_law_2796 : decode cL_law 2796 = .ok (.iconst 0, 1) := by decide +kernel
theorem dL_law_2797 : decode cL_law 2797 = .ok (.ireturn, 1) := by decide +kernel
theorem dL_law_2798 : decode cL_law 2798 = .ok (.iload 5, 2) := by decide +kernel
theorem dL_law_2800 : decode cL_law 2800 = .ok (.ifCond .ne 22, 3) := by decide +kernel
theorem dL_law_2803 : decode cL_law 2803 = .ok (.aload_n 3, 1) := by decide +kernel
theorem dL_law_2804 : decode cL_law 2804 = .ok (.iconst 0, 1) := by decide +kernel
theorem dL_law_2805 : decode cL_law 2805 = .ok (.laload, 1) := by decide +kernel
theorem dL_law_2806 : decode cL_law 2806 = .ok (.iload 6, 2) := by decide +kernel
theorem dL_law_2808 : decode cL_law 2808 = .ok (.ifCond .eq 7, 3) := by decide +kernel
theorem dL_law_2811 : decode cL_law 2811 = .ok (.lconst 1, 1) := by decide +kernel
theorem dL_law_2812 : decode cL_law 2812 = .ok (.goto 4, 3) := by decide +kernel
theorem dL_law_2815 : decode cL_law 2815 = .ok (.lconst 0, 1) := by decide +kernel
theorem dL_law_2816 : decode cL_law 2816 = .ok (.lcmp, 1) := by decide +kernel
theorem dL_law_2817 : decode cL_law 2817 = .ok (.ifCond .eq 5, 3) := by decide +kernel
theorem dL_law_2820 : decode cL_law 2820 = .ok (.iconst 0, 1) := by decide +kernel
theorem dL_law_2821 : decode cL_law 2821 = .ok (.ireturn, 1) := by decide +kernel
theorem dL_law_2822 : decode cL_law 2822 = .ok (.goto 495, 3) := by decide +kernel
theorem dL_law_2825 : decode cL_law 2825 = .ok (.aload_n 1, 1) := by decide +kernel
theorem dL_law_2826 : decode cL_law 2826 = .ok (.aload_n 0, 1) := by decide +kernel
theorem dL_law_2827 : decode cL_law 2827 = .ok (.iload 4, 2) := by decide +kernel
theorem dL_law_2829 : decode cL_law 2829 = .ok (.iconst 1, 1) := by decide +kernel
theorem dL_law_2830 : decode cL_law 2830 = .ok (.iadd, 1) := by decide +kernel
theorem dL_law_2831 : decode cL_law 2831 = .ok (.iaload, 1) := by decide +kernel
theorem dL_law_2832 : decode cL_law 2832 = .ok (.aload_n 0, 1) := by decide +kernel
theorem dL_law_2833 : decode cL_law 2833 = .ok (.iload 4, 2) := by decide +kernel
theorem dL_law_2835 : decode cL_law 2835 = .ok (.iconst 2, 1) := by decide +kernel
theorem dL_law_2836 : decode cL_law 2836 = .ok (.iadd, 1) := by decide +kernel
theorem dL_law_2837 : decode cL_law 2837 = .ok (.iaload, 1) := by decide +kernel
theorem dL_law_2838 : decode cL_law 2838 = .ok (.aload_n 3, 1) := by decide +kernel
theorem dL_law_2839 : decode cL_law 2839 = .ok (.invokestatic 322, 3) := by decide +kernel
theorem dL_law_2842 : decode cL_law 2842 = .ok (.istore 5, 2) := by decide +kernel
theorem dL_law_2844 : decode cL_law 2844 = .ok (.aload_n 2, 1) := by decide +kernel
theorem dL_law_2845 : decode cL_law 2845 = .ok (.aload_n 0, 1) := by decide +kernel
theorem dL_law_2846 : decode cL_law 2846 = .ok (.iload 4, 2) := by decide +kernel
theorem dL_law_2848 : decode cL_law 2848 = .ok (.iconst 1, 1) := by decide +kernel
theorem dL_law_2849 : decode cL_law 2849 = .ok (.iadd, 1) := by decide +kernel
theorem dL_law_2850 : decode cL_law 2850 = .ok (.iaload, 1) := by decide +kernel
theorem dL_law_2851 : decode cL_law 2851 = .ok (.aload_n 0, 1) := by decide +kernel
theorem dL_law_2852 : decode cL_law 2852 = .ok (.iload 4, 2) := by decide +kernel
theorem dL_law_2854 : decode cL_law 2854 = .ok (.iconst 2, 1) := by decide +kernel
theorem dL_law_2855 : decode cL_law 2855 = .ok (.iadd, 1) := by decide +kernel
theorem dL_law_2856 : decode cL_law 2856 = .ok (.iaload, 1) := by decide +kernel
theorem dL_law_2857 : decode cL_law 2857 = .ok (.invokevirtual 324, 3) := by decide +kernel
theorem dL_law_2860 : decode cL_law 2860 = .ok (.istore 6, 2) := by decide +kernel
theorem dL_law_2862 : decode cL_law 2862 = .ok (.aload_n 2, 1) := by decide +kernel
theorem dL_law_2863 : decode cL_law 2863 = .ok (.invokevirtual 157, 3) := by decide +kernel
theorem dL_law_2866 : decode cL_law 2866 = .ok (.iload 5, 2) := by decide +kernel
theorem dL_law_2868 : decode cL_law 2868 = .ok (.if_icmp .eq 5, 3) := by decide +kernel
theorem dL_law_2871 : decode cL_law 2871 = .ok (.iconst 0, 1) := by decide +kernel
theorem dL_law_2872 : decode cL_law 2872 = .ok (.ireturn, 1) := by decide +kernel
theorem dL_law_2873 : decode cL_law 2873 = .ok (.iload 5, 2) := by decide +kernel
theorem dL_law_2875 : decode cL_law 2875 = .ok (.ifCond .ne 15, 3) := by decide +kernel
theorem dL_law_2878 : decode cL_law 2878 = .ok (.aload_n 3, 1) := by decide +kernel
theorem dL_law_2879 : decode cL_law 2879 = .ok (.iconst 0, 1) := by decide +kernel
theorem dL_law_2880 : decode cL_law 2880 = .ok (.laload, 1) := by decide +kernel
theorem dL_law_2881 : decode cL_law 2881 = .ok (.iload 6, 2) := by decide +kernel
theorem dL_law_2883 : decode cL_law 2883 = .ok (.i2l, 1) := by decide +kernel
theorem dL_law_2884 : decode cL_law 2884 = .ok (.lcmp, 1) := by decide +kernel
theorem dL_law_2885 : decode cL_law 2885 = .ok (.ifCond .eq 5, 3) := by decide +kernel
theorem dL_law_2888 : decode cL_law 2888 = .ok (.iconst 0, 1) := by decide +kernel
theorem dL_law_2889 : decode cL_law 2889 = .ok (.ireturn, 1) := by decide +kernel
theorem dL_law_2890 : decode cL_law 2890 = .ok (.goto 427, 3) := by decide +kernel
theorem dL_law_2893 : decode cL_law 2893 = .ok (.aload_n 1, 1) := by decide +kernel
theorem dL_law_2894 : decode cL_law 2894 = .ok (.invokevirtual 325, 3) := by decide +kernel
theorem dL_law_2897 : decode cL_law 2897 = .ok (.aload_n 2, 1) := by decide +kernel
theorem dL_law_2898 : decode cL_law 2898 = .ok (.invokevirtual 328, 3) := by decide +kernel
theorem dL_law_2901 : decode cL_law 2901 = .ok (.if_icmp .eq 416, 3) := by decide +kernel
theorem dL_law_2904 : decode cL_law 2904 = .ok (.iconst 0, 1) := by decide +kernel
theorem dL_law_2905 : decode cL_law 2905 = .ok (.ireturn, 1) := by decide +kernel
theorem dL_law_2906 : decode cL_law 2906 = .ok (.aload_n 1, 1) := by decide +kernel
theorem dL_law_2907 : decode cL_law 2907 = .ok (.invokevirtual 329, 3) := by decide +kernel
theorem dL_law_2910 : decode cL_law 2910 = .ok (.aload_n 2, 1) := by decide +kernel
theorem dL_law_2911 : decode cL_law 2911 = .ok (.invokevirtual 332, 3) := by decide +kernel
theorem dL_law_2914 : decode cL_law 2914 = .ok (.if_icmp .eq 403, 3) := by decide +kernel
theorem dL_law_2917 : decode cL_law 2917 = .ok (.iconst 0, 1) := by decide +kernel
theorem dL_law_2918 : decode cL_law 2918 = .ok (.ireturn, 1) := by decide +kernel
theorem dL_law_2919 : decode cL_law 2919 = .ok (.aload_n 1, 1) := by decide +kernel
theorem dL_law_2920 : decode cL_law 2920 = .ok (.invokevirtual 333, 3) := by decide +kernel
theorem dL_law_2923 : decode cL_law 2923 = .ok (.aload_n 2, 1) := by decide +kernel
theorem dL_law_2924 : decode cL_law 2924 = .ok (.invokevirtual 336, 3) := by decide +kernel
theorem dL_law_2927 : decode cL_law 2927 = .ok (.if_icmp .eq 390, 3) := by decide +kernel
theorem dL_law_2930 : decode cL_law 2930 = .ok (.iconst 0, 1) := by decide +kernel
theorem dL_law_2931 : decode cL_law 2931 = .ok (.ireturn, 1) := by decide +kernel
theorem dL_law_2932 : decode cL_law 2932 = .ok (.aload_n 1, 1) := by decide +kernel
theorem dL_law_2933 : decode cL_law 2933 = .ok (.invokevirtual 337, 3) := by decide +kernel
theorem dL_law_2936 : decode cL_law 2936 = .ok (.aload_n 2, 1) := by decide +kernel
theorem dL_law_2937 : decode cL_law 2937 = .ok (.invokevirtual 340, 3) := by decide +kernel
theorem dL_law_2940 : decode cL_law 2940 = .ok (.if_icmp .eq 377, 3) := by decide +kernel
theorem dL_law_2943 : decode cL_law 2943 = .ok (.iconst 0, 1) := by decide +kernel
theorem dL_law_2944 : decode cL_law 2944 = .ok (.ireturn, 1) := by decide +kernel
theorem dL_law_2945 : decode cL_law 2945 = .ok (.aload_n 1, 1) := by decide +kernel
theorem dL_law_2946 : decode cL_law 2946 = .ok (.invokevirtual 341, 3) := by decide +kernel
theorem dL_law_2949 : decode cL_law 2949 = .ok (.aload_n 2, 1) := by decide +kernel
theorem dL_law_2950 : decode cL_law 2950 = .ok (.invokevirtual 344, 3) := by decide +kernel
theorem dL_law_2953 : decode cL_law 2953 = .ok (.if_icmp .eq 364, 3) := by decide +kernel
theorem dL_law_2956 : decode cL_law 2956 = .ok (.iconst 0, 1) := by decide +kernel
theorem dL_law_2957 : decode cL_law 2957 = .ok (.ireturn, 1) := by decide +kernel
theorem dL_law_2958 : decode cL_law 2958 = .ok (.aload_n 1, 1) := by decide +kernel
theorem dL_law_2959 : decode cL_law 2959 = .ok (.invokevirtual 345, 3) := by decide +kernel
theorem dL_law_2962 : decode cL_law 2962 = .ok (.aload_n 2, 1) := by decide +kernel
theorem dL_law_2963 : decode cL_law 2963 = .ok (.invokevirtual 348, 3) := by decide +kernel
theorem dL_law_2966 : decode cL_law 2966 = .ok (.if_icmp .eq 351, 3) := by decide +kernel
theorem dL_law_2969 : decode cL_law 2969 = .ok (.iconst 0, 1) := by decide +kernel
theorem dL_law_2970 : decode cL_law 2970 = .ok (.ireturn, 1) := by decide +kernel
theorem dL_law_2971 : decode cL_law 2971 = .ok (.aload_n 1, 1) := by decide +kernel
theorem dL_law_2972 : decode cL_law 2972 = .ok (.aload_n 0, 1) := by decide +kernel
theorem dL_law_2973 : decode cL_law 2973 = .ok (.iload 4, 2) := by decide +kernel
theorem dL_law_2975 : decode cL_law 2975 = .ok (.iconst 1, 1) := by decide +kernel
theorem dL_law_2976 : decode cL_law 2976 = .ok (.iadd, 1) := by decide +kernel
theorem dL_law_2977 : decode cL_law 2977 = .ok (.iaload, 1) := by decide +kernel
theorem dL_law_2978 : decode cL_law 2978 = .ok (.aload_n 0, 1) := by decide +kernel
theorem dL_law_2979 : decode cL_law 2979 = .ok (.iload 4, 2) := by decide +kernel
theorem dL_law_2981 : decode cL_law 2981 = .ok (.iconst 2, 1) := by decide +kernel
theorem dL_law_2982 : decode cL_law 2982 = .ok (.iadd, 1) := by decide +kernel
theorem dL_law_2983 : decode cL_law 2983 = .ok (.iaload, 1) := by decide +kernel
theorem dL_law_2984 : decode cL_law 2984 = .ok (.ifCond .eq 7, 3) := by decide +kernel
theorem dL_law_2987 : decode cL_law 2987 = .ok (.iconst 1, 1) := by decide +kernel
theorem dL_law_2988 : decode cL_law 2988 = .ok (.goto 4, 3) := by decide +kernel
theorem dL_law_2991 : decode cL_law 2991 = .ok (.iconst 0, 1) := by decide +kernel
theorem dL_law_2992 : decode cL_law 2992 = .ok (.aload_n 3, 1) := by decide +kernel
theorem dL_law_2993 : decode cL_law 2993 = .ok (.invokestatic 349, 3) := by decide +kernel
theorem dL_law_2996 : decode cL_law 2996 = .ok (.istore 5, 2) := by decide +kernel
theorem dL_law_2998 : decode cL_law 2998 = .ok (.aload_n 2, 1) := by decide +kernel
theorem dL_law_2999 : decode cL_law 2999 = .ok (.aload_n 0, 1) := by decide +kernel
theorem dL_law_3000 : decode cL_law 3000 = .ok (.iload 4, 2) := by decide +kernel
theorem dL_law_3002 : decode cL_law 3002 = .ok (.iconst 1, 1) := by decide +kernel
theorem dL_law_3003 : decode cL_law 3003 = .ok (.iadd, 1) := by decide +kernel
theorem dL_law_3004 : decode cL_law 3004 = .ok (.iaload, 1) := by decide +kernel
theorem dL_law_3005 : decode cL_law 3005 = .ok (.aload_n 0, 1) := by decide +kernel
theorem dL_law_3006 : decode cL_law 3006 = .ok (.iload 4, 2) := by decide +kernel
theorem dL_law_3008 : decode cL_law 3008 = .ok (.iconst 2, 1) := by decide +kernel
theorem dL_law_3009 : decode cL_law 3009 = .ok (.iadd, 1) := by decide +kernel
theorem dL_law_3010 : decode cL_law 3010 = .ok (.iaload, 1) := by decide +kernel
theorem dL_law_3011 : decode cL_law 3011 = .ok (.ifCond .eq 7, 3) := by decide +kernel
theorem dL_law_3014 : decode cL_law 3014 = .ok (.iconst 1, 1) := by decide +kernel
theorem dL_law_3015 : decode cL_law 3015 = .ok (.goto 4, 3) := by decide +kernel
theorem dL_law_3018 : decode cL_law 3018 = .ok (.iconst 0, 1) := by decide +kernel
theorem dL_law_3019 : decode cL_law 3019 = .ok (.invokevirtual 352, 3) := by decide +kernel
theorem dL_law_3022 : decode cL_law 3022 = .ok (.istore 6, 2) := by decide +kernel
theorem dL_law_3024 : decode cL_law 3024 = .ok (.aload_n 2, 1) := by decide +kernel
theorem dL_law_3025 : decode cL_law 3025 = .ok (.invokevirtual 157, 3) := by decide +kernel
theorem dL_law_3028 : decode cL_law 3028 = .ok (.iload 5, 2) := by decide +kernel
theorem dL_law_3030 : decode cL_law 3030 = .ok (.if_icmp .eq 5, 3) := by decide +kernel
theorem dL_law_3033 : decode cL_law 3033 = .ok (.iconst 0, 1) := by decide +kernel
theorem dL_law_3034 : decode cL_law 3034 = .ok (.ireturn, 1) := by decide +kernel
theorem dL_law_3035 : decode cL_law 3035 = .ok (.iload 5, 2) := by decide +kernel
theorem dL_law_3037 : decode cL_law 3037 = .ok (.ifCond .ne 15, 3) := by decide +kernel
theorem dL_law_3040 : decode cL_law 3040 = .ok (.aload_n 3, 1) := by decide +kernel
theorem dL_law_3041 : decode cL_law 3041 = .ok (.iconst 0, 1) := by decide +kernel
theorem dL_law_3042 : decode cL_law 3042 = .ok (.laload, 1) := by decide +kernel
theorem dL_law_3043 : decode cL_law 3043 = .ok (.iload 6, 2) := by decide +kernel
theorem dL_law_3045 : decode cL_law 3045 = .ok (.i2l, 1) := by decide +kernel
theorem dL_law_3046 : decode cL_law 3046 = .ok (.lcmp, 1) := by decide +kernel
theorem dL_law_3047 : decode cL_law 3047 = .ok (.ifCond .eq 5, 3) := by decide +kernel
theorem dL_law_3050 : decode cL_law 3050 = .ok (.iconst 0, 1) := by decide +kernel
theorem dL_law_3051 : decode cL_law 3051 = .ok (.ireturn, 1) := by decide +kernel
theorem dL_law_3052 : decode cL_law 3052 = .ok (.goto 265, 3) := by decide +kernel
theorem dL_law_3055 : decode cL_law 3055 = .ok (.aload_n 1, 1) := by decide +kernel
theorem dL_law_3056 : decode cL_law 3056 = .ok (.aload_n 0, 1) := by decide +kernel
theorem dL_law_3057 : decode cL_law 3057 = .ok (.iload 4, 2) := by decide +kernel
theorem dL_law_3059 : decode cL_law 3059 = .ok (.iconst 1, 1) := by decide +kernel
theorem dL_law_3060 : decode cL_law 3060 = .ok (.iadd, 1) := by decide +kernel
theorem dL_law_3061 : decode cL_law 3061 = .ok (.iaload, 1) := by decide +kernel
theorem dL_law_3062 : decode cL_law 3062 = .ok (.aload_n 0, 1) := by decide +kernel
theorem dL_law_3063 : decode cL_law 3063 = .ok (.iload 4, 2) := by decide +kernel
theorem dL_law_3065 : decode cL_law 3065 = .ok (.iconst 2, 1) := by decide +kernel
theorem dL_law_3066 : decode cL_law 3066 = .ok (.iadd, 1) := by decide +kernel
theorem dL_law_3067 : decode cL_law 3067 = .ok (.iaload, 1) := by decide +kernel
theorem dL_law_3068 : decode cL_law 3068 = .ok (.ifCond .eq 7, 3) := by decide +kernel
theorem dL_law_3071 : decode cL_law 3071 = .ok (.iconst 1, 1) := by decide +kernel
theorem dL_law_3072 : decode cL_law 3072 = .ok (.goto 4, 3) := by decide +kernel
theorem dL_law_3075 : decode cL_law 3075 = .ok (.iconst 0, 1) := by decide +kernel
theorem dL_law_3076 : decode cL_law 3076 = .ok (.aload_n 3, 1) := by decide +kernel
theorem dL_law_3077 : decode cL_law 3077 = .ok (.invokestatic 353, 3) := by decide +kernel
theorem dL_law_3080 : decode cL_law 3080 = .ok (.istore 5, 2) := by decide +kernel
theorem dL_law_3082 : decode cL_law 3082 = .ok (.aload_n 2, 1) := by decide +kernel
theorem dL_law_3083 : decode cL_law 3083 = .ok (.aload_n 0, 1) := by decide +kernel
theorem dL_law_3084 : decode cL_law 3084 = .ok (.iload 4, 2) := by decide +kernel
theorem dL_law_3086 : decode cL_law 3086 = .ok (.iconst 1, 1) := by decide +kernel
theorem dL_law_3087 : decode cL_law 3087 = .ok (.iadd, 1) := by decide +kernel
theorem dL_law_3088 : decode cL_law 3088 = .ok (.iaload, 1) := by decide +kernel
theorem dL_law_3089 : decode cL_law 3089 = .ok (.aload_n 0, 1) := by decide +kernel
theorem dL_law_3090 : decode cL_law 3090 = .ok (.iload 4, 2) := by decide +kernel
theorem dL_law_3092 : decode cL_law 3092 = .ok (.iconst 2, 1) := by decide +kernel
theorem dL_law_3093 : decode cL_law 3093 = .ok (.iadd, 1) := by decide +kernel
theorem dL_law_3094 : decode cL_law 3094 = .ok (.iaload, 1) := by decide +kernel
theorem dL_law_3095 : decode cL_law 3095 = .ok (.ifCond .eq 7, 3) := by decide +kernel
theorem dL_law_3098 : decode cL_law 3098 = .ok (.iconst 1, 1) := by decide +kernel
theorem dL_law_3099 : decode cL_law 3099 = .ok (.goto 4, 3) := by decide +kernel
theorem dL_law_3102 : decode cL_law 3102 = .ok (.iconst 0, 1) := by decide +kernel
theorem dL_law_3103 : decode cL_law 3103 = .ok (.invokevirtual 355, 3) := by decide +kernel
theorem dL_law_3106 : decode cL_law 3106 = .ok (.istore 6, 2) := by decide +kernel
theorem dL_law_3108 : decode cL_law 3108 = .ok (.aload_n 2, 1) := by decide +kernel
theorem dL_law_3109 : decode cL_law 3109 = .ok (.invokevirtual 157, 3) := by decide +kernel
theorem dL_law_3112 : decode cL_law 3112 = .ok (.iload 5, 2) := by decide +kernel
theorem dL_law_3114 : decode cL_law 3114 = .ok (.if_icmp .eq 5, 3) := by decide +kernel
theorem dL_law_3117 : decode cL_law 3117 = .ok (.iconst 0, 1) := by decide +kernel
theorem dL_law_3118 : decode cL_law 3118 = .ok (.ireturn, 1) := by decide +kernel
theorem dL_law_3119 : decode cL_law 3119 = .ok (.iload 5, 2) := by decide +kernel
theorem dL_law_3121 : decode cL_law 3121 = .ok (.ifCond .ne 15, 3) := by decide +kernel
theorem dL_law_3124 : decode cL_law 3124 = .ok (.aload_n 3, 1) := by decide +kernel
theorem dL_law_3125 : decode cL_law 3125 = .ok (.iconst 0, 1) := by decide +kernel
theorem dL_law_3126 : decode cL_law 3126 = .ok (.laload, 1) := by decide +kernel
theorem dL_law_3127 : decode cL_law 3127 = .ok (.iload 6, 2) := by decide +kernel
theorem dL_law_3129 : decode cL_law 3129 = .ok (.i2l, 1) := by decide +kernel
theorem dL_law_3130 : decode cL_law 3130 = .ok (.lcmp, 1) := by decide +kernel
theorem dL_law_3131 : decode cL_law 3131 = .ok (.ifCond .eq 5, 3) := by decide +kernel
theorem dL_law_3134 : decode cL_law 3134 = .ok (.iconst 0, 1) := by decide +kernel
theorem dL_law_3135 : decode cL_law 3135 = .ok (.ireturn, 1) := by decide +kernel
theorem dL_law_3136 : decode cL_law 3136 = .ok (.goto 181, 3) := by decide +kernel
theorem dL_law_3139 : decode cL_law 3139 = .ok (.aload_n 1, 1) := by decide +kernel
theorem dL_law_3140 : decode cL_law 3140 = .ok (.invokevirtual 356, 3) := by decide +kernel
theorem dL_law_3143 : decode cL_law 3143 = .ok (.dstore 5, 2) := by decide +kernel
theorem dL_law_3145 : decode cL_law 3145 = .ok (.aload_n 2, 1) := by decide +kernel
theorem dL_law_3146 : decode cL_law 3146 = .ok (.invokevirtual 360, 3) := by decide +kernel
theorem dL_law_3149 : decode cL_law 3149 = .ok (.dstore 7, 2) := by decide +kernel
theorem dL_law_3151 : decode cL_law 3151 = .ok (.dload 5, 2) := by decide +kernel
theorem dL_law_3153 : decode cL_law 3153 = .ok (.dload 7, 2) := by decide +kernel
theorem dL_law_3155 : decode cL_law 3155 = .ok (.dcmp .l, 1) := by decide +kernel
theorem dL_law_3156 : decode cL_law 3156 = .ok (.ifCond .eq 21, 3) := by decide +kernel
theorem dL_law_3159 : decode cL_law 3159 = .ok (.dload 5, 2) := by decide +kernel
theorem dL_law_3161 : decode cL_law 3161 = .ok (.dload 5, 2) := by decide +kernel
theorem dL_law_3163 : decode cL_law 3163 = .ok (.dcmp .l, 1) := by decide +kernel
theorem dL_law_3164 : decode cL_law 3164 = .ok (.ifCond .eq 11, 3) := by decide +kernel
theorem dL_law_3167 : decode cL_law 3167 = .ok (.dload 7, 2) := by decide +kernel
theorem dL_law_3169 : decode cL_law 3169 = .ok (.dload 7, 2) := by decide +kernel
theorem dL_law_3171 : decode cL_law 3171 = .ok (.dcmp .l, 1) := by decide +kernel
theorem dL_law_3172 : decode cL_law 3172 = .ok (.ifCond .ne 5, 3) := by decide +kernel
theorem dL_law_3175 : decode cL_law 3175 = .ok (.iconst 0, 1) := by decide +kernel
theorem dL_law_3176 : decode cL_law 3176 = .ok (.ireturn, 1) := by decide +kernel
theorem dL_law_3177 : decode cL_law 3177 = .ok (.goto 140, 3) := by decide +kernel
theorem dL_law_3180 : decode cL_law 3180 = .ok (.aload_n 1, 1) := by decide +kernel
theorem dL_law_3181 : decode cL_law 3181 = .ok (.invokevirtual 361, 3) := by decide +kernel
theorem dL_law_3184 : decode cL_law 3184 = .ok (.f2d, 1) := by decide +kernel
theorem dL_law_3185 : decode cL_law 3185 = .ok (.dstore 5, 2) := by decide +kernel
theorem dL_law_3187 : decode cL_law 3187 = .ok (.aload_n 2, 1) := by decide +kernel
theorem dL_law_3188 : decode cL_law 3188 = .ok (.invokevirtual 365, 3) := by decide +kernel
theorem dL_law_3191 : decode cL_law 3191 = .ok (.f2d, 1) := by decide +kernel
theorem dL_law_3192 : decode cL_law 3192 = .ok (.dstore 7, 2) := by decide +kernel
theorem dL_law_3194 : decode cL_law 3194 = .ok (.dload 5, 2) := by decide +kernel
theorem dL_law_3196 : decode cL_law 3196 = .ok (.dload 7, 2) := by decide +kernel
theorem dL_law_3198 : decode cL_law 3198 = .ok (.dcmp .l, 1) := by decide +kernel
theorem dL_law_3199 : decode cL_law 3199 = .ok (.ifCond .eq 21, 3) := by decide +kernel
theorem dL_law_3202 : decode cL_law 3202 = .ok (.dload 5, 2) := by decide +kernel
theorem dL_law_3204 : decode cL_law 3204 = .ok (.dload 5, 2) := by decide +kernel
theorem dL_law_3206 : decode cL_law 3206 = .ok (.dcmp .l, 1) := by decide +kernel
theorem dL_law_3207 : decode cL_law 3207 = .ok (.ifCond .eq 11, 3) := by decide +kernel
theorem dL_law_3210 : decode cL_law 3210 = .ok (.dload 7, 2) := by decide +kernel
theorem dL_law_3212 : decode cL_law 3212 = .ok (.dload 7, 2) := by decide +kernel
theorem dL_law_3214 : decode cL_law 3214 = .ok (.dcmp .l, 1) := by decide +kernel
theorem dL_law_3215 : decode cL_law 3215 = .ok (.ifCond .ne 5, 3) := by decide +kernel
theorem dL_law_3218 : decode cL_law 3218 = .ok (.iconst 0, 1) := by decide +kernel
theorem dL_law_3219 : decode cL_law 3219 = .ok (.ireturn, 1) := by decide +kernel
theorem dL_law_3220 : decode cL_law 3220 = .ok (.goto 97, 3) := by decide +kernel
theorem dL_law_3223 : decode cL_law 3223 = .ok (.aload_n 1, 1) := by decide +kernel
theorem dL_law_3224 : decode cL_law 3224 = .ok (.invokevirtual 366, 3) := by decide +kernel
theorem dL_law_3227 : decode cL_law 3227 = .ok (.aload_n 2, 1) := by decide +kernel
theorem dL_law_3228 : decode cL_law 3228 = .ok (.invokevirtual 369, 3) := by decide +kernel
theorem dL_law_3231 : decode cL_law 3231 = .ok (.if_icmp .eq 86, 3) := by decide +kernel
theorem dL_law_3234 : decode cL_law 3234 = .ok (.iconst 0, 1) := by decide +kernel
theorem dL_law_3235 : decode cL_law 3235 = .ok (.ireturn, 1) := by decide +kernel
theorem dL_law_3236 : decode cL_law 3236 = .ok (.aload_n 1, 1) := by decide +kernel
theorem dL_law_3237 : decode cL_law 3237 = .ok (.aload_n 0, 1) := by decide +kernel
theorem dL_law_3238 : decode cL_law 3238 = .ok (.iload 4, 2) := by decide +kernel
theorem dL_law_3240 : decode cL_law 3240 = .ok (.iconst 1, 1) := by decide +kernel
theorem dL_law_3241 : decode cL_law 3241 = .ok (.iadd, 1) := by decide +kernel
theorem dL_law_3242 : decode cL_law 3242 = .ok (.iaload, 1) := by decide +kernel
theorem dL_law_3243 : decode cL_law 3243 = .ok (.aload_n 3, 1) := by decide +kernel
theorem dL_law_3244 : decode cL_law 3244 = .ok (.invokestatic 370, 3) := by decide +kernel
theorem dL_law_3247 : decode cL_law 3247 = .ok (.istore 5, 2) := by decide +kernel
theorem dL_law_3249 : decode cL_law 3249 = .ok (.aload_n 2, 1) := by decide +kernel
theorem dL_law_3250 : decode cL_law 3250 = .ok (.aload_n 0, 1) := by decide +kernel
theorem dL_law_3251 : decode cL_law 3251 = .ok (.iload 4, 2) := by decide +kernel
theorem dL_law_3253 : decode cL_law 3253 = .ok (.iconst 1, 1) := by decide +kernel
theorem dL_law_3254 : decode cL_law 3254 = .ok (.iadd, 1) := by decide +kernel
theorem dL_law_3255 : decode cL_law 3255 = .ok (.iaload, 1) := by decide +kernel
theorem dL_law_3256 : decode cL_law 3256 = .ok (.invokevirtual 372, 3) := by decide +kernel
theorem dL_law_3259 : decode cL_law 3259 = .ok (.istore 6, 2) := by decide +kernel
theorem dL_law_3261 : decode cL_law 3261 = .ok (.aload_n 2, 1) := by decide +kernel
theorem dL_law_3262 : decode cL_law 3262 = .ok (.invokevirtual 157, 3) := by decide +kernel
theorem dL_law_3265 : decode cL_law 3265 = .ok (.iload 5, 2) := by decide +kernel
theorem dL_law_3267 : decode cL_law 3267 = .ok (.if_icmp .eq 5, 3) := by decide +kernel
theorem dL_law_3270 : decode cL_law 3270 = .ok (.iconst 0, 1) := by decide +kernel
theorem dL_law_3271 : decode cL_law 3271 = .ok (.ireturn, 1) := by decide +kernel
theorem dL_law_3272 : decode cL_law 3272 = .ok (.iload 5, 2) := by decide +kernel
theorem dL_law_3274 : decode cL_law 3274 = .ok (.ifCond .ne 15, 3) := by decide +kernel
theorem dL_law_3277 : decode cL_law 3277 = .ok (.aload_n 3, 1) := by decide +kernel
theorem dL_law_3278 : decode cL_law 3278 = .ok (.iconst 0, 1) := by decide +kernel
theorem dL_law_3279 : decode cL_law 3279 = .ok (.laload, 1) := by decide +kernel
theorem dL_law_3280 : decode cL_law 3280 = .ok (.iload 6, 2) := by decide +kernel
theorem dL_law_3282 : decode cL_law 3282 = .ok (.i2l, 1) := by decide +kernel
theorem dL_law_3283 : decode cL_law 3283 = .ok (.lcmp, 1) := by decide +kernel
theorem dL_law_3284 : decode cL_law 3284 = .ok (.ifCond .eq 5, 3) := by decide +kernel
theorem dL_law_3287 : decode cL_law 3287 = .ok (.iconst 0, 1) := by decide +kernel
theorem dL_law_3288 : decode cL_law 3288 = .ok (.ireturn, 1) := by decide +kernel
theorem dL_law_3289 : decode cL_law 3289 = .ok (.goto 28, 3) := by decide +kernel
theorem dL_law_3292 : decode cL_law 3292 = .ok (.aload_n 1, 1) := by decide +kernel
theorem dL_law_3293 : decode cL_law 3293 = .ok (.aload_n 0, 1) := by decide +kernel
theorem dL_law_3294 : decode cL_law 3294 = .ok (.iload 4, 2) := by decide +kernel
theorem dL_law_3296 : decode cL_law 3296 = .ok (.iconst 1, 1) := by decide +kernel
theorem dL_law_3297 : decode cL_law 3297 = .ok (.iadd, 1) := by decide +kernel
theorem dL_law_3298 : decode cL_law 3298 = .ok (.iaload, 1) := by decide +kernel
theorem dL_law_3299 : decode cL_law 3299 = .ok (.invokevirtual 373, 3) := by decide +kernel
theorem dL_law_3302 : decode cL_law 3302 = .ok (.aload_n 2, 1) := by decide +kernel
theorem dL_law_3303 : decode cL_law 3303 = .ok (.aload_n 0, 1) := by decide +kernel
theorem dL_law_3304 : decode cL_law 3304 = .ok (.iload 4, 2) := by decide +kernel
theorem dL_law_3306 : decode cL_law 3306 = .ok (.iconst 1, 1) := by decide +kernel
theorem dL_law_3307 : decode cL_law 3307 = .ok (.iadd, 1) := by decide +kernel
theorem dL_law_3308 : decode cL_law 3308 = .ok (.iaload, 1) := by decide +kernel
theorem dL_law_3309 : decode cL_law 3309 = .ok (.invokevirtual 376, 3) := by decide +kernel
theorem dL_law_3312 : decode cL_law 3312 = .ok (.if_icmp .eq 5, 3) := by decide +kernel
theorem dL_law_3315 : decode cL_law 3315 = .ok (.iconst 0, 1) := by decide +kernel
theorem dL_law_3316 : decode cL_law 3316 = .ok (.ireturn, 1) := by decide +kernel
theorem dL_law_3317 : decode cL_law 3317 = .ok (.iinc 4 6, 3) := by decide +kernel
theorem dL_law_3320 : decode cL_law 3320 = .ok (.goto (-3297), 3) := by decide +kernel
theorem dL_law_3323 : decode cL_law 3323 = .ok (.iconst 1, 1) := by decide +kernel
theorem dL_law_3324 : decode cL_law 3324 = .ok (.ireturn, 1) := by decide +kernel

