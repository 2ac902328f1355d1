theorem dL_payExtra_27 : decode cL_payExtra 27 = .ok (.iconst 0, 1) := by decide +kernel
theorem dL_payExtra_28 : decode cL_payExtra 28 = .ok (.ireturn, 1) := by decide +kernel
set_option maxRecDepth 20000 in
theorem ggL_skipMonth_X7_skipMonth : GoodIn wsL_skipMonth wsX7_skipMonth := goodIn_ca (goodIn_ca (goodIn_r _ [7, 8, 9, 10, 11, 12, 6, 13, 14, 15, 16, 17, 18, 19, 20, 21, 22, 23, 24, 25, 26, 27, 28, 29, 30, 31, 32, 33, 34, 35, 36, 37, 38, 39, 40, 41, 42, 43, 44, 45, 46, 47, 48, 49, 50, 51, 52, 53, 54, 55, 56, 57, 58, 59, 60, 61, 62, 63, 64, 65, 66, 67, 68, 69, 70, 71, 72, 73, 74, 75, 76, 77, 78, 79, 80, 81, 82, 83, 84, 85, 86, 87, 88, 89, 90, 91, 92, 93, 94, 95, 96, 97, 98, 99, 100, 101, 102, 103, 104, 105, 106, 107, 108, 109, 110, 111, 112, 113, 114, 115, 116, 117, 118, 119, 120, 121, 122, 123, 124, 125, 126, 127, 128, 129] (by decide +kernel) (by decide +kernel)) (goodIn_sub (fun _ h => List.mem_cons_of_mem _ (List.mem_append_left _ (List.mem_append_right _ h))) (by decide +kernel))) (goodIn_sub (fun _ h => List.mem_cons_of_mem _ (List.mem_append_right _ h)) (by decide +kernel))
set_option maxRecDepth 20000 in
theorem gL_skipMonth_X7_skipMonth : GoodIn wsL_skipMonth (wsV RL 30 RX7 yX7_skipMonth wsX7_skipMonth) := goodIn_app (goodIn_of _ (by decide +kernel)) ggL_skipMonth_X7_skipMonth
theorem dL_skipMonth_0 : decode cL_skipMonth 0 = .ok (.aload_n 2, 1) := by decide +kernel
theorem dL_skipMonth_1 : decode cL_skipMonth 1 = .ok (.iconst 0, 1) := by decide +kernel
theorem dL_skipMonth_2 : decode cL_skipMonth 2 = .ok (.aload_n 0, 1) := by decide +kernel
theorem dL_skipMonth_3 : decode cL_skipMonth 3 = .ok (.iload_n 1, 1) := by decide +kernel
theorem dL_skipMonth_4 : decode cL_skipMonth 4 = .ok (.invokevirtual 30, 3) := by decide +kernel
theorem dL_skipMonth_7 : decode cL_skipMonth 7 = .ok (.i2l, 1) := by decide +kernel
theorem dL_skipMonth_8 : decode cL_skipMonth 8 = .ok (.lastore, 1) := by decide +kernel
theorem dL_skipMonth_9 : decode cL_skipMonth 9 = .ok (.goto 9, 3) := by decide +kernel
theorem dL_skipMonth_12 : decode cL_skipMonth 12 = .ok (.astore_n 3, 1) := by decide +kernel
theorem dL_skipMonth_13 : decode cL_skipMonth 13 = .ok (.iconst 1, 1) := by decide +kernel
theorem dL_skipMonth_14 : decode cL_skipMonth 14 = .ok (.ireturn, 1) := by decide +kernel
theorem dL_skipMonth_15 : decode cL_skipMonth 15 = .ok (.astore_n 3, 1) := by decide +kernel
theorem dL_skipMonth_16 : decode cL_skipMonth 16 = .ok (.iconst 2, 1) := by decide +kernel
theorem dL_skipMonth_17 : decode cL_skipMonth 17 = .ok (.ireturn, 1) := by decide +kernel
theorem dL_skipMonth_18 : decode cL_skipMonth 18 = .ok (.iconst 0, 1) := by decide +kernel
theorem dL_skipMonth_19 : decode cL_skipMonth 19 = .ok (.ireturn, 1) := by decide +kernel
set_option maxRecDepth 20000 in
theorem ggL_changeRate_X7_changeRate : GoodIn wsL_changeRate wsX7_changeRate := goodIn_ca (goodIn_ca (goodIn_ca (goodIn_r _ [8, 9, 10, 11, 12, 13, 14, 7, 15, 16, 17, 18, 19, 20, 21, 22, 23, 24, 25, 26, 27, 28, 29, 30, 31, 32, 33, 34, 35, 36, 37, 38, 39, 40, 41, 42, 43, 44, 45, 46, 47, 48, 49, 50, 51, 52, 53, 54, 55, 56, 57, 58, 59, 60, 61, 62, 63, 64, 65, 66, 67, 68, 69, 70, 71, 72, 73, 74, 75, 76, 77, 78, 79, 80, 81, 82, 83, 84, 85, 86, 87, 88, 89, 90, 91, 92, 93, 94, 95, 96, 97, 98, 99, 100, 101, 102, 103, 104, 105, 106, 107, 108, 109, 110, 111, 112, 113, 114, 115, 116, 117, 118, 119, 120, 121, 122, 123, 124, 125, 126, 127, 128, 129, 130, 131] (by decide +kernel) (by decide +kernel)) (goodIn_sub (fun _ h => List.mem_cons_of_mem _ (List.mem_append_left _ (List.mem_append_left _ (List.mem_append_right _ h)))) (by decide +kernel))) (goodIn_sub (fun _ h => List.mem_cons_of_mem _ (List.mem_append_left _ (List.mem_append_right _ h))) (by decide +kernel))) (goodIn_sub (fun _ h => List.mem_cons_of_mem _ (List.mem_append_right _ h)) (by decide +kernel))
set_option maxRecDepth 20000 in
theorem gL_changeRate_X7_changeRate : GoodIn wsL_changeRate (wsV RL 33 RX7 yX7_changeRate wsX7_changeRate) := goodIn_app (goodIn_of _ (by decide +kernel)) ggL_changeRate_X7_changeRate
theorem dL_changeRate_0 : decode cL_changeRate 0 = .ok (.aload_n 3, 1) := by decide +kernel
theorem dL_changeRate_1 : decode cL_changeRate 1 = .ok (.iconst 0, 1) := by decide +kernel
theorem dL_changeRate_2 : decode cL_changeRate 2 = .ok (.aload_n 0, 1) := by decide +kernel
theorem dL_changeRate_3 : decode cL_changeRate 3 = .ok (.iload_n 1, 1) := by decide +kernel
theorem dL_changeRate_4 : decode cL_changeRate 4 = .ok (.iload_n 2, 1) := by decide +kernel
theorem dL_changeRate_5 : decode cL_changeRate 5 = .ok (.invokevirtual 33, 3) := by decide +kernel
theorem dL_changeRate_8 : decode cL_changeRate 8 = .ok (.i2l, 1) := by decide +kernel
theorem dL_changeRate_9 : decode cL_changeRate 9 = .ok (.lastore, 1) := by decide +kernel
theorem dL_changeRate_10 : decode cL_changeRate 10 = .ok (.goto 15, 3) := by decide +kernel
theorem dL_changeRate_13 : decode cL_changeRate 13 = .ok (.astore 4, 2) := by decide +kernel
theorem dL_changeRate_15 : decode cL_changeRate 15 = .ok (.iconst 1, 1) := by decide +kernel
theorem dL_changeRate_16 : decode cL_changeRate 16 = .ok (.ireturn, 1) := by decide +kernel
theorem dL_changeRate_17 : decode cL_changeRate 17 = .ok (.astore 4, 2) := by decide +kernel
theorem dL_changeRate_19 : decode cL_changeRate 19 = .ok (.iconst 2, 1) := by decide +kernel
theorem dL_changeRate_20 : decode cL_changeRate 20 = .ok (.ireturn, 1) := by decide +kernel
theorem dL_changeRate_21 : decode cL_changeRate 21 = .ok (.astore 4, 2) := by decide +kernel
theorem dL_changeRate_23 : decode cL_changeRate 23 = .ok (.iconst 3, 1) := by decide +kernel
theorem dL_changeRate_24 : decode cL_changeRate 24 = .ok (.ireturn, 1) := by decide +kernel
theorem dL_changeRate_25 : decode cL_changeRate 25 = .ok (.iconst 0, 1) := by decide +kernel
theorem dL_changeRate_26 : decode cL_changeRate 26 = .ok (.ireturn, 1) := by decide +kernel
set_option maxRecDepth 20000 in
theorem ggL_extendTerm_X7_extendTerm : GoodIn wsL_extendTerm wsX7_extendTerm := goodIn_ca (goodIn_ca (goodIn_ca (goodIn_r _ [8, 9, 10, 11, 12, 13, 14, 15, 7, 16, 17, 18, 19, 20, 21, 22, 23, 24, 25, 26, 27, 28, 29, 30, 31, 32, 33, 34, 35, 36, 37, 38, 39, 40, 41, 42, 43, 44, 45, 46, 47, 48, 49, 50, 51, 52, 53, 54, 55, 56, 57, 58, 59, 60, 61, 62, 63, 64, 65, 66, 67, 68, 69, 70, 71, 72, 73, 74, 75, 76, 77, 78, 79, 80, 81, 82, 83, 84, 85, 86, 87, 88, 89, 90, 91, 92, 93, 94, 95, 96, 97, 98, 99, 100, 101, 102, 103, 104, 105, 106, 107, 108, 109, 110, 111, 112, 113, 114, 115, 116, 117, 118, 119, 120, 121, 122, 123, 124, 125, 126, 127, 128, 129, 130, 131, 132] (by decide +kernel) (by decide +kernel)) (goodIn_sub (fun _ h => List.mem_cons_of_mem _ (List.mem_append_left _ (List.mem_append_left _ (List.mem_append_right _ h)))) (by decide +kernel))) (goodIn_sub (fun _ h => List.mem_cons_of_mem _ (List.mem_append_left _ (List.mem_append_right _ h))) (by decide +kernel))) (goodIn_sub (fun _ h => List.mem_cons_of_mem _ (List.mem_append_right _ h)) (by decide +kernel))
set_option maxRecDepth 20000 in
theorem gL_extendTerm_X7_extendTerm : GoodIn wsL_extendTerm (wsV RL 37 RX7 yX7_extendTerm wsX7_extendTerm) := goodIn_app (goodIn_of _ (by decide +kernel)) ggL_extendTerm_X7_extendTerm
theorem dL_extendTerm_0 : decode cL_extendTerm 0 = .ok (.aload_n 3, 1) := by decide +kernel
theorem dL_extendTerm_1 : decode cL_extendTerm 1 = .ok (.iconst 0, 1) := by decide +kernel
theorem dL_extendTerm_2 : decode cL_extendTerm 2 = .ok (.aload_n 0, 1) := by decide +kernel
theorem dL_extendTerm_3 : decode cL_extendTerm 3 = .ok (.iload_n 1, 1) := by decide +kernel
theorem dL_extendTerm_4 : decode cL_extendTerm 4 = .ok (.iload_n 2, 1) := by decide +kernel
theorem dL_extendTerm_5 : decode cL_extendTerm 5 = .ok (.invokevirtual 37, 3) := by decide +kernel
theorem dL_extendTerm_8 : decode cL_extendTerm 8 = .ok (.i2l, 1) := by decide +kernel
theorem dL_extendTerm_9 : decode cL_extendTerm 9 = .ok (.lastore, 1) := by decide +kernel
theorem dL_extendTerm_10 : decode cL_extendTerm 10 = .ok (.goto 15, 3) := by decide +kernel
theorem dL_extendTerm_13 : decode cL_extendTerm 13 = .ok (.astore 4, 2) := by decide +kernel
theorem dL_extendTerm_15 : decode cL_extendTerm 15 = .ok (.iconst 1, 1) := by decide +kernel
theorem dL_extendTerm_16 : decode cL_extendTerm 16 = .ok (.ireturn, 1) := by decide +kernel
theorem dL_extendTerm_17 : decode cL_extendTerm 17 = .ok (.astore 4, 2) := by decide +kernel
theorem dL_extendTerm_19 : decode cL_extendTerm 19 = .ok (.iconst 2, 1) := by decide +kernel
theorem dL_extendTerm_20 : decode cL_extendTerm 20 = .ok (.ireturn, 1) := by decide +kernel
theorem dL_extendTerm_21 : decode cL_extendTerm 21 = .ok (.astore 4, 2) := by decide +kernel
theorem dL_extendTerm_23 : decode cL_extendTerm 23 = .ok (.iconst 3, 1) := by decide +kernel
theorem dL_extendTerm_24 : decode cL_extendTerm 24 = .ok (.ireturn, 1) := by decide +kernel
theorem dL_extendTerm_25 : decode cL_extendTerm 25 = .ok (.iconst 0, 1) := by decide +kernel
theorem dL_extendTerm_26 : decode cL_extendTerm 26 = .ok (.ireturn, 1) := by decide +kernel
set_option maxRecDepth 20000 in
theorem ggL_refinance_X7_refinance : GoodIn wsL_refinance wsX7_refinance := goodIn_ca (goodIn_ca (goodIn_ca (goodIn_r _ [8, 9, 10, 11, 12, 13, 7, 14, 15, 16, 17, 18, 19, 20, 21, 22, 23, 24, 25, 26, 27, 28, 29, 30, 31, 32, 33, 34, 35, 36, 37, 38, 39, 40, 41, 42, 43, 44, 45, 46, 47, 48, 49, 50, 51, 52, 53, 54, 55, 56, 57, 58, 59, 60, 61, 62, 63, 64, 65, 66, 67, 68, 69, 70, 71, 72, 73, 74, 75, 76, 77, 78, 79, 80, 81, 82, 83, 84, 85, 86, 87, 88, 89, 90, 91, 92, 93, 94, 95, 96, 97, 98, 99, 100, 101, 102, 103, 104, 105, 106, 107, 108, 109, 110, 111, 112, 113, 114, 115, 116, 117, 118, 119, 120, 121, 122, 123, 124, 125, 126, 127, 128, 129, 130] (by decide +kernel) (by decide +kernel)) (goodIn_sub (fun _ h => List.mem_cons_of_mem _ (List.mem_append_left _ (List.mem_append_left _ (List.mem_append_right _ h)))) (by decide +kernel))) (goodIn_sub (fun _ h => List.mem_cons_of_mem _ (List.mem_append_left _ (List.mem_append_right _ h))) (by decide +kernel))) (goodIn_sub (fun _ h => List.mem_cons_of_mem _ (List.mem_append_right _ h)) (by decide +kernel))
set_option maxRecDepth 20000 in
theorem gL_refinance_X7_refinance : GoodIn wsL_refinance (wsV RL 40 RX7 yX7_refinance wsX7_refinance) := goodIn_app (goodIn_of _ (by decide +kernel)) ggL_refinance_X7_refinance
theorem dL_refinance_0 : decode cL_refinance 0 = .ok (.aload 4, 2) := by decide +kernel
theorem dL_refinance_2 : decode cL_refinance 2 = .ok (.iconst 0, 1) := by decide +kernel
theorem dL_refinance_3 : decode cL_refinance 3 = .ok (.aload_n 0, 1) := by decide +kernel
theorem dL_refinance_4 : decode cL_refinance 4 = .ok (.iload_n 1, 1) := by decide +kernel
theorem dL_refinance_5 : decode cL_refinance 5 = .ok (.iload_n 2, 1) := by decide +kernel
theorem dL_refinance_6 : decode cL_refinance 6 = .ok (.iload_n 3, 1) := by decide +kernel
theorem dL_refinance_7 : decode cL_refinance 7 = .ok (.invokevirtual 40, 3) := by decide +kernel
theorem dL_refinance_10 : decode cL_refinance 10 = .ok (.i2l, 1) := by decide +kernel
theorem dL_refinance_11 : decode cL_refinance 11 = .ok (.lastore, 1) := by decide +kernel
theorem dL_refinance_12 : decode cL_refinance 12 = .ok (.goto 15, 3) := by decide +kernel
theorem dL_refinance_15 : decode cL_refinance 15 = .ok (.astore 5, 2) := by decide +kernel
theorem dL_refinance_17 : decode cL_refinance 17 = .ok (.iconst 1, 1) := by decide +kernel
theorem dL_refinance_18 : decode cL_refinance 18 = .ok (.ireturn, 1) := by decide +kernel
theorem dL_refinance_19 : decode cL_refinance 19 = .ok (.astore 5, 2) := by decide +kernel
theorem dL_refinance_21 : decode cL_refinance 21 = .ok (.iconst 2, 1) := by decide +kernel
theorem dL_refinance_22 : decode cL_refinance 22 = .ok (.ireturn, 1) := by decide +kernel
theorem dL_refinance_23 : decode cL_refinance 23 = .ok (.astore 5, 2) := by decide +kernel
theorem dL_refinance_25 : decode cL_refinance 25 = .ok (.iconst 3, 1) := by decide +kernel
theorem dL_refinance_26 : decode cL_refinance 26 = .ok (.ireturn, 1) := by decide +kernel
theorem dL_refinance_27 : decode cL_refinance 27 = .ok (.iconst 0, 1) := by decide +kernel
theorem dL_refinance_28 : decode cL_refinance 28 = .ok (.ireturn, 1) := by decide +kernel
set_option maxRecDepth 20000 in
theorem ggL_spendExtra_X7_spendExtra : GoodIn wsL_spendExtra wsX7_spendExtra := goodIn_ca (goodIn_r _ [6, 7, 8, 9, 10, 11, 5, 12, 13, 14, 15, 16, 17, 18, 19, 20, 21, 22, 23, 24, 25, 26, 27, 28, 29, 30, 31, 32, 33, 34, 35, 36, 37, 38, 39, 40, 41, 42, 43, 44, 45, 46, 47, 48, 49, 50, 51, 52, 53, 54, 55, 56, 57, 58, 59, 60, 61, 62, 63, 64, 65, 66, 67, 68, 69, 70, 71, 72, 73, 74, 75, 76, 77, 78, 79, 80, 81, 82, 83, 84, 85, 86, 87, 88, 89, 90, 91, 92, 93, 94, 95, 96, 97, 98, 99, 100, 101, 102, 103, 104, 105, 106, 107, 108, 109, 110, 111, 112, 113, 114, 115, 116, 117, 118, 119, 120, 121, 122, 123, 124, 125, 126, 127, 128, 129, 130, 131, 132, 133, 134, 135, 136, 137, 138, 139, 140, 141, 142, 143, 144, 145, 146, 147, 148, 149] (by decide +kernel) (by decide +kernel)) (goodIn_sub (fun _ h => List.mem_cons_of_mem _ (List.mem_append_right _ h)) (by decide +kernel))
set_option maxRecDepth 20000 in
theorem gL_spendExtra_X7_spendExtra : GoodIn wsL_spendExtra (wsV RL 43 RX7 yX7_spendExtra wsX7_spendExtra) := goodIn_app (goodIn_of _ (by decide +kernel)) ggL_spendExtra_X7_spendExtra
theorem dL_spendExtra_0 : decode cL_spendExtra 0 = .ok (.aload_n 2, 1) := by decide +kernel
theorem dL_spendExtra_1 : decode cL_spendExtra 1 = .ok (.iconst 0, 1) := by decide +kernel
theorem dL_spendExtra_2 : decode cL_spendExtra 2 = .ok (.aload_n 0, 1) := by decide +kernel
theorem dL_spendExtra_3 : decode cL_spendExtra 3 = .ok (.iload_n 1, 1) := by decide +kernel
theorem dL_spendExtra_4 : decode cL_spendExtra 4 = .ok (.invokevirtual 43, 3) := by decide +kernel
theorem dL_spendExtra_7 : decode cL_spendExtra 7 = .ok (.i2l, 1) := by decide +kernel
theorem dL_spendExtra_8 : decode cL_spendExtra 8 = .ok (.lastore, 1) := by decide +kernel
theorem dL_spendExtra_9 : decode cL_spendExtra 9 = .ok (.goto 6, 3) := by decide +kernel
theorem dL_spendExtra_12 : decode cL_spendExtra 12 = .ok (.astore_n 3, 1) := by decide +kernel
theorem dL_spendExtra_13 : decode cL_spendExtra 13 = .ok (.iconst 1, 1) := by decide +kernel
theorem dL_spendExtra_14 : decode cL_spendExtra 14 = .ok (.ireturn, 1) := by decide +kernel
theorem dL_spendExtra_15 : decode cL_spendExtra 15 = .ok (.iconst 0, 1) := by decide +kernel
theorem dL_spendExtra_16 : decode cL_spendExtra 16 = .ok (.ireturn, 1) := by decide +kernel
set_option maxRecDepth 20000 in
theorem ggL_restoreSnapshot_X7_restoreSnapshot : GoodIn wsL_restoreSnapshot wsX7_restoreSnapshot := goodIn_ca (goodIn_r _ [6, 7, 8, 9, 10, 11, 12, 13, 14, 15, 16, 17, 18, 19, 20, 21, 22, 23, 24, 25, 26, 27, 28, 29, 30, 31, 32, 33, 34, 35, 36, 37, 38, 39, 40, 41, 42, 43, 44, 45, 46, 47, 48, 49, 50, 51, 52, 53, 54, 55, 56, 57, 58, 59, 60, 61, 62, 63, 64, 65, 66, 67, 68, 69, 70, 71, 72, 73, 74, 75, 76, 77, 78, 79, 80, 81, 82, 83, 84, 85, 86, 87, 88] (by decide +kernel) (by decide +kernel)) (goodIn_sub (fun _ h => List.mem_cons_of_mem _ (List.mem_append_right _ h)) (by decide +kernel))
set_option maxRecDepth 20000 in
theorem gL_restoreSnapshot_X7_restoreSnapshot : GoodIn wsL_restoreSnapshot (wsV RL 46 RX7 yX7_restoreSnapshot wsX7_restoreSnapshot) := goodIn_app (goodIn_of _ (by decide +kernel)) ggL_restoreSnapshot_X7_restoreSnapshot
theorem dL_restoreSnapshot_0 : decode cL_restoreSnapshot 0 = .ok (.aload_n 1, 1) := by decide +kernel
theorem dL_restoreSnapshot_1 : decode cL_restoreSnapshot 1 = .ok (.iconst 0, 1) := by decide +kernel
theorem dL_restoreSnapshot_2 : decode cL_restoreSnapshot 2 = .ok (.aload_n 0, 1) := by decide +kernel
theorem dL_restoreSnapshot_3 : decode cL_restoreSnapshot 3 = .ok (.invokevirtual 46, 3) := by decide +kernel
theorem dL_restoreSnapshot_6 : decode cL_restoreSnapshot 6 = .ok (.i2l, 1) := by decide +kernel
theorem dL_restoreSnapshot_7 : decode cL_restoreSnapshot 7 = .ok (.lastore, 1) := by decide +kernel
theorem dL_restoreSnapshot_8 : decode cL_restoreSnapshot 8 = .ok (.goto 6, 3) := by decide +kernel
theorem dL_restoreSnapshot_11 : decode cL_restoreSnapshot 11 = .ok (.astore_n 2, 1) := by decide +kernel
theorem dL_restoreSnapshot_12 : decode cL_restoreSnapshot 12 = .ok (.iconst 1, 1) := by decide +kernel
theorem dL_restoreSnapshot_13 : decode cL_restoreSnapshot 13 = .ok (.ireturn, 1) := by decide +kernel
theorem dL_restoreSnapshot_14 : decode cL_restoreSnapshot 14 = .ok (.iconst 0, 1) := by decide +kernel
theorem dL_restoreSnapshot_15 : decode cL_restoreSnapshot 15 = .ok (.ireturn, 1) := by decide +kernel
set_option maxRecDepth 20000 in
theorem ggL_isOpen_X7_isOpen : GoodIn wsL_isOpen wsX7_isOpen := goodIn_ca (goodIn_r _ [6, 7, 8, 9, 5, 10, 11, 12, 13, 14, 15, 16, 17, 18, 19, 20, 21, 22, 23, 24, 25, 26, 27, 28, 29, 30, 31, 32, 33, 34, 35, 36, 37, 38, 39, 40, 41, 42, 43, 44, 45] (by decide +kernel) (by decide +kernel)) (goodIn_sub (fun _ h => List.mem_cons_of_mem _ (List.mem_append_right _ h)) (by decide +kernel))
set_option maxRecDepth 20000 in
theorem gL_isOpen_X7_isOpen : GoodIn wsL_isOpen (wsV RL 52 RX7 yX7_isOpen wsX7_isOpen) := goodIn_app (goodIn_of _ (by decide +kernel)) ggL_isOpen_X7_isOpen
theorem dL_isOpen_0 : decode cL_isOpen 0 = .ok (.aload_n 2, 1) := by decide +kernel
theorem dL_isOpen_1 : decode cL_isOpen 1 = .ok (.iconst 0, 1) := by decide +kernel
theorem dL_isOpen_2 : decode cL_isOpen 2 = .ok (.aload_n 0, 1) := by decide +kernel
theorem dL_isOpen_3 : decode cL_isOpen 3 = .ok (.iload_n 1, 1) := by decide +kernel
theorem dL_isOpen_4 : decode cL_isOpen 4 = .ok (.invokevirtual 52, 3) := by decide +kernel
theorem dL_isOpen_7 : decode cL_isOpen 7 = .ok (.ifCond .eq 7, 3) := by decide +kernel
theorem dL_isOpen_10 : decode cL_isOpen 10 = .ok (.lconst 1, 1) := by decide +kernel
theorem dL_isOpen_11 : decode cL_isOpen 11 = .ok (.goto 4, 3) := by decide +kernel
theorem dL_isOpen_14 : decode cL_isOpen 14 = .ok (.lconst 0, 1) := by decide +kernel
theorem dL_isOpen_15 : decode cL_isOpen 15 = .ok (.lastore, 1) := by decide +kernel
theorem dL_isOpen_16 : decode cL_isOpen 16 = .ok (.goto 6, 3) := by decide +kernel
theorem dL_isOpen_19 : decode cL_isOpen 19 = .ok (.astore_n 3, 1) := by decide +kernel
theorem dL_isOpen_20 : decode cL_isOpen 20 = .ok (.iconst 1, 1) := by decide +kernel
theorem dL_isOpen_21 : decode cL_isOpen 21 = .ok (.ireturn, 1) := by decide +kernel
theorem dL_isOpen_22 : decode cL_isOpen 22 = .ok (.iconst 0, 1) := by decide +kernel
theorem dL_isOpen_23 : decode cL_isOpen 23 = .ok (.ireturn, 1) := by decide +kernel
set_option maxRecDepth 20000 in
theorem ggL_principal_X7_principal : GoodIn wsL_principal wsX7_principal := goodIn_ca (goodIn_r _ [6, 7, 8, 9, 10, 5, 11, 12, 13, 14, 15, 16, 17, 18, 19, 20, 21, 22, 23, 24, 25, 26, 27, 28, 29, 30, 31, 32, 33, 34, 35, 36, 37, 38, 39, 40] (by decide +kernel) (by decide +kernel)) (goodIn_sub (fun _ h => List.mem_cons_of_mem _ (List.mem_append_right _ h)) (by decide +kernel))
set_option maxRecDepth 20000 in
theorem gL_principal_X7_principal : GoodIn wsL_principal (wsV RL 56 RX7 yX7_principal wsX7_principal) := goodIn_app (goodIn_of _ (by decide +kernel)) ggL_principal_X7_principal
theorem dL_principal_0 : decode cL_principal 0 = .ok (.aload_n 2, 1) := by decide +kernel
theorem dL_principal_1 : decode cL_principal 1 = .ok (.iconst 0, 1) := by decide +kernel
theorem dL_principal_2 : decode cL_principal 2 = .ok (.aload_n 0, 1) := by decide +kernel
theorem dL_principal_3 : decode cL_principal 3 = .ok (.iload_n 1, 1) := by decide +kernel
theorem dL_principal_4 : decode cL_principal 4 = .ok (.invokevirtual 56, 3) := by decide +kernel
theorem dL_principal_7 : decode cL_principal 7 = .ok (.i2l, 1) := by decide +kernel
theorem dL_principal_8 : decode cL_principal 8 = .ok (.lastore, 1) := by decide +kernel
theorem dL_principal_9 : decode cL_principal 9 = .ok (.goto 6, 3) := by decide +kernel
theorem dL_principal_12 : decode cL_principal 12 = .ok (.astore_n 3, 1) := by decide +kernel
theorem dL_principal_13 : decode cL_principal 13 = .ok (.iconst 1, 1) := by decide +kernel
theorem dL_principal_14 : decode cL_principal 14 = .ok (.ireturn, 1) := by decide +kernel
theorem dL_principal_15 : decode cL_principal 15 = .ok (.iconst 0, 1) := by decide +kernel
theorem dL_principal_16 : decode cL_principal 16 = .ok (.ireturn, 1) := by decide +kernel
set_option maxRecDepth 20000 in
theorem ggL_balance_X7_balance : GoodIn wsL_balance wsX7_balance := goodIn_ca (goodIn_r _ [6, 7, 8, 9, 10, 5, 11, 12, 13, 14, 15, 16, 17, 18, 19, 20, 21, 22, 23, 24, 25, 26, 27, 28, 29, 30, 31, 32, 33, 34, 35, 36, 37, 38, 39, 40] (by decide +kernel) (by decide +kernel)) (goodIn_sub (fun _ h => List.mem_cons_of_mem _ (List.mem_append_right _ h)) (by decide +kernel))
set_option maxRecDepth 20000 in
theorem gL_balance_X7_balance : GoodIn wsL_balance (wsV RL 59 RX7 yX7_balance wsX7_balance) := goodIn_app (goodIn_of _ (by decide +kernel)) ggL_balance_X7_balance
theorem dL_balance_0 : decode cL_balance 0 = .ok (.aload_n 2, 1) := by decide +kernel
theorem dL_balance_1 : decode cL_balance 1 = .ok (.iconst 0, 1) := by decide +kernel
theorem dL_balance_2 : decode cL_balance 2 = .ok (.aload_n 0, 1) := by decide +kernel
theorem dL_balance_3 : decode cL_balance 3 = .ok (.iload_n 1, 1) := by decide +kernel
theorem dL_balance_4 : decode cL_balance 4 = .ok (.invokevirtual 59, 3) := by decide +kernel
theorem dL_balance_7 : decode cL_balance 7 = .ok (.i2l, 1) := by decide +kernel
theorem dL_balance_8 : decode cL_balance 8 = .ok (.lastore, 1) := by decide +kernel
theorem dL_balance_9 : decode cL_balance 9 = .ok (.goto 6, 3) := by decide +kernel
theorem dL_balance_12 : decode cL_balance 12 = .ok (.astore_n 3, 1) := by decide +kernel
theorem dL_balance_13 : decode cL_balance 13 = .ok (.iconst 1, 1) := by decide +kernel
theorem dL_balance_14 : decode cL_balance 14 = .ok (.ireturn, 1) := by decide +kernel
theorem dL_balance_15 : decode cL_balance 15 = .ok (.iconst 0, 1) := by decide +kernel
theorem dL_balance_16 : decode cL_balance 16 = .ok (.ireturn, 1) := by decide +kernel
set_option maxRecDepth 20000 in
theorem ggL_rate_X7_rate : GoodIn wsL_rate wsX7_rate := goodIn_ca (goodIn_r _ [6, 7, 8, 9, 10, 5, 11, 12, 13, 14, 15, 16, 17, 18, 19, 20, 21, 22, 23, 24, 25, 26, 27, 28, 29, 30, 31, 32, 33, 34, 35, 36, 37, 38, 39, 40] (by decide +kernel) (by decide +kernel)) (goodIn_sub (fun _ h => List.mem_cons_of_mem _ (List.mem_append_right _ h)) (by decide +kernel))
set_option maxRecDepth 20000 in
theorem gL_rate_X7_rate : GoodIn wsL_rate (wsV RL 62 RX7 yX7_rate wsX7_rate) := goodIn_app (goodIn_of _ (by decide +kernel)) ggL_rate_X7_rate
theorem dL_rate_0 : decode cL_rate 0 = .ok (.aload_n 2, 1) := by decide +kernel
theorem dL_rate_1 : decode cL_rate 1 = .ok (.iconst 0, 1) := by decide +kernel
theorem dL_rate_2 : decode cL_rate 2 = .ok (.aload_n 0, 1) := by decide +kernel
theorem dL_rate_3 : decode cL_rate 3 = .ok (.iload_n 1, 1) := by decide +kernel
theorem dL_rate_4 : decode cL_rate 4 = .ok (.invokevirtual 62, 3) := by decide +kernel
theorem dL_rate_7 : decode cL_rate 7 = .ok (.i2l, 1) := by decide +kernel
theorem dL_rate_8 : decode cL_rate 8 = .ok (.lastore, 1) := by decide +kernel
theorem dL_rate_9 : decode cL_rate 9 = .ok (.goto 6, 3) := by decide +kernel
theorem dL_rate_12 : decode cL_rate 12 = .ok (.astore_n 3, 1) := by decide +kernel
theorem dL_rate_13 : decode cL_rate 13 = .ok (.iconst 1, 1) := by decide +kernel
theorem dL_rate_14 : decode cL_rate 14 = .ok (.ireturn, 1) := by decide +kernel
theorem dL_rate_15 : decode cL_rate 15 = .ok (.iconst 0, 1) := by decide +kernel
theorem dL_rate_16 : decode cL_rate 16 = .ok (.ireturn, 1) := by decide +kernel
set_option maxRecDepth 20000 in
theorem ggL_monthsLeft_X7_monthsLeft : GoodIn wsL_monthsLeft wsX7_monthsLeft := goodIn_ca (goodIn_r _ [6, 7, 8, 9, 10, 5, 11, 12, 13, 14, 15, 16, 17, 18, 19, 20, 21, 22, 23, 24, 25, 26, 27, 28, 29, 30, 31, 32, 33, 34, 35, 36, 37, 38, 39, 40] (by decide +kernel) (by decide +kernel)) (goodIn_sub (fun _ h => List.mem_cons_of_mem _ (List.mem_append_right _ h)) (by decide +kernel))
set_option maxRecDepth 20000 in
theorem gL_monthsLeft_X7_monthsLeft : GoodIn wsL_monthsLeft (wsV RL 65 RX7 yX7_monthsLeft wsX7_monthsLeft) := goodIn_app (goodIn_of _ (by decide +kernel)) ggL_monthsLeft_X7_monthsLeft
theorem dL_monthsLeft_0 : decode cL_monthsLeft 0 = .ok (.aload_n 2, 1) := by decide +kernel
theorem dL_monthsLeft_1 : decode cL_monthsLeft 1 = .ok (.iconst 0, 1) := by decide +kernel
theorem dL_monthsLeft_2 : decode cL_monthsLeft 2 = .ok (.aload_n 0, 1) := by decide +kernel
theorem dL_monthsLeft_3 : decode cL_monthsLeft 3 = .ok (.iload_n 1, 1) := by decide +kernel
theorem dL_monthsLeft_4 : decode cL_monthsLeft 4 = .ok (.invokevirtual 65, 3) := by decide +kernel
theorem dL_monthsLeft_7 : decode cL_monthsLeft 7 = .ok (.i2l, 1) := by decide +kernel
theorem dL_monthsLeft_8 : decode cL_monthsLeft 8 = .ok (.lastore, 1) := by decide +kernel
theorem dL_monthsLeft_9 : decode cL_monthsLeft 9 = .ok (.goto 6, 3) := by decide +kernel
theorem dL_monthsLeft_12 : decode cL_monthsLeft 12 = .ok (.astore_n 3, 1) := by decide +kernel
theorem dL_monthsLeft_13 : decode cL_monthsLeft 13 = .ok (.iconst 1, 1) := by decide +kernel
theorem dL_monthsLeft_14 : decode cL_monthsLeft 14 = .ok (.ireturn, 1) := by decide +kernel
theorem dL_monthsLeft_15 : decode cL_monthsLeft 15 = .ok (.iconst 0, 1) := by decide +kernel
theorem dL_monthsLeft_16 : decode cL_monthsLeft 16 = .ok (.ireturn, 1) := by decide +kernel
set_option maxRecDepth 20000 in
theorem ggL_installment_X7_installment : GoodIn wsL_installment wsX7_installment := goodIn_ca (goodIn_r _ [6, 7, 8, 9, 10, 5, 11, 12, 13, 14, 15, 16, 17, 18, 19, 20, 21, 22, 23, 24, 25, 26, 27, 28, 29, 30, 31, 32, 33, 34, 35, 36, 37, 38, 39, 40] (by decide +kernel) (by decide +kernel)) (goodIn_sub (fun _ h => List.mem_cons_of_mem _ (List.mem_append_right _ h)) (by decide +kernel))
set_option maxRecDepth 20000 in
theorem gL_installment_X7_installment : GoodIn wsL_installment (wsV RL 68 RX7 yX7_installment wsX7_installment) := goodIn_app (goodIn_of _ (by decide +kernel)) ggL_installment_X7_installment
theorem dL_installment_0 : decode cL_installment 0 = .ok (.aload_n 2, 1) := by decide +kernel
theorem dL_installment_1 : decode cL_installment 1 = .ok (.iconst 0, 1) := by decide +kernel
theorem dL_installment_2 : decode cL_installment 2 = .ok (.aload_n 0, 1) := by decide +kernel
theorem dL_installment_3 : decode cL_installment 3 = .ok (.iload_n 1, 1) := by decide +kernel
theorem dL_installment_4 : decode cL_installment 4 = .ok (.invokevirtual 68, 3) := by decide +kernel
theorem dL_installment_7 : decode cL_installment 7 = .ok (.i2l, 1) := by decide +kernel
theorem dL_installment_8 : decode cL_installment 8 = .ok (.lastore, 1) := by decide +kernel
theorem dL_installment_9 : decode cL_installment 9 = .ok (.goto 6, 3) := by decide +kernel
theorem dL_installment_12 : decode cL_installment 12 = .ok (.astore_n 3, 1) := by decide +kernel
theorem dL_installment_13 : decode cL_installment 13 = .ok (.iconst 1, 1) := by decide +kernel
theorem dL_installment_14 : decode cL_installment 14 = .ok (.ireturn, 1) := by decide +kernel
theorem dL_installment_15 : decode cL_installment 15 = .ok (.iconst 0, 1) := by decide +kernel
theorem dL_installment_16 : decode cL_installment 16 = .ok (.ireturn, 1) := by decide +kernel
set_option maxRecDepth 20000 in
theorem ggL_carry_X7_carry : GoodIn wsL_carry wsX7_carry := goodIn_ca (goodIn_r _ [6, 7, 8, 9, 10, 5, 11, 12, 13, 14, 15, 16, 17, 18, 19, 20, 21, 22, 23, 24, 25, 26, 27, 28, 29, 30, 31, 32, 33, 34, 35, 36, 37, 38, 39, 40] (by decide +kernel) (by decide +kernel)) (goodIn_sub (fun _ h => List.mem_cons_of_mem _ (List.mem_append_right _ h)) (by decide +kernel))
set_option maxRecDepth 20000 in
theorem gL_carry_X7_carry : GoodIn wsL_carry (wsV RL 71 RX7 yX7_carry wsX7_carry) := goodIn_app (goodIn_of _ (by decide +kernel)) ggL_carry_X7_carry
theorem dL_carry_0 : decode cL_carry 0 = .ok (.aload_n 2, 1) := by decide +kernel
theorem dL_carry_1 : decode cL_carry 1 = .ok (.iconst 0, 1) := by decide +kernel
theorem dL_carry_2 : decode cL_carry 2 = .ok (.aload_n 0, 1) := by decide +kernel
theorem dL_carry_3 : decode cL_carry 3 = .ok (.iload_n 1, 1) := by decide +kernel
theorem dL_carry_4 : decode cL_carry 4 = .ok (.invokevirtual 71, 3) := by decide +kernel
theorem dL_carry_7 : decode cL_carry 7 = .ok (.i2l, 1) := by decide +kernel
theorem dL_carry_8 : decode cL_carry 8 = .ok (.lastore, 1) := by decide +kernel
theorem dL_carry_9 : decode cL_carry 9 = .ok (.goto 6, 3) := by decide +kernel
theorem dL_carry_12 : decode cL_carry 12 = .ok (.astore_n 3, 1) := by decide +kernel
theorem dL_carry_13 : decode cL_carry 13 = .ok (.iconst 1, 1) := by decide +kernel
theorem dL_carry_14 : decode cL_carry 14 = .ok (.ireturn, 1) := by decide +kernel
theorem dL_carry_15 : decode cL_carry 15 = .ok (.iconst 0, 1) := by decide +kernel
theorem dL_carry_16 : decode cL_carry 16 = .ok (.ireturn, 1) := by decide +kernel
set_option maxRecDepth 20000 in
theorem ggL_interestDue_X7_interestDue : GoodIn wsL_interestDue wsX7_interestDue := goodIn_ca (goodIn_r _ [6, 7, 8, 9, 5, 10, 11, 12, 13, 14, 15, 16, 17, 18, 19, 20, 21, 22, 23, 24, 25, 26, 27, 28, 29, 30, 31, 32, 33, 34, 35, 36, 37, 38, 39, 40, 41, 42, 43, 44, 45, 46, 47, 48] (by decide +kernel) (by decide +kernel)) (goodIn_sub (fun _ h => List.mem_cons_of_mem _ (List.mem_append_right _ h)) (by decide +kernel))
set_option maxRecDepth 20000 in
theorem gL_interestDue_X7_interestDue : GoodIn wsL_interestDue (wsV RL 74 RX7 yX7_interestDue wsX7_interestDue) := goodIn_app (goodIn_of _ (by decide +kernel)) ggL_interestDue_X7_interestDue
theorem dL_interestDue_0 : decode cL_interestDue 0 = .ok (.aload_n 2, 1) := by decide +kernel
theorem dL_interestDue_1 : decode cL_interestDue 1 = .ok (.iconst 0, 1) := by decide +kernel
theorem dL_interestDue_2 : decode cL_interestDue 2 = .ok (.aload_n 0, 1) := by decide +kernel
theorem dL_interestDue_3 : decode cL_interestDue 3 = .ok (.iload_n 1, 1) := by decide +kernel
theorem dL_interestDue_4 : decode cL_interestDue 4 = .ok (.invokevirtual 74, 3) := by decide +kernel
theorem dL_interestDue_7 : decode cL_interestDue 7 = .ok (.i2l, 1) := by decide +kernel
theorem dL_interestDue_8 : decode cL_interestDue 8 = .ok (.lastore, 1) := by decide +kernel
theorem dL_interestDue_9 : decode cL_interestDue 9 = .ok (.goto 6, 3) := by decide +kernel
theorem dL_interestDue_12 : decode cL_interestDue 12 = .ok (.astore_n 3, 1) := by decide +kernel
theorem dL_interestDue_13 : decode cL_interestDue 13 = .ok (.iconst 1, 1) := by decide +kernel
theorem dL_interestDue_14 : decode cL_interestDue 14 = .ok (.ireturn, 1) := by decide +kernel
theorem dL_interestDue_15 : decode cL_interestDue 15 = .ok (.iconst 0, 1) := by decide +kernel
theorem dL_interestDue_16 : decode cL_interestDue 16 = .ok (.ireturn, 1) := by decide +kernel
set_option maxRecDepth 20000 in
theorem ggL_amountDue_X7_amountDue : GoodIn wsL_amountDue wsX7_amountDue := goodIn_ca (goodIn_r _ [6, 7, 8, 9, 5, 10, 11, 12, 13, 14, 15, 16, 17, 18, 19, 20, 21, 22, 23, 24, 25, 26, 27, 28, 29, 30, 31, 32, 33, 34, 35, 36, 37, 38, 39, 40, 41, 42, 43, 44, 45, 46, 47, 48, 49, 50, 51, 52, 53, 54, 55, 56, 57, 58] (by decide +kernel) (by decide +kernel)) (goodIn_sub (fun _ h => List.mem_cons_of_mem _ (List.mem_append_right _ h)) (by decide +kernel))
set_option maxRecDepth 20000 in
theorem gL_amountDue_X7_amountDue : GoodIn wsL_amountDue (wsV RL 77 RX7 yX7_amountDue wsX7_amountDue) := goodIn_app (goodIn_of _ (by decide +kernel)) ggL_amountDue_X7_amountDue
theorem dL_amountDue_0 : decode cL_amountDue 0 = .ok (.aload_n 2, 1) := by decide +kernel
theorem dL_amountDue_1 : decode cL_amountDue 1 = .ok (.iconst 0, 1) := by decide +kernel
theorem dL_amountDue_2 : decode cL_amountDue 2 = .ok (.aload_n 0, 1) := by decide +kernel
theorem dL_amountDue_3 : decode cL_amountDue 3 = .ok (.iload_n 1, 1) := by decide +kernel
theorem dL_amountDue_4 : decode cL_amountDue 4 = .ok (.invokevirtual 77, 3) := by decide +kernel
theorem dL_amountDue_7 : decode cL_amountDue 7 = .ok (.i2l, 1) := by decide +kernel
theorem dL_amountDue_8 : decode cL_amountDue 8 = .ok (.lastore, 1) := by decide +kernel
theorem dL_amountDue_9 : decode cL_amountDue 9 = .ok (.goto 6, 3) := by decide +kernel
theorem dL_amountDue_12 : decode cL_amountDue 12 = .ok (.astore_n 3, 1) := by decide +kernel
theorem dL_amountDue_13 : decode cL_amountDue 13 = .ok (.iconst 1, 1) := by decide +kernel
theorem dL_amountDue_14 : decode cL_amountDue 14 = .ok (.ireturn, 1) := by decide +kernel
theorem dL_amountDue_15 : decode cL_amountDue 15 = .ok (.iconst 0, 1) := by decide +kernel
theorem dL_amountDue_16 : decode cL_amountDue 16 = .ok (.ireturn, 1) := by decide +kernel
set_option maxRecDepth 20000 in
theorem ggL_interestSoFar_X7_interestSoFar : GoodIn wsL_interestSoFar wsX7_interestSoFar := goodIn_ca (goodIn_r _ [6, 7, 8, 9, 10, 5, 11, 12, 13, 14, 15, 16, 17, 18, 19, 20, 21, 22, 23, 24, 25, 26, 27, 28, 29, 30, 31, 32, 33, 34, 35, 36, 37, 38, 39, 40] (by decide +kernel) (by decide +kernel)) (goodIn_sub (fun _ h => List.mem_cons_of_mem _ (List.mem_append_right _ h)) (by decide +kernel))
set_option maxRecDepth 20000 in
theorem gL_interestSoFar_X7_interestSoFar : GoodIn wsL_interestSoFar (wsV RL 80 RX7 yX7_interestSoFar wsX7_interestSoFar) := goodIn_app (goodIn_of _ (by decide +kernel)) ggL_interestSoFar_X7_interestSoFar
theorem dL_interestSoFar_0 : decode cL_interestSoFar 0 = .ok (.aload_n 2, 1) := by decide +kernel
theorem dL_interestSoFar_1 : decode cL_interestSoFar 1 = .ok (.iconst 0, 1) := by decide +kernel
theorem dL_interestSoFar_2 : decode cL_interestSoFar 2 = .ok (.aload_n 0, 1) := by decide +kernel
theorem dL_interestSoFar_3 : decode cL_interestSoFar 3 = .ok (.iload_n 1, 1) := by decide +kernel
theorem dL_interestSoFar_4 : decode cL_interestSoFar 4 = .ok (.invokevirtual 80, 3) := by decide +kernel
theorem dL_interestSoFar_7 : decode cL_interestSoFar 7 = .ok (.i2l, 1) := by decide +kernel
theorem dL_interestSoFar_8 : decode cL_interestSoFar 8 = .ok (.lastore, 1) := by decide +kernel
theorem dL_interestSoFar_9 : decode cL_interestSoFar 9 = .ok (.goto 6, 3) := by decide +kernel
theorem dL_interestSoFar_12 : decode cL_interestSoFar 12 = .ok (.astore_n 3, 1) := by decide +kernel
theorem dL_interestSoFar_13 : decode cL_interestSoFar 13 = .ok (.iconst 1, 1) := by decide +kernel
theorem dL_interestSoFar_14 : decode cL_interestSoFar 14 = .ok (.ireturn, 1) := by decide +kernel
theorem dL_interestSoFar_15 : decode cL_interestSoFar 15 = .ok (.iconst 0, 1) := by decide +kernel
theorem dL_interestSoFar_16 : decode cL_interestSoFar 16 = .ok (.ireturn, 1) := by decide +kernel
set_option maxRecDepth 20000 in
theorem ggL_paidSoFar_X7_paidSoFar : GoodIn wsL_paidSoFar wsX7_paidSoFar := goodIn_ca (goodIn_r _ [6, 7, 8, 9, 10, 5, 11, 12, 13, 14, 15, 16, 17, 18, 19, 20, 21, 22, 23, 24, 25, 26, 27, 28, 29, 30, 31, 32, 33, 34, 35, 36, 37, 38, 39, 40] (by decide +kernel) (by decide +kernel)) (goodIn_sub (fun _ h => List.mem_cons_of_mem _ (List.mem_append_right _ h)) (by decide +kernel))
set_option maxRecDepth 20000 in
theorem gL_paidSoFar_X7_paidSoFar : GoodIn wsL_paidSoFar (wsV RL 83 RX7 yX7_paidSoFar wsX7_paidSoFar) := goodIn_app (goodIn_of _ (by decide +kernel)) ggL_paidSoFar_X7_paidSoFar
theorem dL_paidSoFar_0 : decode cL_paidSoFar 0 = .ok (.aload_n 2, 1) := by decide +kernel
theorem dL_paidSoFar_1 : decode cL_paidSoFar 1 = .ok (.iconst 0, 1) := by decide +kernel
theorem dL_paidSoFar_2 : decode cL_paidSoFar 2 = .ok (.aload_n 0, 1) := by decide +kernel
theorem dL_paidSoFar_3 : decode cL_paidSoFar 3 = .ok (.iload_n 1, 1) := by decide +kernel
theorem dL_paidSoFar_4 : decode cL_paidSoFar 4 = .ok (.invokevirtual 83, 3) := by decide +kernel
theorem dL_paidSoFar_7 : decode cL_paidSoFar 7 = .ok (.i2l, 1) := by decide +kernel
theorem dL_paidSoFar_8 : decode cL_paidSoFar 8 = .ok (.lastore, 1) := by decide +kernel
theorem dL_paidSoFar_9 : decode cL_paidSoFar 9 = .ok (.goto 6, 3) := by decide +kernel
theorem dL_paidSoFar_12 : decode cL_paidSoFar 12 = .ok (.astore_n 3, 1) := by decide +kernel
theorem dL_paidSoFar_13 : decode cL_paidSoFar 13 = .ok (.iconst 1, 1) := by decide +kernel
theorem dL_paidSoFar_14 : decode cL_paidSoFar 14 = .ok (.ireturn, 1) := by decide +kernel
theorem dL_paidSoFar_15 : decode cL_paidSoFar 15 = .ok (.iconst 0, 1) := by decide +kernel
theorem dL_paidSoFar_16 : decode cL_paidSoFar 16 = .ok (.ireturn, 1) := by decide +kernel
set_option maxRecDepth 20000 in
theorem ggL_paidMonths_X7_paidMonths : GoodIn wsL_paidMonths wsX7_paidMonths := goodIn_ca (goodIn_r _ [6, 7, 8, 9, 10, 5, 11, 12, 13, 14, 15, 16, 17, 18, 19, 20, 21, 22, 23, 24, 25, 26, 27, 28, 29, 30, 31, 32, 33, 34, 35, 36, 37, 38, 39, 40] (by decide +kernel) (by decide +kernel)) (goodIn_sub (fun _ h => List.mem_cons_of_mem _ (List.mem_append_right _ h)) (by decide +kernel))
set_option maxRecDepth 20000 in
theorem gL_paidMonths_X7_paidMonths : GoodIn wsL_paidMonths (wsV RL 86 RX7 yX7_paidMonths wsX7_paidMonths) := goodIn_app (goodIn_of _ (by decide +kernel)) ggL_paidMonths_X7_paidMonths
theorem dL_paidMonths_0 : decode cL_paidMonths 0 = .ok (.aload_n 2, 1) := by decide +kernel
theorem dL_paidMonths_1 : decode cL_paidMonths 1 = .ok (.iconst 0, 1) := by decide +kernel
theorem dL_paidMonths_2 : decode cL_paidMonths 2 = .ok (.aload_n 0, 1) := by decide +kernel
theorem dL_paidMonths_3 : decode cL_paidMonths 3 = .ok (.iload_n 1, 1) := by decide +kernel
theorem dL_paidMonths_4 : decode cL_paidMonths 4 = .ok (.invokevirtual 86, 3) := by decide +kernel
theorem dL_paidMonths_7 : decode cL_paidMonths 7 = .ok (.i2l, 1) := by decide +kernel
theorem dL_paidMonths_8 : decode cL_paidMonths 8 = .ok (.lastore, 1) := by decide +kernel
theorem dL_paidMonths_9 : decode cL_paidMonths 9 = .ok (.goto 6, 3) := by decide +kernel
theorem dL_paidMonths_12 : decode cL_paidMonths 12 = .ok (.astore_n 3, 1) := by decide +kernel
theorem dL_paidMonths_13 : decode cL_paidMonths 13 = .ok (.iconst 1, 1) := by decide +kernel
theorem dL_paidMonths_14 : decode cL_paidMonths 14 = .ok (.ireturn, 1) := by decide +kernel
theorem dL_paidMonths_15 : decode cL_paidMonths 15 = .ok (.iconst 0, 1) := by decide +kernel
theorem dL_paidMonths_16 : decode cL_paidMonths 16 = .ok (.ireturn, 1) := by decide +kernel
set_option maxRecDepth 20000 in
theorem ggL_skippedMonths_X7_skippedMonths : GoodIn wsL_skippedMonths wsX7_skippedMonths := goodIn_ca (goodIn_r _ [6, 7, 8, 9, 10, 5, 11, 12, 13, 14, 15, 16, 17, 18, 19, 20, 21, 22, 23, 24, 25, 26, 27, 28, 29, 30, 31, 32, 33, 34, 35, 36, 37, 38, 39, 40] (by decide +kernel) (by decide +kernel)) (goodIn_sub (fun _ h => List.mem_cons_of_mem _ (List.mem_append_right _ h)) (by decide +kernel))
set_option maxRecDepth 20000 in
theorem gL_skippedMonths_X7_skippedMonths : GoodIn wsL_skippedMonths (wsV RL 89 RX7 yX7_skippedMonths wsX7_skippedMonths) := goodIn_app (goodIn_of _ (by decide +kernel)) ggL_skippedMonths_X7_skippedMonths
theorem dL_skippedMonths_0 : decode cL_skippedMonths 0 = .ok (.aload_n 2, 1) := by decide +kernel
theorem dL_skippedMonths_1 : decode cL_skippedMonths 1 = .ok (.iconst 0, 1) := by decide +kernel
theorem dL_skippedMonths_2 : decode cL_skippedMonths 2 = .ok (.aload_n 0, 1) := by decide +kernel
theorem dL_skippedMonths_3 : decode cL_skippedMonths 3 = .ok (.iload_n 1, 1) := by decide +kernel
theorem dL_skippedMonths_4 : decode cL_skippedMonths 4 = .ok (.invokevirtual 89, 3) := by decide +kernel
theorem dL_skippedMonths_7 : decode cL_skippedMonths 7 = .ok (.i2l, 1) := by decide +kernel
theorem dL_skippedMonths_8 : decode cL_skippedMonths 8 = .ok (.lastore, 1) := by decide +kernel
theorem dL_skippedMonths_9 : decode cL_skippedMonths 9 = .ok (.goto 6, 3) := by decide +kernel
theorem dL_skippedMonths_12 : decode cL_skippedMonths 12 = .ok (.astore_n 3, 1) := by decide +kernel
theorem dL_skippedMonths_13 : decode cL_skippedMonths 13 = .ok (.iconst 1, 1) := by decide +kernel
theorem dL_skippedMonths_14 : decode cL_skippedMonths 14 = .ok (.ireturn, 1) := by decide +kernel
theorem dL_skippedMonths_15 : decode cL_skippedMonths 15 = .ok (.iconst 0, 1) := by decide +kernel
theorem dL_skippedMonths_16 : decode cL_skippedMonths 16 = .ok (.ireturn, 1) := by decide +kernel
set_option maxRecDepth 20000 in
theorem ggL_interestOfPayment_X7_interestOfPayment : GoodIn wsL_interestOfPayment wsX7_interestOfPayment := goodIn_ca (goodIn_ca (goodIn_r _ [7, 8, 9, 10, 11, 6, 12, 13, 14, 15, 16, 17, 18, 19, 20, 21, 22, 23, 24, 25, 26, 27, 28, 29, 30, 31, 32, 33, 34, 35, 36, 37, 38, 39, 40, 41, 42, 43, 44, 45, 46, 47, 48, 49, 50, 51, 52, 53, 54, 55, 56, 57, 58, 59, 60, 61, 62, 63, 64, 65, 66, 67, 68, 69, 70, 71, 72, 73, 74, 75, 76, 77, 78, 79, 80, 81, 82, 83, 84, 85, 86, 87, 88, 89, 90] (by decide +kernel) (by decide +kernel)) (goodIn_sub (fun _ h => List.mem_cons_of_mem _ (List.mem_append_left _ (List.mem_append_right _ h))) (by decide +kernel))) (goodIn_sub (fun _ h => List.mem_cons_of_mem _ (List.mem_append_right _ h)) (by decide +kernel))
set_option maxRecDepth 20000 in
theorem gL_interestOfPayment_X7_interestOfPayment : GoodIn wsL_interestOfPayment (wsV RL 92 RX7 yX7_interestOfPayment wsX7_interestOfPayment) := goodIn_app (goodIn_of _ (by decide +kernel)) ggL_interestOfPayment_X7_interestOfPayment
theorem dL_interestOfPayment_0 : decode cL_interestOfPayment 0 = .ok (.aload_n 3, 1) := by decide +kernel
theorem dL_interestOfPayment_1 : decode cL_interestOfPayment 1 = .ok (.iconst 0, 1) := by decide +kernel
theorem dL_interestOfPayment_2 : decode cL_interestOfPayment 2 = .ok (.aload_n 0, 1) := by decide +kernel
theorem dL_interestOfPayment_3 : decode cL_interestOfPayment 3 = .ok (.iload_n 1, 1) := by decide +kernel
theorem dL_interestOfPayment_4 : decode cL_interestOfPayment 4 = .ok (.iload_n 2, 1) := by decide +kernel
theorem dL_interestOfPayment_5 : decode cL_interestOfPayment 5 = .ok (.invokevirtual 92, 3) := by decide +kernel
theorem dL_interestOfPayment_8 : decode cL_interestOfPayment 8 = .ok (.i2l, 1) := by decide +kernel
theorem dL_interestOfPayment_9 : decode cL_interestOfPayment 9 = .ok (.lastore, 1) := by decide +kernel
theorem dL_interestOfPayment_10 : decode cL_interestOfPayment 10 = .ok (.goto 11, 3) := by decide +kernel
theorem dL_interestOfPayment_13 : decode cL_interestOfPayment 13 = .ok (.astore 4, 2) := by decide +kernel
theorem dL_interestOfPayment_15 : decode cL_interestOfPayment 15 = .ok (.iconst 1, 1) := by decide +kernel
theorem dL_interestOfPayment_16 : decode cL_interestOfPayment 16 = .ok (.ireturn, 1) := by decide +kernel
theorem dL_interestOfPayment_17 : decode cL_interestOfPayment 17 = .ok (.astore 4, 2) := by decide +kernel
theorem dL_interestOfPayment_19 : decode cL_interestOfPayment 19 = .ok (.iconst 2, 1) := by decide +kernel
theorem dL_interestOfPayment_20 : decode cL_interestOfPayment 20 = .ok (.ireturn, 1) := by decide +kernel
theorem dL_interestOfPayment_21 : decode cL_interestOfPayment 21 = .ok (.iconst 0, 1) := by decide +kernel
theorem dL_interestOfPayment_22 : decode cL_interestOfPayment 22 = .ok (.ireturn, 1) := by decide +kernel
set_option maxRecDepth 20000 in
theorem ggL_amountOfPayment_X7_amountOfPayment : GoodIn wsL_amountOfPayment wsX7_amountOfPayment := goodIn_ca (goodIn_ca (goodIn_r _ [7, 8, 9, 10, 11, 6, 12, 13, 14, 15, 16, 17, 18, 19, 20, 21, 22, 23, 24, 25, 26, 27, 28, 29, 30, 31, 32, 33, 34, 35, 36, 37, 38, 39, 40, 41, 42, 43, 44, 45, 46, 47, 48, 49, 50, 51, 52, 53, 54, 55, 56, 57, 58, 59, 60, 61, 62, 63, 64, 65, 66, 67, 68, 69, 70, 71, 72, 73, 74, 75, 76, 77, 78, 79, 80, 81, 82, 83, 84, 85, 86, 87, 88, 89, 90, 91, 92, 93, 94] (by decide +kernel) (by decide +kernel)) (goodIn_sub (fun _ h => List.mem_cons_of_mem _ (List.mem_append_left _ (List.mem_append_right _ h))) (by decide +kernel))) (goodIn_sub (fun _ h => List.mem_cons_of_mem _ (List.mem_append_right _ h)) (by decide +kernel))
set_option maxRecDepth 20000 in
theorem gL_amountOfPayment_X7_amountOfPayment : GoodIn wsL_amountOfPayment (wsV RL 95 RX7 yX7_amountOfPayment wsX7_amountOfPayment) := goodIn_app (goodIn_of _ (by decide +kernel)) ggL_amountOfPayment_X7_amountOfPayment
theorem dL_amountOfPayment_0 : decode cL_amountOfPayment 0 = .ok (.aload_n 3, 1) := by decide +kernel
theorem dL_amountOfPayment_1 : decode cL_amountOfPayment 1 = .ok (.iconst 0, 1) := by decide +kernel
theorem dL_amountOfPayment_2 : decode cL_amountOfPayment 2 = .ok (.aload_n 0, 1) := by decide +kernel
theorem dL_amountOfPayment_3 : decode cL_amountOfPayment 3 = .ok (.iload_n 1, 1) := by decide +kernel
theorem dL_amountOfPayment_4 : decode cL_amountOfPayment 4 = .ok (.iload_n 2, 1) := by decide +kernel
theorem dL_amountOfPayment_5 : decode cL_amountOfPayment 5 = .ok (.invokevirtual 95, 3) := by decide +kernel
theorem dL_amountOfPayment_8 : decode cL_amountOfPayment 8 = .ok (.i2l, 1) := by decide +kernel
theorem dL_amountOfPayment_9 : decode cL_amountOfPayment 9 = .ok (.lastore, 1) := by decide +kernel
theorem dL_amountOfPayment_10 : decode cL_amountOfPayment 10 = .ok (.goto 11, 3) := by decide +kernel
theorem dL_amountOfPayment_13 : decode cL_amountOfPayment 13 = .ok (.astore 4, 2) := by decide +kernel
theorem dL_amountOfPayment_15 : decode cL_amountOfPayment 15 = .ok (.iconst 1, 1) := by decide +kernel
theorem dL_amountOfPayment_16 : decode cL_amountOfPayment 16 = .ok (.ireturn, 1) := by decide +kernel
theorem dL_amountOfPayment_17 : decode cL_amountOfPayment 17 = .ok (.astore 4, 2) := by decide +kernel
theorem dL_amountOfPayment_19 : decode cL_amountOfPayment 19 = .ok (.iconst 2, 1) := by decide +kernel
theorem dL_amountOfPayment_20 : decode cL_amountOfPayment 20 = .ok (.ireturn, 1) := by decide +kernel
theorem dL_amountOfPayment_21 : decode cL_amountOfPayment 21 = .ok (.iconst 0, 1) := by decide +kernel
theorem dL_amountOfPayment_22 : decode cL_amountOfPayment 22 = .ok (.ireturn, 1) := by decide +kernel
set_option maxRecDepth 20000 in
theorem ggL_paymentsTo_X7_paymentsTo : GoodIn wsL_paymentsTo wsX7_paymentsTo := goodIn_ca (goodIn_ca (goodIn_r _ [7, 8, 9, 10, 11, 6, 12, 13, 14, 15, 16, 17, 18, 19, 20, 21, 22, 23, 24, 25, 26, 27, 28, 29, 30, 31, 32, 33, 34, 35, 36, 37, 38, 39, 40, 41, 42, 43, 44, 45, 46, 47, 48, 49, 50, 51, 52, 53, 54, 55, 56, 57, 58, 59, 60, 61, 62, 63, 64, 65, 66, 67, 68, 69, 70, 71, 72, 73, 74, 75, 76, 77, 78, 79, 80, 81, 82, 83, 84] (by decide +kernel) (by decide +kernel)) (goodIn_sub (fun _ h => List.mem_cons_of_mem _ (List.mem_append_left _ (List.mem_append_right _ h))) (by decide +kernel))) (goodIn_sub (fun _ h => List.mem_cons_of_mem _ (List.mem_append_right _ h)) (by decide +kernel))
set_option maxRecDepth 20000 in
theorem gL_paymentsTo_X7_paymentsTo : GoodIn wsL_paymentsTo (wsV RL 98 RX7 yX7_paymentsTo wsX7_paymentsTo) := goodIn_app (goodIn_of _ (by decide +kernel)) ggL_paymentsTo_X7_paymentsTo
theorem dL_paymentsTo_0 : decode cL_paymentsTo 0 = .ok (.aload_n 3, 1) := by decide +kernel
theorem dL_paymentsTo_1 : decode cL_paymentsTo 1 = .ok (.iconst 0, 1) := by decide +kernel
theorem dL_paymentsTo_2 : decode cL_paymentsTo 2 = .ok (.aload_n 0, 1) := by decide +kernel
theorem dL_paymentsTo_3 : decode cL_paymentsTo 3 = .ok (.iload_n 1, 1) := by decide +kernel
theorem dL_paymentsTo_4 : decode cL_paymentsTo 4 = .ok (.iload_n 2, 1) := by decide +kernel
theorem dL_paymentsTo_5 : decode cL_paymentsTo 5 = .ok (.invokevirtual 98, 3) := by decide +kernel
theorem dL_paymentsTo_8 : decode cL_paymentsTo 8 = .ok (.i2l, 1) := by decide +kernel
theorem dL_paymentsTo_9 : decode cL_paymentsTo 9 = .ok (.lastore, 1) := by decide +kernel
theorem dL_paymentsTo_10 : decode cL_paymentsTo 10 = .ok (.goto 11, 3) := by decide +kernel
theorem dL_paymentsTo_13 : decode cL_paymentsTo 13 = .ok (.astore 4, 2) := by decide +kernel
theorem dL_paymentsTo_15 : decode cL_paymentsTo 15 = .ok (.iconst 1, 1) := by decide +kernel
theorem dL_paymentsTo_16 : decode cL_paymentsTo 16 = .ok (.ireturn, 1) := by decide +kernel
theorem dL_paymentsTo_17 : decode cL_paymentsTo 17 = .ok (.astore 4, 2) := by decide +kernel
theorem dL_paymentsTo_19 : decode cL_paymentsTo 19 = .ok (.iconst 2, 1) := by decide +kernel
theorem dL_paymentsTo_20 : decode cL_paymentsTo 20 = .ok (.ireturn, 1) := by decide +kernel
theorem dL_paymentsTo_21 : decode cL_paymentsTo 21 = .ok (.iconst 0, 1) := by decide +kernel
theorem dL_paymentsTo_22 : decode cL_paymentsTo 22 = .ok (.ireturn, 1) := by decide +kernel
set_option maxRecDepth 20000 in
theorem ggL_balanceAfter_X7_balanceAfter : GoodIn wsL_balanceAfter wsX7_balanceAfter := goodIn_ca (goodIn_ca (goodIn_r _ [7, 8, 9, 10, 11, 12, 6, 13, 14, 15, 16, 17, 18, 19, 20, 21, 22, 23, 24, 25, 26, 27, 28, 29, 30, 31, 32, 33, 34, 35, 36, 37, 38, 39, 40, 41, 42, 43, 44, 45, 46, 47, 48, 49, 50, 51, 52, 53, 54, 55, 56, 57, 58, 59, 60, 61, 62, 63, 64, 65, 66, 67, 68, 69, 70, 71, 72, 73, 74, 75, 76, 77, 78, 79, 80, 81, 82, 83] (by decide +kernel) (by decide +kernel)) (goodIn_sub (fun _ h => List.mem_cons_of_mem _ (List.mem_append_left _ (List.mem_append_right _ h))) (by decide +kernel))) (goodIn_sub (fun _ h => List.mem_cons_of_mem _ (List.mem_append_right _ h)) (by decide +kernel))
set_option maxRecDepth 20000 in
theorem gL_balanceAfter_X7_balanceAfter : GoodIn wsL_balanceAfter (wsV RL 101 RX7 yX7_balanceAfter wsX7_balanceAfter) := goodIn_app (goodIn_of _ (by decide +kernel)) ggL_balanceAfter_X7_balanceAfter
theorem dL_balanceAfter_0 : decode cL_balanceAfter 0 = .ok (.aload_n 3, 1) := by decide +kernel
theorem dL_balanceAfter_1 : decode cL_balanceAfter 1 = .ok (.iconst 0, 1) := by decide +kernel
theorem dL_balanceAfter_2 : decode cL_balanceAfter 2 = .ok (.aload_n 0, 1) := by decide +kernel
theorem dL_balanceAfter_3 : decode cL_balanceAfter 3 = .ok (.iload_n 1, 1) := by decide +kernel
theorem dL_balanceAfter_4 : decode cL_balanceAfter 4 = .ok (.iload_n 2, 1) := by decide +kernel
theorem dL_balanceAfter_5 : decode cL_balanceAfter 5 = .ok (.invokevirtual 101, 3) := by decide +kernel
theorem dL_balanceAfter_8 : decode cL_balanceAfter 8 = .ok (.i2l, 1) := by decide +kernel
theorem dL_balanceAfter_9 : decode cL_balanceAfter 9 = .ok (.lastore, 1) := by decide +kernel
theorem dL_balanceAfter_10 : decode cL_balanceAfter 10 = .ok (.goto 11, 3) := by decide +kernel
theorem dL_balanceAfter_13 : decode cL_balanceAfter 13 = .ok (.astore 4, 2) := by decide +kernel
theorem dL_balanceAfter_15 : decode cL_balanceAfter 15 = .ok (.iconst 1, 1) := by decide +kernel
theorem dL_balanceAfter_16 : decode cL_balanceAfter 16 = .ok (.ireturn, 1) := by decide +kernel
theorem dL_balanceAfter_17 : decode cL_balanceAfter 17 = .ok (.astore 4, 2) := by decide +kernel
theorem dL_balanceAfter_19 : decode cL_balanceAfter 19 = .ok (.iconst 2, 1) := by decide +kernel
theorem dL_balanceAfter_20 : decode cL_balanceAfter 20 = .ok (.ireturn, 1) := by decide +kernel
theorem dL_balanceAfter_21 : decode cL_balanceAfter 21 = .ok (.iconst 0, 1) := by decide +kernel
theorem dL_balanceAfter_22 : decode cL_balanceAfter 22 = .ok (.ireturn, 1) := by decide +kernel
set_option maxRecDepth 20000 in
theorem ggL_interestAhead_X7_interestAhead : GoodIn wsL_interestAhead wsX7_interestAhead := goodIn_ca (goodIn_r _ [6, 7, 8, 9, 5, 10, 11, 12, 13, 14, 15, 16, 17, 18, 19, 20, 21, 22, 23, 24, 25, 26, 27, 28, 29, 30, 31, 32, 33, 34, 35, 36, 37, 38, 39, 40, 41, 42, 43, 44, 45, 46, 47, 48, 49, 50, 51, 52, 53, 54, 55, 56, 57, 58, 59, 60, 61, 62, 63, 64, 65, 66, 67, 68, 69, 70, 71, 72, 73, 74, 75, 76, 77, 78, 79, 80, 81] (by decide +kernel) (by decide +kernel)) (goodIn_sub (fun _ h => List.mem_cons_of_mem _ (List.mem_append_right _ h)) (by decide +kernel))
set_option maxRecDepth 20000 in
theorem gL_interestAhead_X7_interestAhead : GoodIn wsL_interestAhead (wsV RL 104 RX7 yX7_interestAhead wsX7_interestAhead) := goodIn_app (goodIn_of _ (by decide +kernel)) ggL_interestAhead_X7_interestAhead
theorem dL_interestAhead_0 : decode cL_interestAhead 0 = .ok (.aload_n 2, 1) := by decide +kernel
theorem dL_interestAhead_1 : decode cL_interestAhead 1 = .ok (.iconst 0, 1) := by decide +kernel
theorem dL_interestAhead_2 : decode cL_interestAhead 2 = .ok (.aload_n 0, 1) := by decide +kernel
theorem dL_interestAhead_3 : decode cL_interestAhead 3 = .ok (.iload_n 1, 1) := by decide +kernel
theorem dL_interestAhead_4 : decode cL_interestAhead 4 = .ok (.invokevirtual 104, 3) := by decide +kernel
theorem dL_interestAhead_7 : decode cL_interestAhead 7 = .ok (.i2l, 1) := by decide +kernel
theorem dL_interestAhead_8 : decode cL_interestAhead 8 = .ok (.lastore, 1) := by decide +kernel
theorem dL_interestAhead_9 : decode cL_interestAhead 9 = .ok (.goto 6, 3) := by decide +kernel
theorem dL_interestAhead_12 : decode cL_interestAhead 12 = .ok (.astore_n 3, 1) := by decide +kernel
theorem dL_interestAhead_13 : decode cL_interestAhead 13 = .ok (.iconst 1, 1) := by decide +kernel
theorem dL_interestAhead_14 : decode cL_interestAhead 14 = .ok (.ireturn, 1) := by decide +kernel
theorem dL_interestAhead_15 : decode cL_interestAhead 15 = .ok (.iconst 0, 1) := by decide +kernel
theorem dL_interestAhead_16 : decode cL_interestAhead 16 = .ok (.ireturn, 1) := by decide +kernel
set_option maxRecDepth 20000 in
theorem ggL_lastDue_X7_lastDue : GoodIn wsL_lastDue wsX7_lastDue := goodIn_ca (goodIn_r _ [6, 7, 8, 9, 5, 10, 11, 12, 13, 14, 15, 16, 17, 18, 19, 20, 21, 22, 23, 24, 25, 26, 27, 28, 29, 30, 31, 32, 33, 34, 35, 36, 37, 38, 39, 40, 41, 42, 43, 44, 45, 46, 47, 48, 49, 50, 51, 52, 53, 54, 55, 56, 57, 58, 59, 60, 61, 62, 63, 64, 65, 66, 67, 68, 69, 70, 71, 72, 73, 74, 75, 76, 77, 78, 79, 80] (by decide +kernel) (by decide +kernel)) (goodIn_sub (fun _ h => List.mem_cons_of_mem _ (List.mem_append_right _ h)) (by decide +kernel))
set_option maxRecDepth 20000 in
theorem gL_lastDue_X7_lastDue : GoodIn wsL_lastDue (wsV RL 107 RX7 yX7_lastDue wsX7_lastDue) := goodIn_app (goodIn_of _ (by decide +kernel)) ggL_lastDue_X7_lastDue
theorem dL_lastDue_0 : decode cL_lastDue 0 = .ok (.aload_n 2, 1) := by decide +kernel
theorem dL_lastDue_1 : decode cL_lastDue 1 = .ok (.iconst 0, 1) := by decide +kernel
theorem dL_lastDue_2 : decode cL_lastDue 2 = .ok (.aload_n 0, 1) := by decide +kernel
theorem dL_lastDue_3 : decode cL_lastDue 3 = .ok (.iload_n 1, 1) := by decide +kernel
theorem dL_lastDue_4 : decode cL_lastDue 4 = .ok (.invokevirtual 107, 3) := by decide +kernel
theorem dL_lastDue_7 : decode cL_lastDue 7 = .ok (.i2l, 1) := by decide +kernel
theorem dL_lastDue_8 : decode cL_lastDue 8 = .ok (.lastore, 1) := by decide +kernel
theorem dL_lastDue_9 : decode cL_lastDue 9 = .ok (.goto 6, 3) := by decide +kernel
theorem dL_lastDue_12 : decode cL_lastDue 12 = .ok (.astore_n 3, 1) := by decide +kernel
theorem dL_lastDue_13 : decode cL_lastDue 13 = .ok (.iconst 1, 1) := by decide +kernel
theorem dL_lastDue_14 : decode cL_lastDue 14 = .ok (.ireturn, 1) := by decide +kernel
theorem dL_lastDue_15 : decode cL_lastDue 15 = .ok (.iconst 0, 1) := by decide +kernel
theorem dL_lastDue_16 : decode cL_lastDue 16 = .ok (.ireturn, 1) := by decide +kernel
set_option maxRecDepth 20000 in
theorem ggL_monthsToHalf_X7_monthsToHalf : GoodIn wsL_monthsToHalf wsX7_monthsToHalf := goodIn_ca (goodIn_r _ [6, 7, 8, 9, 10, 5, 11, 12, 13, 14, 15, 16, 17, 18, 19, 20, 21, 22, 23, 24, 25, 26, 27, 28, 29, 30, 31, 32, 33, 34, 35, 36, 37, 38, 39, 40, 41, 42, 43, 44, 45, 46, 47, 48, 49, 50, 51, 52, 53, 54, 55, 56, 57, 58, 59, 60, 61, 62, 63, 64, 65, 66, 67, 68, 69, 70, 71, 72, 73, 74, 75, 76, 77, 78] (by decide +kernel) (by decide +kernel)) (goodIn_sub (fun _ h => List.mem_cons_of_mem _ (List.mem_append_right _ h)) (by decide +kernel))
set_option maxRecDepth 20000 in
theorem gL_monthsToHalf_X7_monthsToHalf : GoodIn wsL_monthsToHalf (wsV RL 110 RX7 yX7_monthsToHalf wsX7_monthsToHalf) := goodIn_app (goodIn_of _ (by decide +kernel)) ggL_monthsToHalf_X7_monthsToHalf
theorem dL_monthsToHalf_0 : decode cL_monthsToHalf 0 = .ok (.aload_n 2, 1) := by decide +kernel
theorem dL_monthsToHalf_1 : decode cL_monthsToHalf 1 = .ok (.iconst 0, 1) := by decide +kernel
theorem dL_monthsToHalf_2 : decode cL_monthsToHalf 2 = .ok (.aload_n 0, 1) := by decide +kernel
theorem dL_monthsToHalf_3 : decode cL_monthsToHalf 3 = .ok (.iload_n 1, 1) := by decide +kernel
theorem dL_monthsToHalf_4 : decode cL_monthsToHalf 4 = .ok (.invokevirtual 110, 3) := by decide +kernel
theorem dL_monthsToHalf_7 : decode cL_monthsToHalf 7 = .ok (.i2l, 1) := by decide +kernel
theorem dL_monthsToHalf_8 : decode cL_monthsToHalf 8 = .ok (.lastore, 1) := by decide +kernel
theorem dL_monthsToHalf_9 : decode cL_monthsToHalf 9 = .ok (.goto 6, 3) := by decide +kernel
theorem dL_monthsToHalf_12 : decode cL_monthsToHalf 12 = .ok (.astore_n 3, 1) := by decide +kernel
theorem dL_monthsToHalf_13 : decode cL_monthsToHalf 13 = .ok (.iconst 1, 1) := by decide +kernel
theorem dL_monthsToHalf_14 : decode cL_monthsToHalf 14 = .ok (.ireturn, 1) := by decide +kernel
theorem dL_monthsToHalf_15 : decode cL_monthsToHalf 15 = .ok (.iconst 0, 1) := by decide +kernel
theorem dL_monthsToHalf_16 : decode cL_monthsToHalf 16 = .ok (.ireturn, 1) := by decide +kernel
set_option maxRecDepth 20000 in
theorem ggL_installmentFor_X7_installmentFor : GoodIn wsL_installmentFor wsX7_installmentFor := goodIn_ca (goodIn_ca (goodIn_r _ [7, 8, 9, 10, 6, 11, 12, 13, 14, 15, 16, 17, 18, 19, 20, 21, 22, 23, 24, 25, 26, 27, 28, 29, 30, 31, 32, 33, 34, 35, 36, 37, 38, 39, 40, 41, 42, 43, 44, 45, 46, 47, 48, 49, 50, 51, 52, 53, 54, 55, 56, 57, 58, 59, 60, 61, 62, 63, 64, 65, 66] (by decide +kernel) (by decide +kernel)) (goodIn_sub (fun _ h => List.mem_cons_of_mem _ (List.mem_append_left _ (List.mem_append_right _ h))) (by decide +kernel))) (goodIn_sub (fun _ h => List.mem_cons_of_mem _ (List.mem_append_right _ h)) (by decide +kernel))
set_option maxRecDepth 20000 in
theorem gL_installmentFor_X7_installmentFor : GoodIn wsL_installmentFor (wsV RL 113 RX7 yX7_installmentFor wsX7_installmentFor) := goodIn_app (goodIn_of _ (by decide +kernel)) ggL_installmentFor_X7_installmentFor
theorem dL_installmentFor_0 : decode cL_installmentFor 0 = .ok (.aload_n 3, 1) := by decide +kernel
theorem dL_installmentFor_1 : decode cL_installmentFor 1 = .ok (.iconst 0, 1) := by decide +kernel
theorem dL_installmentFor_2 : decode cL_installmentFor 2 = .ok (.aload_n 0, 1) := by decide +kernel
theorem dL_installmentFor_3 : decode cL_installmentFor 3 = .ok (.iload_n 1, 1) := by decide +kernel
theorem dL_installmentFor_4 : decode cL_installmentFor 4 = .ok (.iload_n 2, 1) := by decide +kernel
theorem dL_installmentFor_5 : decode cL_installmentFor 5 = .ok (.invokevirtual 113, 3) := by decide +kernel
theorem dL_installmentFor_8 : decode cL_installmentFor 8 = .ok (.i2l, 1) := by decide +kernel
theorem dL_installmentFor_9 : decode cL_installmentFor 9 = .ok (.lastore, 1) := by decide +kernel
theorem dL_installmentFor_10 : decode cL_installmentFor 10 = .ok (.goto 11, 3) := by decide +kernel
theorem dL_installmentFor_13 : decode cL_installmentFor 13 = .ok (.astore 4, 2) := by decide +kernel
theorem dL_installmentFor_15 : decode cL_installmentFor 15 = .ok (.iconst 1, 1) := by decide +kernel
theorem dL_installmentFor_16 : decode cL_installmentFor 16 = .ok (.ireturn, 1) := by decide +kernel
theorem dL_installmentFor_17 : decode cL_installmentFor 17 = .ok (.astore 4, 2) := by decide +kernel
theorem dL_installmentFor_19 : decode cL_installmentFor 19 = .ok (.iconst 2, 1) := by decide +kernel
theorem dL_installmentFor_20 : decode cL_installmentFor 20 = .ok (.ireturn, 1) := by decide +kernel
theorem dL_installmentFor_21 : decode cL_installmentFor 21 = .ok (.iconst 0, 1) := by decide +kernel
theorem dL_installmentFor_22 : decode cL_installmentFor 22 = .ok (.ireturn, 1) := by decide +kernel
set_option maxRecDepth 20000 in
theorem ggL_monthsFor_X7_monthsFor : GoodIn wsL_monthsFor wsX7_monthsFor := goodIn_ca (goodIn_ca (goodIn_r _ [7, 8, 9, 10, 11, 6, 12, 13, 14, 15, 16, 17, 18, 19, 20, 21, 22, 23, 24, 25, 26, 27, 28, 29, 30, 31, 32, 33, 34, 35, 36, 37, 38, 39, 40, 41, 42, 43, 44, 45, 46, 47, 48, 49, 50, 51, 52, 53, 54, 55, 56, 57, 58, 59] (by decide +kernel) (by decide +kernel)) (goodIn_sub (fun _ h => List.mem_cons_of_mem _ (List.mem_append_left _ (List.mem_append_right _ h))) (by decide +kernel))) (goodIn_sub (fun _ h => List.mem_cons_of_mem _ (List.mem_append_right _ h)) (by decide +kernel))
set_option maxRecDepth 20000 in
theorem gL_monthsFor_X7_monthsFor : GoodIn wsL_monthsFor (wsV RL 116 RX7 yX7_monthsFor wsX7_monthsFor) := goodIn_app (goodIn_of _ (by decide +kernel)) ggL_monthsFor_X7_monthsFor
theorem dL_monthsFor_0 : decode cL_monthsFor 0 = .ok (.aload_n 3, 1) := by decide +kernel
theorem dL_monthsFor_1 : decode cL_monthsFor 1 = .ok (.iconst 0, 1) := by decide +kernel
theorem dL_monthsFor_2 : decode cL_monthsFor 2 = .ok (.aload_n 0, 1) := by decide +kernel
theorem dL_monthsFor_3 : decode cL_monthsFor 3 = .ok (.iload_n 1, 1) := by decide +kernel
theorem dL_monthsFor_4 : decode cL_monthsFor 4 = .ok (.iload_n 2, 1) := by decide +kernel
theorem dL_monthsFor_5 : decode cL_monthsFor 5 = .ok (.invokevirtual 116, 3) := by decide +kernel
theorem dL_monthsFor_8 : decode cL_monthsFor 8 = .ok (.i2l, 1) := by decide +kernel
theorem dL_monthsFor_9 : decode cL_monthsFor 9 = .ok (.lastore, 1) := by decide +kernel
theorem dL_monthsFor_10 : decode cL_monthsFor 10 = .ok (.goto 11, 3) := by decide +kernel
theorem dL_monthsFor_13 : decode cL_monthsFor 13 = .ok (.astore 4, 2) := by decide +kernel
theorem dL_monthsFor_15 : decode cL_monthsFor 15 = .ok (.iconst 1, 1) := by decide +kernel
theorem dL_monthsFor_16 : decode cL_monthsFor 16 = .ok (.ireturn, 1) := by decide +kernel
theorem dL_monthsFor_17 : decode cL_monthsFor 17 = .ok (.astore 4, 2) := by decide +kernel
theorem dL_monthsFor_19 : decode cL_monthsFor 19 = .ok (.iconst 2, 1) := by decide +kernel
theorem dL_monthsFor_20 : decode cL_monthsFor 20 = .ok (.ireturn, 1) := by decide +kernel
theorem dL_monthsFor_21 : decode cL_monthsFor 21 = .ok (.iconst 0, 1) := by decide +kernel
theorem dL_monthsFor_22 : decode cL_monthsFor 22 = .ok (.ireturn, 1) := by decide +kernel
set_option maxRecDepth 20000 in
theorem ggL_savingOfExtra_X7_savingOfExtra : GoodIn wsL_savingOfExtra wsX7_savingOfExtra := goodIn_ca (goodIn_ca (goodIn_r _ [7, 8, 9, 10, 11, 12, 6, 13, 14, 15, 16, 17, 18, 19, 20, 21, 22, 23, 24, 25, 26, 27, 28, 29, 30, 31, 32, 33, 34, 35, 36, 37, 38, 39, 40, 41, 42, 43, 44, 45, 46, 47, 48, 49, 50, 51, 52, 53, 54, 55, 56, 57, 58, 59, 60, 61, 62, 63, 64, 65, 66, 67, 68, 69, 70, 71, 72, 73, 74, 75, 76, 77, 78, 79, 80, 81, 82, 83, 84, 85, 86, 87, 88, 89, 90, 91, 92, 93, 94, 95, 96, 97, 98, 99, 100, 101, 102, 103, 104, 105, 106, 107, 108, 109] (by decide +kernel) (by decide +kernel)) (goodIn_sub (fun _ h => List.mem_cons_of_mem _ (List.mem_append_left _ (List.mem_append_right _ h))) (by decide +kernel))) (goodIn_sub (fun _ h => List.mem_cons_of_mem _ (List.mem_append_right _ h)) (by decide +kernel))
set_option maxRecDepth 20000 in
theorem gL_savingOfExtra_X7_savingOfExtra : GoodIn wsL_savingOfExtra (wsV RL 119 RX7 yX7_savingOfExtra wsX7_savingOfExtra) := goodIn_app (goodIn_of _ (by decide +kernel)) ggL_savingOfExtra_X7_savingOfExtra
theorem dL_savingOfExtra_0 : decode cL_savingOfExtra 0 = .ok (.aload 4, 2) := by decide +kernel
theorem dL_savingOfExtra_2 : decode cL_savingOfExtra 2 = .ok (.iconst 0, 1) := by decide +kernel
theorem dL_savingOfExtra_3 : decode cL_savingOfExtra 3 = .ok (.aload_n 0, 1) := by decide +kernel
theorem dL_savingOfExtra_4 : decode cL_savingOfExtra 4 = .ok (.iload_n 1, 1) := by decide +kernel
theorem dL_savingOfExtra_5 : decode cL_savingOfExtra 5 = .ok (.iload_n 2, 1) := by decide +kernel
theorem dL_savingOfExtra_6 : decode cL_savingOfExtra 6 = .ok (.iload_n 3, 1) := by decide +kernel
theorem dL_savingOfExtra_7 : decode cL_savingOfExtra 7 = .ok (.invokevirtual 119, 3) := by decide +kernel
theorem dL_savingOfExtra_10 : decode cL_savingOfExtra 10 = .ok (.i2l, 1) := by decide +kernel
theorem dL_savingOfExtra_11 : decode cL_savingOfExtra 11 = .ok (.lastore, 1) := by decide +kernel
theorem dL_savingOfExtra_12 : decode cL_savingOfExtra 12 = .ok (.goto 11, 3) := by decide +kernel
theorem dL_savingOfExtra_15 : decode cL_savingOfExtra 15 = .ok (.astore 5, 2) := by decide +kernel
theorem dL_savingOfExtra_17 : decode cL_savingOfExtra 17 = .ok (.iconst 1, 1) := by decide +kernel
theorem dL_savingOfExtra_18 : decode cL_savingOfExtra 18 = .ok (.ireturn, 1) := by decide +kernel
theorem dL_savingOfExtra_19 : decode cL_savingOfExtra 19 = .ok (.astore 5, 2) := by decide +kernel
theorem dL_savingOfExtra_21 : decode cL_savingOfExtra 21 = .ok (.iconst 2, 1) := by decide +kernel
theorem dL_savingOfExtra_22 : decode cL_savingOfExtra 22 = .ok (.ireturn, 1) := by decide +kernel
theorem dL_savingOfExtra_23 : decode cL_savingOfExtra 23 = .ok (.iconst 0, 1) := by decide +kernel
theorem dL_savingOfExtra_24 : decode cL_savingOfExtra 24 = .ok (.ireturn, 1) := by decide +kernel
set_option maxRecDepth 20000 in
theorem ggL_interestIfRate_X7_interestIfRate : GoodIn wsL_interestIfRate wsX7_interestIfRate := goodIn_ca (goodIn_ca (goodIn_r _ [7, 8, 9, 10, 11, 6, 12, 13, 14, 15, 16, 17, 18, 19, 20, 21, 22, 23, 24, 25, 26, 27, 28, 29, 30, 31, 32, 33, 34, 35, 36, 37, 38, 39, 40, 41, 42, 43, 44, 45, 46, 47, 48, 49, 50, 51, 52, 53, 54, 55, 56, 57, 58, 59, 60, 61, 62, 63, 64, 65, 66, 67, 68, 69, 70, 71, 72, 73, 74, 75, 76, 77, 78, 79, 80, 81, 82, 83, 84, 85, 86, 87, 88, 89, 90, 91, 92, 93, 94, 95, 96, 97, 98, 99, 100, 101, 102, 103, 104, 105, 106, 107, 108, 109, 110, 111, 112, 113] (by decide +kernel) (by decide +kernel)) (goodIn_sub (fun _ h => List.mem_cons_of_mem _ (List.mem_append_left _ (List.mem_append_right _ h))) (by decide +kernel))) (goodIn_sub (fun _ h => List.mem_cons_of_mem _ (List.mem_append_right _ h)) (by decide +kernel))
set_option maxRecDepth 20000 in
theorem gL_interestIfRate_X7_interestIfRate : GoodIn wsL_interestIfRate (wsV RL 122 RX7 yX7_interestIfRate wsX7_interestIfRate) := goodIn_app (goodIn_of _ (by decide +kernel)) ggL_interestIfRate_X7_interestIfRate
theorem dL_interestIfRate_0 : decode cL_interestIfRate 0 = .ok (.aload_n 3, 1) := by decide +kernel
theorem dL_interestIfRate_1 : decode cL_interestIfRate 1 = .ok (.iconst 0, 1) := by decide +kernel
theorem dL_interestIfRate_2 : decode cL_interestIfRate 2 = .ok (.aload_n 0, 1) := by decide +kernel
theorem dL_interestIfRate_3 : decode cL_interestIfRate 3 = .ok (.iload_n 1, 1) := by decide +kernel
theorem dL_interestIfRate_4 : decode cL_interestIfRate 4 = .ok (.iload_n 2, 1) := by decide +kernel
theorem dL_interestIfRate_5 : decode cL_interestIfRate 5 = .ok (.invokevirtual 122, 3) := by decide +kernel
theorem dL_interestIfRate_8 : decode cL_interestIfRate 8 = .ok (.i2l, 1) := by decide +kernel
theorem dL_interestIfRate_9 : decode cL_interestIfRate 9 = .ok (.lastore, 1) := by decide +kernel
theorem dL_interestIfRate_10 : decode cL_interestIfRate 10 = .ok (.goto 11, 3) := by decide +kernel
theorem dL_interestIfRate_13 : decode cL_interestIfRate 13 = .ok (.astore 4, 2) := by decide +kernel
theorem dL_interestIfRate_15 : decode cL_interestIfRate 15 = .ok (.iconst 1, 1) := by decide +kernel
theorem dL_interestIfRate_16 : decode cL_interestIfRate 16 = .ok (.ireturn, 1) := by decide +kernel
theorem dL_interestIfRate_17 : decode cL_interestIfRate 17 = .ok (.astore 4, 2) := by decide +kernel
theorem dL_interestIfRate_19 : decode cL_interestIfRate 19 = .ok (.iconst 2, 1) := by decide +kernel
theorem dL_interestIfRate_20 : decode cL_interestIfRate 20 = .ok (.ireturn, 1) := by decide +kernel
theorem dL_interestIfRate_21 : decode cL_interestIfRate 21 = .ok (.iconst 0, 1) := by decide +kernel
theorem dL_interestIfRate_22 : decode cL_interestIfRate 22 = .ok (.ireturn, 1) := by decide +kernel
set_option maxRecDepth 20000 in
theorem ggL_isCheaper_X7_isCheaper : GoodIn wsL_isCheaper wsX7_isCheaper := goodIn_ca (goodIn_ca (goodIn_r _ [7, 8, 9, 10, 6, 11, 12, 13, 14, 15, 16, 17, 18, 19, 20, 21, 22, 23, 24, 25, 26, 27, 28, 29, 30, 31, 32, 33, 34, 35, 36, 37, 38, 39, 40, 41, 42, 43, 44, 45, 46, 47, 48, 49, 50, 51, 52, 53, 54, 55, 56, 57, 58, 59, 60, 61, 62, 63, 64, 65, 66, 67, 68, 69, 70, 71, 72, 73, 74, 75, 76, 77, 78, 79, 80, 81, 82, 83, 84, 85, 86, 87, 88, 89, 90, 91, 92, 93, 94, 95, 96, 97, 98, 99, 100, 101, 102, 103, 104, 105, 106, 107, 108, 109, 110, 111, 112] (by decide +kernel) (by decide +kernel)) (goodIn_sub (fun _ h => List.mem_cons_of_mem _ (List.mem_append_left _ (List.mem_append_right _ h))) (by decide +kernel))) (goodIn_sub (fun _ h => List.mem_cons_of_mem _ (List.mem_append_right _ h)) (by decide +kernel))
set_option maxRecDepth 20000 in
theorem gL_isCheaper_X7_isCheaper : GoodIn wsL_isCheaper (wsV RL 125 RX7 yX7_isCheaper wsX7_isCheaper) := goodIn_app (goodIn_of _ (by decide +kernel)) ggL_isCheaper_X7_isCheaper
theorem dL_isCheaper_0 : decode cL_isCheaper 0 = .ok (.aload 4, 2) := by decide +kernel
theorem dL_isCheaper_2 : decode cL_isCheaper 2 = .ok (.iconst 0, 1) := by decide +kernel
theorem dL_isCheaper_3 : decode cL_isCheaper 3 = .ok (.aload_n 0, 1) := by decide +kernel
theorem dL_isCheaper_4 : decode cL_isCheaper 4 = .ok (.iload_n 1, 1) := by decide +kernel
theorem dL_isCheaper_5 : decode cL_isCheaper 5 = .ok (.iload_n 2, 1) := by decide +kernel
theorem dL_isCheaper_6 : decode cL_isCheaper 6 = .ok (.iload_n 3, 1) := by decide +kernel
theorem dL_isCheaper_7 : decode cL_isCheaper 7 = .ok (.invokevirtual 125, 3) := by decide +kernel
theorem dL_isCheaper_10 : decode cL_isCheaper 10 = .ok (.ifCond .eq 7, 3) := by decide +kernel
theorem dL_isCheaper_13 : decode cL_isCheaper 13 = .ok (.lconst 1, 1) := by decide +kernel
theorem dL_isCheaper_14 : decode cL_isCheaper 14 = .ok (.goto 4, 3) := by decide +kernel
theorem dL_isCheaper_17 : decode cL_isCheaper 17 = .ok (.lconst 0, 1) := by decide +kernel
theorem dL_isCheaper_18 : decode cL_isCheaper 18 = .ok (.lastore, 1) := by decide +kernel
theorem dL_isCheaper_19 : decode cL_isCheaper 19 = .ok (.goto 11, 3) := by decide +kernel
theorem dL_isCheaper_22 : decode cL_isCheaper 22 = .ok (.astore 5, 2) := by decide +kernel
theorem dL_isCheaper_24 : decode cL_isCheaper 24 = .ok (.iconst 1, 1) := by decide +kernel
theorem dL_isCheaper_25 : decode cL_isCheaper 25 = .ok (.ireturn, 1) := by decide +kernel
theorem dL_isCheaper_26 : decode cL_isCheaper 26 = .ok (.astore 5, 2) := by decide +kernel
theorem dL_isCheaper_28 : decode cL_isCheaper 28 = .ok (.iconst 2, 1) := by decide +kernel
theorem dL_isCheaper_29 : decode cL_isCheaper 29 = .ok (.ireturn, 1) := by decide +kernel
theorem dL_isCheaper_30 : decode cL_isCheaper 30 = .ok (.iconst 0, 1) := by decide +kernel
theorem dL_isCheaper_31 : decode cL_isCheaper 31 = .ok (.ireturn, 1) := by decide +kernel
set_option maxRecDepth 20000 in
theorem ggL_skipsWithin_X7_skipsWithin : GoodIn wsL_skipsWithin wsX7_skipsWithin := goodIn_ca (goodIn_ca (goodIn_r _ [7, 8, 9, 10, 11, 12, 13, 6, 14, 15, 16, 17, 18, 19, 20, 21, 22, 23, 24, 25, 26, 27, 28, 29, 30, 31, 32, 33, 34, 35, 36, 37, 38, 39, 40, 41, 42, 43, 44, 45, 46, 47, 48, 49, 50, 51, 52, 53, 54, 55, 56, 57, 58, 59, 60, 61, 62, 63, 64, 65, 66, 67, 68, 69, 70, 71, 72, 73, 74, 75, 76, 77, 78, 79, 80, 81, 82, 83, 84, 85, 86, 87, 88, 89] (by decide +kernel) (by decide +kernel)) (goodIn_sub (fun _ h => List.mem_cons_of_mem _ (List.mem_append_left _ (List.mem_append_right _ h))) (by decide +kernel))) (goodIn_sub (fun _ h => List.mem_cons_of_mem _ (List.mem_append_right _ h)) (by decide +kernel))
set_option maxRecDepth 20000 in
theorem gL_skipsWithin_X7_skipsWithin : GoodIn wsL_skipsWithin (wsV RL 129 RX7 yX7_skipsWithin wsX7_skipsWithin) := goodIn_app (goodIn_of _ (by decide +kernel)) ggL_skipsWithin_X7_skipsWithin
theorem dL_skipsWithin_0 : decode cL_skipsWithin 0 = .ok (.aload_n 3, 1) := by decide +kernel
theorem dL_skipsWithin_1 : decode cL_skipsWithin 1 = .ok (.iconst 0, 1) := by decide +kernel
theorem dL_skipsWithin_2 : decode cL_skipsWithin 2 = .ok (.aload_n 0, 1) := by decide +kernel
theorem dL_skipsWithin_3 : decode cL_skipsWithin 3 = .ok (.iload_n 1, 1) := by decide +kernel
theorem dL_skipsWithin_4 : decode cL_skipsWithin 4 = .ok (.iload_n 2, 1) := by decide +kernel
theorem dL_skipsWithin_5 : decode cL_skipsWithin 5 = .ok (.invokevirtual 129, 3) := by decide +kernel
theorem dL_skipsWithin_8 : decode cL_skipsWithin 8 = .ok (.i2l, 1) := by decide +kernel
theorem dL_skipsWithin_9 : decode cL_skipsWithin 9 = .ok (.lastore, 1) := by decide +kernel
theorem dL_skipsWithin_10 : decode cL_skipsWithin 10 = .ok (.goto 11, 3) := by decide +kernel
theorem dL_skipsWithin_13 : decode cL_skipsWithin 13 = .ok (.astore 4, 2) := by decide +kernel
theorem dL_skipsWithin_15 : decode cL_skipsWithin 15 = .ok (.iconst 1, 1) := by decide +kernel
theorem dL_skipsWithin_16 : decode cL_skipsWithin 16 = .ok (.ireturn, 1) := by decide +kernel
theorem dL_skipsWithin_17 : decode cL_skipsWithin 17 = .ok (.astore 4, 2) := by decide +kernel
theorem dL_skipsWithin_19 : decode cL_skipsWithin 19 = .ok (.iconst 2, 1) := by decide +kernel
theorem dL_skipsWithin_20 : decode cL_skipsWithin 20 = .ok (.ireturn, 1) := by decide +kernel
theorem dL_skipsWithin_21 : decode cL_skipsWithin 21 = .ok (.iconst 0, 1) := by decide +kernel
theorem dL_skipsWithin_22 : decode cL_skipsWithin 22 = .ok (.ireturn, 1) := by decide +kernel
set_option maxRecDepth 20000 in
theorem ggL_budgetMonths_X7_budgetMonths : GoodIn wsL_budgetMonths wsX7_budgetMonths := goodIn_ca (goodIn_r _ [6, 7, 8, 9, 10, 11, 5, 12, 13, 14, 15, 16, 17, 18, 19, 20, 21, 22, 23, 24, 25, 26, 27, 28, 29, 30, 31, 32, 33, 34, 35, 36, 37, 38, 39, 40, 41, 42, 43, 44, 45, 46, 47, 48, 49, 50, 51, 52, 53, 54, 55, 56, 57, 58, 59, 60, 61, 62, 63, 64, 65, 66, 67, 68, 69, 70, 71, 72, 73, 74, 75, 76, 77, 78, 79, 80, 81, 82, 83, 84, 85, 86, 87, 88, 89, 90, 91, 92, 93, 94, 95, 96, 97, 98, 99, 100, 101, 102, 103, 104, 105, 106, 107, 108, 109, 110, 111, 112, 113, 114, 115, 116, 117, 118, 119, 120, 121, 122, 123, 124, 125, 126, 127, 128, 129, 130, 131, 132, 133, 134, 135, 136, 137, 138, 139, 140, 141, 142, 143, 144, 145, 146, 147, 148, 149, 150, 151, 152, 153, 154, 155, 156, 157, 158, 159, 160, 161, 162, 163, 164, 165, 166, 167, 168, 169, 170, 171, 172, 173, 174] (by decide +kernel) (by decide +kernel)) (goodIn_sub (fun _ h => List.mem_cons_of_mem _ (List.mem_append_right _ h)) (by decide +kernel))
set_option maxRecDepth 20000 in
theorem gL_budgetMonths_X7_budgetMonths : GoodIn wsL_budgetMonths (wsV RL 132 RX7 yX7_budgetMonths wsX7_budgetMonths) := goodIn_app (goodIn_of _ (by decide +kernel)) ggL_budgetMonths_X7_budgetMonths
theorem dL_budgetMonths_0 : decode cL_budgetMonths 0 = .ok (.aload_n 3, 1) := by decide +kernel
theorem dL_budgetMonths_1 : decode cL_budgetMonths 1 = .ok (.iconst 0, 1) := by decide +kernel
theorem dL_budgetMonths_2 : decode cL_budgetMonths 2 = .ok (.aload_n 0, 1) := by decide +kernel
theorem dL_budgetMonths_3 : decode cL_budgetMonths 3 = .ok (.iload_n 1, 1) := by decide +kernel
theorem dL_budgetMonths_4 : decode cL_budgetMonths 4 = .ok (.iload_n 2, 1) := by decide +kernel
theorem dL_budgetMonths_5 : decode cL_budgetMonths 5 = .ok (.invokevirtual 132, 3) := by decide +kernel
theorem dL_budgetMonths_8 : decode cL_budgetMonths 8 = .ok (.i2l, 1) := by decide +kernel
theorem dL_budgetMonths_9 : decode cL_budgetMonths 9 = .ok (.lastore, 1) := by decide +kernel
theorem dL_budgetMonths_10 : decode cL_budgetMonths 10 = .ok (.goto 7, 3) := by decide +kernel
theorem dL_budgetMonths_13 : decode cL_budgetMonths 13 = .ok (.astore 4, 2) := by decide +kernel
theorem dL_budgetMonths_15 : decode cL_budgetMonths 15 = .ok (.iconst 1, 1) := by decide +kernel
theorem dL_budgetMonths_16 : decode cL_budgetMonths 16 = .ok (.ireturn, 1) := by decide +kernel
theorem dL_budgetMonths_17 : decode cL_budgetMonths 17 = .ok (.iconst 0, 1) := by decide +kernel
theorem dL_budgetMonths_18 : decode cL_budgetMonths 18 = .ok (.ireturn, 1) := by decide +kernel
set_option maxRecDepth 20000 in
theorem ggL_budgetInterest_X7_budgetInterest : GoodIn wsL_budgetInterest wsX7_budgetInterest := goodIn_ca (goodIn_r _ [6, 7, 8, 9, 10, 11, 5, 12, 13, 14, 15, 16, 17, 18, 19, 20, 21, 22, 23, 24, 25, 26, 27, 28, 29, 30, 31, 32, 33, 34, 35, 36, 37, 38, 39, 40, 41, 42, 43, 44, 45, 46, 47, 48, 49, 50, 51, 52, 53, 54, 55, 56, 57, 58, 59, 60, 61, 62, 63, 64, 65, 66, 67, 68, 69, 70, 71, 72, 73, 74, 75, 76, 77, 78, 79, 80, 81, 82, 83, 84, 85, 86, 87, 88, 89, 90, 91, 92, 93, 94, 95, 96, 97, 98, 99, 100, 101, 102, 103, 104, 105, 106, 107, 108, 109, 110, 111, 112, 113, 114, 115, 116, 117, 118, 119, 120, 121, 122, 123, 124, 125, 126, 127, 128, 129, 130, 131, 132, 133, 134, 135, 136, 137, 138, 139, 140, 141, 142, 143, 144, 145, 146, 147, 148, 149, 150, 151, 152, 153, 154, 155, 156, 157, 158, 159, 160, 161, 162, 163, 164, 165, 166, 167, 168, 169, 170, 171, 172, 173, 174, 175, 176, 177, 178, 179] (by decide +kernel) (by decide +kernel)) (goodIn_sub (fun _ h => List.mem_cons_of_mem _ (List.mem_append_right _ h)) (by decide +kernel))
set_option maxRecDepth 20000 in
theorem gL_budgetInterest_X7_budgetInterest : GoodIn wsL_budgetInterest (wsV RL 136 RX7 yX7_budgetInterest wsX7_budgetInterest) := goodIn_app (goodIn_of _ (by decide +kernel)) ggL_budgetInterest_X7_budgetInterest
theorem dL_budgetInterest_0 : decode cL_budgetInterest 0 = .ok (.aload_n 3, 1) := by decide +kernel
theorem dL_budgetInterest_1 : decode cL_budgetInterest 1 = .ok (.iconst 0, 1) := by decide +kernel
theorem dL_budgetInterest_2 : decode cL_budgetInterest 2 = .ok (.aload_n 0, 1) := by decide +kernel
theorem dL_budgetInterest_3 : decode cL_budgetInterest 3 = .ok (.iload_n 1, 1) := by decide +kernel
theorem dL_budgetInterest_4 : decode cL_budgetInterest 4 = .ok (.iload_n 2, 1) := by decide +kernel
theorem dL_budgetInterest_5 : decode cL_budgetInterest 5 = .ok (.invokevirtual 136, 3) := by decide +kernel
theorem dL_budgetInterest_8 : decode cL_budgetInterest 8 = .ok (.i2l, 1) := by decide +kernel
theorem dL_budgetInterest_9 : decode cL_budgetInterest 9 = .ok (.lastore, 1) := by decide +kernel
theorem dL_budgetInterest_10 : decode cL_budgetInterest 10 = .ok (.goto 7, 3) := by decide +kernel
theorem dL_budgetInterest_13 : decode cL_budgetInterest 13 = .ok (.astore 4, 2) := by decide +kernel
theorem dL_budgetInterest_15 : decode cL_budgetInterest 15 = .ok (.iconst 1, 1) := by decide +kernel
theorem dL_budgetInterest_16 : decode cL_budgetInterest 16 = .ok (.ireturn, 1) := by decide +kernel
theorem dL_budgetInterest_17 : decode cL_budgetInterest 17 = .ok (.iconst 0, 1) := by decide +kernel
theorem dL_budgetInterest_18 : decode cL_budgetInterest 18 = .ok (.ireturn, 1) := by decide +kernel
set_option maxRecDepth 20000 in
theorem ggL_writeSchedule_X7_writeSchedule : GoodIn wsL_writeSchedule wsX7_writeSchedule := goodIn_ca (goodIn_r _ [6, 7, 8, 9, 10, 11, 12, 5, 13, 14, 15, 16, 17, 18, 19, 20, 21, 22, 23, 24, 25, 26, 27, 28, 29, 30, 31, 32, 33, 34, 35, 36, 37, 38, 39, 40, 41, 42, 43, 44, 45, 46, 47, 48, 49, 50, 51, 52, 53, 54, 55, 56, 57, 58, 59, 60, 61, 62, 63, 64, 65, 66, 67, 68, 69, 70, 71, 72, 73, 74, 75, 76, 77, 78, 79, 80, 81, 82, 83, 84, 85, 86, 87, 88, 89, 90, 91, 92, 93, 94, 95, 96, 97, 98, 99, 100] (by decide +kernel) (by decide +kernel)) (goodIn_sub (fun _ h => List.mem_cons_of_mem _ (List.mem_append_right _ h)) (by decide +kernel))
set_option maxRecDepth 20000 in
theorem gL_writeSchedule_X7_writeSchedule : GoodIn wsL_writeSchedule (wsV RL 139 RX7 yX7_writeSchedule wsX7_writeSchedule) := goodIn_app (goodIn_of _ (by decide +kernel)) ggL_writeSchedule_X7_writeSchedule
theorem dL_writeSchedule_0 : decode cL_writeSchedule 0 = .ok (.aload_n 2, 1) := by decide +kernel
theorem dL_writeSchedule_1 : decode cL_writeSchedule 1 = .ok (.iconst 0, 1) := by decide +kernel
theorem dL_writeSchedule_2 : decode cL_writeSchedule 2 = .ok (.aload_n 0, 1) := by decide +kernel
theorem dL_writeSchedule_3 : decode cL_writeSchedule 3 = .ok (.iload_n 1, 1) := by decide +kernel
theorem dL_writeSchedule_4 : decode cL_writeSchedule 4 = .ok (.invokevirtual 139, 3) := by decide +kernel
theorem dL_writeSchedule_7 : decode cL_writeSchedule 7 = .ok (.i2l, 1) := by decide +kernel
theorem dL_writeSchedule_8 : decode cL_writeSchedule 8 = .ok (.lastore, 1) := by decide +kernel
theorem dL_writeSchedule_9 : decode cL_writeSchedule 9 = .ok (.goto 6, 3) := by decide +kernel
theorem dL_writeSchedule_12 : decode cL_writeSchedule 12 = .ok (.astore_n 3, 1) := by decide +kernel
theorem dL_writeSchedule_13 : decode cL_writeSchedule 13 = .ok (.iconst 1, 1) := by decide +kernel
theorem dL_writeSchedule_14 : decode cL_writeSchedule 14 = .ok (.ireturn, 1) := by decide +kernel
theorem dL_writeSchedule_15 : decode cL_writeSchedule 15 = .ok (.iconst 0, 1) := by decide +kernel
theorem dL_writeSchedule_16 : decode cL_writeSchedule 16 = .ok (.ireturn, 1) := by decide +kernel
