theorem dX7_restoreSnapshot_15 : decode cX7_restoreSnapshot 15 = .ok (.aload_n 0, 1) := by decide +kernel
theorem dX7_restoreSnapshot_16 : decode cX7_restoreSnapshot 16 = .ok (.getfield 20, 3) := by decide +kernel
theorem dX7_restoreSnapshot_19 : decode cX7_restoreSnapshot 19 = .ok (.aload_n 0, 1) := by decide +kernel
theorem dX7_restoreSnapshot_20 : decode cX7_restoreSnapshot 20 = .ok (.getfield 31, 3) := by decide +kernel
theorem dX7_restoreSnapshot_23 : decode cX7_restoreSnapshot 23 = .ok (.invokevirtual 83, 3) := by decide +kernel
theorem dX7_restoreSnapshot_26 : decode cX7_restoreSnapshot 26 = .ok (.aload_n 0, 1) := by decide +kernel
theorem dX7_restoreSnapshot_27 : decode cX7_restoreSnapshot 27 = .ok (.getfield 27, 3) := by decide +kernel
theorem dX7_restoreSnapshot_30 : decode cX7_restoreSnapshot 30 = .ok (.invokevirtual 173, 3) := by decide +kernel
theorem dX7_restoreSnapshot_33 : decode cX7_restoreSnapshot 33 = .ok (.aload_n 0, 1) := by decide +kernel
theorem dX7_restoreSnapshot_34 : decode cX7_restoreSnapshot 34 = .ok (.getfield 20, 3) := by decide +kernel
theorem dX7_restoreSnapshot_37 : decode cX7_restoreSnapshot 37 = .ok (.getfield 100, 3) := by decide +kernel
theorem dX7_restoreSnapshot_40 : decode cX7_restoreSnapshot 40 = .ok (.ireturn, 1) := by decide +kernel
theorem dX7_scriptErrorKind_0 : decode cX7_scriptErrorKind 0 = .ok (.aload_n 0, 1) := by decide +kernel
theorem dX7_scriptErrorKind_1 : decode cX7_scriptErrorKind 1 = .ok (.getfield 63, 3) := by decide +kernel
theorem dX7_scriptErrorKind_4 : decode cX7_scriptErrorKind 4 = .ok (.getfield 94, 3) := by decide +kernel
theorem dX7_scriptErrorKind_7 : decode cX7_scriptErrorKind 7 = .ok (.ireturn, 1) := by decide +kernel
theorem dX7_scriptErrorOffset_0 : decode cX7_scriptErrorOffset 0 = .ok (.aload_n 0, 1) := by decide +kernel
theorem dX7_scriptErrorOffset_1 : decode cX7_scriptErrorOffset 1 = .ok (.getfield 63, 3) := by decide +kernel
theorem dX7_scriptErrorOffset_4 : decode cX7_scriptErrorOffset 4 = .ok (.getfield 176, 3) := by decide +kernel
theorem dX7_scriptErrorOffset_7 : decode cX7_scriptErrorOffset 7 = .ok (.ireturn, 1) := by decide +kernel
theorem dX7_loanCount_0 : decode cX7_loanCount 0 = .ok (.aload_n 0, 1) := by decide +kernel
theorem dX7_loanCount_1 : decode cX7_loanCount 1 = .ok (.getfield 20, 3) := by decide +kernel
theorem dX7_loanCount_4 : decode cX7_loanCount 4 = .ok (.getfield 100, 3) := by decide +kernel
theorem dX7_loanCount_7 : decode cX7_loanCount 7 = .ok (.ireturn, 1) := by decide +kernel
set_option maxRecDepth 20000 in
theorem ggX7_openCount_X3_countRunning : GoodIn wsX7_openCount wsX3_countRunning := goodIn_r _ [6, 7, 8, 9, 10, 11, 12, 13, 14, 26, 27, 28, 29, 30, 31, 32, 33, 34, 35, 36, 37, 38] (by decide +kernel) (by decide +kernel)
set_option maxRecDepth 20000 in
theorem gX7_openCount_X3_countRunning : GoodIn wsX7_openCount (wsV RX7 179 RX3 yX3_countRunning wsX3_countRunning) := goodIn_app (goodIn_of _ (by decide +kernel)) ggX7_openCount_X3_countRunning
theorem dX7_openCount_0 : decode cX7_openCount 0 = .ok (.aload_n 0, 1) := by decide +kernel
theorem dX7_openCount_1 : decode cX7_openCount 1 = .ok (.getfield 20, 3) := by decide +kernel
theorem dX7_openCount_4 : decode cX7_openCount 4 = .ok (.invokevirtual 179, 3) := by decide +kernel
theorem dX7_openCount_7 : decode cX7_openCount 7 = .ok (.ireturn, 1) := by decide +kernel
set_option maxRecDepth 20000 in
theorem ggX7_isOpen_X7_loanAt : GoodIn wsX7_isOpen wsX7_loanAt := goodIn_ca (goodIn_r _ [5, 6, 7, 8, 9, 10, 17, 18, 19, 20, 21, 22, 23, 24, 25, 26, 27, 28, 29, 30] (by decide +kernel) (by decide +kernel)) (goodIn_sub (fun _ h => List.mem_cons_of_mem _ (List.mem_append_right _ h)) (by decide +kernel))
set_option maxRecDepth 20000 in
theorem gX7_isOpen_X7_loanAt : GoodIn wsX7_isOpen (wsV RX7 115 RX7 yX7_loanAt wsX7_loanAt) := goodIn_app (goodIn_of _ (by decide +kernel)) ggX7_isOpen_X7_loanAt
set_option maxRecDepth 20000 in
theorem ggX7_isOpen_X2_isRunning : GoodIn wsX7_isOpen wsX2_isRunning := goodIn_r _ [15, 16, 31, 32, 33, 34, 35, 36, 37, 38, 39, 40] (by decide +kernel) (by decide +kernel)
set_option maxRecDepth 20000 in
theorem gX7_isOpen_X2_isRunning : GoodIn wsX7_isOpen (wsV RX7 119 RX2 yX2_isRunning wsX2_isRunning) := goodIn_app (goodIn_of _ (by decide +kernel)) ggX7_isOpen_X2_isRunning
theorem dX7_isOpen_0 : decode cX7_isOpen 0 = .ok (.aload_n 0, 1) := by decide +kernel
theorem dX7_isOpen_1 : decode cX7_isOpen 1 = .ok (.iload_n 1, 1) := by decide +kernel
theorem dX7_isOpen_2 : decode cX7_isOpen 2 = .ok (.invokevirtual 115, 3) := by decide +kernel
theorem dX7_isOpen_5 : decode cX7_isOpen 5 = .ok (.invokevirtual 119, 3) := by decide +kernel
theorem dX7_isOpen_8 : decode cX7_isOpen 8 = .ok (.ireturn, 1) := by decide +kernel
set_option maxRecDepth 20000 in
theorem ggX7_principal_X7_loanAt : GoodIn wsX7_principal wsX7_loanAt := goodIn_ca (goodIn_r _ [6, 7, 8, 9, 10, 11, 22, 23, 24, 25, 26, 27, 28, 29, 30, 31, 32, 33, 34, 35] (by decide +kernel) (by decide +kernel)) (goodIn_sub (fun _ h => List.mem_cons_of_mem _ (List.mem_append_right _ h)) (by decide +kernel))
set_option maxRecDepth 20000 in
theorem gX7_principal_X7_loanAt : GoodIn wsX7_principal (wsV RX7 115 RX7 yX7_loanAt wsX7_loanAt) := goodIn_app (goodIn_of _ (by decide +kernel)) ggX7_principal_X7_loanAt
theorem dX7_principal_0 : decode cX7_principal 0 = .ok (.aload_n 0, 1) := by decide +kernel
theorem dX7_principal_1 : decode cX7_principal 1 = .ok (.iload_n 1, 1) := by decide +kernel
theorem dX7_principal_2 : decode cX7_principal 2 = .ok (.invokevirtual 115, 3) := by decide +kernel
theorem dX7_principal_5 : decode cX7_principal 5 = .ok (.getfield 182, 3) := by decide +kernel
theorem dX7_principal_8 : decode cX7_principal 8 = .ok (.ireturn, 1) := by decide +kernel
set_option maxRecDepth 20000 in
theorem ggX7_balance_X7_loanAt : GoodIn wsX7_balance wsX7_loanAt := goodIn_ca (goodIn_r _ [6, 7, 8, 9, 10, 11, 22, 23, 24, 25, 26, 27, 28, 29, 30, 31, 32, 33, 34, 35] (by decide +kernel) (by decide +kernel)) (goodIn_sub (fun _ h => List.mem_cons_of_mem _ (List.mem_append_right _ h)) (by decide +kernel))
set_option maxRecDepth 20000 in
theorem gX7_balance_X7_loanAt : GoodIn wsX7_balance (wsV RX7 115 RX7 yX7_loanAt wsX7_loanAt) := goodIn_app (goodIn_of _ (by decide +kernel)) ggX7_balance_X7_loanAt
theorem dX7_balance_0 : decode cX7_balance 0 = .ok (.aload_n 0, 1) := by decide +kernel
theorem dX7_balance_1 : decode cX7_balance 1 = .ok (.iload_n 1, 1) := by decide +kernel
theorem dX7_balance_2 : decode cX7_balance 2 = .ok (.invokevirtual 115, 3) := by decide +kernel
theorem dX7_balance_5 : decode cX7_balance 5 = .ok (.getfield 137, 3) := by decide +kernel
theorem dX7_balance_8 : decode cX7_balance 8 = .ok (.ireturn, 1) := by decide +kernel
set_option maxRecDepth 20000 in
theorem ggX7_rate_X7_loanAt : GoodIn wsX7_rate wsX7_loanAt := goodIn_ca (goodIn_r _ [6, 7, 8, 9, 10, 11, 22, 23, 24, 25, 26, 27, 28, 29, 30, 31, 32, 33, 34, 35] (by decide +kernel) (by decide +kernel)) (goodIn_sub (fun _ h => List.mem_cons_of_mem _ (List.mem_append_right _ h)) (by decide +kernel))
set_option maxRecDepth 20000 in
theorem gX7_rate_X7_loanAt : GoodIn wsX7_rate (wsV RX7 115 RX7 yX7_loanAt wsX7_loanAt) := goodIn_app (goodIn_of _ (by decide +kernel)) ggX7_rate_X7_loanAt
theorem dX7_rate_0 : decode cX7_rate 0 = .ok (.aload_n 0, 1) := by decide +kernel
theorem dX7_rate_1 : decode cX7_rate 1 = .ok (.iload_n 1, 1) := by decide +kernel
theorem dX7_rate_2 : decode cX7_rate 2 = .ok (.invokevirtual 115, 3) := by decide +kernel
theorem dX7_rate_5 : decode cX7_rate 5 = .ok (.getfield 156, 3) := by decide +kernel
theorem dX7_rate_8 : decode cX7_rate 8 = .ok (.ireturn, 1) := by decide +kernel
set_option maxRecDepth 20000 in
theorem ggX7_monthsLeft_X7_loanAt : GoodIn wsX7_monthsLeft wsX7_loanAt := goodIn_ca (goodIn_r _ [6, 7, 8, 9, 10, 11, 22, 23, 24, 25, 26, 27, 28, 29, 30, 31, 32, 33, 34, 35] (by decide +kernel) (by decide +kernel)) (goodIn_sub (fun _ h => List.mem_cons_of_mem _ (List.mem_append_right _ h)) (by decide +kernel))
set_option maxRecDepth 20000 in
theorem gX7_monthsLeft_X7_loanAt : GoodIn wsX7_monthsLeft (wsV RX7 115 RX7 yX7_loanAt wsX7_loanAt) := goodIn_app (goodIn_of _ (by decide +kernel)) ggX7_monthsLeft_X7_loanAt
theorem dX7_monthsLeft_0 : decode cX7_monthsLeft 0 = .ok (.aload_n 0, 1) := by decide +kernel
theorem dX7_monthsLeft_1 : decode cX7_monthsLeft 1 = .ok (.iload_n 1, 1) := by decide +kernel
theorem dX7_monthsLeft_2 : decode cX7_monthsLeft 2 = .ok (.invokevirtual 115, 3) := by decide +kernel
theorem dX7_monthsLeft_5 : decode cX7_monthsLeft 5 = .ok (.getfield 146, 3) := by decide +kernel
theorem dX7_monthsLeft_8 : decode cX7_monthsLeft 8 = .ok (.ireturn, 1) := by decide +kernel
set_option maxRecDepth 20000 in
theorem ggX7_installment_X7_loanAt : GoodIn wsX7_installment wsX7_loanAt := goodIn_ca (goodIn_r _ [6, 7, 8, 9, 10, 11, 22, 23, 24, 25, 26, 27, 28, 29, 30, 31, 32, 33, 34, 35] (by decide +kernel) (by decide +kernel)) (goodIn_sub (fun _ h => List.mem_cons_of_mem _ (List.mem_append_right _ h)) (by decide +kernel))
set_option maxRecDepth 20000 in
theorem gX7_installment_X7_loanAt : GoodIn wsX7_installment (wsV RX7 115 RX7 yX7_loanAt wsX7_loanAt) := goodIn_app (goodIn_of _ (by decide +kernel)) ggX7_installment_X7_loanAt
theorem dX7_installment_0 : decode cX7_installment 0 = .ok (.aload_n 0, 1) := by decide +kernel
theorem dX7_installment_1 : decode cX7_installment 1 = .ok (.iload_n 1, 1) := by decide +kernel
theorem dX7_installment_2 : decode cX7_installment 2 = .ok (.invokevirtual 115, 3) := by decide +kernel
theorem dX7_installment_5 : decode cX7_installment 5 = .ok (.getfield 185, 3) := by decide +kernel
theorem dX7_installment_8 : decode cX7_installment 8 = .ok (.ireturn, 1) := by decide +kernel
set_option maxRecDepth 20000 in
theorem ggX7_carry_X7_loanAt : GoodIn wsX7_carry wsX7_loanAt := goodIn_ca (goodIn_r _ [6, 7, 8, 9, 10, 11, 22, 23, 24, 25, 26, 27, 28, 29, 30, 31, 32, 33, 34, 35] (by decide +kernel) (by decide +kernel)) (goodIn_sub (fun _ h => List.mem_cons_of_mem _ (List.mem_append_right _ h)) (by decide +kernel))
set_option maxRecDepth 20000 in
theorem gX7_carry_X7_loanAt : GoodIn wsX7_carry (wsV RX7 115 RX7 yX7_loanAt wsX7_loanAt) := goodIn_app (goodIn_of _ (by decide +kernel)) ggX7_carry_X7_loanAt
theorem dX7_carry_0 : decode cX7_carry 0 = .ok (.aload_n 0, 1) := by decide +kernel
theorem dX7_carry_1 : decode cX7_carry 1 = .ok (.iload_n 1, 1) := by decide +kernel
theorem dX7_carry_2 : decode cX7_carry 2 = .ok (.invokevirtual 115, 3) := by decide +kernel
theorem dX7_carry_5 : decode cX7_carry 5 = .ok (.getfield 188, 3) := by decide +kernel
theorem dX7_carry_8 : decode cX7_carry 8 = .ok (.ireturn, 1) := by decide +kernel
set_option maxRecDepth 20000 in
theorem ggX7_interestDue_X7_loanAt : GoodIn wsX7_interestDue wsX7_loanAt := goodIn_ca (goodIn_r _ [5, 6, 7, 8, 9, 10, 20, 21, 22, 23, 24, 25, 26, 27, 28, 29, 30, 31, 32, 33] (by decide +kernel) (by decide +kernel)) (goodIn_sub (fun _ h => List.mem_cons_of_mem _ (List.mem_append_right _ h)) (by decide +kernel))
set_option maxRecDepth 20000 in
theorem gX7_interestDue_X7_loanAt : GoodIn wsX7_interestDue (wsV RX7 115 RX7 yX7_loanAt wsX7_loanAt) := goodIn_app (goodIn_of _ (by decide +kernel)) ggX7_interestDue_X7_loanAt
set_option maxRecDepth 20000 in
theorem ggX7_interestDue_X2_nextInterest : GoodIn wsX7_interestDue wsX2_nextInterest := goodIn_r _ [15, 16, 17, 18, 19, 34, 35, 36, 37, 38, 39, 40, 41, 42, 43] (by decide +kernel) (by decide +kernel)
set_option maxRecDepth 20000 in
theorem gX7_interestDue_X2_nextInterest : GoodIn wsX7_interestDue (wsV RX7 191 RX2 yX2_nextInterest wsX2_nextInterest) := goodIn_app (goodIn_of _ (by decide +kernel)) ggX7_interestDue_X2_nextInterest
theorem dX7_interestDue_0 : decode cX7_interestDue 0 = .ok (.aload_n 0, 1) := by decide +kernel
theorem dX7_interestDue_1 : decode cX7_interestDue 1 = .ok (.iload_n 1, 1) := by decide +kernel
theorem dX7_interestDue_2 : decode cX7_interestDue 2 = .ok (.invokevirtual 115, 3) := by decide +kernel
theorem dX7_interestDue_5 : decode cX7_interestDue 5 = .ok (.invokevirtual 191, 3) := by decide +kernel
theorem dX7_interestDue_8 : decode cX7_interestDue 8 = .ok (.ireturn, 1) := by decide +kernel
set_option maxRecDepth 20000 in
theorem ggX7_amountDue_X7_loanAt : GoodIn wsX7_amountDue wsX7_loanAt := goodIn_ca (goodIn_r _ [5, 6, 7, 8, 9, 10, 30, 31, 32, 33, 34, 35, 36, 37, 38, 39, 40, 41, 42, 43] (by decide +kernel) (by decide +kernel)) (goodIn_sub (fun _ h => List.mem_cons_of_mem _ (List.mem_append_right _ h)) (by decide +kernel))
set_option maxRecDepth 20000 in
theorem gX7_amountDue_X7_loanAt : GoodIn wsX7_amountDue (wsV RX7 115 RX7 yX7_loanAt wsX7_loanAt) := goodIn_app (goodIn_of _ (by decide +kernel)) ggX7_amountDue_X7_loanAt
set_option maxRecDepth 20000 in
theorem ggX7_amountDue_X2_nextDue : GoodIn wsX7_amountDue wsX2_nextDue := goodIn_r _ [15, 16, 17, 18, 19, 14, 20, 21, 22, 23, 24, 25, 26, 27, 28, 29, 44, 45, 46, 47, 48, 49, 50, 51, 52, 53] (by decide +kernel) (by decide +kernel)
set_option maxRecDepth 20000 in
theorem gX7_amountDue_X2_nextDue : GoodIn wsX7_amountDue (wsV RX7 194 RX2 yX2_nextDue wsX2_nextDue) := goodIn_app (goodIn_of _ (by decide +kernel)) ggX7_amountDue_X2_nextDue
theorem dX7_amountDue_0 : decode cX7_amountDue 0 = .ok (.aload_n 0, 1) := by decide +kernel
theorem dX7_amountDue_1 : decode cX7_amountDue 1 = .ok (.iload_n 1, 1) := by decide +kernel
theorem dX7_amountDue_2 : decode cX7_amountDue 2 = .ok (.invokevirtual 115, 3) := by decide +kernel
theorem dX7_amountDue_5 : decode cX7_amountDue 5 = .ok (.invokevirtual 194, 3) := by decide +kernel
theorem dX7_amountDue_8 : decode cX7_amountDue 8 = .ok (.ireturn, 1) := by decide +kernel
set_option maxRecDepth 20000 in
theorem ggX7_interestSoFar_X7_loanAt : GoodIn wsX7_interestSoFar wsX7_loanAt := goodIn_ca (goodIn_r _ [6, 7, 8, 9, 10, 11, 22, 23, 24, 25, 26, 27, 28, 29, 30, 31, 32, 33, 34, 35] (by decide +kernel) (by decide +kernel)) (goodIn_sub (fun _ h => List.mem_cons_of_mem _ (List.mem_append_right _ h)) (by decide +kernel))
set_option maxRecDepth 20000 in
theorem gX7_interestSoFar_X7_loanAt : GoodIn wsX7_interestSoFar (wsV RX7 115 RX7 yX7_loanAt wsX7_loanAt) := goodIn_app (goodIn_of _ (by decide +kernel)) ggX7_interestSoFar_X7_loanAt
theorem dX7_interestSoFar_0 : decode cX7_interestSoFar 0 = .ok (.aload_n 0, 1) := by decide +kernel
theorem dX7_interestSoFar_1 : decode cX7_interestSoFar 1 = .ok (.iload_n 1, 1) := by decide +kernel
theorem dX7_interestSoFar_2 : decode cX7_interestSoFar 2 = .ok (.invokevirtual 115, 3) := by decide +kernel
theorem dX7_interestSoFar_5 : decode cX7_interestSoFar 5 = .ok (.getfield 197, 3) := by decide +kernel
theorem dX7_interestSoFar_8 : decode cX7_interestSoFar 8 = .ok (.ireturn, 1) := by decide +kernel
set_option maxRecDepth 20000 in
theorem ggX7_paidSoFar_X7_loanAt : GoodIn wsX7_paidSoFar wsX7_loanAt := goodIn_ca (goodIn_r _ [6, 7, 8, 9, 10, 11, 22, 23, 24, 25, 26, 27, 28, 29, 30, 31, 32, 33, 34, 35] (by decide +kernel) (by decide +kernel)) (goodIn_sub (fun _ h => List.mem_cons_of_mem _ (List.mem_append_right _ h)) (by decide +kernel))
set_option maxRecDepth 20000 in
theorem gX7_paidSoFar_X7_loanAt : GoodIn wsX7_paidSoFar (wsV RX7 115 RX7 yX7_loanAt wsX7_loanAt) := goodIn_app (goodIn_of _ (by decide +kernel)) ggX7_paidSoFar_X7_loanAt
theorem dX7_paidSoFar_0 : decode cX7_paidSoFar 0 = .ok (.aload_n 0, 1) := by decide +kernel
theorem dX7_paidSoFar_1 : decode cX7_paidSoFar 1 = .ok (.iload_n 1, 1) := by decide +kernel
theorem dX7_paidSoFar_2 : decode cX7_paidSoFar 2 = .ok (.invokevirtual 115, 3) := by decide +kernel
theorem dX7_paidSoFar_5 : decode cX7_paidSoFar 5 = .ok (.getfield 200, 3) := by decide +kernel
theorem dX7_paidSoFar_8 : decode cX7_paidSoFar 8 = .ok (.ireturn, 1) := by decide +kernel
set_option maxRecDepth 20000 in
theorem ggX7_paidMonths_X7_loanAt : GoodIn wsX7_paidMonths wsX7_loanAt := goodIn_ca (goodIn_r _ [6, 7, 8, 9, 10, 11, 22, 23, 24, 25, 26, 27, 28, 29, 30, 31, 32, 33, 34, 35] (by decide +kernel) (by decide +kernel)) (goodIn_sub (fun _ h => List.mem_cons_of_mem _ (List.mem_append_right _ h)) (by decide +kernel))
set_option maxRecDepth 20000 in
theorem gX7_paidMonths_X7_loanAt : GoodIn wsX7_paidMonths (wsV RX7 115 RX7 yX7_loanAt wsX7_loanAt) := goodIn_app (goodIn_of _ (by decide +kernel)) ggX7_paidMonths_X7_loanAt
theorem dX7_paidMonths_0 : decode cX7_paidMonths 0 = .ok (.aload_n 0, 1) := by decide +kernel
theorem dX7_paidMonths_1 : decode cX7_paidMonths 1 = .ok (.iload_n 1, 1) := by decide +kernel
theorem dX7_paidMonths_2 : decode cX7_paidMonths 2 = .ok (.invokevirtual 115, 3) := by decide +kernel
theorem dX7_paidMonths_5 : decode cX7_paidMonths 5 = .ok (.getfield 203, 3) := by decide +kernel
theorem dX7_paidMonths_8 : decode cX7_paidMonths 8 = .ok (.ireturn, 1) := by decide +kernel
set_option maxRecDepth 20000 in
theorem ggX7_skippedMonths_X7_loanAt : GoodIn wsX7_skippedMonths wsX7_loanAt := goodIn_ca (goodIn_r _ [6, 7, 8, 9, 10, 11, 22, 23, 24, 25, 26, 27, 28, 29, 30, 31, 32, 33, 34, 35] (by decide +kernel) (by decide +kernel)) (goodIn_sub (fun _ h => List.mem_cons_of_mem _ (List.mem_append_right _ h)) (by decide +kernel))
set_option maxRecDepth 20000 in
theorem gX7_skippedMonths_X7_loanAt : GoodIn wsX7_skippedMonths (wsV RX7 115 RX7 yX7_loanAt wsX7_loanAt) := goodIn_app (goodIn_of _ (by decide +kernel)) ggX7_skippedMonths_X7_loanAt
theorem dX7_skippedMonths_0 : decode cX7_skippedMonths 0 = .ok (.aload_n 0, 1) := by decide +kernel
theorem dX7_skippedMonths_1 : decode cX7_skippedMonths 1 = .ok (.iload_n 1, 1) := by decide +kernel
theorem dX7_skippedMonths_2 : decode cX7_skippedMonths 2 = .ok (.invokevirtual 115, 3) := by decide +kernel
theorem dX7_skippedMonths_5 : decode cX7_skippedMonths 5 = .ok (.getfield 206, 3) := by decide +kernel
theorem dX7_skippedMonths_8 : decode cX7_skippedMonths 8 = .ok (.ireturn, 1) := by decide +kernel
theorem dX7_entryCount_0 : decode cX7_entryCount 0 = .ok (.aload_n 0, 1) := by decide +kernel
theorem dX7_entryCount_1 : decode cX7_entryCount 1 = .ok (.getfield 20, 3) := by decide +kernel
theorem dX7_entryCount_4 : decode cX7_entryCount 4 = .ok (.getfield 209, 3) := by decide +kernel
theorem dX7_entryCount_7 : decode cX7_entryCount 7 = .ok (.getfield 213, 3) := by decide +kernel
theorem dX7_entryCount_10 : decode cX7_entryCount 10 = .ok (.ireturn, 1) := by decide +kernel
set_option maxRecDepth 20000 in
theorem ggX7_entryLoan_X0_slotOf : GoodIn wsX7_entryLoan wsX0_slotOf := goodIn_r _ [8, 9, 10, 25, 26, 27, 28, 29] (by decide +kernel) (by decide +kernel)
set_option maxRecDepth 20000 in
theorem gX7_entryLoan_X0_slotOf : GoodIn wsX7_entryLoan (wsV RX7 216 RX0 yX0_slotOf wsX0_slotOf) := goodIn_app (goodIn_of _ (by decide +kernel)) ggX7_entryLoan_X0_slotOf
theorem dX7_entryLoan_0 : decode cX7_entryLoan 0 = .ok (.aload_n 0, 1) := by decide +kernel
theorem dX7_entryLoan_1 : decode cX7_entryLoan 1 = .ok (.getfield 20, 3) := by decide +kernel
theorem dX7_entryLoan_4 : decode cX7_entryLoan 4 = .ok (.getfield 209, 3) := by decide +kernel
theorem dX7_entryLoan_7 : decode cX7_entryLoan 7 = .ok (.iload_n 1, 1) := by decide +kernel
theorem dX7_entryLoan_8 : decode cX7_entryLoan 8 = .ok (.invokevirtual 216, 3) := by decide +kernel
theorem dX7_entryLoan_11 : decode cX7_entryLoan 11 = .ok (.istore_n 2, 1) := by decide +kernel
theorem dX7_entryLoan_12 : decode cX7_entryLoan 12 = .ok (.iload_n 2, 1) := by decide +kernel
theorem dX7_entryLoan_13 : decode cX7_entryLoan 13 = .ok (.ifCond .lt 9, 3) := by decide +kernel
theorem dX7_entryLoan_16 : decode cX7_entryLoan 16 = .ok (.iload_n 2, 1) := by decide +kernel
theorem dX7_entryLoan_17 : decode cX7_entryLoan 17 = .ok (.bipush 20, 2) := by decide +kernel
theorem dX7_entryLoan_19 : decode cX7_entryLoan 19 = .ok (.if_icmp .lt 7, 3) := by decide +kernel
theorem dX7_entryLoan_22 : decode cX7_entryLoan 22 = .ok (.iconst (-1), 1) := by decide +kernel
theorem dX7_entryLoan_23 : decode cX7_entryLoan 23 = .ok (.goto 15, 3) := by decide +kernel
theorem dX7_entryLoan_26 : decode cX7_entryLoan 26 = .ok (.aload_n 0, 1) := by decide +kernel
theorem dX7_entryLoan_27 : decode cX7_entryLoan 27 = .ok (.getfield 20, 3) := by decide +kernel
theorem dX7_entryLoan_30 : decode cX7_entryLoan 30 = .ok (.getfield 209, 3) := by decide +kernel
theorem dX7_entryLoan_33 : decode cX7_entryLoan 33 = .ok (.getfield 219, 3) := by decide +kernel
theorem dX7_entryLoan_36 : decode cX7_entryLoan 36 = .ok (.iload_n 2, 1) := by decide +kernel
theorem dX7_entryLoan_37 : decode cX7_entryLoan 37 = .ok (.iaload, 1) := by decide +kernel
theorem dX7_entryLoan_38 : decode cX7_entryLoan 38 = .ok (.ireturn, 1) := by decide +kernel
set_option maxRecDepth 20000 in
theorem ggX7_entryAmount_X0_slotOf : GoodIn wsX7_entryAmount wsX0_slotOf := goodIn_r _ [8, 9, 10, 25, 26, 27, 28, 29] (by decide +kernel) (by decide +kernel)
set_option maxRecDepth 20000 in
theorem gX7_entryAmount_X0_slotOf : GoodIn wsX7_entryAmount (wsV RX7 216 RX0 yX0_slotOf wsX0_slotOf) := goodIn_app (goodIn_of _ (by decide +kernel)) ggX7_entryAmount_X0_slotOf
theorem dX7_entryAmount_0 : decode cX7_entryAmount 0 = .ok (.aload_n 0, 1) := by decide +kernel
theorem dX7_entryAmount_1 : decode cX7_entryAmount 1 = .ok (.getfield 20, 3) := by decide +kernel
theorem dX7_entryAmount_4 : decode cX7_entryAmount 4 = .ok (.getfield 209, 3) := by decide +kernel
theorem dX7_entryAmount_7 : decode cX7_entryAmount 7 = .ok (.iload_n 1, 1) := by decide +kernel
theorem dX7_entryAmount_8 : decode cX7_entryAmount 8 = .ok (.invokevirtual 216, 3) := by decide +kernel
theorem dX7_entryAmount_11 : decode cX7_entryAmount 11 = .ok (.istore_n 2, 1) := by decide +kernel
theorem dX7_entryAmount_12 : decode cX7_entryAmount 12 = .ok (.iload_n 2, 1) := by decide +kernel
theorem dX7_entryAmount_13 : decode cX7_entryAmount 13 = .ok (.ifCond .lt 9, 3) := by decide +kernel
theorem dX7_entryAmount_16 : decode cX7_entryAmount 16 = .ok (.iload_n 2, 1) := by decide +kernel
theorem dX7_entryAmount_17 : decode cX7_entryAmount 17 = .ok (.bipush 20, 2) := by decide +kernel
theorem dX7_entryAmount_19 : decode cX7_entryAmount 19 = .ok (.if_icmp .lt 7, 3) := by decide +kernel
theorem dX7_entryAmount_22 : decode cX7_entryAmount 22 = .ok (.iconst (-1), 1) := by decide +kernel
theorem dX7_entryAmount_23 : decode cX7_entryAmount 23 = .ok (.goto 15, 3) := by decide +kernel
theorem dX7_entryAmount_26 : decode cX7_entryAmount 26 = .ok (.aload_n 0, 1) := by decide +kernel
theorem dX7_entryAmount_27 : decode cX7_entryAmount 27 = .ok (.getfield 20, 3) := by decide +kernel
theorem dX7_entryAmount_30 : decode cX7_entryAmount 30 = .ok (.getfield 209, 3) := by decide +kernel
theorem dX7_entryAmount_33 : decode cX7_entryAmount 33 = .ok (.getfield 223, 3) := by decide +kernel
theorem dX7_entryAmount_36 : decode cX7_entryAmount 36 = .ok (.iload_n 2, 1) := by decide +kernel
theorem dX7_entryAmount_37 : decode cX7_entryAmount 37 = .ok (.iaload, 1) := by decide +kernel
theorem dX7_entryAmount_38 : decode cX7_entryAmount 38 = .ok (.ireturn, 1) := by decide +kernel
set_option maxRecDepth 20000 in
theorem ggX7_entryInterest_X0_slotOf : GoodIn wsX7_entryInterest wsX0_slotOf := goodIn_r _ [8, 9, 10, 25, 26, 27, 28, 29] (by decide +kernel) (by decide +kernel)
set_option maxRecDepth 20000 in
theorem gX7_entryInterest_X0_slotOf : GoodIn wsX7_entryInterest (wsV RX7 216 RX0 yX0_slotOf wsX0_slotOf) := goodIn_app (goodIn_of _ (by decide +kernel)) ggX7_entryInterest_X0_slotOf
theorem dX7_entryInterest_0 : decode cX7_entryInterest 0 = .ok (.aload_n 0, 1) := by decide +kernel
theorem dX7_entryInterest_1 : decode cX7_entryInterest 1 = .ok (.getfield 20, 3) := by decide +kernel
theorem dX7_entryInterest_4 : decode cX7_entryInterest 4 = .ok (.getfield 209, 3) := by decide +kernel
theorem dX7_entryInterest_7 : decode cX7_entryInterest 7 = .ok (.iload_n 1, 1) := by decide +kernel
theorem dX7_entryInterest_8 : decode cX7_entryInterest 8 = .ok (.invokevirtual 216, 3) := by decide +kernel
theorem dX7_entryInterest_11 : decode cX7_entryInterest 11 = .ok (.istore_n 2, 1) := by decide +kernel
theorem dX7_entryInterest_12 : decode cX7_entryInterest 12 = .ok (.iload_n 2, 1) := by decide +kernel
theorem dX7_entryInterest_13 : decode cX7_entryInterest 13 = .ok (.ifCond .lt 9, 3) := by decide +kernel
theorem dX7_entryInterest_16 : decode cX7_entryInterest 16 = .ok (.iload_n 2, 1) := by decide +kernel
theorem dX7_entryInterest_17 : decode cX7_entryInterest 17 = .ok (.bipush 20, 2) := by decide +kernel
theorem dX7_entryInterest_19 : decode cX7_entryInterest 19 = .ok (.if_icmp .lt 7, 3) := by decide +kernel
theorem dX7_entryInterest_22 : decode cX7_entryInterest 22 = .ok (.iconst (-1), 1) := by decide +kernel
theorem dX7_entryInterest_23 : decode cX7_entryInterest 23 = .ok (.goto 15, 3) := by decide +kernel
theorem dX7_entryInterest_26 : decode cX7_entryInterest 26 = .ok (.aload_n 0, 1) := by decide +kernel
theorem dX7_entryInterest_27 : decode cX7_entryInterest 27 = .ok (.getfield 20, 3) := by decide +kernel
theorem dX7_entryInterest_30 : decode cX7_entryInterest 30 = .ok (.getfield 209, 3) := by decide +kernel
theorem dX7_entryInterest_33 : decode cX7_entryInterest 33 = .ok (.getfield 226, 3) := by decide +kernel
theorem dX7_entryInterest_36 : decode cX7_entryInterest 36 = .ok (.iload_n 2, 1) := by decide +kernel
theorem dX7_entryInterest_37 : decode cX7_entryInterest 37 = .ok (.iaload, 1) := by decide +kernel
theorem dX7_entryInterest_38 : decode cX7_entryInterest 38 = .ok (.ireturn, 1) := by decide +kernel
set_option maxRecDepth 20000 in
theorem ggX7_interestOfPayment_X7_loanAt : GoodIn wsX7_interestOfPayment wsX7_loanAt := goodIn_ca (goodIn_r _ [6, 7, 8, 9, 10, 11, 61, 62, 63, 64, 65, 66, 67, 68, 69, 70, 71, 72, 73, 74] (by decide +kernel) (by decide +kernel)) (goodIn_sub (fun _ h => List.mem_cons_of_mem _ (List.mem_append_left _ (List.mem_append_right _ h))) (by decide +kernel))
set_option maxRecDepth 20000 in
theorem gX7_interestOfPayment_X7_loanAt : GoodIn wsX7_interestOfPayment (wsV RX7 115 RX7 yX7_loanAt wsX7_loanAt) := goodIn_app (goodIn_of _ (by decide +kernel)) ggX7_interestOfPayment_X7_loanAt
set_option maxRecDepth 20000 in
theorem ggX7_interestOfPayment_X2_copyFrom : GoodIn wsX7_interestOfPayment wsX2_copyFrom := goodIn_r _ [16, 17, 18, 19, 20, 21, 22, 23, 24, 25, 26, 75, 76, 77, 78, 79, 80, 81, 82, 83, 84] (by decide +kernel) (by decide +kernel)
set_option maxRecDepth 20000 in
theorem gX7_interestOfPayment_X2_copyFrom : GoodIn wsX7_interestOfPayment (wsV RX7 229 RX2 yX2_copyFrom wsX2_copyFrom) := goodIn_app (goodIn_of _ (by decide +kernel)) ggX7_interestOfPayment_X2_copyFrom
set_option maxRecDepth 20000 in
theorem ggX7_interestOfPayment_X7_requireRange : GoodIn wsX7_interestOfPayment wsX7_requireRange := goodIn_ca (goodIn_r _ [29, 30, 31] (by decide +kernel) (by decide +kernel)) (goodIn_sub (fun _ h => List.mem_cons_of_mem _ (List.mem_append_right _ h)) (by decide +kernel))
set_option maxRecDepth 20000 in
theorem gX7_interestOfPayment_X7_requireRange : GoodIn wsX7_interestOfPayment (va_wsS RX7 90 yX7_requireRange wsX7_requireRange) := goodIn_app (goodIn_of _ (by decide +kernel)) ggX7_interestOfPayment_X7_requireRange
set_option maxRecDepth 20000 in
theorem ggX7_interestOfPayment_X2_settleMonths : GoodIn wsX7_interestOfPayment wsX2_settleMonths := goodIn_r _ [35, 18, 36, 37, 38, 15, 39, 20, 25, 40, 41, 42, 43, 19, 22, 44, 23, 45, 46, 47, 48, 21, 49, 50, 51, 52, 24, 75, 76, 77, 78, 79, 80, 81, 82, 83, 84] (by decide +kernel) (by decide +kernel)
set_option maxRecDepth 20000 in
theorem gX7_interestOfPayment_X2_settleMonths : GoodIn wsX7_interestOfPayment (wsV RX7 232 RX2 yX2_settleMonths wsX2_settleMonths) := goodIn_app (goodIn_of _ (by decide +kernel)) ggX7_interestOfPayment_X2_settleMonths
set_option maxRecDepth 20000 in
theorem ggX7_interestOfPayment_X2_isRunning : GoodIn wsX7_interestOfPayment wsX2_isRunning := goodIn_r _ [56, 18, 75, 76, 77, 78, 79, 80, 81, 82, 83, 84] (by decide +kernel) (by decide +kernel)
set_option maxRecDepth 20000 in
theorem gX7_interestOfPayment_X2_isRunning : GoodIn wsX7_interestOfPayment (wsV RX7 119 RX2 yX2_isRunning wsX2_isRunning) := goodIn_app (goodIn_of _ (by decide +kernel)) ggX7_interestOfPayment_X2_isRunning
set_option maxRecDepth 20000 in
theorem ggX7_interestOfPayment_X2_nextInterest : GoodIn wsX7_interestOfPayment wsX2_nextInterest := goodIn_r _ [60, 18, 19, 22, 44, 75, 76, 77, 78, 79, 80, 81, 82, 83, 84] (by decide +kernel) (by decide +kernel)
set_option maxRecDepth 20000 in
theorem gX7_interestOfPayment_X2_nextInterest : GoodIn wsX7_interestOfPayment (wsV RX7 191 RX2 yX2_nextInterest wsX2_nextInterest) := goodIn_app (goodIn_of _ (by decide +kernel)) ggX7_interestOfPayment_X2_nextInterest
theorem dX7_interestOfPayment_0 : decode cX7_interestOfPayment 0 = .ok (.aload_n 0, 1) := by decide +kernel
theorem dX7_interestOfPayment_1 : decode cX7_interestOfPayment 1 = .ok (.getfield 55, 3) := by decide +kernel
theorem dX7_interestOfPayment_4 : decode cX7_interestOfPayment 4 = .ok (.aload_n 0, 1) := by decide +kernel
theorem dX7_interestOfPayment_5 : decode cX7_interestOfPayment 5 = .ok (.iload_n 1, 1) := by decide +kernel
theorem dX7_interestOfPayment_6 : decode cX7_interestOfPayment 6 = .ok (.invokevirtual 115, 3) := by decide +kernel
theorem dX7_interestOfPayment_9 : decode cX7_interestOfPayment 9 = .ok (.invokevirtual 229, 3) := by decide +kernel
theorem dX7_interestOfPayment_12 : decode cX7_interestOfPayment 12 = .ok (.iload_n 2, 1) := by decide +kernel
theorem dX7_interestOfPayment_13 : decode cX7_interestOfPayment 13 = .ok (.iconst 1, 1) := by decide +kernel
theorem dX7_interestOfPayment_14 : decode cX7_interestOfPayment 14 = .ok (.bipush 120, 2) := by decide +kernel
theorem dX7_interestOfPayment_16 : decode cX7_interestOfPayment 16 = .ok (.invokestatic 90, 3) := by decide +kernel
theorem dX7_interestOfPayment_19 : decode cX7_interestOfPayment 19 = .ok (.aload_n 0, 1) := by decide +kernel
theorem dX7_interestOfPayment_20 : decode cX7_interestOfPayment 20 = .ok (.getfield 55, 3) := by decide +kernel
theorem dX7_interestOfPayment_23 : decode cX7_interestOfPayment 23 = .ok (.iload_n 2, 1) := by decide +kernel
theorem dX7_interestOfPayment_24 : decode cX7_interestOfPayment 24 = .ok (.iconst 1, 1) := by decide +kernel
theorem dX7_interestOfPayment_25 : decode cX7_interestOfPayment 25 = .ok (.isub, 1) := by decide +kernel
theorem dX7_interestOfPayment_26 : decode cX7_interestOfPayment 26 = .ok (.invokevirtual 232, 3) := by decide +kernel
theorem dX7_interestOfPayment_29 : decode cX7_interestOfPayment 29 = .ok (.pop, 1) := by decide +kernel
theorem dX7_interestOfPayment_30 : decode cX7_interestOfPayment 30 = .ok (.aload_n 0, 1) := by decide +kernel
theorem dX7_interestOfPayment_31 : decode cX7_interestOfPayment 31 = .ok (.getfield 55, 3) := by decide +kernel
theorem dX7_interestOfPayment_34 : decode cX7_interestOfPayment 34 = .ok (.invokevirtual 119, 3) := by decide +kernel
theorem dX7_interestOfPayment_37 : decode cX7_interestOfPayment 37 = .ok (.ifCond .eq 13, 3) := by decide +kernel
theorem dX7_interestOfPayment_40 : decode cX7_interestOfPayment 40 = .ok (.aload_n 0, 1) := by decide +kernel
theorem dX7_interestOfPayment_41 : decode cX7_interestOfPayment 41 = .ok (.getfield 55, 3) := by decide +kernel
theorem dX7_interestOfPayment_44 : decode cX7_interestOfPayment 44 = .ok (.invokevirtual 191, 3) := by decide +kernel
theorem dX7_interestOfPayment_47 : decode cX7_interestOfPayment 47 = .ok (.goto 4, 3) := by decide +kernel
theorem dX7_interestOfPayment_50 : decode cX7_interestOfPayment 50 = .ok (.iconst (-1), 1) := by decide +kernel
theorem dX7_interestOfPayment_51 : decode cX7_interestOfPayment 51 = .ok (.ireturn, 1) := by decide +kernel
set_option maxRecDepth 20000 in
theorem ggX7_amountOfPayment_X7_loanAt : GoodIn wsX7_amountOfPayment wsX7_loanAt := goodIn_ca (goodIn_r _ [6, 7, 8, 9, 10, 11, 65, 66, 67, 68, 69, 70, 71, 72, 73, 74, 75, 76, 77, 78] (by decide +kernel) (by decide +kernel)) (goodIn_sub (fun _ h => List.mem_cons_of_mem _ (List.mem_append_left _ (List.mem_append_right _ h))) (by decide +kernel))
set_option maxRecDepth 20000 in
theorem gX7_amountOfPayment_X7_loanAt : GoodIn wsX7_amountOfPayment (wsV RX7 115 RX7 yX7_loanAt wsX7_loanAt) := goodIn_app (goodIn_of _ (by decide +kernel)) ggX7_amountOfPayment_X7_loanAt
set_option maxRecDepth 20000 in
theorem ggX7_amountOfPayment_X2_copyFrom : GoodIn wsX7_amountOfPayment wsX2_copyFrom := goodIn_r _ [16, 17, 18, 19, 20, 21, 22, 23, 24, 25, 26, 79, 80, 81, 82, 83, 84, 85, 86, 87, 88] (by decide +kernel) (by decide +kernel)
set_option maxRecDepth 20000 in
theorem gX7_amountOfPayment_X2_copyFrom : GoodIn wsX7_amountOfPayment (wsV RX7 229 RX2 yX2_copyFrom wsX2_copyFrom) := goodIn_app (goodIn_of _ (by decide +kernel)) ggX7_amountOfPayment_X2_copyFrom
set_option maxRecDepth 20000 in
theorem ggX7_amountOfPayment_X7_requireRange : GoodIn wsX7_amountOfPayment wsX7_requireRange := goodIn_ca (goodIn_r _ [29, 30, 31] (by decide +kernel) (by decide +kernel)) (goodIn_sub (fun _ h => List.mem_cons_of_mem _ (List.mem_append_right _ h)) (by decide +kernel))
set_option maxRecDepth 20000 in
theorem gX7_amountOfPayment_X7_requireRange : GoodIn wsX7_amountOfPayment (va_wsS RX7 90 yX7_requireRange wsX7_requireRange) := goodIn_app (goodIn_of _ (by decide +kernel)) ggX7_amountOfPayment_X7_requireRange
set_option maxRecDepth 20000 in
theorem ggX7_amountOfPayment_X2_settleMonths : GoodIn wsX7_amountOfPayment wsX2_settleMonths := goodIn_r _ [35, 18, 36, 37, 38, 15, 39, 20, 25, 40, 41, 42, 43, 19, 22, 44, 23, 45, 46, 47, 48, 21, 49, 50, 51, 52, 24, 79, 80, 81, 82, 83, 84, 85, 86, 87, 88] (by decide +kernel) (by decide +kernel)
set_option maxRecDepth 20000 in
theorem gX7_amountOfPayment_X2_settleMonths : GoodIn wsX7_amountOfPayment (wsV RX7 232 RX2 yX2_settleMonths wsX2_settleMonths) := goodIn_app (goodIn_of _ (by decide +kernel)) ggX7_amountOfPayment_X2_settleMonths
set_option maxRecDepth 20000 in
theorem ggX7_amountOfPayment_X2_isRunning : GoodIn wsX7_amountOfPayment wsX2_isRunning := goodIn_r _ [56, 18, 79, 80, 81, 82, 83, 84, 85, 86, 87, 88] (by decide +kernel) (by decide +kernel)
set_option maxRecDepth 20000 in
theorem gX7_amountOfPayment_X2_isRunning : GoodIn wsX7_amountOfPayment (wsV RX7 119 RX2 yX2_isRunning wsX2_isRunning) := goodIn_app (goodIn_of _ (by decide +kernel)) ggX7_amountOfPayment_X2_isRunning
set_option maxRecDepth 20000 in
theorem ggX7_amountOfPayment_X2_nextDue : GoodIn wsX7_amountOfPayment wsX2_nextDue := goodIn_r _ [60, 18, 61, 62, 63, 15, 64, 19, 22, 44, 45, 46, 47, 48, 21, 20, 79, 80, 81, 82, 83, 84, 85, 86, 87, 88] (by decide +kernel) (by decide +kernel)
set_option maxRecDepth 20000 in
theorem gX7_amountOfPayment_X2_nextDue : GoodIn wsX7_amountOfPayment (wsV RX7 194 RX2 yX2_nextDue wsX2_nextDue) := goodIn_app (goodIn_of _ (by decide +kernel)) ggX7_amountOfPayment_X2_nextDue
theorem dX7_amountOfPayment_0 : decode cX7_amountOfPayment 0 = .ok (.aload_n 0, 1) := by decide +kernel
theorem dX7_amountOfPayment_1 : decode cX7_amountOfPayment 1 = .ok (.getfield 55, 3) := by decide +kernel
theorem dX7_amountOfPayment_4 : decode cX7_amountOfPayment 4 = .ok (.aload_n 0, 1) := by decide +kernel
theorem dX7_amountOfPayment_5 : decode cX7_amountOfPayment 5 = .ok (.iload_n 1, 1) := by decide +kernel
theorem dX7_amountOfPayment_6 : decode cX7_amountOfPayment 6 = .ok (.invokevirtual 115, 3) := by decide +kernel
theorem dX7_amountOfPayment_9 : decode cX7_amountOfPayment 9 = .ok (.invokevirtual 229, 3) := by decide +kernel
theorem dX7_amountOfPayment_12 : decode cX7_amountOfPayment 12 = .ok (.iload_n 2, 1) := by decide +kernel
theorem dX7_amountOfPayment_13 : decode cX7_amountOfPayment 13 = .ok (.iconst 1, 1) := by decide +kernel
theorem dX7_amountOfPayment_14 : decode cX7_amountOfPayment 14 = .ok (.bipush 120, 2) := by decide +kernel
theorem dX7_amountOfPayment_16 : decode cX7_amountOfPayment 16 = .ok (.invokestatic 90, 3) := by decide +kernel
theorem dX7_amountOfPayment_19 : decode cX7_amountOfPayment 19 = .ok (.aload_n 0, 1) := by decide +kernel
theorem dX7_amountOfPayment_20 : decode cX7_amountOfPayment 20 = .ok (.getfield 55, 3) := by decide +kernel
theorem dX7_amountOfPayment_23 : decode cX7_amountOfPayment 23 = .ok (.iload_n 2, 1) := by decide +kernel
theorem dX7_amountOfPayment_24 : decode cX7_amountOfPayment 24 = .ok (.iconst 1, 1) := by decide +kernel
theorem dX7_amountOfPayment_25 : decode cX7_amountOfPayment 25 = .ok (.isub, 1) := by decide +kernel
theorem dX7_amountOfPayment_26 : decode cX7_amountOfPayment 26 = .ok (.invokevirtual 232, 3) := by decide +kernel
theorem dX7_amountOfPayment_29 : decode cX7_amountOfPayment 29 = .ok (.pop, 1) := by decide +kernel
theorem dX7_amountOfPayment_30 : decode cX7_amountOfPayment 30 = .ok (.aload_n 0, 1) := by decide +kernel
theorem dX7_amountOfPayment_31 : decode cX7_amountOfPayment 31 = .ok (.getfield 55, 3) := by decide +kernel
theorem dX7_amountOfPayment_34 : decode cX7_amountOfPayment 34 = .ok (.invokevirtual 119, 3) := by decide +kernel
theorem dX7_amountOfPayment_37 : decode cX7_amountOfPayment 37 = .ok (.ifCond .eq 13, 3) := by decide +kernel
theorem dX7_amountOfPayment_40 : decode cX7_amountOfPayment 40 = .ok (.aload_n 0, 1) := by decide +kernel
theorem dX7_amountOfPayment_41 : decode cX7_amountOfPayment 41 = .ok (.getfield 55, 3) := by decide +kernel
theorem dX7_amountOfPayment_44 : decode cX7_amountOfPayment 44 = .ok (.invokevirtual 194, 3) := by decide +kernel
theorem dX7_amountOfPayment_47 : decode cX7_amountOfPayment 47 = .ok (.goto 4, 3) := by decide +kernel
theorem dX7_amountOfPayment_50 : decode cX7_amountOfPayment 50 = .ok (.iconst (-1), 1) := by decide +kernel
theorem dX7_amountOfPayment_51 : decode cX7_amountOfPayment 51 = .ok (.ireturn, 1) := by decide +kernel
set_option maxRecDepth 20000 in
theorem ggX7_paymentsTo_X7_loanAt : GoodIn wsX7_paymentsTo wsX7_loanAt := goodIn_ca (goodIn_r _ [6, 7, 8, 9, 10, 11, 55, 56, 57, 58, 59, 60, 61, 62, 63, 64, 65, 66, 67, 68] (by decide +kernel) (by decide +kernel)) (goodIn_sub (fun _ h => List.mem_cons_of_mem _ (List.mem_append_left _ (List.mem_append_right _ h))) (by decide +kernel))
set_option maxRecDepth 20000 in
theorem gX7_paymentsTo_X7_loanAt : GoodIn wsX7_paymentsTo (wsV RX7 115 RX7 yX7_loanAt wsX7_loanAt) := goodIn_app (goodIn_of _ (by decide +kernel)) ggX7_paymentsTo_X7_loanAt
set_option maxRecDepth 20000 in
theorem ggX7_paymentsTo_X7_requireRange : GoodIn wsX7_paymentsTo wsX7_requireRange := goodIn_ca (goodIn_r _ [14, 15, 16] (by decide +kernel) (by decide +kernel)) (goodIn_sub (fun _ h => List.mem_cons_of_mem _ (List.mem_append_right _ h)) (by decide +kernel))
set_option maxRecDepth 20000 in
theorem gX7_paymentsTo_X7_requireRange : GoodIn wsX7_paymentsTo (va_wsS RX7 90 yX7_requireRange wsX7_requireRange) := goodIn_app (goodIn_of _ (by decide +kernel)) ggX7_paymentsTo_X7_requireRange
set_option maxRecDepth 20000 in
theorem ggX7_paymentsTo_X7_paymentsUntil : GoodIn wsX7_paymentsTo wsX7_paymentsUntil := goodIn_r _ [20, 21, 22, 23, 24, 25, 26, 27, 28, 29, 30, 31, 32, 33, 34, 35, 36, 37, 38, 39, 40, 41, 42, 43, 44, 45, 46, 47, 48, 49, 50, 51, 52, 53, 54, 55, 56, 57, 58, 59, 60, 61, 62, 63, 64, 65, 69, 70, 71, 72, 73, 74, 75, 76, 77, 78] (by decide +kernel) (by decide +kernel)
set_option maxRecDepth 20000 in
theorem gX7_paymentsTo_X7_paymentsUntil : GoodIn wsX7_paymentsTo (wsV RX7 235 RX7 yX7_paymentsUntil wsX7_paymentsUntil) := goodIn_app (goodIn_of _ (by decide +kernel)) ggX7_paymentsTo_X7_paymentsUntil
theorem dX7_paymentsTo_0 : decode cX7_paymentsTo 0 = .ok (.aload_n 0, 1) := by decide +kernel
theorem dX7_paymentsTo_1 : decode cX7_paymentsTo 1 = .ok (.iload_n 1, 1) := by decide +kernel
theorem dX7_paymentsTo_2 : decode cX7_paymentsTo 2 = .ok (.invokevirtual 115, 3) := by decide +kernel
theorem dX7_paymentsTo_5 : decode cX7_paymentsTo 5 = .ok (.astore_n 3, 1) := by decide +kernel
theorem dX7_paymentsTo_6 : decode cX7_paymentsTo 6 = .ok (.iload_n 2, 1) := by decide +kernel
theorem dX7_paymentsTo_7 : decode cX7_paymentsTo 7 = .ok (.iconst 0, 1) := by decide +kernel
theorem dX7_paymentsTo_8 : decode cX7_paymentsTo 8 = .ok (.ldc 103, 2) := by decide +kernel
theorem dX7_paymentsTo_10 : decode cX7_paymentsTo 10 = .ok (.invokestatic 90, 3) := by decide +kernel
theorem dX7_paymentsTo_13 : decode cX7_paymentsTo 13 = .ok (.aload_n 0, 1) := by decide +kernel
theorem dX7_paymentsTo_14 : decode cX7_paymentsTo 14 = .ok (.aload_n 3, 1) := by decide +kernel
theorem dX7_paymentsTo_15 : decode cX7_paymentsTo 15 = .ok (.iload_n 2, 1) := by decide +kernel
theorem dX7_paymentsTo_16 : decode cX7_paymentsTo 16 = .ok (.invokevirtual 235, 3) := by decide +kernel
theorem dX7_paymentsTo_19 : decode cX7_paymentsTo 19 = .ok (.ireturn, 1) := by decide +kernel
set_option maxRecDepth 20000 in
theorem ggX7_balanceAfter_X7_loanAt : GoodIn wsX7_balanceAfter wsX7_loanAt := goodIn_ca (goodIn_r _ [7, 8, 9, 10, 11, 12, 54, 55, 56, 57, 58, 59, 60, 61, 62, 63, 64, 75, 76, 77] (by decide +kernel) (by decide +kernel)) (goodIn_sub (fun _ h => List.mem_cons_of_mem _ (List.mem_append_left _ (List.mem_append_right _ h))) (by decide +kernel))
set_option maxRecDepth 20000 in
theorem gX7_balanceAfter_X7_loanAt : GoodIn wsX7_balanceAfter (wsV RX7 115 RX7 yX7_loanAt wsX7_loanAt) := goodIn_app (goodIn_of _ (by decide +kernel)) ggX7_balanceAfter_X7_loanAt
set_option maxRecDepth 20000 in
theorem ggX7_balanceAfter_X2_copyFrom : GoodIn wsX7_balanceAfter wsX2_copyFrom := goodIn_r _ [17, 18, 19, 20, 21, 22, 23, 24, 25, 26, 27, 65, 66, 67, 68, 69, 70, 71, 72, 73, 74] (by decide +kernel) (by decide +kernel)
set_option maxRecDepth 20000 in
theorem gX7_balanceAfter_X2_copyFrom : GoodIn wsX7_balanceAfter (wsV RX7 229 RX2 yX2_copyFrom wsX2_copyFrom) := goodIn_app (goodIn_of _ (by decide +kernel)) ggX7_balanceAfter_X2_copyFrom
set_option maxRecDepth 20000 in
theorem ggX7_balanceAfter_X7_requireRange : GoodIn wsX7_balanceAfter wsX7_requireRange := goodIn_ca (goodIn_r _ [30, 31, 32] (by decide +kernel) (by decide +kernel)) (goodIn_sub (fun _ h => List.mem_cons_of_mem _ (List.mem_append_right _ h)) (by decide +kernel))
set_option maxRecDepth 20000 in
theorem gX7_balanceAfter_X7_requireRange : GoodIn wsX7_balanceAfter (va_wsS RX7 90 yX7_requireRange wsX7_requireRange) := goodIn_app (goodIn_of _ (by decide +kernel)) ggX7_balanceAfter_X7_requireRange
set_option maxRecDepth 20000 in
theorem ggX7_balanceAfter_X2_settleMonths : GoodIn wsX7_balanceAfter wsX2_settleMonths := goodIn_r _ [36, 19, 37, 38, 39, 16, 40, 21, 26, 41, 42, 43, 44, 20, 23, 45, 24, 46, 47, 48, 49, 22, 50, 51, 52, 53, 25, 65, 66, 67, 68, 69, 70, 71, 72, 73, 74] (by decide +kernel) (by decide +kernel)
set_option maxRecDepth 20000 in
theorem gX7_balanceAfter_X2_settleMonths : GoodIn wsX7_balanceAfter (wsV RX7 232 RX2 yX2_settleMonths wsX2_settleMonths) := goodIn_app (goodIn_of _ (by decide +kernel)) ggX7_balanceAfter_X2_settleMonths
theorem dX7_balanceAfter_0 : decode cX7_balanceAfter 0 = .ok (.aload_n 0, 1) := by decide +kernel
theorem dX7_balanceAfter_1 : decode cX7_balanceAfter 1 = .ok (.getfield 55, 3) := by decide +kernel
theorem dX7_balanceAfter_4 : decode cX7_balanceAfter 4 = .ok (.aload_n 0, 1) := by decide +kernel
theorem dX7_balanceAfter_5 : decode cX7_balanceAfter 5 = .ok (.iload_n 1, 1) := by decide +kernel
theorem dX7_balanceAfter_6 : decode cX7_balanceAfter 6 = .ok (.invokevirtual 115, 3) := by decide +kernel
theorem dX7_balanceAfter_9 : decode cX7_balanceAfter 9 = .ok (.invokevirtual 229, 3) := by decide +kernel
theorem dX7_balanceAfter_12 : decode cX7_balanceAfter 12 = .ok (.iload_n 2, 1) := by decide +kernel
theorem dX7_balanceAfter_13 : decode cX7_balanceAfter 13 = .ok (.iconst 0, 1) := by decide +kernel
theorem dX7_balanceAfter_14 : decode cX7_balanceAfter 14 = .ok (.bipush 120, 2) := by decide +kernel
theorem dX7_balanceAfter_16 : decode cX7_balanceAfter 16 = .ok (.invokestatic 90, 3) := by decide +kernel
theorem dX7_balanceAfter_19 : decode cX7_balanceAfter 19 = .ok (.aload_n 0, 1) := by decide +kernel
theorem dX7_balanceAfter_20 : decode cX7_balanceAfter 20 = .ok (.getfield 55, 3) := by decide +kernel
theorem dX7_balanceAfter_23 : decode cX7_balanceAfter 23 = .ok (.iload_n 2, 1) := by decide +kernel
theorem dX7_balanceAfter_24 : decode cX7_balanceAfter 24 = .ok (.invokevirtual 232, 3) := by decide +kernel
theorem dX7_balanceAfter_27 : decode cX7_balanceAfter 27 = .ok (.pop, 1) := by decide +kernel
theorem dX7_balanceAfter_28 : decode cX7_balanceAfter 28 = .ok (.aload_n 0, 1) := by decide +kernel
theorem dX7_balanceAfter_29 : decode cX7_balanceAfter 29 = .ok (.getfield 55, 3) := by decide +kernel
theorem dX7_balanceAfter_32 : decode cX7_balanceAfter 32 = .ok (.getfield 137, 3) := by decide +kernel
theorem dX7_balanceAfter_35 : decode cX7_balanceAfter 35 = .ok (.ireturn, 1) := by decide +kernel
set_option maxRecDepth 20000 in
theorem ggX7_interestAhead_X7_loanAt : GoodIn wsX7_interestAhead wsX7_loanAt := goodIn_ca (goodIn_r _ [5, 6, 7, 8, 9, 10, 53, 54, 55, 56, 57, 58, 59, 60, 61, 62, 63, 64, 65, 66] (by decide +kernel) (by decide +kernel)) (goodIn_sub (fun _ h => List.mem_cons_of_mem _ (List.mem_append_right _ h)) (by decide +kernel))
set_option maxRecDepth 20000 in
theorem gX7_interestAhead_X7_loanAt : GoodIn wsX7_interestAhead (wsV RX7 115 RX7 yX7_loanAt wsX7_loanAt) := goodIn_app (goodIn_of _ (by decide +kernel)) ggX7_interestAhead_X7_loanAt
set_option maxRecDepth 20000 in
theorem ggX7_interestAhead_X7_interestToCome : GoodIn wsX7_interestAhead wsX7_interestToCome := goodIn_r _ [14, 15, 16, 17, 18, 19, 20, 21, 22, 23, 24, 25, 26, 27, 28, 29, 30, 31, 32, 33, 34, 35, 36, 37, 38, 39, 40, 41, 42, 43, 44, 45, 46, 47, 48, 49, 50, 51, 52, 53, 54, 55, 56, 57, 58, 59, 60, 61, 62, 63, 67, 68, 69, 70, 71, 72, 73, 74, 75, 76] (by decide +kernel) (by decide +kernel)
set_option maxRecDepth 20000 in
theorem gX7_interestAhead_X7_interestToCome : GoodIn wsX7_interestAhead (wsV RX7 239 RX7 yX7_interestToCome wsX7_interestToCome) := goodIn_app (goodIn_of _ (by decide +kernel)) ggX7_interestAhead_X7_interestToCome
theorem dX7_interestAhead_0 : decode cX7_interestAhead 0 = .ok (.aload_n 0, 1) := by decide +kernel
theorem dX7_interestAhead_1 : decode cX7_interestAhead 1 = .ok (.aload_n 0, 1) := by decide +kernel
theorem dX7_interestAhead_2 : decode cX7_interestAhead 2 = .ok (.iload_n 1, 1) := by decide +kernel
theorem dX7_interestAhead_3 : decode cX7_interestAhead 3 = .ok (.invokevirtual 115, 3) := by decide +kernel
theorem dX7_interestAhead_6 : decode cX7_interestAhead 6 = .ok (.invokevirtual 239, 3) := by decide +kernel
theorem dX7_interestAhead_9 : decode cX7_interestAhead 9 = .ok (.ireturn, 1) := by decide +kernel
set_option maxRecDepth 20000 in
theorem ggX7_lastDue_X7_loanAt : GoodIn wsX7_lastDue wsX7_loanAt := goodIn_ca (goodIn_r _ [5, 6, 7, 8, 9, 10, 52, 53, 54, 55, 56, 57, 58, 59, 60, 61, 62, 63, 64, 65] (by decide +kernel) (by decide +kernel)) (goodIn_sub (fun _ h => List.mem_cons_of_mem _ (List.mem_append_right _ h)) (by decide +kernel))
set_option maxRecDepth 20000 in
theorem gX7_lastDue_X7_loanAt : GoodIn wsX7_lastDue (wsV RX7 115 RX7 yX7_loanAt wsX7_loanAt) := goodIn_app (goodIn_of _ (by decide +kernel)) ggX7_lastDue_X7_loanAt
set_option maxRecDepth 20000 in
theorem ggX7_lastDue_X7_lastPayment : GoodIn wsX7_lastDue wsX7_lastPayment := goodIn_r _ [14, 15, 16, 17, 18, 19, 20, 21, 22, 23, 24, 25, 26, 27, 28, 29, 30, 31, 32, 33, 34, 35, 36, 37, 38, 39, 40, 41, 42, 43, 44, 45, 46, 47, 48, 49, 50, 51, 52, 53, 54, 55, 56, 57, 58, 59, 60, 61, 62, 66, 67, 68, 69, 70, 71, 72, 73, 74, 75] (by decide +kernel) (by decide +kernel)
set_option maxRecDepth 20000 in
theorem gX7_lastDue_X7_lastPayment : GoodIn wsX7_lastDue (wsV RX7 243 RX7 yX7_lastPayment wsX7_lastPayment) := goodIn_app (goodIn_of _ (by decide +kernel)) ggX7_lastDue_X7_lastPayment
theorem dX7_lastDue_0 : decode cX7_lastDue 0 = .ok (.aload_n 0, 1) := by decide +kernel
theorem dX7_lastDue_1 : decode cX7_lastDue 1 = .ok (.aload_n 0, 1) := by decide +kernel
theorem dX7_lastDue_2 : decode cX7_lastDue 2 = .ok (.iload_n 1, 1) := by decide +kernel
theorem dX7_lastDue_3 : decode cX7_lastDue 3 = .ok (.invokevirtual 115, 3) := by decide +kernel
theorem dX7_lastDue_6 : decode cX7_lastDue 6 = .ok (.invokevirtual 243, 3) := by decide +kernel
theorem dX7_lastDue_9 : decode cX7_lastDue 9 = .ok (.ireturn, 1) := by decide +kernel
set_option maxRecDepth 20000 in
theorem ggX7_monthsToHalf_X7_loanAt : GoodIn wsX7_monthsToHalf wsX7_loanAt := goodIn_ca (goodIn_r _ [6, 7, 8, 9, 10, 11, 60, 61, 62, 63, 64, 65, 66, 67, 68, 69, 70, 71, 72, 73] (by decide +kernel) (by decide +kernel)) (goodIn_sub (fun _ h => List.mem_cons_of_mem _ (List.mem_append_right _ h)) (by decide +kernel))
set_option maxRecDepth 20000 in
theorem gX7_monthsToHalf_X7_loanAt : GoodIn wsX7_monthsToHalf (wsV RX7 115 RX7 yX7_loanAt wsX7_loanAt) := goodIn_app (goodIn_of _ (by decide +kernel)) ggX7_monthsToHalf_X7_loanAt
set_option maxRecDepth 20000 in
theorem ggX7_monthsToHalf_X7_paymentsUntil : GoodIn wsX7_monthsToHalf wsX7_paymentsUntil := goodIn_r _ [15, 16, 17, 18, 19, 20, 21, 22, 23, 24, 25, 26, 27, 28, 29, 30, 31, 32, 33, 34, 35, 36, 37, 38, 39, 40, 41, 42, 43, 44, 45, 46, 47, 48, 49, 60, 61, 62, 63, 64, 65, 66, 67, 68, 69, 70, 50, 51, 52, 53, 54, 55, 56, 57, 58, 59] (by decide +kernel) (by decide +kernel)
set_option maxRecDepth 20000 in
theorem gX7_monthsToHalf_X7_paymentsUntil : GoodIn wsX7_monthsToHalf (wsV RX7 235 RX7 yX7_paymentsUntil wsX7_paymentsUntil) := goodIn_app (goodIn_of _ (by decide +kernel)) ggX7_monthsToHalf_X7_paymentsUntil
theorem dX7_monthsToHalf_0 : decode cX7_monthsToHalf 0 = .ok (.aload_n 0, 1) := by decide +kernel
theorem dX7_monthsToHalf_1 : decode cX7_monthsToHalf 1 = .ok (.iload_n 1, 1) := by decide +kernel
theorem dX7_monthsToHalf_2 : decode cX7_monthsToHalf 2 = .ok (.invokevirtual 115, 3) := by decide +kernel
theorem dX7_monthsToHalf_5 : decode cX7_monthsToHalf 5 = .ok (.astore_n 2, 1) := by decide +kernel
theorem dX7_monthsToHalf_6 : decode cX7_monthsToHalf 6 = .ok (.aload_n 0, 1) := by decide +kernel
theorem dX7_monthsToHalf_7 : decode cX7_monthsToHalf 7 = .ok (.aload_n 2, 1) := by decide +kernel
theorem dX7_monthsToHalf_8 : decode cX7_monthsToHalf 8 = .ok (.aload_n 2, 1) := by decide +kernel
theorem dX7_monthsToHalf_9 : decode cX7_monthsToHalf 9 = .ok (.getfield 182, 3) := by decide +kernel
theorem dX7_monthsToHalf_12 : decode cX7_monthsToHalf 12 = .ok (.iconst 2, 1) := by decide +kernel
theorem dX7_monthsToHalf_13 : decode cX7_monthsToHalf 13 = .ok (.idiv, 1) := by decide +kernel
theorem dX7_monthsToHalf_14 : decode cX7_monthsToHalf 14 = .ok (.invokevirtual 235, 3) := by decide +kernel
theorem dX7_monthsToHalf_17 : decode cX7_monthsToHalf 17 = .ok (.ireturn, 1) := by decide +kernel
set_option maxRecDepth 20000 in
theorem ggX7_installmentFor_X7_loanAt : GoodIn wsX7_installmentFor wsX7_loanAt := goodIn_ca (goodIn_r _ [5, 6, 7, 8, 9, 10, 37, 38, 39, 40, 41, 42, 43, 44, 45, 46, 47, 48, 49, 50] (by decide +kernel) (by decide +kernel)) (goodIn_sub (fun _ h => List.mem_cons_of_mem _ (List.mem_append_left _ (List.mem_append_right _ h))) (by decide +kernel))
set_option maxRecDepth 20000 in
theorem gX7_installmentFor_X7_loanAt : GoodIn wsX7_installmentFor (wsV RX7 115 RX7 yX7_loanAt wsX7_loanAt) := goodIn_app (goodIn_of _ (by decide +kernel)) ggX7_installmentFor_X7_loanAt
set_option maxRecDepth 20000 in
theorem ggX7_installmentFor_X7_requireRange : GoodIn wsX7_installmentFor wsX7_requireRange := goodIn_ca (goodIn_r _ [13, 14, 15] (by decide +kernel) (by decide +kernel)) (goodIn_sub (fun _ h => List.mem_cons_of_mem _ (List.mem_append_right _ h)) (by decide +kernel))
set_option maxRecDepth 20000 in
theorem gX7_installmentFor_X7_requireRange : GoodIn wsX7_installmentFor (va_wsS RX7 90 yX7_requireRange wsX7_requireRange) := goodIn_app (goodIn_of _ (by decide +kernel)) ggX7_installmentFor_X7_requireRange
set_option maxRecDepth 20000 in
theorem ggX7_installmentFor_X2_isRunning : GoodIn wsX7_installmentFor wsX2_isRunning := goodIn_r _ [20, 21, 51, 52, 53, 54, 55, 56, 57, 58, 59, 60] (by decide +kernel) (by decide +kernel)
set_option maxRecDepth 20000 in
theorem gX7_installmentFor_X2_isRunning : GoodIn wsX7_installmentFor (wsV RX7 119 RX2 yX2_isRunning wsX2_isRunning) := goodIn_app (goodIn_of _ (by decide +kernel)) ggX7_installmentFor_X2_isRunning
set_option maxRecDepth 20000 in
theorem ggX7_installmentFor_X2_levelFor : GoodIn wsX7_installmentFor wsX2_levelFor := goodIn_r _ [25, 21, 26, 27, 28, 19, 29, 30, 31, 32, 33, 34, 35, 36, 51, 52, 53, 54, 55, 56, 57, 58, 59, 60] (by decide +kernel) (by decide +kernel)
set_option maxRecDepth 20000 in
theorem gX7_installmentFor_X2_levelFor : GoodIn wsX7_installmentFor (wsV RX7 246 RX2 yX2_levelFor wsX2_levelFor) := goodIn_app (goodIn_of _ (by decide +kernel)) ggX7_installmentFor_X2_levelFor
theorem dX7_installmentFor_0 : decode cX7_installmentFor 0 = .ok (.aload_n 0, 1) := by decide +kernel
theorem dX7_installmentFor_1 : decode cX7_installmentFor 1 = .ok (.iload_n 1, 1) := by decide +kernel
theorem dX7_installmentFor_2 : decode cX7_installmentFor 2 = .ok (.invokevirtual 115, 3) := by decide +kernel
theorem dX7_installmentFor_5 : decode cX7_installmentFor 5 = .ok (.astore_n 3, 1) := by decide +kernel
theorem dX7_installmentFor_6 : decode cX7_installmentFor 6 = .ok (.iload_n 2, 1) := by decide +kernel
theorem dX7_installmentFor_7 : decode cX7_installmentFor 7 = .ok (.iconst 1, 1) := by decide +kernel
theorem dX7_installmentFor_8 : decode cX7_installmentFor 8 = .ok (.bipush 120, 2) := by decide +kernel
theorem dX7_installmentFor_10 : decode cX7_installmentFor 10 = .ok (.invokestatic 90, 3) := by decide +kernel
theorem dX7_installmentFor_13 : decode cX7_installmentFor 13 = .ok (.aload_n 3, 1) := by decide +kernel
theorem dX7_installmentFor_14 : decode cX7_installmentFor 14 = .ok (.invokevirtual 119, 3) := by decide +kernel
theorem dX7_installmentFor_17 : decode cX7_installmentFor 17 = .ok (.ifCond .eq 11, 3) := by decide +kernel
theorem dX7_installmentFor_20 : decode cX7_installmentFor 20 = .ok (.aload_n 3, 1) := by decide +kernel
theorem dX7_installmentFor_21 : decode cX7_installmentFor 21 = .ok (.iload_n 2, 1) := by decide +kernel
theorem dX7_installmentFor_22 : decode cX7_installmentFor 22 = .ok (.invokevirtual 246, 3) := by decide +kernel
theorem dX7_installmentFor_25 : decode cX7_installmentFor 25 = .ok (.goto 4, 3) := by decide +kernel
theorem dX7_installmentFor_28 : decode cX7_installmentFor 28 = .ok (.iconst 0, 1) := by decide +kernel
theorem dX7_installmentFor_29 : decode cX7_installmentFor 29 = .ok (.ireturn, 1) := by decide +kernel
set_option maxRecDepth 20000 in
theorem ggX7_monthsFor_X7_loanAt : GoodIn wsX7_monthsFor wsX7_loanAt := goodIn_ca (goodIn_r _ [6, 7, 8, 9, 10, 11, 30, 31, 32, 33, 34, 35, 36, 37, 38, 39, 40, 41, 42, 43] (by decide +kernel) (by decide +kernel)) (goodIn_sub (fun _ h => List.mem_cons_of_mem _ (List.mem_append_left _ (List.mem_append_right _ h))) (by decide +kernel))
set_option maxRecDepth 20000 in
theorem gX7_monthsFor_X7_loanAt : GoodIn wsX7_monthsFor (wsV RX7 115 RX7 yX7_loanAt wsX7_loanAt) := goodIn_app (goodIn_of _ (by decide +kernel)) ggX7_monthsFor_X7_loanAt
set_option maxRecDepth 20000 in
theorem ggX7_monthsFor_X7_requireRange : GoodIn wsX7_monthsFor wsX7_requireRange := goodIn_ca (goodIn_r _ [14, 15, 16] (by decide +kernel) (by decide +kernel)) (goodIn_sub (fun _ h => List.mem_cons_of_mem _ (List.mem_append_right _ h)) (by decide +kernel))
set_option maxRecDepth 20000 in
theorem gX7_monthsFor_X7_requireRange : GoodIn wsX7_monthsFor (va_wsS RX7 90 yX7_requireRange wsX7_requireRange) := goodIn_app (goodIn_of _ (by decide +kernel)) ggX7_monthsFor_X7_requireRange
set_option maxRecDepth 20000 in
theorem ggX7_monthsFor_X2_isRunning : GoodIn wsX7_monthsFor wsX2_isRunning := goodIn_r _ [21, 22, 44, 45, 46, 47, 48, 49, 50, 51, 52, 53] (by decide +kernel) (by decide +kernel)
set_option maxRecDepth 20000 in
theorem gX7_monthsFor_X2_isRunning : GoodIn wsX7_monthsFor (wsV RX7 119 RX2 yX2_isRunning wsX2_isRunning) := goodIn_app (goodIn_of _ (by decide +kernel)) ggX7_monthsFor_X2_isRunning
set_option maxRecDepth 20000 in
theorem ggX7_monthsFor_X2_termFor : GoodIn wsX7_monthsFor wsX2_termFor := goodIn_r _ [26, 22, 27, 28, 29, 44, 45, 46, 47, 48, 49, 50, 51, 52, 53] (by decide +kernel) (by decide +kernel)
set_option maxRecDepth 20000 in
theorem gX7_monthsFor_X2_termFor : GoodIn wsX7_monthsFor (wsV RX7 249 RX2 yX2_termFor wsX2_termFor) := goodIn_app (goodIn_of _ (by decide +kernel)) ggX7_monthsFor_X2_termFor
theorem dX7_monthsFor_0 : decode cX7_monthsFor 0 = .ok (.aload_n 0, 1) := by decide +kernel
theorem dX7_monthsFor_1 : decode cX7_monthsFor 1 = .ok (.iload_n 1, 1) := by decide +kernel
theorem dX7_monthsFor_2 : decode cX7_monthsFor 2 = .ok (.invokevirtual 115, 3) := by decide +kernel
theorem dX7_monthsFor_5 : decode cX7_monthsFor 5 = .ok (.astore_n 3, 1) := by decide +kernel
theorem dX7_monthsFor_6 : decode cX7_monthsFor 6 = .ok (.iload_n 2, 1) := by decide +kernel
theorem dX7_monthsFor_7 : decode cX7_monthsFor 7 = .ok (.iconst 1, 1) := by decide +kernel
theorem dX7_monthsFor_8 : decode cX7_monthsFor 8 = .ok (.ldc 103, 2) := by decide +kernel
theorem dX7_monthsFor_10 : decode cX7_monthsFor 10 = .ok (.invokestatic 90, 3) := by decide +kernel
theorem dX7_monthsFor_13 : decode cX7_monthsFor 13 = .ok (.aload_n 3, 1) := by decide +kernel
theorem dX7_monthsFor_14 : decode cX7_monthsFor 14 = .ok (.invokevirtual 119, 3) := by decide +kernel
theorem dX7_monthsFor_17 : decode cX7_monthsFor 17 = .ok (.ifCond .eq 13, 3) := by decide +kernel
theorem dX7_monthsFor_20 : decode cX7_monthsFor 20 = .ok (.aload_n 3, 1) := by decide +kernel
theorem dX7_monthsFor_21 : decode cX7_monthsFor 21 = .ok (.iload_n 2, 1) := by decide +kernel
theorem dX7_monthsFor_22 : decode cX7_monthsFor 22 = .ok (.bipush 120, 2) := by decide +kernel
theorem dX7_monthsFor_24 : decode cX7_monthsFor 24 = .ok (.invokevirtual 249, 3) := by decide +kernel
theorem dX7_monthsFor_27 : decode cX7_monthsFor 27 = .ok (.goto 4, 3) := by decide +kernel
theorem dX7_monthsFor_30 : decode cX7_monthsFor 30 = .ok (.iconst 0, 1) := by decide +kernel
theorem dX7_monthsFor_31 : decode cX7_monthsFor 31 = .ok (.ireturn, 1) := by decide +kernel
set_option maxRecDepth 20000 in
theorem ggX7_savingOfExtra_X7_loanAt : GoodIn wsX7_savingOfExtra wsX7_loanAt := goodIn_ca (goodIn_r _ [7, 8, 9, 10, 11, 12, 80, 81, 82, 83, 84, 85, 86, 87, 88, 89, 90, 91, 92, 93] (by decide +kernel) (by decide +kernel)) (goodIn_sub (fun _ h => List.mem_cons_of_mem _ (List.mem_append_left _ (List.mem_append_right _ h))) (by decide +kernel))
set_option maxRecDepth 20000 in
theorem gX7_savingOfExtra_X7_loanAt : GoodIn wsX7_savingOfExtra (wsV RX7 115 RX7 yX7_loanAt wsX7_loanAt) := goodIn_app (goodIn_of _ (by decide +kernel)) ggX7_savingOfExtra_X7_loanAt
set_option maxRecDepth 20000 in
theorem ggX7_savingOfExtra_X7_requireRange : GoodIn wsX7_savingOfExtra wsX7_requireRange := goodIn_ca (goodIn_r _ [15, 16, 17] (by decide +kernel) (by decide +kernel)) (goodIn_sub (fun _ h => List.mem_cons_of_mem _ (List.mem_append_right _ h)) (by decide +kernel))
set_option maxRecDepth 20000 in
theorem gX7_savingOfExtra_X7_requireRange : GoodIn wsX7_savingOfExtra (va_wsS RX7 90 yX7_requireRange wsX7_requireRange) := goodIn_app (goodIn_of _ (by decide +kernel)) ggX7_savingOfExtra_X7_requireRange
set_option maxRecDepth 20000 in
theorem ggX7_savingOfExtra_X2_canReduce : GoodIn wsX7_savingOfExtra wsX2_canReduce := goodIn_r _ [22, 23, 94, 95, 96, 97, 98, 99, 100, 101, 102, 103] (by decide +kernel) (by decide +kernel)
set_option maxRecDepth 20000 in
theorem gX7_savingOfExtra_X2_canReduce : GoodIn wsX7_savingOfExtra (wsV RX7 129 RX2 yX2_canReduce wsX2_canReduce) := goodIn_app (goodIn_of _ (by decide +kernel)) ggX7_savingOfExtra_X2_canReduce
set_option maxRecDepth 20000 in
theorem ggX7_savingOfExtra_X2_copyFrom : GoodIn wsX7_savingOfExtra wsX2_copyFrom := goodIn_r _ [27, 28, 23, 29, 30, 31, 32, 33, 34, 35, 36, 94, 95, 96, 97, 98, 99, 100, 101, 102, 103] (by decide +kernel) (by decide +kernel)
set_option maxRecDepth 20000 in
theorem gX7_savingOfExtra_X2_copyFrom : GoodIn wsX7_savingOfExtra (wsV RX7 229 RX2 yX2_copyFrom wsX2_copyFrom) := goodIn_app (goodIn_of _ (by decide +kernel)) ggX7_savingOfExtra_X2_copyFrom
set_option maxRecDepth 20000 in
theorem ggX7_savingOfExtra_X2_reduceBy : GoodIn wsX7_savingOfExtra wsX2_reduceBy := goodIn_r _ [40, 23, 30, 31, 41, 42, 43, 21, 44, 34, 32, 45, 46, 47, 48, 49, 50, 51, 52, 29, 53, 54, 55, 56, 57, 94, 95, 96, 97, 98, 99, 100, 101, 102, 103] (by decide +kernel) (by decide +kernel)
set_option maxRecDepth 20000 in
theorem gX7_savingOfExtra_X2_reduceBy : GoodIn wsX7_savingOfExtra (wsV RX7 252 RX2 yX2_reduceBy wsX2_reduceBy) := goodIn_app (goodIn_of _ (by decide +kernel)) ggX7_savingOfExtra_X2_reduceBy
set_option maxRecDepth 20000 in
theorem ggX7_savingOfExtra_X7_interestToCome : GoodIn wsX7_savingOfExtra wsX7_interestToCome := goodIn_r _ [61, 62, 63, 24, 25, 26, 21, 27, 28, 23, 29, 30, 31, 32, 33, 34, 35, 36, 64, 65, 66, 67, 68, 69, 70, 71, 72, 73, 74, 75, 53, 76, 77, 78, 79, 41, 42, 43, 44, 80, 81, 82, 83, 84, 85, 86, 87, 88, 89, 90, 94, 95, 96, 97, 98, 99, 100, 101, 102, 103] (by decide +kernel) (by decide +kernel)
set_option maxRecDepth 20000 in
theorem gX7_savingOfExtra_X7_interestToCome : GoodIn wsX7_savingOfExtra (wsV RX7 239 RX7 yX7_interestToCome wsX7_interestToCome) := goodIn_app (goodIn_of _ (by decide +kernel)) ggX7_savingOfExtra_X7_interestToCome
theorem dX7_savingOfExtra_0 : decode cX7_savingOfExtra 0 = .ok (.aload_n 0, 1) := by decide +kernel
theorem dX7_savingOfExtra_1 : decode cX7_savingOfExtra 1 = .ok (.iload_n 1, 1) := by decide +kernel
theorem dX7_savingOfExtra_2 : decode cX7_savingOfExtra 2 = .ok (.invokevirtual 115, 3) := by decide +kernel
theorem dX7_savingOfExtra_5 : decode cX7_savingOfExtra 5 = .ok (.astore 4, 2) := by decide +kernel
theorem dX7_savingOfExtra_7 : decode cX7_savingOfExtra 7 = .ok (.iload_n 2, 1) := by decide +kernel
theorem dX7_savingOfExtra_8 : decode cX7_savingOfExtra 8 = .ok (.iconst 1, 1) := by decide +kernel
theorem dX7_savingOfExtra_9 : decode cX7_savingOfExtra 9 = .ok (.ldc 103, 2) := by decide +kernel
theorem dX7_savingOfExtra_11 : decode cX7_savingOfExtra 11 = .ok (.invokestatic 90, 3) := by decide +kernel
theorem dX7_savingOfExtra_14 : decode cX7_savingOfExtra 14 = .ok (.aload 4, 2) := by decide +kernel
theorem dX7_savingOfExtra_16 : decode cX7_savingOfExtra 16 = .ok (.iload_n 2, 1) := by decide +kernel
theorem dX7_savingOfExtra_17 : decode cX7_savingOfExtra 17 = .ok (.invokevirtual 129, 3) := by decide +kernel
theorem dX7_savingOfExtra_20 : decode cX7_savingOfExtra 20 = .ok (.ifCond .ne 5, 3) := by decide +kernel
theorem dX7_savingOfExtra_23 : decode cX7_savingOfExtra 23 = .ok (.iconst 0, 1) := by decide +kernel
theorem dX7_savingOfExtra_24 : decode cX7_savingOfExtra 24 = .ok (.ireturn, 1) := by decide +kernel
theorem dX7_savingOfExtra_25 : decode cX7_savingOfExtra 25 = .ok (.aload_n 0, 1) := by decide +kernel
theorem dX7_savingOfExtra_26 : decode cX7_savingOfExtra 26 = .ok (.getfield 51, 3) := by decide +kernel
theorem dX7_savingOfExtra_29 : decode cX7_savingOfExtra 29 = .ok (.aload 4, 2) := by decide +kernel
theorem dX7_savingOfExtra_31 : decode cX7_savingOfExtra 31 = .ok (.invokevirtual 229, 3) := by decide +kernel
theorem dX7_savingOfExtra_34 : decode cX7_savingOfExtra 34 = .ok (.aload_n 0, 1) := by decide +kernel
theorem dX7_savingOfExtra_35 : decode cX7_savingOfExtra 35 = .ok (.getfield 51, 3) := by decide +kernel
theorem dX7_savingOfExtra_38 : decode cX7_savingOfExtra 38 = .ok (.iload_n 2, 1) := by decide +kernel
theorem dX7_savingOfExtra_39 : decode cX7_savingOfExtra 39 = .ok (.iload_n 3, 1) := by decide +kernel
theorem dX7_savingOfExtra_40 : decode cX7_savingOfExtra 40 = .ok (.invokevirtual 252, 3) := by decide +kernel
theorem dX7_savingOfExtra_43 : decode cX7_savingOfExtra 43 = .ok (.aload_n 0, 1) := by decide +kernel
theorem dX7_savingOfExtra_44 : decode cX7_savingOfExtra 44 = .ok (.aload 4, 2) := by decide +kernel
theorem dX7_savingOfExtra_46 : decode cX7_savingOfExtra 46 = .ok (.invokevirtual 239, 3) := by decide +kernel
theorem dX7_savingOfExtra_49 : decode cX7_savingOfExtra 49 = .ok (.aload_n 0, 1) := by decide +kernel
theorem dX7_savingOfExtra_50 : decode cX7_savingOfExtra 50 = .ok (.aload_n 0, 1) := by decide +kernel
theorem dX7_savingOfExtra_51 : decode cX7_savingOfExtra 51 = .ok (.getfield 51, 3) := by decide +kernel
theorem dX7_savingOfExtra_54 : decode cX7_savingOfExtra 54 = .ok (.invokevirtual 239, 3) := by decide +kernel
theorem dX7_savingOfExtra_57 : decode cX7_savingOfExtra 57 = .ok (.isub, 1) := by decide +kernel
theorem dX7_savingOfExtra_58 : decode cX7_savingOfExtra 58 = .ok (.ireturn, 1) := by decide +kernel
set_option maxRecDepth 20000 in
theorem ggX7_interestIfRate_X7_loanAt : GoodIn wsX7_interestIfRate wsX7_loanAt := goodIn_ca (goodIn_r _ [6, 7, 8, 9, 10, 11, 94, 95, 96, 97, 98, 99, 100, 101, 102, 103, 104, 105, 106, 107] (by decide +kernel) (by decide +kernel)) (goodIn_sub (fun _ h => List.mem_cons_of_mem _ (List.mem_append_left _ (List.mem_append_right _ h))) (by decide +kernel))
set_option maxRecDepth 20000 in
theorem gX7_interestIfRate_X7_loanAt : GoodIn wsX7_interestIfRate (wsV RX7 115 RX7 yX7_loanAt wsX7_loanAt) := goodIn_app (goodIn_of _ (by decide +kernel)) ggX7_interestIfRate_X7_loanAt
set_option maxRecDepth 20000 in
theorem ggX7_interestIfRate_X7_requireRange : GoodIn wsX7_interestIfRate wsX7_requireRange := goodIn_ca (goodIn_r _ [14, 15, 16] (by decide +kernel) (by decide +kernel)) (goodIn_sub (fun _ h => List.mem_cons_of_mem _ (List.mem_append_right _ h)) (by decide +kernel))
set_option maxRecDepth 20000 in
theorem gX7_interestIfRate_X7_requireRange : GoodIn wsX7_interestIfRate (va_wsS RX7 90 yX7_requireRange wsX7_requireRange) := goodIn_app (goodIn_of _ (by decide +kernel)) ggX7_interestIfRate_X7_requireRange
set_option maxRecDepth 20000 in
theorem ggX7_interestIfRate_X2_isRunning : GoodIn wsX7_interestIfRate wsX2_isRunning := goodIn_r _ [21, 22, 84, 85, 86, 87, 88, 89, 90, 91, 92, 93] (by decide +kernel) (by decide +kernel)
set_option maxRecDepth 20000 in
theorem gX7_interestIfRate_X2_isRunning : GoodIn wsX7_interestIfRate (wsV RX7 119 RX2 yX2_isRunning wsX2_isRunning) := goodIn_app (goodIn_of _ (by decide +kernel)) ggX7_interestIfRate_X2_isRunning
set_option maxRecDepth 20000 in
theorem ggX7_interestIfRate_X7_interestWithTerms : GoodIn wsX7_interestIfRate wsX7_interestWithTerms := goodIn_r _ [26, 27, 28, 29, 30, 20, 31, 32, 22, 33, 34, 35, 36, 37, 38, 39, 40, 41, 42, 43, 44, 45, 46, 47, 48, 49, 50, 51, 52, 53, 54, 55, 56, 57, 58, 59, 60, 5, 61, 62, 63, 64, 65, 66, 67, 68, 69, 70, 71, 72, 73, 74, 75, 76, 77, 78, 79, 80, 81, 82, 83, 94, 95, 96, 97, 98, 99, 100, 101, 102, 103, 104, 84, 85, 86, 87, 88, 89, 90, 91, 92, 93] (by decide +kernel) (by decide +kernel)
set_option maxRecDepth 20000 in
theorem gX7_interestIfRate_X7_interestWithTerms : GoodIn wsX7_interestIfRate (wsV RX7 256 RX7 yX7_interestWithTerms wsX7_interestWithTerms) := goodIn_app (goodIn_of _ (by decide +kernel)) ggX7_interestIfRate_X7_interestWithTerms
theorem dX7_interestIfRate_0 : decode cX7_interestIfRate 0 = .ok (.aload_n 0, 1) := by decide +kernel
theorem dX7_interestIfRate_1 : decode cX7_interestIfRate 1 = .ok (.iload_n 1, 1) := by decide +kernel
theorem dX7_interestIfRate_2 : decode cX7_interestIfRate 2 = .ok (.invokevirtual 115, 3) := by decide +kernel
theorem dX7_interestIfRate_5 : decode cX7_interestIfRate 5 = .ok (.astore_n 3, 1) := by decide +kernel
theorem dX7_interestIfRate_6 : decode cX7_interestIfRate 6 = .ok (.iload_n 2, 1) := by decide +kernel
theorem dX7_interestIfRate_7 : decode cX7_interestIfRate 7 = .ok (.iconst 0, 1) := by decide +kernel
theorem dX7_interestIfRate_8 : decode cX7_interestIfRate 8 = .ok (.sipush 3000, 3) := by decide +kernel
theorem dX7_interestIfRate_11 : decode cX7_interestIfRate 11 = .ok (.invokestatic 90, 3) := by decide +kernel
theorem dX7_interestIfRate_14 : decode cX7_interestIfRate 14 = .ok (.aload_n 3, 1) := by decide +kernel
theorem dX7_interestIfRate_15 : decode cX7_interestIfRate 15 = .ok (.invokevirtual 119, 3) := by decide +kernel
theorem dX7_interestIfRate_18 : decode cX7_interestIfRate 18 = .ok (.ifCond .eq 16, 3) := by decide +kernel
theorem dX7_interestIfRate_21 : decode cX7_interestIfRate 21 = .ok (.aload_n 0, 1) := by decide +kernel
theorem dX7_interestIfRate_22 : decode cX7_interestIfRate 22 = .ok (.aload_n 3, 1) := by decide +kernel
theorem dX7_interestIfRate_23 : decode cX7_interestIfRate 23 = .ok (.iload_n 2, 1) := by decide +kernel
theorem dX7_interestIfRate_24 : decode cX7_interestIfRate 24 = .ok (.aload_n 3, 1) := by decide +kernel
theorem dX7_interestIfRate_25 : decode cX7_interestIfRate 25 = .ok (.getfield 146, 3) := by decide +kernel
theorem dX7_interestIfRate_28 : decode cX7_interestIfRate 28 = .ok (.invokevirtual 256, 3) := by decide +kernel
theorem dX7_interestIfRate_31 : decode cX7_interestIfRate 31 = .ok (.goto 4, 3) := by decide +kernel
theorem dX7_interestIfRate_34 : decode cX7_interestIfRate 34 = .ok (.iconst 0, 1) := by decide +kernel
theorem dX7_interestIfRate_35 : decode cX7_interestIfRate 35 = .ok (.ireturn, 1) := by decide +kernel
set_option maxRecDepth 20000 in
theorem ggX7_isCheaper_X7_loanAt : GoodIn wsX7_isCheaper wsX7_loanAt := goodIn_ca (goodIn_r _ [5, 6, 7, 8, 9, 10, 83, 84, 85, 86, 87, 88, 89, 90, 91, 92, 93, 94, 95, 96] (by decide +kernel) (by decide +kernel)) (goodIn_sub (fun _ h => List.mem_cons_of_mem _ (List.mem_append_left _ (List.mem_append_right _ h))) (by decide +kernel))
set_option maxRecDepth 20000 in
theorem gX7_isCheaper_X7_loanAt : GoodIn wsX7_isCheaper (wsV RX7 115 RX7 yX7_loanAt wsX7_loanAt) := goodIn_app (goodIn_of _ (by decide +kernel)) ggX7_isCheaper_X7_loanAt
set_option maxRecDepth 20000 in
theorem ggX7_isCheaper_X7_requireRange : GoodIn wsX7_isCheaper wsX7_requireRange := goodIn_ca (goodIn_r _ [13, 14, 15] (by decide +kernel) (by decide +kernel)) (goodIn_sub (fun _ h => List.mem_cons_of_mem _ (List.mem_append_right _ h)) (by decide +kernel))
set_option maxRecDepth 20000 in
theorem gX7_isCheaper_X7_requireRange : GoodIn wsX7_isCheaper (va_wsS RX7 90 yX7_requireRange wsX7_requireRange) := goodIn_app (goodIn_of _ (by decide +kernel)) ggX7_isCheaper_X7_requireRange
set_option maxRecDepth 20000 in
theorem ggX7_isCheaper_X2_isRunning : GoodIn wsX7_isCheaper wsX2_isRunning := goodIn_r _ [20, 21, 97, 98, 99, 100, 101, 102, 103, 104, 105, 106] (by decide +kernel) (by decide +kernel)
set_option maxRecDepth 20000 in
theorem gX7_isCheaper_X2_isRunning : GoodIn wsX7_isCheaper (wsV RX7 119 RX2 yX2_isRunning wsX2_isRunning) := goodIn_app (goodIn_of _ (by decide +kernel)) ggX7_isCheaper_X2_isRunning
set_option maxRecDepth 20000 in
theorem ggX7_isCheaper_X7_interestWithTerms : GoodIn wsX7_isCheaper wsX7_interestWithTerms := goodIn_r _ [25, 26, 27, 28, 29, 19, 30, 31, 21, 32, 33, 34, 35, 36, 37, 38, 39, 40, 41, 42, 43, 44, 45, 46, 47, 48, 49, 50, 51, 52, 53, 54, 55, 56, 57, 58, 59, 4, 60, 61, 62, 63, 64, 65, 66, 67, 68, 69, 70, 71, 72, 73, 74, 75, 76, 77, 78, 79, 80, 81, 82, 83, 84, 85, 86, 87, 88, 89, 90, 91, 92, 93, 97, 98, 99, 100, 101, 102, 103, 104, 105, 106] (by decide +kernel) (by decide +kernel)
set_option maxRecDepth 20000 in
theorem gX7_isCheaper_X7_interestWithTerms : GoodIn wsX7_isCheaper (wsV RX7 256 RX7 yX7_interestWithTerms wsX7_interestWithTerms) := goodIn_app (goodIn_of _ (by decide +kernel)) ggX7_isCheaper_X7_interestWithTerms
set_option maxRecDepth 20000 in
theorem ggX7_isCheaper_X7_interestToCome : GoodIn wsX7_isCheaper wsX7_interestToCome := goodIn_r _ [60, 61, 62, 27, 28, 29, 19, 30, 31, 21, 32, 33, 34, 35, 36, 37, 38, 39, 63, 64, 65, 66, 67, 68, 69, 70, 71, 72, 73, 74, 52, 75, 76, 77, 78, 79, 80, 81, 82, 83, 84, 85, 86, 87, 88, 89, 90, 91, 92, 93, 97, 98, 99, 100, 101, 102, 103, 104, 105, 106] (by decide +kernel) (by decide +kernel)
set_option maxRecDepth 20000 in
theorem gX7_isCheaper_X7_interestToCome : GoodIn wsX7_isCheaper (wsV RX7 239 RX7 yX7_interestToCome wsX7_interestToCome) := goodIn_app (goodIn_of _ (by decide +kernel)) ggX7_isCheaper_X7_interestToCome
theorem dX7_isCheaper_0 : decode cX7_isCheaper 0 = .ok (.aload_n 0, 1) := by decide +kernel
theorem dX7_isCheaper_1 : decode cX7_isCheaper 1 = .ok (.iload_n 1, 1) := by decide +kernel
theorem dX7_isCheaper_2 : decode cX7_isCheaper 2 = .ok (.invokevirtual 115, 3) := by decide +kernel
theorem dX7_isCheaper_5 : decode cX7_isCheaper 5 = .ok (.astore 4, 2) := by decide +kernel
theorem dX7_isCheaper_7 : decode cX7_isCheaper 7 = .ok (.iload_n 2, 1) := by decide +kernel
theorem dX7_isCheaper_8 : decode cX7_isCheaper 8 = .ok (.iconst 0, 1) := by decide +kernel
theorem dX7_isCheaper_9 : decode cX7_isCheaper 9 = .ok (.sipush 3000, 3) := by decide +kernel
theorem dX7_isCheaper_12 : decode cX7_isCheaper 12 = .ok (.invokestatic 90, 3) := by decide +kernel
theorem dX7_isCheaper_15 : decode cX7_isCheaper 15 = .ok (.iload_n 3, 1) := by decide +kernel
theorem dX7_isCheaper_16 : decode cX7_isCheaper 16 = .ok (.iconst 1, 1) := by decide +kernel
theorem dX7_isCheaper_17 : decode cX7_isCheaper 17 = .ok (.bipush 120, 2) := by decide +kernel
theorem dX7_isCheaper_19 : decode cX7_isCheaper 19 = .ok (.invokestatic 90, 3) := by decide +kernel
theorem dX7_isCheaper_22 : decode cX7_isCheaper 22 = .ok (.aload 4, 2) := by decide +kernel
theorem dX7_isCheaper_24 : decode cX7_isCheaper 24 = .ok (.invokevirtual 119, 3) := by decide +kernel
theorem dX7_isCheaper_27 : decode cX7_isCheaper 27 = .ok (.ifCond .eq 24, 3) := by decide +kernel
theorem dX7_isCheaper_30 : decode cX7_isCheaper 30 = .ok (.aload_n 0, 1) := by decide +kernel
theorem dX7_isCheaper_31 : decode cX7_isCheaper 31 = .ok (.aload 4, 2) := by decide +kernel
theorem dX7_isCheaper_33 : decode cX7_isCheaper 33 = .ok (.iload_n 2, 1) := by decide +kernel
theorem dX7_isCheaper_34 : decode cX7_isCheaper 34 = .ok (.iload_n 3, 1) := by decide +kernel
theorem dX7_isCheaper_35 : decode cX7_isCheaper 35 = .ok (.invokevirtual 256, 3) := by decide +kernel
theorem dX7_isCheaper_38 : decode cX7_isCheaper 38 = .ok (.aload_n 0, 1) := by decide +kernel
theorem dX7_isCheaper_39 : decode cX7_isCheaper 39 = .ok (.aload 4, 2) := by decide +kernel
theorem dX7_isCheaper_41 : decode cX7_isCheaper 41 = .ok (.invokevirtual 239, 3) := by decide +kernel
theorem dX7_isCheaper_44 : decode cX7_isCheaper 44 = .ok (.if_icmp .ge 7, 3) := by decide +kernel
theorem dX7_isCheaper_47 : decode cX7_isCheaper 47 = .ok (.iconst 1, 1) := by decide +kernel
theorem dX7_isCheaper_48 : decode cX7_isCheaper 48 = .ok (.goto 4, 3) := by decide +kernel
theorem dX7_isCheaper_51 : decode cX7_isCheaper 51 = .ok (.iconst 0, 1) := by decide +kernel
theorem dX7_isCheaper_52 : decode cX7_isCheaper 52 = .ok (.ireturn, 1) := by decide +kernel
set_option maxRecDepth 20000 in
theorem ggX7_skipsWithin_X7_loanAt : GoodIn wsX7_skipsWithin wsX7_loanAt := goodIn_ca (goodIn_r _ [8, 9, 10, 11, 12, 13, 60, 61, 62, 63, 64, 65, 66, 67, 68, 69, 70, 81, 82, 83] (by decide +kernel) (by decide +kernel)) (goodIn_sub (fun _ h => List.mem_cons_of_mem _ (List.mem_append_left _ (List.mem_append_right _ h))) (by decide +kernel))
set_option maxRecDepth 20000 in
theorem gX7_skipsWithin_X7_loanAt : GoodIn wsX7_skipsWithin (wsV RX7 115 RX7 yX7_loanAt wsX7_loanAt) := goodIn_app (goodIn_of _ (by decide +kernel)) ggX7_skipsWithin_X7_loanAt
set_option maxRecDepth 20000 in
theorem ggX7_skipsWithin_X2_copyFrom : GoodIn wsX7_skipsWithin wsX2_copyFrom := goodIn_r _ [18, 19, 20, 21, 22, 23, 24, 25, 26, 27, 28, 71, 72, 73, 74, 75, 76, 77, 78, 79, 80] (by decide +kernel) (by decide +kernel)
set_option maxRecDepth 20000 in
theorem gX7_skipsWithin_X2_copyFrom : GoodIn wsX7_skipsWithin (wsV RX7 229 RX2 yX2_copyFrom wsX2_copyFrom) := goodIn_app (goodIn_of _ (by decide +kernel)) ggX7_skipsWithin_X2_copyFrom
set_option maxRecDepth 20000 in
theorem ggX7_skipsWithin_X7_requireRange : GoodIn wsX7_skipsWithin wsX7_requireRange := goodIn_ca (goodIn_r _ [31, 32, 33] (by decide +kernel) (by decide +kernel)) (goodIn_sub (fun _ h => List.mem_cons_of_mem _ (List.mem_append_right _ h)) (by decide +kernel))
set_option maxRecDepth 20000 in
theorem gX7_skipsWithin_X7_requireRange : GoodIn wsX7_skipsWithin (va_wsS RX7 90 yX7_requireRange wsX7_requireRange) := goodIn_app (goodIn_of _ (by decide +kernel)) ggX7_skipsWithin_X7_requireRange
set_option maxRecDepth 20000 in
theorem ggX7_skipsWithin_X2_canDefer : GoodIn wsX7_skipsWithin wsX2_canDefer := goodIn_r _ [37, 20, 28, 38, 39, 40, 41, 17, 42, 21, 24, 43, 71, 72, 73, 74, 75, 76, 77, 78, 79, 80] (by decide +kernel) (by decide +kernel)
set_option maxRecDepth 20000 in
theorem gX7_skipsWithin_X2_canDefer : GoodIn wsX7_skipsWithin (wsV RX7 140 RX2 yX2_canDefer wsX2_canDefer) := goodIn_app (goodIn_of _ (by decide +kernel)) ggX7_skipsWithin_X2_canDefer
set_option maxRecDepth 20000 in
theorem ggX7_skipsWithin_X2_defer : GoodIn wsX7_skipsWithin wsX2_defer := goodIn_r _ [47, 28, 22, 23, 48, 49, 50, 17, 51, 20, 21, 24, 43, 25, 52, 53, 54, 55, 39, 40, 41, 42, 56, 57, 58, 59, 71, 72, 73, 74, 75, 76, 77, 78, 79, 80] (by decide +kernel) (by decide +kernel)
set_option maxRecDepth 20000 in
theorem gX7_skipsWithin_X2_defer : GoodIn wsX7_skipsWithin (wsV RX7 143 RX2 yX2_defer wsX2_defer) := goodIn_app (goodIn_of _ (by decide +kernel)) ggX7_skipsWithin_X2_defer
theorem dX7_skipsWithin_0 : decode cX7_skipsWithin 0 = .ok (.aload_n 0, 1) := by decide +kernel
theorem dX7_skipsWithin_1 : decode cX7_skipsWithin 1 = .ok (.getfield 51, 3) := by decide +kernel
theorem dX7_skipsWithin_4 : decode cX7_skipsWithin 4 = .ok (.aload_n 0, 1) := by decide +kernel
theorem dX7_skipsWithin_5 : decode cX7_skipsWithin 5 = .ok (.iload_n 1, 1) := by decide +kernel
theorem dX7_skipsWithin_6 : decode cX7_skipsWithin 6 = .ok (.invokevirtual 115, 3) := by decide +kernel
theorem dX7_skipsWithin_9 : decode cX7_skipsWithin 9 = .ok (.invokevirtual 229, 3) := by decide +kernel
theorem dX7_skipsWithin_12 : decode cX7_skipsWithin 12 = .ok (.iload_n 2, 1) := by decide +kernel
theorem dX7_skipsWithin_13 : decode cX7_skipsWithin 13 = .ok (.iconst 1, 1) := by decide +kernel
theorem dX7_skipsWithin_14 : decode cX7_skipsWithin 14 = .ok (.ldc 103, 2) := by decide +kernel
theorem dX7_skipsWithin_16 : decode cX7_skipsWithin 16 = .ok (.invokestatic 90, 3) := by decide +kernel
theorem dX7_skipsWithin_19 : decode cX7_skipsWithin 19 = .ok (.iconst 0, 1) := by decide +kernel
theorem dX7_skipsWithin_20 : decode cX7_skipsWithin 20 = .ok (.istore_n 3, 1) := by decide +kernel
theorem dX7_skipsWithin_21 : decode cX7_skipsWithin 21 = .ok (.iconst 0, 1) := by decide +kernel
theorem dX7_skipsWithin_22 : decode cX7_skipsWithin 22 = .ok (.istore 4, 2) := by decide +kernel
theorem dX7_skipsWithin_24 : decode cX7_skipsWithin 24 = .ok (.iload 4, 2) := by decide +kernel
theorem dX7_skipsWithin_26 : decode cX7_skipsWithin 26 = .ok (.bipush 6, 2) := by decide +kernel
theorem dX7_skipsWithin_28 : decode cX7_skipsWithin 28 = .ok (.if_icmp .ge 43, 3) := by decide +kernel
theorem dX7_skipsWithin_31 : decode cX7_skipsWithin 31 = .ok (.aload_n 0, 1) := by decide +kernel
theorem dX7_skipsWithin_32 : decode cX7_skipsWithin 32 = .ok (.getfield 51, 3) := by decide +kernel
theorem dX7_skipsWithin_35 : decode cX7_skipsWithin 35 = .ok (.invokevirtual 140, 3) := by decide +kernel
theorem dX7_skipsWithin_38 : decode cX7_skipsWithin 38 = .ok (.ifCond .eq 33, 3) := by decide +kernel
theorem dX7_skipsWithin_41 : decode cX7_skipsWithin 41 = .ok (.aload_n 0, 1) := by decide +kernel
theorem dX7_skipsWithin_42 : decode cX7_skipsWithin 42 = .ok (.getfield 51, 3) := by decide +kernel
theorem dX7_skipsWithin_45 : decode cX7_skipsWithin 45 = .ok (.invokevirtual 143, 3) := by decide +kernel
theorem dX7_skipsWithin_48 : decode cX7_skipsWithin 48 = .ok (.pop, 1) := by decide +kernel
theorem dX7_skipsWithin_49 : decode cX7_skipsWithin 49 = .ok (.aload_n 0, 1) := by decide +kernel
theorem dX7_skipsWithin_50 : decode cX7_skipsWithin 50 = .ok (.getfield 51, 3) := by decide +kernel
theorem dX7_skipsWithin_53 : decode cX7_skipsWithin 53 = .ok (.getfield 185, 3) := by decide +kernel
theorem dX7_skipsWithin_56 : decode cX7_skipsWithin 56 = .ok (.iload_n 2, 1) := by decide +kernel
theorem dX7_skipsWithin_57 : decode cX7_skipsWithin 57 = .ok (.if_icmp .le 5, 3) := by decide +kernel
theorem dX7_skipsWithin_60 : decode cX7_skipsWithin 60 = .ok (.iload_n 3, 1) := by decide +kernel
theorem dX7_skipsWithin_61 : decode cX7_skipsWithin 61 = .ok (.ireturn, 1) := by decide +kernel
theorem dX7_skipsWithin_62 : decode cX7_skipsWithin 62 = .ok (.iinc 3 1, 3) := by decide +kernel
theorem dX7_skipsWithin_65 : decode cX7_skipsWithin 65 = .ok (.iinc 4 1, 3) := by decide +kernel
theorem dX7_skipsWithin_68 : decode cX7_skipsWithin 68 = .ok (.goto (-44), 3) := by decide +kernel
theorem dX7_skipsWithin_71 : decode cX7_skipsWithin 71 = .ok (.iload_n 3, 1) := by decide +kernel
theorem dX7_skipsWithin_72 : decode cX7_skipsWithin 72 = .ok (.ireturn, 1) := by decide +kernel
set_option maxRecDepth 20000 in
theorem ggX7_totalInterestAhead_X7_interestToCome : GoodIn wsX7_totalInterestAhead wsX7_interestToCome := goodIn_r _ [8, 9, 10, 11, 12, 13, 14, 15, 16, 17, 18, 19, 20, 21, 22, 23, 24, 25, 26, 27, 28, 29, 30, 31, 32, 33, 34, 35, 36, 37, 38, 39, 40, 41, 42, 43, 44, 45, 46, 47, 48, 49, 50, 51, 52, 53, 54, 55, 56, 57, 61, 62, 63, 64, 65, 66, 67, 68, 69, 70] (by decide +kernel) (by decide +kernel)
set_option maxRecDepth 20000 in
theorem gX7_totalInterestAhead_X7_interestToCome : GoodIn wsX7_totalInterestAhead (wsV RX7 239 RX7 yX7_interestToCome wsX7_interestToCome) := goodIn_app (goodIn_of _ (by decide +kernel)) ggX7_totalInterestAhead_X7_interestToCome
theorem dX7_totalInterestAhead_0 : decode cX7_totalInterestAhead 0 = .ok (.iconst 0, 1) := by decide +kernel
theorem dX7_totalInterestAhead_1 : decode cX7_totalInterestAhead 1 = .ok (.istore_n 1, 1) := by decide +kernel
theorem dX7_totalInterestAhead_2 : decode cX7_totalInterestAhead 2 = .ok (.iconst 0, 1) := by decide +kernel
theorem dX7_totalInterestAhead_3 : decode cX7_totalInterestAhead 3 = .ok (.istore_n 2, 1) := by decide +kernel
theorem dX7_totalInterestAhead_4 : decode cX7_totalInterestAhead 4 = .ok (.iload_n 2, 1) := by decide +kernel
theorem dX7_totalInterestAhead_5 : decode cX7_totalInterestAhead 5 = .ok (.aload_n 0, 1) := by decide +kernel
theorem dX7_totalInterestAhead_6 : decode cX7_totalInterestAhead 6 = .ok (.getfield 20, 3) := by decide +kernel
theorem dX7_totalInterestAhead_9 : decode cX7_totalInterestAhead 9 = .ok (.getfield 100, 3) := by decide +kernel
theorem dX7_totalInterestAhead_12 : decode cX7_totalInterestAhead 12 = .ok (.if_icmp .ge 31, 3) := by decide +kernel
theorem dX7_totalInterestAhead_15 : decode cX7_totalInterestAhead 15 = .ok (.iload_n 2, 1) := by decide +kernel
theorem dX7_totalInterestAhead_16 : decode cX7_totalInterestAhead 16 = .ok (.bipush 6, 2) := by decide +kernel
theorem dX7_totalInterestAhead_18 : decode cX7_totalInterestAhead 18 = .ok (.if_icmp .ge 25, 3) := by decide +kernel
theorem dX7_totalInterestAhead_21 : decode cX7_totalInterestAhead 21 = .ok (.iload_n 1, 1) := by decide +kernel
theorem dX7_totalInterestAhead_22 : decode cX7_totalInterestAhead 22 = .ok (.aload_n 0, 1) := by decide +kernel
theorem dX7_totalInterestAhead_23 : decode cX7_totalInterestAhead 23 = .ok (.aload_n 0, 1) := by decide +kernel
theorem dX7_totalInterestAhead_24 : decode cX7_totalInterestAhead 24 = .ok (.getfield 20, 3) := by decide +kernel
theorem dX7_totalInterestAhead_27 : decode cX7_totalInterestAhead 27 = .ok (.getfield 260, 3) := by decide +kernel
theorem dX7_totalInterestAhead_30 : decode cX7_totalInterestAhead 30 = .ok (.iload_n 2, 1) := by decide +kernel
theorem dX7_totalInterestAhead_31 : decode cX7_totalInterestAhead 31 = .ok (.aaload, 1) := by decide +kernel
theorem dX7_totalInterestAhead_32 : decode cX7_totalInterestAhead 32 = .ok (.invokevirtual 239, 3) := by decide +kernel
theorem dX7_totalInterestAhead_35 : decode cX7_totalInterestAhead 35 = .ok (.iadd, 1) := by decide +kernel
theorem dX7_totalInterestAhead_36 : decode cX7_totalInterestAhead 36 = .ok (.istore_n 1, 1) := by decide +kernel
theorem dX7_totalInterestAhead_37 : decode cX7_totalInterestAhead 37 = .ok (.iinc 2 1, 3) := by decide +kernel
theorem dX7_totalInterestAhead_40 : decode cX7_totalInterestAhead 40 = .ok (.goto (-36), 3) := by decide +kernel
theorem dX7_totalInterestAhead_43 : decode cX7_totalInterestAhead 43 = .ok (.iload_n 1, 1) := by decide +kernel
theorem dX7_totalInterestAhead_44 : decode cX7_totalInterestAhead 44 = .ok (.ireturn, 1) := by decide +kernel
set_option maxRecDepth 20000 in
theorem ggX7_dearestLoan_X3_firstByRate : GoodIn wsX7_dearestLoan wsX3_firstByRate := goodIn_r _ [6, 7, 8, 9, 10, 11, 12, 13, 14, 15, 27, 28, 29, 30, 31, 32, 33, 34, 35, 36, 37, 38, 39] (by decide +kernel) (by decide +kernel)
set_option maxRecDepth 20000 in
theorem gX7_dearestLoan_X3_firstByRate : GoodIn wsX7_dearestLoan (wsV RX7 263 RX3 yX3_firstByRate wsX3_firstByRate) := goodIn_app (goodIn_of _ (by decide +kernel)) ggX7_dearestLoan_X3_firstByRate
theorem dX7_dearestLoan_0 : decode cX7_dearestLoan 0 = .ok (.aload_n 0, 1) := by decide +kernel
theorem dX7_dearestLoan_1 : decode cX7_dearestLoan 1 = .ok (.getfield 20, 3) := by decide +kernel
theorem dX7_dearestLoan_4 : decode cX7_dearestLoan 4 = .ok (.invokevirtual 263, 3) := by decide +kernel
theorem dX7_dearestLoan_7 : decode cX7_dearestLoan 7 = .ok (.ireturn, 1) := by decide +kernel
set_option maxRecDepth 20000 in
theorem ggX7_smallestLoan_X3_firstByBalance : GoodIn wsX7_smallestLoan wsX3_firstByBalance := goodIn_r _ [6, 7, 8, 9, 10, 11, 12, 13, 14, 15, 16, 28, 29, 30, 31, 32, 33, 34, 35, 36, 37, 38, 39, 40] (by decide +kernel) (by decide +kernel)
set_option maxRecDepth 20000 in
theorem gX7_smallestLoan_X3_firstByBalance : GoodIn wsX7_smallestLoan (wsV RX7 266 RX3 yX3_firstByBalance wsX3_firstByBalance) := goodIn_app (goodIn_of _ (by decide +kernel)) ggX7_smallestLoan_X3_firstByBalance
theorem dX7_smallestLoan_0 : decode cX7_smallestLoan 0 = .ok (.aload_n 0, 1) := by decide +kernel
theorem dX7_smallestLoan_1 : decode cX7_smallestLoan 1 = .ok (.getfield 20, 3) := by decide +kernel
theorem dX7_smallestLoan_4 : decode cX7_smallestLoan 4 = .ok (.invokevirtual 266, 3) := by decide +kernel
theorem dX7_smallestLoan_7 : decode cX7_smallestLoan 7 = .ok (.ireturn, 1) := by decide +kernel
set_option maxRecDepth 20000 in
theorem ggX7_totalDue_X3_sumOfDues : GoodIn wsX7_totalDue wsX3_sumOfDues := goodIn_r _ [6, 7, 8, 9, 10, 11, 12, 13, 14, 15, 16, 17, 18, 19, 20, 21, 22, 23, 24, 25, 26, 27, 39, 40, 41, 42, 43, 44, 45, 46, 47, 48, 49, 50, 51] (by decide +kernel) (by decide +kernel)
set_option maxRecDepth 20000 in
theorem gX7_totalDue_X3_sumOfDues : GoodIn wsX7_totalDue (wsV RX7 269 RX3 yX3_sumOfDues wsX3_sumOfDues) := goodIn_app (goodIn_of _ (by decide +kernel)) ggX7_totalDue_X3_sumOfDues
theorem dX7_totalDue_0 : decode cX7_totalDue 0 = .ok (.aload_n 0, 1) := by decide +kernel
theorem dX7_totalDue_1 : decode cX7_totalDue 1 = .ok (.getfield 20, 3) := by decide +kernel
theorem dX7_totalDue_4 : decode cX7_totalDue 4 = .ok (.invokevirtual 269, 3) := by decide +kernel
theorem dX7_totalDue_7 : decode cX7_totalDue 7 = .ok (.ireturn, 1) := by decide +kernel
set_option maxRecDepth 20000 in
theorem ggX7_totalBalance_X3_sumOfBalances : GoodIn wsX7_totalBalance wsX3_sumOfBalances := goodIn_r _ [6, 7, 8, 9, 21, 22, 23, 24, 25, 26, 27, 28, 29, 30, 31, 32, 33] (by decide +kernel) (by decide +kernel)
set_option maxRecDepth 20000 in
theorem gX7_totalBalance_X3_sumOfBalances : GoodIn wsX7_totalBalance (wsV RX7 272 RX3 yX3_sumOfBalances wsX3_sumOfBalances) := goodIn_app (goodIn_of _ (by decide +kernel)) ggX7_totalBalance_X3_sumOfBalances
theorem dX7_totalBalance_0 : decode cX7_totalBalance 0 = .ok (.aload_n 0, 1) := by decide +kernel
theorem dX7_totalBalance_1 : decode cX7_totalBalance 1 = .ok (.getfield 20, 3) := by decide +kernel
theorem dX7_totalBalance_4 : decode cX7_totalBalance 4 = .ok (.invokevirtual 272, 3) := by decide +kernel
theorem dX7_totalBalance_7 : decode cX7_totalBalance 7 = .ok (.ireturn, 1) := by decide +kernel
set_option maxRecDepth 20000 in
theorem ggX7_monthsToFreedom_X7_paymentsUntil : GoodIn wsX7_monthsToFreedom wsX7_paymentsUntil := goodIn_r _ [12, 13, 14, 15, 16, 17, 18, 19, 20, 21, 22, 23, 24, 25, 26, 27, 28, 29, 30, 31, 32, 33, 34, 35, 36, 37, 38, 39, 40, 41, 42, 43, 44, 45, 46, 47, 48, 49, 50, 51, 52, 53, 54, 55, 56, 57, 61, 62, 63, 64, 65, 66, 67, 68, 69, 70] (by decide +kernel) (by decide +kernel)
set_option maxRecDepth 20000 in
theorem gX7_monthsToFreedom_X7_paymentsUntil : GoodIn wsX7_monthsToFreedom (wsV RX7 235 RX7 yX7_paymentsUntil wsX7_paymentsUntil) := goodIn_app (goodIn_of _ (by decide +kernel)) ggX7_monthsToFreedom_X7_paymentsUntil
theorem dX7_monthsToFreedom_0 : decode cX7_monthsToFreedom 0 = .ok (.iconst 0, 1) := by decide +kernel
theorem dX7_monthsToFreedom_1 : decode cX7_monthsToFreedom 1 = .ok (.istore_n 1, 1) := by decide +kernel
theorem dX7_monthsToFreedom_2 : decode cX7_monthsToFreedom 2 = .ok (.iconst 0, 1) := by decide +kernel
theorem dX7_monthsToFreedom_3 : decode cX7_monthsToFreedom 3 = .ok (.istore_n 2, 1) := by decide +kernel
theorem dX7_monthsToFreedom_4 : decode cX7_monthsToFreedom 4 = .ok (.iload_n 2, 1) := by decide +kernel
theorem dX7_monthsToFreedom_5 : decode cX7_monthsToFreedom 5 = .ok (.aload_n 0, 1) := by decide +kernel
theorem dX7_monthsToFreedom_6 : decode cX7_monthsToFreedom 6 = .ok (.getfield 20, 3) := by decide +kernel
theorem dX7_monthsToFreedom_9 : decode cX7_monthsToFreedom 9 = .ok (.getfield 100, 3) := by decide +kernel
theorem dX7_monthsToFreedom_12 : decode cX7_monthsToFreedom 12 = .ok (.if_icmp .ge 34, 3) := by decide +kernel
theorem dX7_monthsToFreedom_15 : decode cX7_monthsToFreedom 15 = .ok (.iload_n 2, 1) := by decide +kernel
theorem dX7_monthsToFreedom_16 : decode cX7_monthsToFreedom 16 = .ok (.bipush 6, 2) := by decide +kernel
theorem dX7_monthsToFreedom_18 : decode cX7_monthsToFreedom 18 = .ok (.if_icmp .ge 28, 3) := by decide +kernel
theorem dX7_monthsToFreedom_21 : decode cX7_monthsToFreedom 21 = .ok (.iload_n 1, 1) := by decide +kernel
theorem dX7_monthsToFreedom_22 : decode cX7_monthsToFreedom 22 = .ok (.aload_n 0, 1) := by decide +kernel
theorem dX7_monthsToFreedom_23 : decode cX7_monthsToFreedom 23 = .ok (.aload_n 0, 1) := by decide +kernel
theorem dX7_monthsToFreedom_24 : decode cX7_monthsToFreedom 24 = .ok (.getfield 20, 3) := by decide +kernel
theorem dX7_monthsToFreedom_27 : decode cX7_monthsToFreedom 27 = .ok (.getfield 260, 3) := by decide +kernel
theorem dX7_monthsToFreedom_30 : decode cX7_monthsToFreedom 30 = .ok (.iload_n 2, 1) := by decide +kernel
theorem dX7_monthsToFreedom_31 : decode cX7_monthsToFreedom 31 = .ok (.aaload, 1) := by decide +kernel
theorem dX7_monthsToFreedom_32 : decode cX7_monthsToFreedom 32 = .ok (.iconst 0, 1) := by decide +kernel
theorem dX7_monthsToFreedom_33 : decode cX7_monthsToFreedom 33 = .ok (.invokevirtual 235, 3) := by decide +kernel
theorem dX7_monthsToFreedom_36 : decode cX7_monthsToFreedom 36 = .ok (.invokestatic 275, 3) := by decide +kernel
theorem dX7_monthsToFreedom_39 : decode cX7_monthsToFreedom 39 = .ok (.istore_n 1, 1) := by decide +kernel
theorem dX7_monthsToFreedom_40 : decode cX7_monthsToFreedom 40 = .ok (.iinc 2 1, 3) := by decide +kernel
theorem dX7_monthsToFreedom_43 : decode cX7_monthsToFreedom 43 = .ok (.goto (-39), 3) := by decide +kernel
theorem dX7_monthsToFreedom_46 : decode cX7_monthsToFreedom 46 = .ok (.iload_n 1, 1) := by decide +kernel
theorem dX7_monthsToFreedom_47 : decode cX7_monthsToFreedom 47 = .ok (.ireturn, 1) := by decide +kernel
set_option maxRecDepth 20000 in
theorem ggX7_budgetMonths_X7_requireRange : GoodIn wsX7_budgetMonths wsX7_requireRange := goodIn_ca (goodIn_r _ [7, 8, 9] (by decide +kernel) (by decide +kernel)) (goodIn_sub (fun _ h => List.mem_cons_of_mem _ (List.mem_append_right _ h)) (by decide +kernel))
set_option maxRecDepth 20000 in
theorem gX7_budgetMonths_X7_requireRange : GoodIn wsX7_budgetMonths (va_wsS RX7 90 yX7_requireRange wsX7_requireRange) := goodIn_app (goodIn_of _ (by decide +kernel)) ggX7_budgetMonths_X7_requireRange
set_option maxRecDepth 20000 in
theorem ggX7_budgetMonths_X3_copyFrom : GoodIn wsX7_budgetMonths wsX3_copyFrom := goodIn_r _ [14, 15, 16, 17, 18, 19, 20, 21, 22, 23, 24, 25, 26, 27, 28, 29, 30, 31, 32, 33, 34, 35, 36, 37, 38, 39, 40, 41, 42, 43, 44, 45, 46, 152, 153, 154, 155, 156, 157, 158, 159, 160, 161, 162, 163, 164, 165, 166, 167, 168, 169] (by decide +kernel) (by decide +kernel)
set_option maxRecDepth 20000 in
theorem gX7_budgetMonths_X3_copyFrom : GoodIn wsX7_budgetMonths (wsV RX7 83 RX3 yX3_copyFrom wsX3_copyFrom) := goodIn_app (goodIn_of _ (by decide +kernel)) ggX7_budgetMonths_X3_copyFrom
set_option maxRecDepth 20000 in
theorem ggX7_budgetMonths_X3_settleWithBudget : GoodIn wsX7_budgetMonths wsX3_settleWithBudget := goodIn_r _ [50, 51, 52, 53, 13, 54, 15, 16, 55, 56, 57, 21, 58, 24, 59, 60, 61, 62, 63, 64, 65, 66, 67, 68, 69, 70, 25, 28, 71, 72, 73, 74, 75, 27, 26, 76, 77, 78, 79, 80, 81, 82, 83, 17, 84, 85, 86, 87, 88, 89, 90, 91, 92, 31, 93, 94, 95, 96, 29, 97, 98, 99, 100, 30, 101, 102, 103, 36, 104, 45, 38, 43, 44, 46, 105, 106, 107, 108, 109, 110, 111, 112, 113, 114, 115, 116, 117, 118, 119, 120, 121, 122, 123, 124, 125, 126, 127, 128, 129, 130, 131, 132, 133, 134, 135, 136, 137, 138, 139, 140, 152, 153, 154, 155, 156, 157, 158, 159, 160, 161, 162, 163, 164, 165, 166, 167, 168, 169] (by decide +kernel) (by decide +kernel)
set_option maxRecDepth 20000 in
theorem gX7_budgetMonths_X3_settleWithBudget : GoodIn wsX7_budgetMonths (wsV RX7 280 RX3 yX3_settleWithBudget wsX3_settleWithBudget) := goodIn_app (goodIn_of _ (by decide +kernel)) ggX7_budgetMonths_X3_settleWithBudget
theorem dX7_budgetMonths_0 : decode cX7_budgetMonths 0 = .ok (.iload_n 1, 1) := by decide +kernel
theorem dX7_budgetMonths_1 : decode cX7_budgetMonths 1 = .ok (.iconst 1, 1) := by decide +kernel
theorem dX7_budgetMonths_2 : decode cX7_budgetMonths 2 = .ok (.ldc 103, 2) := by decide +kernel
theorem dX7_budgetMonths_4 : decode cX7_budgetMonths 4 = .ok (.invokestatic 90, 3) := by decide +kernel
theorem dX7_budgetMonths_7 : decode cX7_budgetMonths 7 = .ok (.aload_n 0, 1) := by decide +kernel
theorem dX7_budgetMonths_8 : decode cX7_budgetMonths 8 = .ok (.getfield 45, 3) := by decide +kernel
theorem dX7_budgetMonths_11 : decode cX7_budgetMonths 11 = .ok (.aload_n 0, 1) := by decide +kernel
theorem dX7_budgetMonths_12 : decode cX7_budgetMonths 12 = .ok (.getfield 20, 3) := by decide +kernel
theorem dX7_budgetMonths_15 : decode cX7_budgetMonths 15 = .ok (.invokevirtual 83, 3) := by decide +kernel
theorem dX7_budgetMonths_18 : decode cX7_budgetMonths 18 = .ok (.aload_n 0, 1) := by decide +kernel
theorem dX7_budgetMonths_19 : decode cX7_budgetMonths 19 = .ok (.getfield 45, 3) := by decide +kernel
theorem dX7_budgetMonths_22 : decode cX7_budgetMonths 22 = .ok (.iload_n 1, 1) := by decide +kernel
theorem dX7_budgetMonths_23 : decode cX7_budgetMonths 23 = .ok (.iload_n 2, 1) := by decide +kernel
theorem dX7_budgetMonths_24 : decode cX7_budgetMonths 24 = .ok (.invokevirtual 280, 3) := by decide +kernel
theorem dX7_budgetMonths_27 : decode cX7_budgetMonths 27 = .ok (.ireturn, 1) := by decide +kernel
set_option maxRecDepth 20000 in
theorem ggX7_budgetInterest_X7_requireRange : GoodIn wsX7_budgetInterest wsX7_requireRange := goodIn_ca (goodIn_r _ [7, 8, 9] (by decide +kernel) (by decide +kernel)) (goodIn_sub (fun _ h => List.mem_cons_of_mem _ (List.mem_append_right _ h)) (by decide +kernel))
set_option maxRecDepth 20000 in
theorem gX7_budgetInterest_X7_requireRange : GoodIn wsX7_budgetInterest (va_wsS RX7 90 yX7_requireRange wsX7_requireRange) := goodIn_app (goodIn_of _ (by decide +kernel)) ggX7_budgetInterest_X7_requireRange
set_option maxRecDepth 20000 in
theorem ggX7_budgetInterest_X3_copyFrom : GoodIn wsX7_budgetInterest wsX3_copyFrom := goodIn_r _ [14, 15, 16, 17, 18, 19, 20, 21, 22, 23, 24, 25, 26, 27, 28, 29, 30, 31, 32, 33, 34, 35, 36, 37, 38, 39, 40, 41, 42, 43, 44, 45, 46, 157, 158, 159, 160, 161, 162, 163, 164, 165, 166, 167, 168, 169, 170, 171, 172, 173, 174] (by decide +kernel) (by decide +kernel)
set_option maxRecDepth 20000 in
theorem gX7_budgetInterest_X3_copyFrom : GoodIn wsX7_budgetInterest (wsV RX7 83 RX3 yX3_copyFrom wsX3_copyFrom) := goodIn_app (goodIn_of _ (by decide +kernel)) ggX7_budgetInterest_X3_copyFrom
set_option maxRecDepth 20000 in
theorem ggX7_budgetInterest_X3_settleWithBudget : GoodIn wsX7_budgetInterest wsX3_settleWithBudget := goodIn_r _ [50, 51, 52, 53, 13, 54, 15, 16, 55, 56, 57, 21, 58, 24, 59, 60, 61, 62, 63, 64, 65, 66, 67, 68, 69, 70, 25, 28, 71, 72, 73, 74, 75, 27, 26, 76, 77, 78, 79, 80, 81, 82, 83, 17, 84, 85, 86, 87, 88, 89, 90, 91, 92, 31, 93, 94, 95, 96, 29, 97, 98, 99, 100, 30, 101, 102, 103, 36, 104, 45, 38, 43, 44, 46, 105, 106, 107, 108, 109, 110, 111, 112, 113, 114, 115, 116, 117, 118, 119, 120, 121, 122, 123, 124, 125, 126, 127, 128, 129, 130, 131, 132, 133, 134, 135, 136, 137, 138, 139, 140, 157, 158, 159, 160, 161, 162, 163, 164, 165, 166, 167, 168, 169, 170, 171, 172, 173, 174] (by decide +kernel) (by decide +kernel)
set_option maxRecDepth 20000 in
theorem gX7_budgetInterest_X3_settleWithBudget : GoodIn wsX7_budgetInterest (wsV RX7 280 RX3 yX3_settleWithBudget wsX3_settleWithBudget) := goodIn_app (goodIn_of _ (by decide +kernel)) ggX7_budgetInterest_X3_settleWithBudget
set_option maxRecDepth 20000 in
theorem ggX7_budgetInterest_X3_sumOfInterest : GoodIn wsX7_budgetInterest wsX3_sumOfInterest := goodIn_r _ [144, 15, 16, 145, 157, 158, 159, 160, 161, 162, 163, 164, 165, 166, 167, 168, 169] (by decide +kernel) (by decide +kernel)
set_option maxRecDepth 20000 in
theorem gX7_budgetInterest_X3_sumOfInterest : GoodIn wsX7_budgetInterest (wsV RX7 283 RX3 yX3_sumOfInterest wsX3_sumOfInterest) := goodIn_app (goodIn_of _ (by decide +kernel)) ggX7_budgetInterest_X3_sumOfInterest
theorem dX7_budgetInterest_0 : decode cX7_budgetInterest 0 = .ok (.iload_n 1, 1) := by decide +kernel
theorem dX7_budgetInterest_1 : decode cX7_budgetInterest 1 = .ok (.iconst 1, 1) := by decide +kernel
theorem dX7_budgetInterest_2 : decode cX7_budgetInterest 2 = .ok (.ldc 103, 2) := by decide +kernel
theorem dX7_budgetInterest_4 : decode cX7_budgetInterest 4 = .ok (.invokestatic 90, 3) := by decide +kernel
theorem dX7_budgetInterest_7 : decode cX7_budgetInterest 7 = .ok (.aload_n 0, 1) := by decide +kernel
theorem dX7_budgetInterest_8 : decode cX7_budgetInterest 8 = .ok (.getfield 45, 3) := by decide +kernel
theorem dX7_budgetInterest_11 : decode cX7_budgetInterest 11 = .ok (.aload_n 0, 1) := by decide +kernel
theorem dX7_budgetInterest_12 : decode cX7_budgetInterest 12 = .ok (.getfield 20, 3) := by decide +kernel
theorem dX7_budgetInterest_15 : decode cX7_budgetInterest 15 = .ok (.invokevirtual 83, 3) := by decide +kernel
theorem dX7_budgetInterest_18 : decode cX7_budgetInterest 18 = .ok (.aload_n 0, 1) := by decide +kernel
theorem dX7_budgetInterest_19 : decode cX7_budgetInterest 19 = .ok (.getfield 45, 3) := by decide +kernel
theorem dX7_budgetInterest_22 : decode cX7_budgetInterest 22 = .ok (.iload_n 1, 1) := by decide +kernel
theorem dX7_budgetInterest_23 : decode cX7_budgetInterest 23 = .ok (.iload_n 2, 1) := by decide +kernel
theorem dX7_budgetInterest_24 : decode cX7_budgetInterest 24 = .ok (.invokevirtual 280, 3) := by decide +kernel
theorem dX7_budgetInterest_27 : decode cX7_budgetInterest 27 = .ok (.iconst (-1), 1) := by decide +kernel
theorem dX7_budgetInterest_28 : decode cX7_budgetInterest 28 = .ok (.if_icmp .ne 5, 3) := by decide +kernel
theorem dX7_budgetInterest_31 : decode cX7_budgetInterest 31 = .ok (.iconst (-1), 1) := by decide +kernel
theorem dX7_budgetInterest_32 : decode cX7_budgetInterest 32 = .ok (.ireturn, 1) := by decide +kernel
theorem dX7_budgetInterest_33 : decode cX7_budgetInterest 33 = .ok (.aload_n 0, 1) := by decide +kernel
theorem dX7_budgetInterest_34 : decode cX7_budgetInterest 34 = .ok (.getfield 45, 3) := by decide +kernel
theorem dX7_budgetInterest_37 : decode cX7_budgetInterest 37 = .ok (.invokevirtual 283, 3) := by decide +kernel
theorem dX7_budgetInterest_40 : decode cX7_budgetInterest 40 = .ok (.aload_n 0, 1) := by decide +kernel
theorem dX7_budgetInterest_41 : decode cX7_budgetInterest 41 = .ok (.getfield 20, 3) := by decide +kernel
theorem dX7_budgetInterest_44 : decode cX7_budgetInterest 44 = .ok (.invokevirtual 283, 3) := by decide +kernel
theorem dX7_budgetInterest_47 : decode cX7_budgetInterest 47 = .ok (.isub, 1) := by decide +kernel
theorem dX7_budgetInterest_48 : decode cX7_budgetInterest 48 = .ok (.ireturn, 1) := by decide +kernel
set_option maxRecDepth 20000 in
theorem ggX7_averageRate_X3_sumOfBalances : GoodIn wsX7_averageRate wsX3_sumOfBalances := goodIn_r _ [10, 11, 12, 13, 25, 26, 27, 28, 29, 30, 31, 32, 33, 34, 35, 36, 37] (by decide +kernel) (by decide +kernel)
set_option maxRecDepth 20000 in
theorem gX7_averageRate_X3_sumOfBalances : GoodIn wsX7_averageRate (wsV RX7 272 RX3 yX3_sumOfBalances wsX3_sumOfBalances) := goodIn_app (goodIn_of _ (by decide +kernel)) ggX7_averageRate_X3_sumOfBalances
theorem dX7_averageRate_0 : decode cX7_averageRate 0 = .ok (.lconst 0, 1) := by decide +kernel
theorem dX7_averageRate_1 : decode cX7_averageRate 1 = .ok (.lstore_n 1, 1) := by decide +kernel
theorem dX7_averageRate_2 : decode cX7_averageRate 2 = .ok (.iconst 0, 1) := by decide +kernel
theorem dX7_averageRate_3 : decode cX7_averageRate 3 = .ok (.istore_n 3, 1) := by decide +kernel
theorem dX7_averageRate_4 : decode cX7_averageRate 4 = .ok (.iload_n 3, 1) := by decide +kernel
theorem dX7_averageRate_5 : decode cX7_averageRate 5 = .ok (.aload_n 0, 1) := by decide +kernel
theorem dX7_averageRate_6 : decode cX7_averageRate 6 = .ok (.getfield 20, 3) := by decide +kernel
theorem dX7_averageRate_9 : decode cX7_averageRate 9 = .ok (.getfield 100, 3) := by decide +kernel
theorem dX7_averageRate_12 : decode cX7_averageRate 12 = .ok (.if_icmp .ge 45, 3) := by decide +kernel
theorem dX7_averageRate_15 : decode cX7_averageRate 15 = .ok (.iload_n 3, 1) := by decide +kernel
theorem dX7_averageRate_16 : decode cX7_averageRate 16 = .ok (.bipush 6, 2) := by decide +kernel
theorem dX7_averageRate_18 : decode cX7_averageRate 18 = .ok (.if_icmp .ge 39, 3) := by decide +kernel
theorem dX7_averageRate_21 : decode cX7_averageRate 21 = .ok (.lload_n 1, 1) := by decide +kernel
theorem dX7_averageRate_22 : decode cX7_averageRate 22 = .ok (.aload_n 0, 1) := by decide +kernel
theorem dX7_averageRate_23 : decode cX7_averageRate 23 = .ok (.getfield 20, 3) := by decide +kernel
theorem dX7_averageRate_26 : decode cX7_averageRate 26 = .ok (.getfield 260, 3) := by decide +kernel
theorem dX7_averageRate_29 : decode cX7_averageRate 29 = .ok (.iload_n 3, 1) := by decide +kernel
theorem dX7_averageRate_30 : decode cX7_averageRate 30 = .ok (.aaload, 1) := by decide +kernel
theorem dX7_averageRate_31 : decode cX7_averageRate 31 = .ok (.getfield 137, 3) := by decide +kernel
theorem dX7_averageRate_34 : decode cX7_averageRate 34 = .ok (.i2l, 1) := by decide +kernel
theorem dX7_averageRate_35 : decode cX7_averageRate 35 = .ok (.aload_n 0, 1) := by decide +kernel
theorem dX7_averageRate_36 : decode cX7_averageRate 36 = .ok (.getfield 20, 3) := by decide +kernel
theorem dX7_averageRate_39 : decode cX7_averageRate 39 = .ok (.getfield 260, 3) := by decide +kernel
theorem dX7_averageRate_42 : decode cX7_averageRate 42 = .ok (.iload_n 3, 1) := by decide +kernel
theorem dX7_averageRate_43 : decode cX7_averageRate 43 = .ok (.aaload, 1) := by decide +kernel
theorem dX7_averageRate_44 : decode cX7_averageRate 44 = .ok (.getfield 156, 3) := by decide +kernel
theorem dX7_averageRate_47 : decode cX7_averageRate 47 = .ok (.i2l, 1) := by decide +kernel
theorem dX7_averageRate_48 : decode cX7_averageRate 48 = .ok (.lmul, 1) := by decide +kernel
theorem dX7_averageRate_49 : decode cX7_averageRate 49 = .ok (.ladd, 1) := by decide +kernel
theorem dX7_averageRate_50 : decode cX7_averageRate 50 = .ok (.lstore_n 1, 1) := by decide +kernel
theorem dX7_averageRate_51 : decode cX7_averageRate 51 = .ok (.iinc 3 1, 3) := by decide +kernel
theorem dX7_averageRate_54 : decode cX7_averageRate 54 = .ok (.goto (-50), 3) := by decide +kernel
theorem dX7_averageRate_57 : decode cX7_averageRate 57 = .ok (.aload_n 0, 1) := by decide +kernel
theorem dX7_averageRate_58 : decode cX7_averageRate 58 = .ok (.getfield 20, 3) := by decide +kernel
theorem dX7_averageRate_61 : decode cX7_averageRate 61 = .ok (.invokevirtual 272, 3) := by decide +kernel
theorem dX7_averageRate_64 : decode cX7_averageRate 64 = .ok (.istore_n 3, 1) := by decide +kernel
theorem dX7_averageRate_65 : decode cX7_averageRate 65 = .ok (.iload_n 3, 1) := by decide +kernel
theorem dX7_averageRate_66 : decode cX7_averageRate 66 = .ok (.ifCond .ne 7, 3) := by decide +kernel
theorem dX7_averageRate_69 : decode cX7_averageRate 69 = .ok (.dconst 0, 1) := by decide +kernel
theorem dX7_averageRate_70 : decode cX7_averageRate 70 = .ok (.goto 8, 3) := by decide +kernel
theorem dX7_averageRate_73 : decode cX7_averageRate 73 = .ok (.lload_n 1, 1) := by decide +kernel
theorem dX7_averageRate_74 : decode cX7_averageRate 74 = .ok (.l2d, 1) := by decide +kernel
theorem dX7_averageRate_75 : decode cX7_averageRate 75 = .ok (.iload_n 3, 1) := by decide +kernel
theorem dX7_averageRate_76 : decode cX7_averageRate 76 = .ok (.i2d, 1) := by decide +kernel
theorem dX7_averageRate_77 : decode cX7_averageRate 77 = .ok (.ddiv, 1) := by decide +kernel
theorem dX7_averageRate_78 : decode cX7_averageRate 78 = .ok (.dreturn, 1) := by decide +kernel
set_option maxRecDepth 20000 in
theorem ggX7_closedShare_X3_countRunning : GoodIn wsX7_closedShare wsX3_countRunning := goodIn_r _ [7, 8, 9, 10, 11, 12, 13, 14, 15, 27, 28, 29, 30, 31, 32, 33, 34, 35, 36, 37, 38, 39] (by decide +kernel) (by decide +kernel)
set_option maxRecDepth 20000 in
theorem gX7_closedShare_X3_countRunning : GoodIn wsX7_closedShare (wsV RX7 179 RX3 yX3_countRunning wsX3_countRunning) := goodIn_app (goodIn_of _ (by decide +kernel)) ggX7_closedShare_X3_countRunning
theorem dX7_closedShare_0 : decode cX7_closedShare 0 = .ok (.aload_n 0, 1) := by decide +kernel
theorem dX7_closedShare_1 : decode cX7_closedShare 1 = .ok (.getfield 20, 3) := by decide +kernel
theorem dX7_closedShare_4 : decode cX7_closedShare 4 = .ok (.getfield 100, 3) := by decide +kernel
theorem dX7_closedShare_7 : decode cX7_closedShare 7 = .ok (.ifCond .ne 5, 3) := by decide +kernel
theorem dX7_closedShare_10 : decode cX7_closedShare 10 = .ok (.fconst 0, 1) := by decide +kernel
theorem dX7_closedShare_11 : decode cX7_closedShare 11 = .ok (.freturn, 1) := by decide +kernel
theorem dX7_closedShare_12 : decode cX7_closedShare 12 = .ok (.aload_n 0, 1) := by decide +kernel
theorem dX7_closedShare_13 : decode cX7_closedShare 13 = .ok (.getfield 20, 3) := by decide +kernel
theorem dX7_closedShare_16 : decode cX7_closedShare 16 = .ok (.getfield 100, 3) := by decide +kernel
theorem dX7_closedShare_19 : decode cX7_closedShare 19 = .ok (.aload_n 0, 1) := by decide +kernel
theorem dX7_closedShare_20 : decode cX7_closedShare 20 = .ok (.getfield 20, 3) := by decide +kernel
theorem dX7_closedShare_23 : decode cX7_closedShare 23 = .ok (.invokevirtual 179, 3) := by decide +kernel
theorem dX7_closedShare_26 : decode cX7_closedShare 26 = .ok (.isub, 1) := by decide +kernel
theorem dX7_closedShare_27 : decode cX7_closedShare 27 = .ok (.i2f, 1) := by decide +kernel
theorem dX7_closedShare_28 : decode cX7_closedShare 28 = .ok (.aload_n 0, 1) := by decide +kernel
theorem dX7_closedShare_29 : decode cX7_closedShare 29 = .ok (.getfield 20, 3) := by decide +kernel
theorem dX7_closedShare_32 : decode cX7_closedShare 32 = .ok (.getfield 100, 3) := by decide +kernel
theorem dX7_closedShare_35 : decode cX7_closedShare 35 = .ok (.i2f, 1) := by decide +kernel
theorem dX7_closedShare_36 : decode cX7_closedShare 36 = .ok (.fdiv, 1) := by decide +kernel
theorem dX7_closedShare_37 : decode cX7_closedShare 37 = .ok (.freturn, 1) := by decide +kernel
set_option maxRecDepth 20000 in
theorem ggX7_violations_X2_isRunning : GoodIn wsX7_violations wsX2_isRunning := goodIn_r _ [15, 16, 71, 72, 73, 74, 75, 76, 77, 78, 79, 80] (by decide +kernel) (by decide +kernel)
set_option maxRecDepth 20000 in
theorem gX7_violations_X2_isRunning : GoodIn wsX7_violations (wsV RX7 119 RX2 yX2_isRunning wsX2_isRunning) := goodIn_app (goodIn_of _ (by decide +kernel)) ggX7_violations_X2_isRunning
set_option maxRecDepth 20000 in
theorem ggX7_violations_X7_lastPayment : GoodIn wsX7_violations wsX7_lastPayment := goodIn_r _ [21, 22, 23, 24, 25, 14, 26, 27, 16, 28, 29, 30, 31, 32, 33, 34, 35, 36, 37, 38, 39, 40, 41, 42, 43, 44, 45, 46, 47, 48, 49, 50, 51, 52, 53, 54, 55, 56, 57, 58, 59, 60, 61, 62, 63, 64, 65, 66, 67, 71, 72, 73, 74, 75, 76, 77, 78, 79, 80] (by decide +kernel) (by decide +kernel)
set_option maxRecDepth 20000 in
theorem gX7_violations_X7_lastPayment : GoodIn wsX7_violations (wsV RX7 243 RX7 yX7_lastPayment wsX7_lastPayment) := goodIn_app (goodIn_of _ (by decide +kernel)) ggX7_violations_X7_lastPayment
theorem dX7_violations_0 : decode cX7_violations 0 = .ok (.iconst 0, 1) := by decide +kernel
theorem dX7_violations_1 : decode cX7_violations 1 = .ok (.istore_n 1, 1) := by decide +kernel
theorem dX7_violations_2 : decode cX7_violations 2 = .ok (.iconst 0, 1) := by decide +kernel
theorem dX7_violations_3 : decode cX7_violations 3 = .ok (.istore_n 2, 1) := by decide +kernel
theorem dX7_violations_4 : decode cX7_violations 4 = .ok (.iload_n 2, 1) := by decide +kernel
theorem dX7_violations_5 : decode cX7_violations 5 = .ok (.aload_n 0, 1) := by decide +kernel
theorem dX7_violations_6 : decode cX7_violations 6 = .ok (.getfield 20, 3) := by decide +kernel
theorem dX7_violations_9 : decode cX7_violations 9 = .ok (.getfield 100, 3) := by decide +kernel
theorem dX7_violations_12 : decode cX7_violations 12 = .ok (.if_icmp .ge 91, 3) := by decide +kernel
theorem dX7_violations_15 : decode cX7_violations 15 = .ok (.iload_n 2, 1) := by decide +kernel
theorem dX7_violations_16 : decode cX7_violations 16 = .ok (.bipush 6, 2) := by decide +kernel
theorem dX7_violations_18 : decode cX7_violations 18 = .ok (.if_icmp .ge 85, 3) := by decide +kernel
theorem dX7_violations_21 : decode cX7_violations 21 = .ok (.aload_n 0, 1) := by decide +kernel
theorem dX7_violations_22 : decode cX7_violations 22 = .ok (.getfield 20, 3) := by decide +kernel
theorem dX7_violations_25 : decode cX7_violations 25 = .ok (.getfield 260, 3) := by decide +kernel
theorem dX7_violations_28 : decode cX7_violations 28 = .ok (.iload_n 2, 1) := by decide +kernel
theorem dX7_violations_29 : decode cX7_violations 29 = .ok (.aaload, 1) := by decide +kernel
theorem dX7_violations_30 : decode cX7_violations 30 = .ok (.astore_n 3, 1) := by decide +kernel
theorem dX7_violations_31 : decode cX7_violations 31 = .ok (.aload_n 3, 1) := by decide +kernel
theorem dX7_violations_32 : decode cX7_violations 32 = .ok (.getfield 182, 3) := by decide +kernel
theorem dX7_violations_35 : decode cX7_violations 35 = .ok (.aload_n 3, 1) := by decide +kernel
theorem dX7_violations_36 : decode cX7_violations 36 = .ok (.getfield 197, 3) := by decide +kernel
theorem dX7_violations_39 : decode cX7_violations 39 = .ok (.iadd, 1) := by decide +kernel
theorem dX7_violations_40 : decode cX7_violations 40 = .ok (.aload_n 3, 1) := by decide +kernel
theorem dX7_violations_41 : decode cX7_violations 41 = .ok (.getfield 200, 3) := by decide +kernel
theorem dX7_violations_44 : decode cX7_violations 44 = .ok (.isub, 1) := by decide +kernel
theorem dX7_violations_45 : decode cX7_violations 45 = .ok (.aload_n 3, 1) := by decide +kernel
theorem dX7_violations_46 : decode cX7_violations 46 = .ok (.getfield 137, 3) := by decide +kernel
theorem dX7_violations_49 : decode cX7_violations 49 = .ok (.if_icmp .eq 6, 3) := by decide +kernel
theorem dX7_violations_52 : decode cX7_violations 52 = .ok (.iinc 1 1, 3) := by decide +kernel
theorem dX7_violations_55 : decode cX7_violations 55 = .ok (.aload_n 3, 1) := by decide +kernel
theorem dX7_violations_56 : decode cX7_violations 56 = .ok (.getfield 188, 3) := by decide +kernel
theorem dX7_violations_59 : decode cX7_violations 59 = .ok (.ifCond .lt 13, 3) := by decide +kernel
theorem dX7_violations_62 : decode cX7_violations 62 = .ok (.aload_n 3, 1) := by decide +kernel
theorem dX7_violations_63 : decode cX7_violations 63 = .ok (.getfield 188, 3) := by decide +kernel
theorem dX7_violations_66 : decode cX7_violations 66 = .ok (.ldc_w 286, 3) := by decide +kernel
theorem dX7_violations_69 : decode cX7_violations 69 = .ok (.if_icmp .lt 6, 3) := by decide +kernel
theorem dX7_violations_72 : decode cX7_violations 72 = .ok (.iinc 1 1, 3) := by decide +kernel
theorem dX7_violations_75 : decode cX7_violations 75 = .ok (.aload_n 3, 1) := by decide +kernel
theorem dX7_violations_76 : decode cX7_violations 76 = .ok (.invokevirtual 119, 3) := by decide +kernel
theorem dX7_violations_79 : decode cX7_violations 79 = .ok (.ifCond .eq 18, 3) := by decide +kernel
theorem dX7_violations_82 : decode cX7_violations 82 = .ok (.aload_n 0, 1) := by decide +kernel
theorem dX7_violations_83 : decode cX7_violations 83 = .ok (.aload_n 3, 1) := by decide +kernel
theorem dX7_violations_84 : decode cX7_violations 84 = .ok (.invokevirtual 243, 3) := by decide +kernel
theorem dX7_violations_87 : decode cX7_violations 87 = .ok (.aload_n 3, 1) := by decide +kernel
theorem dX7_violations_88 : decode cX7_violations 88 = .ok (.getfield 185, 3) := by decide +kernel
theorem dX7_violations_91 : decode cX7_violations 91 = .ok (.if_icmp .le 6, 3) := by decide +kernel
theorem dX7_violations_94 : decode cX7_violations 94 = .ok (.iinc 1 1, 3) := by decide +kernel
theorem dX7_violations_97 : decode cX7_violations 97 = .ok (.iinc 2 1, 3) := by decide +kernel
theorem dX7_violations_100 : decode cX7_violations 100 = .ok (.goto (-96), 3) := by decide +kernel
theorem dX7_violations_103 : decode cX7_violations 103 = .ok (.iload_n 1, 1) := by decide +kernel
theorem dX7_violations_104 : decode cX7_violations 104 = .ok (.ireturn, 1) := by decide +kernel
set_option maxRecDepth 20000 in
theorem ggX7_writeSchedule_X7_loanAt : GoodIn wsX7_writeSchedule wsX7_loanAt := goodIn_ca (goodIn_r _ [8, 9, 10, 11, 12, 13, 70, 71, 72, 73, 74, 75, 76, 77, 78, 79, 80, 83, 84, 85] (by decide +kernel) (by decide +kernel)) (goodIn_sub (fun _ h => List.mem_cons_of_mem _ (List.mem_append_right _ h)) (by decide +kernel))
set_option maxRecDepth 20000 in
theorem gX7_writeSchedule_X7_loanAt : GoodIn wsX7_writeSchedule (wsV RX7 115 RX7 yX7_loanAt wsX7_loanAt) := goodIn_app (goodIn_of _ (by decide +kernel)) ggX7_writeSchedule_X7_loanAt
set_option maxRecDepth 20000 in
theorem ggX7_writeSchedule_X2_copyFrom : GoodIn wsX7_writeSchedule wsX2_copyFrom := goodIn_r _ [18, 19, 20, 21, 22, 23, 24, 25, 26, 27, 28, 86, 87, 88, 89, 90, 91, 92, 93, 94, 95] (by decide +kernel) (by decide +kernel)
set_option maxRecDepth 20000 in
theorem gX7_writeSchedule_X2_copyFrom : GoodIn wsX7_writeSchedule (wsV RX7 229 RX2 yX2_copyFrom wsX2_copyFrom) := goodIn_app (goodIn_of _ (by decide +kernel)) ggX7_writeSchedule_X2_copyFrom
set_option maxRecDepth 20000 in
theorem ggX7_writeSchedule_X2_isRunning : GoodIn wsX7_writeSchedule wsX2_isRunning := goodIn_r _ [32, 20, 86, 87, 88, 89, 90, 91, 92, 93, 94, 95] (by decide +kernel) (by decide +kernel)
set_option maxRecDepth 20000 in
theorem gX7_writeSchedule_X2_isRunning : GoodIn wsX7_writeSchedule (wsV RX7 119 RX2 yX2_isRunning wsX2_isRunning) := goodIn_app (goodIn_of _ (by decide +kernel)) ggX7_writeSchedule_X2_isRunning
set_option maxRecDepth 20000 in
theorem ggX7_writeSchedule_X4_put : GoodIn wsX7_writeSchedule wsX4_put := goodIn_r _ [37, 38, 39, 81, 82] (by decide +kernel) (by decide +kernel)
set_option maxRecDepth 20000 in
theorem gX7_writeSchedule_X4_put : GoodIn wsX7_writeSchedule (wsV RX7 290 RX4 yX4_put wsX4_put) := goodIn_app (goodIn_of _ (by decide +kernel)) ggX7_writeSchedule_X4_put
set_option maxRecDepth 20000 in
theorem ggX7_writeSchedule_X2_nextInterest : GoodIn wsX7_writeSchedule wsX2_nextInterest := goodIn_r _ [43, 20, 21, 24, 44, 86, 87, 88, 89, 90, 91, 92, 93, 94, 95] (by decide +kernel) (by decide +kernel)
set_option maxRecDepth 20000 in
theorem gX7_writeSchedule_X2_nextInterest : GoodIn wsX7_writeSchedule (wsV RX7 191 RX2 yX2_nextInterest wsX2_nextInterest) := goodIn_app (goodIn_of _ (by decide +kernel)) ggX7_writeSchedule_X2_nextInterest
set_option maxRecDepth 20000 in
theorem ggX7_writeSchedule_X2_settleMonth : GoodIn wsX7_writeSchedule wsX2_settleMonth := goodIn_r _ [48, 20, 22, 27, 49, 50, 51, 17, 52, 21, 24, 44, 25, 53, 54, 55, 56, 23, 57, 58, 59, 60, 26, 86, 87, 88, 89, 90, 91, 92, 93, 94, 95] (by decide +kernel) (by decide +kernel)
set_option maxRecDepth 20000 in
theorem gX7_writeSchedule_X2_settleMonth : GoodIn wsX7_writeSchedule (wsV RX7 294 RX2 yX2_settleMonth wsX2_settleMonth) := goodIn_app (goodIn_of _ (by decide +kernel)) ggX7_writeSchedule_X2_settleMonth
set_option maxRecDepth 20000 in
theorem ggX7_writeSchedule_X4_putPayment : GoodIn wsX7_writeSchedule wsX4_putPayment := goodIn_r _ [64, 65, 66, 67, 36, 68, 69, 34, 35, 37, 38, 39, 81, 82] (by decide +kernel) (by decide +kernel)
set_option maxRecDepth 20000 in
theorem gX7_writeSchedule_X4_putPayment : GoodIn wsX7_writeSchedule (wsV RX7 297 RX4 yX4_putPayment wsX4_putPayment) := goodIn_app (goodIn_of _ (by decide +kernel)) ggX7_writeSchedule_X4_putPayment
theorem dX7_writeSchedule_0 : decode cX7_writeSchedule 0 = .ok (.aload_n 0, 1) := by decide +kernel
theorem dX7_writeSchedule_1 : decode cX7_writeSchedule 1 = .ok (.getfield 55, 3) := by decide +kernel
theorem dX7_writeSchedule_4 : decode cX7_writeSchedule 4 = .ok (.aload_n 0, 1) := by decide +kernel
theorem dX7_writeSchedule_5 : decode cX7_writeSchedule 5 = .ok (.iload_n 1, 1) := by decide +kernel
theorem dX7_writeSchedule_6 : decode cX7_writeSchedule 6 = .ok (.invokevirtual 115, 3) := by decide +kernel
theorem dX7_writeSchedule_9 : decode cX7_writeSchedule 9 = .ok (.invokevirtual 229, 3) := by decide +kernel
theorem dX7_writeSchedule_12 : decode cX7_writeSchedule 12 = .ok (.aload_n 0, 1) := by decide +kernel
theorem dX7_writeSchedule_13 : decode cX7_writeSchedule 13 = .ok (.getfield 41, 3) := by decide +kernel
theorem dX7_writeSchedule_16 : decode cX7_writeSchedule 16 = .ok (.iconst 0, 1) := by decide +kernel
theorem dX7_writeSchedule_17 : decode cX7_writeSchedule 17 = .ok (.putfield 287, 3) := by decide +kernel
theorem dX7_writeSchedule_20 : decode cX7_writeSchedule 20 = .ok (.aload_n 0, 1) := by decide +kernel
theorem dX7_writeSchedule_21 : decode cX7_writeSchedule 21 = .ok (.getfield 55, 3) := by decide +kernel
theorem dX7_writeSchedule_24 : decode cX7_writeSchedule 24 = .ok (.invokevirtual 119, 3) := by decide +kernel
theorem dX7_writeSchedule_27 : decode cX7_writeSchedule 27 = .ok (.ifCond .ne 12, 3) := by decide +kernel
theorem dX7_writeSchedule_30 : decode cX7_writeSchedule 30 = .ok (.aload_n 0, 1) := by decide +kernel
theorem dX7_writeSchedule_31 : decode cX7_writeSchedule 31 = .ok (.getfield 41, 3) := by decide +kernel
theorem dX7_writeSchedule_34 : decode cX7_writeSchedule 34 = .ok (.bipush 45, 2) := by decide +kernel
theorem dX7_writeSchedule_36 : decode cX7_writeSchedule 36 = .ok (.invokevirtual 290, 3) := by decide +kernel
theorem dX7_writeSchedule_39 : decode cX7_writeSchedule 39 = .ok (.iconst 0, 1) := by decide +kernel
theorem dX7_writeSchedule_40 : decode cX7_writeSchedule 40 = .ok (.istore_n 2, 1) := by decide +kernel
theorem dX7_writeSchedule_41 : decode cX7_writeSchedule 41 = .ok (.iload_n 2, 1) := by decide +kernel
theorem dX7_writeSchedule_42 : decode cX7_writeSchedule 42 = .ok (.bipush 12, 2) := by decide +kernel
theorem dX7_writeSchedule_44 : decode cX7_writeSchedule 44 = .ok (.if_icmp .ge 74, 3) := by decide +kernel
theorem dX7_writeSchedule_47 : decode cX7_writeSchedule 47 = .ok (.aload_n 0, 1) := by decide +kernel
theorem dX7_writeSchedule_48 : decode cX7_writeSchedule 48 = .ok (.getfield 55, 3) := by decide +kernel
theorem dX7_writeSchedule_51 : decode cX7_writeSchedule 51 = .ok (.invokevirtual 119, 3) := by decide +kernel
theorem dX7_writeSchedule_54 : decode cX7_writeSchedule 54 = .ok (.ifCond .eq 64, 3) := by decide +kernel
theorem dX7_writeSchedule_57 : decode cX7_writeSchedule 57 = .ok (.iload_n 2, 1) := by decide +kernel
theorem dX7_writeSchedule_58 : decode cX7_writeSchedule 58 = .ok (.ifCond .le 12, 3) := by decide +kernel
theorem dX7_writeSchedule_61 : decode cX7_writeSchedule 61 = .ok (.aload_n 0, 1) := by decide +kernel
theorem dX7_writeSchedule_62 : decode cX7_writeSchedule 62 = .ok (.getfield 41, 3) := by decide +kernel
theorem dX7_writeSchedule_65 : decode cX7_writeSchedule 65 = .ok (.bipush 32, 2) := by decide +kernel
theorem dX7_writeSchedule_67 : decode cX7_writeSchedule 67 = .ok (.invokevirtual 290, 3) := by decide +kernel
theorem dX7_writeSchedule_70 : decode cX7_writeSchedule 70 = .ok (.aload_n 0, 1) := by decide +kernel
theorem dX7_writeSchedule_71 : decode cX7_writeSchedule 71 = .ok (.getfield 55, 3) := by decide +kernel
theorem dX7_writeSchedule_74 : decode cX7_writeSchedule 74 = .ok (.invokevirtual 191, 3) := by decide +kernel
theorem dX7_writeSchedule_77 : decode cX7_writeSchedule 77 = .ok (.istore_n 3, 1) := by decide +kernel
theorem dX7_writeSchedule_78 : decode cX7_writeSchedule 78 = .ok (.aload_n 0, 1) := by decide +kernel
theorem dX7_writeSchedule_79 : decode cX7_writeSchedule 79 = .ok (.getfield 55, 3) := by decide +kernel
theorem dX7_writeSchedule_82 : decode cX7_writeSchedule 82 = .ok (.invokevirtual 294, 3) := by decide +kernel
theorem dX7_writeSchedule_85 : decode cX7_writeSchedule 85 = .ok (.istore 4, 2) := by decide +kernel
theorem dX7_writeSchedule_87 : decode cX7_writeSchedule 87 = .ok (.aload_n 0, 1) := by decide +kernel
theorem dX7_writeSchedule_88 : decode cX7_writeSchedule 88 = .ok (.getfield 41, 3) := by decide +kernel
theorem dX7_writeSchedule_91 : decode cX7_writeSchedule 91 = .ok (.iload 4, 2) := by decide +kernel
theorem dX7_writeSchedule_93 : decode cX7_writeSchedule 93 = .ok (.iload_n 3, 1) := by decide +kernel
theorem dX7_writeSchedule_94 : decode cX7_writeSchedule 94 = .ok (.aload_n 0, 1) := by decide +kernel
theorem dX7_writeSchedule_95 : decode cX7_writeSchedule 95 = .ok (.getfield 55, 3) := by decide +kernel
theorem dX7_writeSchedule_98 : decode cX7_writeSchedule 98 = .ok (.invokevirtual 119, 3) := by decide +kernel
theorem dX7_writeSchedule_101 : decode cX7_writeSchedule 101 = .ok (.ifCond .ne 7, 3) := by decide +kernel
theorem dX7_writeSchedule_104 : decode cX7_writeSchedule 104 = .ok (.iconst 1, 1) := by decide +kernel
theorem dX7_writeSchedule_105 : decode cX7_writeSchedule 105 = .ok (.goto 4, 3) := by decide +kernel
theorem dX7_writeSchedule_108 : decode cX7_writeSchedule 108 = .ok (.iconst 0, 1) := by decide +kernel
theorem dX7_writeSchedule_109 : decode cX7_writeSchedule 109 = .ok (.invokevirtual 297, 3) := by decide +kernel
theorem dX7_writeSchedule_112 : decode cX7_writeSchedule 112 = .ok (.iinc 2 1, 3) := by decide +kernel
theorem dX7_writeSchedule_115 : decode cX7_writeSchedule 115 = .ok (.goto (-74), 3) := by decide +kernel
theorem dX7_writeSchedule_118 : decode cX7_writeSchedule 118 = .ok (.aload_n 0, 1) := by decide +kernel
theorem dX7_writeSchedule_119 : decode cX7_writeSchedule 119 = .ok (.getfield 41, 3) := by decide +kernel
theorem dX7_writeSchedule_122 : decode cX7_writeSchedule 122 = .ok (.getfield 287, 3) := by decide +kernel
theorem dX7_writeSchedule_125 : decode cX7_writeSchedule 125 = .ok (.ireturn, 1) := by decide +kernel
theorem dX7_reportByte_0 : decode cX7_reportByte 0 = .ok (.iload_n 1, 1) := by decide +kernel
theorem dX7_reportByte_1 : decode cX7_reportByte 1 = .ok (.ifCond .lt 21, 3) := by decide +kernel
theorem dX7_reportByte_4 : decode cX7_reportByte 4 = .ok (.iload_n 1, 1) := by decide +kernel
theorem dX7_reportByte_5 : decode cX7_reportByte 5 = .ok (.aload_n 0, 1) := by decide +kernel
theorem dX7_reportByte_6 : decode cX7_reportByte 6 = .ok (.getfield 41, 3) := by decide +kernel
theorem dX7_reportByte_9 : decode cX7_reportByte 9 = .ok (.getfield 287, 3) := by decide +kernel
theorem dX7_reportByte_12 : decode cX7_reportByte 12 = .ok (.if_icmp .ge 10, 3) := by decide +kernel
theorem dX7_reportByte_15 : decode cX7_reportByte 15 = .ok (.iload_n 1, 1) := by decide +kernel
theorem dX7_reportByte_16 : decode cX7_reportByte 16 = .ok (.sipush 256, 3) := by decide +kernel
theorem dX7_reportByte_19 : decode cX7_reportByte 19 = .ok (.if_icmp .lt 5, 3) := by decide +kernel
theorem dX7_reportByte_22 : decode cX7_reportByte 22 = .ok (.iconst (-1), 1) := by decide +kernel
theorem dX7_reportByte_23 : decode cX7_reportByte 23 = .ok (.ireturn, 1) := by decide +kernel
theorem dX7_reportByte_24 : decode cX7_reportByte 24 = .ok (.aload_n 0, 1) := by decide +kernel
theorem dX7_reportByte_25 : decode cX7_reportByte 25 = .ok (.getfield 41, 3) := by decide +kernel
theorem dX7_reportByte_28 : decode cX7_reportByte 28 = .ok (.getfield 300, 3) := by decide +kernel
theorem dX7_reportByte_31 : decode cX7_reportByte 31 = .ok (.iload_n 1, 1) := by decide +kernel
theorem dX7_reportByte_32 : decode cX7_reportByte 32 = .ok (.baload, 1) := by decide +kernel
theorem dX7_reportByte_33 : decode cX7_reportByte 33 = .ok (.ireturn, 1) := by decide +kernel
theorem dX7_loanAt_0 : decode cX7_loanAt 0 = .ok (.iload_n 1, 1) := by decide +kernel
theorem dX7_loanAt_1 : decode cX7_loanAt 1 = .ok (.ifCond .lt 20, 3) := by decide +kernel
theorem dX7_loanAt_4 : decode cX7_loanAt 4 = .ok (.iload_n 1, 1) := by decide +kernel
theorem dX7_loanAt_5 : decode cX7_loanAt 5 = .ok (.aload_n 0, 1) := by decide +kernel
theorem dX7_loanAt_6 : decode cX7_loanAt 6 = .ok (.getfield 20, 3) := by decide +kernel
theorem dX7_loanAt_9 : decode cX7_loanAt 9 = .ok (.getfield 100, 3) := by decide +kernel
theorem dX7_loanAt_12 : decode cX7_loanAt 12 = .ok (.if_icmp .ge 9, 3) := by decide +kernel
theorem dX7_loanAt_15 : decode cX7_loanAt 15 = .ok (.iload_n 1, 1) := by decide +kernel
theorem dX7_loanAt_16 : decode cX7_loanAt 16 = .ok (.bipush 6, 2) := by decide +kernel
theorem dX7_loanAt_18 : decode cX7_loanAt 18 = .ok (.if_icmp .lt 11, 3) := by decide +kernel
theorem dX7_loanAt_21 : decode cX7_loanAt 21 = .ok (.new 303, 3) := by decide +kernel
theorem dX7_loanAt_24 : decode cX7_loanAt 24 = .ok (.dup, 1) := by decide +kernel
theorem dX7_loanAt_25 : decode cX7_loanAt 25 = .ok (.invokespecial 305, 3) := by decide +kernel
theorem dX7_loanAt_28 : decode cX7_loanAt 28 = .ok (.athrow, 1) := by decide +kernel
theorem dX7_loanAt_29 : decode cX7_loanAt 29 = .ok (.aload_n 0, 1) := by decide +kernel
theorem dX7_loanAt_30 : decode cX7_loanAt 30 = .ok (.getfield 20, 3) := by decide +kernel
theorem dX7_loanAt_33 : decode cX7_loanAt 33 = .ok (.getfield 260, 3) := by decide +kernel
theorem dX7_loanAt_36 : decode cX7_loanAt 36 = .ok (.iload_n 1, 1) := by decide +kernel
theorem dX7_loanAt_37 : decode cX7_loanAt 37 = .ok (.aaload, 1) := by decide +kernel
theorem dX7_loanAt_38 : decode cX7_loanAt 38 = .ok (.areturn, 1) := by decide +kernel
theorem dX7_requireRange_0 : decode cX7_requireRange 0 = .ok (.iload_n 0, 1) := by decide +kernel
theorem dX7_requireRange_1 : decode cX7_requireRange 1 = .ok (.iload_n 1, 1) := by decide +kernel
theorem dX7_requireRange_2 : decode cX7_requireRange 2 = .ok (.if_icmp .lt 8, 3) := by decide +kernel
theorem dX7_requireRange_5 : decode cX7_requireRange 5 = .ok (.iload_n 0, 1) := by decide +kernel
theorem dX7_requireRange_6 : decode cX7_requireRange 6 = .ok (.iload_n 2, 1) := by decide +kernel
theorem dX7_requireRange_7 : decode cX7_requireRange 7 = .ok (.if_icmp .le 11, 3) := by decide +kernel
theorem dX7_requireRange_10 : decode cX7_requireRange 10 = .ok (.new 306, 3) := by decide +kernel
theorem dX7_requireRange_13 : decode cX7_requireRange 13 = .ok (.dup, 1) := by decide +kernel
theorem dX7_requireRange_14 : decode cX7_requireRange 14 = .ok (.invokespecial 308, 3) := by decide +kernel
theorem dX7_requireRange_17 : decode cX7_requireRange 17 = .ok (.athrow, 1) := by decide +kernel
theorem dX7_requireRange_18 : decode cX7_requireRange 18 = .ok (.return_, 1) := by decide +kernel
theorem dX7_requireState_0 : decode cX7_requireState 0 = .ok (.iload_n 0, 1) := by decide +kernel
theorem dX7_requireState_1 : decode cX7_requireState 1 = .ok (.ifCond .ne 11, 3) := by decide +kernel
theorem dX7_requireState_4 : decode cX7_requireState 4 = .ok (.new 309, 3) := by decide +kernel
theorem dX7_requireState_7 : decode cX7_requireState 7 = .ok (.dup, 1) := by decide +kernel
theorem dX7_requireState_8 : decode cX7_requireState 8 = .ok (.invokespecial 311, 3) := by decide +kernel
theorem dX7_requireState_11 : decode cX7_requireState 11 = .ok (.athrow, 1) := by decide +kernel
theorem dX7_requireState_12 : decode cX7_requireState 12 = .ok (.return_, 1) := by decide +kernel
set_option maxRecDepth 20000 in
theorem ggX7_paymentsUntil_X2_copyFrom : GoodIn wsX7_paymentsUntil wsX2_copyFrom := goodIn_r _ [7, 8, 9, 10, 11, 12, 13, 14, 15, 16, 17, 46, 47, 48, 49, 50, 51, 52, 53, 54, 55] (by decide +kernel) (by decide +kernel)
set_option maxRecDepth 20000 in
theorem gX7_paymentsUntil_X2_copyFrom : GoodIn wsX7_paymentsUntil (wsV RX7 229 RX2 yX2_copyFrom wsX2_copyFrom) := goodIn_app (goodIn_of _ (by decide +kernel)) ggX7_paymentsUntil_X2_copyFrom
set_option maxRecDepth 20000 in
theorem ggX7_paymentsUntil_X2_settleMonth : GoodIn wsX7_paymentsUntil wsX2_settleMonth := goodIn_r _ [21, 9, 11, 16, 22, 23, 24, 6, 25, 10, 13, 26, 14, 27, 28, 29, 30, 12, 31, 32, 33, 34, 15, 46, 47, 48, 49, 50, 51, 52, 53, 54, 55] (by decide +kernel) (by decide +kernel)
set_option maxRecDepth 20000 in
theorem gX7_paymentsUntil_X2_settleMonth : GoodIn wsX7_paymentsUntil (wsV RX7 294 RX2 yX2_settleMonth wsX2_settleMonth) := goodIn_app (goodIn_of _ (by decide +kernel)) ggX7_paymentsUntil_X2_settleMonth
theorem dX7_paymentsUntil_0 : decode cX7_paymentsUntil 0 = .ok (.aload_n 0, 1) := by decide +kernel
theorem dX7_paymentsUntil_1 : decode cX7_paymentsUntil 1 = .ok (.getfield 55, 3) := by decide +kernel
theorem dX7_paymentsUntil_4 : decode cX7_paymentsUntil 4 = .ok (.aload_n 1, 1) := by decide +kernel
theorem dX7_paymentsUntil_5 : decode cX7_paymentsUntil 5 = .ok (.invokevirtual 229, 3) := by decide +kernel
theorem dX7_paymentsUntil_8 : decode cX7_paymentsUntil 8 = .ok (.iconst 0, 1) := by decide +kernel
theorem dX7_paymentsUntil_9 : decode cX7_paymentsUntil 9 = .ok (.istore_n 3, 1) := by decide +kernel
theorem dX7_paymentsUntil_10 : decode cX7_paymentsUntil 10 = .ok (.iload_n 3, 1) := by decide +kernel
theorem dX7_paymentsUntil_11 : decode cX7_paymentsUntil 11 = .ok (.bipush 120, 2) := by decide +kernel
theorem dX7_paymentsUntil_13 : decode cX7_paymentsUntil 13 = .ok (.if_icmp .ge 28, 3) := by decide +kernel
theorem dX7_paymentsUntil_16 : decode cX7_paymentsUntil 16 = .ok (.aload_n 0, 1) := by decide +kernel
theorem dX7_paymentsUntil_17 : decode cX7_paymentsUntil 17 = .ok (.getfield 55, 3) := by decide +kernel
theorem dX7_paymentsUntil_20 : decode cX7_paymentsUntil 20 = .ok (.getfield 137, 3) := by decide +kernel
theorem dX7_paymentsUntil_23 : decode cX7_paymentsUntil 23 = .ok (.iload_n 2, 1) := by decide +kernel
theorem dX7_paymentsUntil_24 : decode cX7_paymentsUntil 24 = .ok (.if_icmp .le 17, 3) := by decide +kernel
theorem dX7_paymentsUntil_27 : decode cX7_paymentsUntil 27 = .ok (.aload_n 0, 1) := by decide +kernel
theorem dX7_paymentsUntil_28 : decode cX7_paymentsUntil 28 = .ok (.getfield 55, 3) := by decide +kernel
theorem dX7_paymentsUntil_31 : decode cX7_paymentsUntil 31 = .ok (.invokevirtual 294, 3) := by decide +kernel
theorem dX7_paymentsUntil_34 : decode cX7_paymentsUntil 34 = .ok (.pop, 1) := by decide +kernel
theorem dX7_paymentsUntil_35 : decode cX7_paymentsUntil 35 = .ok (.iinc 3 1, 3) := by decide +kernel
theorem dX7_paymentsUntil_38 : decode cX7_paymentsUntil 38 = .ok (.goto (-28), 3) := by decide +kernel
theorem dX7_paymentsUntil_41 : decode cX7_paymentsUntil 41 = .ok (.iload_n 3, 1) := by decide +kernel
theorem dX7_paymentsUntil_42 : decode cX7_paymentsUntil 42 = .ok (.ireturn, 1) := by decide +kernel
set_option maxRecDepth 20000 in
theorem ggX7_interestToCome_X2_copyFrom : GoodIn wsX7_interestToCome wsX2_copyFrom := goodIn_r _ [7, 8, 9, 10, 11, 12, 13, 14, 15, 16, 17, 50, 51, 52, 53, 54, 55, 56, 57, 58, 59] (by decide +kernel) (by decide +kernel)
set_option maxRecDepth 20000 in
theorem gX7_interestToCome_X2_copyFrom : GoodIn wsX7_interestToCome (wsV RX7 229 RX2 yX2_copyFrom wsX2_copyFrom) := goodIn_app (goodIn_of _ (by decide +kernel)) ggX7_interestToCome_X2_copyFrom
set_option maxRecDepth 20000 in
theorem ggX7_interestToCome_X2_settleMonths : GoodIn wsX7_interestToCome wsX2_settleMonths := goodIn_r _ [21, 9, 22, 23, 24, 6, 25, 11, 16, 26, 27, 28, 29, 10, 13, 30, 14, 31, 32, 33, 34, 12, 35, 36, 37, 38, 15, 50, 51, 52, 53, 54, 55, 56, 57, 58, 59] (by decide +kernel) (by decide +kernel)
set_option maxRecDepth 20000 in
theorem gX7_interestToCome_X2_settleMonths : GoodIn wsX7_interestToCome (wsV RX7 232 RX2 yX2_settleMonths wsX2_settleMonths) := goodIn_app (goodIn_of _ (by decide +kernel)) ggX7_interestToCome_X2_settleMonths
theorem dX7_interestToCome_0 : decode cX7_interestToCome 0 = .ok (.aload_n 0, 1) := by decide +kernel
theorem dX7_interestToCome_1 : decode cX7_interestToCome 1 = .ok (.getfield 55, 3) := by decide +kernel
theorem dX7_interestToCome_4 : decode cX7_interestToCome 4 = .ok (.aload_n 1, 1) := by decide +kernel
theorem dX7_interestToCome_5 : decode cX7_interestToCome 5 = .ok (.invokevirtual 229, 3) := by decide +kernel
theorem dX7_interestToCome_8 : decode cX7_interestToCome 8 = .ok (.aload_n 0, 1) := by decide +kernel
theorem dX7_interestToCome_9 : decode cX7_interestToCome 9 = .ok (.getfield 55, 3) := by decide +kernel
theorem dX7_interestToCome_12 : decode cX7_interestToCome 12 = .ok (.bipush 120, 2) := by decide +kernel
theorem dX7_interestToCome_14 : decode cX7_interestToCome 14 = .ok (.invokevirtual 232, 3) := by decide +kernel
theorem dX7_interestToCome_17 : decode cX7_interestToCome 17 = .ok (.pop, 1) := by decide +kernel
theorem dX7_interestToCome_18 : decode cX7_interestToCome 18 = .ok (.aload_n 0, 1) := by decide +kernel
theorem dX7_interestToCome_19 : decode cX7_interestToCome 19 = .ok (.getfield 55, 3) := by decide +kernel
theorem dX7_interestToCome_22 : decode cX7_interestToCome 22 = .ok (.getfield 197, 3) := by decide +kernel
theorem dX7_interestToCome_25 : decode cX7_interestToCome 25 = .ok (.aload_n 1, 1) := by decide +kernel
theorem dX7_interestToCome_26 : decode cX7_interestToCome 26 = .ok (.getfield 197, 3) := by decide +kernel
theorem dX7_interestToCome_29 : decode cX7_interestToCome 29 = .ok (.isub, 1) := by decide +kernel
theorem dX7_interestToCome_30 : decode cX7_interestToCome 30 = .ok (.ireturn, 1) := by decide +kernel
set_option maxRecDepth 20000 in
theorem ggX7_interestWithTerms_X2_copyFrom : GoodIn wsX7_interestWithTerms wsX2_copyFrom := goodIn_r _ [6, 7, 8, 9, 10, 11, 12, 13, 14, 15, 16, 72, 73, 74, 75, 76, 77, 78, 79, 80, 81] (by decide +kernel) (by decide +kernel)
set_option maxRecDepth 20000 in
theorem gX7_interestWithTerms_X2_copyFrom : GoodIn wsX7_interestWithTerms (wsV RX7 229 RX2 yX2_copyFrom wsX2_copyFrom) := goodIn_app (goodIn_of _ (by decide +kernel)) ggX7_interestWithTerms_X2_copyFrom
set_option maxRecDepth 20000 in
theorem ggX7_interestWithTerms_X2_setTerms : GoodIn wsX7_interestWithTerms wsX2_setTerms := goodIn_r _ [20, 9, 10, 11, 21, 22, 23, 5, 24, 8, 25, 26, 27, 28, 12, 29, 30, 31, 32, 33, 72, 73, 74, 75, 76, 77, 78, 79, 80, 81] (by decide +kernel) (by decide +kernel)
set_option maxRecDepth 20000 in
theorem gX7_interestWithTerms_X2_setTerms : GoodIn wsX7_interestWithTerms (wsV RX7 149 RX2 yX2_setTerms wsX2_setTerms) := goodIn_app (goodIn_of _ (by decide +kernel)) ggX7_interestWithTerms_X2_setTerms
set_option maxRecDepth 20000 in
theorem ggX7_interestWithTerms_X7_interestToCome : GoodIn wsX7_interestWithTerms wsX7_interestToCome := goodIn_r _ [38, 39, 40, 2, 3, 4, 5, 6, 7, 8, 9, 10, 11, 12, 13, 14, 15, 16, 41, 42, 43, 44, 45, 46, 47, 48, 49, 50, 51, 52, 29, 53, 54, 55, 56, 57, 58, 59, 60, 61, 62, 63, 64, 65, 66, 67, 68, 69, 70, 71, 72, 73, 74, 75, 76, 77, 78, 79, 80, 81] (by decide +kernel) (by decide +kernel)
set_option maxRecDepth 20000 in
theorem gX7_interestWithTerms_X7_interestToCome : GoodIn wsX7_interestWithTerms (wsV RX7 239 RX7 yX7_interestToCome wsX7_interestToCome) := goodIn_app (goodIn_of _ (by decide +kernel)) ggX7_interestWithTerms_X7_interestToCome
theorem dX7_interestWithTerms_0 : decode cX7_interestWithTerms 0 = .ok (.aload_n 0, 1) := by decide +kernel
theorem dX7_interestWithTerms_1 : decode cX7_interestWithTerms 1 = .ok (.getfield 51, 3) := by decide +kernel
theorem dX7_interestWithTerms_4 : decode cX7_interestWithTerms 4 = .ok (.aload_n 1, 1) := by decide +kernel
theorem dX7_interestWithTerms_5 : decode cX7_interestWithTerms 5 = .ok (.invokevirtual 229, 3) := by decide +kernel
theorem dX7_interestWithTerms_8 : decode cX7_interestWithTerms 8 = .ok (.aload_n 0, 1) := by decide +kernel
theorem dX7_interestWithTerms_9 : decode cX7_interestWithTerms 9 = .ok (.getfield 51, 3) := by decide +kernel
theorem dX7_interestWithTerms_12 : decode cX7_interestWithTerms 12 = .ok (.iload_n 2, 1) := by decide +kernel
theorem dX7_interestWithTerms_13 : decode cX7_interestWithTerms 13 = .ok (.iload_n 3, 1) := by decide +kernel
theorem dX7_interestWithTerms_14 : decode cX7_interestWithTerms 14 = .ok (.invokevirtual 149, 3) := by decide +kernel
theorem dX7_interestWithTerms_17 : decode cX7_interestWithTerms 17 = .ok (.pop, 1) := by decide +kernel
theorem dX7_interestWithTerms_18 : decode cX7_interestWithTerms 18 = .ok (.aload_n 0, 1) := by decide +kernel
theorem dX7_interestWithTerms_19 : decode cX7_interestWithTerms 19 = .ok (.aload_n 0, 1) := by decide +kernel
theorem dX7_interestWithTerms_20 : decode cX7_interestWithTerms 20 = .ok (.getfield 51, 3) := by decide +kernel
theorem dX7_interestWithTerms_23 : decode cX7_interestWithTerms 23 = .ok (.invokevirtual 239, 3) := by decide +kernel
theorem dX7_interestWithTerms_26 : decode cX7_interestWithTerms 26 = .ok (.ireturn, 1) := by decide +kernel
set_option maxRecDepth 20000 in
theorem ggX7_lastPayment_X2_copyFrom : GoodIn wsX7_lastPayment wsX2_copyFrom := goodIn_r _ [6, 7, 8, 9, 10, 11, 12, 13, 14, 15, 16, 49, 50, 51, 52, 53, 54, 55, 56, 57, 58] (by decide +kernel) (by decide +kernel)
set_option maxRecDepth 20000 in
theorem gX7_lastPayment_X2_copyFrom : GoodIn wsX7_lastPayment (wsV RX7 229 RX2 yX2_copyFrom wsX2_copyFrom) := goodIn_app (goodIn_of _ (by decide +kernel)) ggX7_lastPayment_X2_copyFrom
set_option maxRecDepth 20000 in
theorem ggX7_lastPayment_X2_settleMonths : GoodIn wsX7_lastPayment wsX2_settleMonths := goodIn_r _ [20, 8, 21, 22, 23, 5, 24, 10, 15, 25, 26, 27, 28, 9, 12, 29, 13, 30, 31, 32, 33, 11, 34, 35, 36, 37, 14, 49, 50, 51, 52, 53, 54, 55, 56, 57, 58] (by decide +kernel) (by decide +kernel)
set_option maxRecDepth 20000 in
theorem gX7_lastPayment_X2_settleMonths : GoodIn wsX7_lastPayment (wsV RX7 232 RX2 yX2_settleMonths wsX2_settleMonths) := goodIn_app (goodIn_of _ (by decide +kernel)) ggX7_lastPayment_X2_settleMonths
theorem dX7_lastPayment_0 : decode cX7_lastPayment 0 = .ok (.aload_n 0, 1) := by decide +kernel
theorem dX7_lastPayment_1 : decode cX7_lastPayment 1 = .ok (.getfield 55, 3) := by decide +kernel
theorem dX7_lastPayment_4 : decode cX7_lastPayment 4 = .ok (.aload_n 1, 1) := by decide +kernel
theorem dX7_lastPayment_5 : decode cX7_lastPayment 5 = .ok (.invokevirtual 229, 3) := by decide +kernel
theorem dX7_lastPayment_8 : decode cX7_lastPayment 8 = .ok (.aload_n 0, 1) := by decide +kernel
theorem dX7_lastPayment_9 : decode cX7_lastPayment 9 = .ok (.getfield 55, 3) := by decide +kernel
theorem dX7_lastPayment_12 : decode cX7_lastPayment 12 = .ok (.bipush 120, 2) := by decide +kernel
theorem dX7_lastPayment_14 : decode cX7_lastPayment 14 = .ok (.invokevirtual 232, 3) := by decide +kernel
theorem dX7_lastPayment_17 : decode cX7_lastPayment 17 = .ok (.ireturn, 1) := by decide +kernel
set_option maxRecDepth 20000 in
theorem ggX8_init_X8_makeLoan : GoodIn wsX8_init wsX8_makeLoan := goodIn_r _ [21, 5, 22, 23, 24, 20, 25, 26, 27, 28, 29, 30, 31, 32, 33, 34, 35, 36, 37, 38, 39, 40, 41, 42, 43, 44, 45, 46, 47, 48, 49, 50, 51, 52, 53, 54, 55, 56, 57, 58, 59, 60, 61, 62, 63, 64, 65, 106, 107, 108, 109, 110, 111, 112, 113, 114, 115, 116, 117, 118, 119, 120, 121, 122, 123, 124, 125, 126, 127, 128, 129, 130, 131, 132, 133, 134] (by decide +kernel) (by decide +kernel)
set_option maxRecDepth 20000 in
theorem gX8_init_X8_makeLoan : GoodIn wsX8_init (wsV RX8 39 RX8 yX8_makeLoan wsX8_makeLoan) := goodIn_app (goodIn_of _ (by decide +kernel)) ggX8_init_X8_makeLoan
set_option maxRecDepth 20000 in
theorem ggX8_init_X8_payEach : GoodIn wsX8_init wsX8_payEach := goodIn_r _ [69, 5, 70, 71, 72, 20, 73, 30, 31, 32, 33, 74, 75, 76, 77, 38, 48, 49, 52, 78, 79, 80, 81, 40, 41, 42, 43, 44, 45, 46, 47, 50, 51, 53, 54, 55, 56, 57, 22, 23, 24, 25, 82, 83, 84, 85, 86, 87, 88, 89, 90, 91, 92, 93, 106, 107, 108, 109, 110, 111, 112, 113, 114, 115, 116, 117, 118, 119, 120, 121, 122, 123, 124, 125, 126, 127, 128, 129, 130, 131, 132, 133, 134] (by decide +kernel) (by decide +kernel)
set_option maxRecDepth 20000 in
theorem gX8_init_X8_payEach : GoodIn wsX8_init (wsV RX8 44 RX8 yX8_payEach wsX8_payEach) := goodIn_app (goodIn_of _ (by decide +kernel)) ggX8_init_X8_payEach
set_option maxRecDepth 20000 in
theorem ggX8_init_X8_extra : GoodIn wsX8_init wsX8_extra := goodIn_r _ [97, 82, 83, 84, 20, 85, 30, 31, 32, 33, 5, 22, 23, 24, 25, 86, 87, 88, 89, 90, 91, 92, 93, 70, 71, 72, 73, 26, 27, 28, 29, 34, 35, 36, 37, 38, 39, 40, 41, 42, 43, 44, 45, 46, 47, 48, 49, 50, 51, 52, 53, 54, 55, 56, 57, 58, 59, 60, 61, 62, 63, 64, 65, 98, 99, 100, 101, 106, 107, 108, 109, 110, 111, 112, 113, 114, 115, 116, 117, 118, 119, 120, 121, 122, 123, 124, 125, 126, 127, 128, 129, 130, 131, 132, 133, 134] (by decide +kernel) (by decide +kernel)
set_option maxRecDepth 20000 in
theorem gX8_init_X8_extra : GoodIn wsX8_init (wsV RX8 48 RX8 yX8_extra wsX8_extra) := goodIn_app (goodIn_of _ (by decide +kernel)) ggX8_init_X8_extra
set_option maxRecDepth 20000 in
theorem ggX8_init_X8_skip : GoodIn wsX8_init wsX8_skip := goodIn_r _ [105, 52, 49, 78, 79, 80, 20, 81, 40, 41, 42, 43, 30, 31, 32, 33, 5, 44, 45, 46, 47, 48, 50, 51, 38, 53, 54, 55, 56, 57, 22, 23, 24, 25, 82, 83, 84, 85, 26, 27, 28, 29, 34, 35, 36, 37, 39, 58, 59, 60, 61, 62, 63, 64, 65, 106, 107, 108, 109, 110, 111, 112, 113, 114, 115, 116, 117, 118, 119, 120, 121, 122, 123, 124, 125, 126, 127, 128, 129, 130, 131, 132, 133, 134] (by decide +kernel) (by decide +kernel)
set_option maxRecDepth 20000 in
theorem gX8_init_X8_skip : GoodIn wsX8_init (wsV RX8 52 RX8 yX8_skip wsX8_skip) := goodIn_app (goodIn_of _ (by decide +kernel)) ggX8_init_X8_skip
theorem dX8_init_0 : decode cX8_init 0 = .ok (.aload_n 0, 1) := by decide +kernel
theorem dX8_init_1 : decode cX8_init 1 = .ok (.invokespecial 3, 3) := by decide +kernel
theorem dX8_init_4 : decode cX8_init 4 = .ok (.aload_n 0, 1) := by decide +kernel
theorem dX8_init_5 : decode cX8_init 5 = .ok (.bipush 122, 2) := by decide +kernel
theorem dX8_init_7 : decode cX8_init 7 = .ok (.newarray .int, 2) := by decide +kernel
theorem dX8_init_9 : decode cX8_init 9 = .ok (.putfield 9, 3) := by decide +kernel
theorem dX8_init_12 : decode cX8_init 12 = .ok (.aload_n 0, 1) := by decide +kernel
theorem dX8_init_13 : decode cX8_init 13 = .ok (.bipush 8, 2) := by decide +kernel
theorem dX8_init_15 : decode cX8_init 15 = .ok (.bipush 122, 2) := by decide +kernel
theorem dX8_init_17 : decode cX8_init 17 = .ok (.multianewarray 13 2, 4) := by decide +kernel
theorem dX8_init_21 : decode cX8_init 21 = .ok (.putfield 15, 3) := by decide +kernel
theorem dX8_init_24 : decode cX8_init 24 = .ok (.aload_n 0, 1) := by decide +kernel
theorem dX8_init_25 : decode cX8_init 25 = .ok (.bipush 122, 2) := by decide +kernel
theorem dX8_init_27 : decode cX8_init 27 = .ok (.newarray .int, 2) := by decide +kernel
theorem dX8_init_29 : decode cX8_init 29 = .ok (.putfield 18, 3) := by decide +kernel
theorem dX8_init_32 : decode cX8_init 32 = .ok (.aload_n 0, 1) := by decide +kernel
theorem dX8_init_33 : decode cX8_init 33 = .ok (.bipush 122, 2) := by decide +kernel
theorem dX8_init_35 : decode cX8_init 35 = .ok (.newarray .int, 2) := by decide +kernel
theorem dX8_init_37 : decode cX8_init 37 = .ok (.putfield 21, 3) := by decide +kernel
theorem dX8_init_40 : decode cX8_init 40 = .ok (.aload_n 0, 1) := by decide +kernel
theorem dX8_init_41 : decode cX8_init 41 = .ok (.bipush 122, 2) := by decide +kernel
theorem dX8_init_43 : decode cX8_init 43 = .ok (.newarray .int, 2) := by decide +kernel
theorem dX8_init_45 : decode cX8_init 45 = .ok (.putfield 24, 3) := by decide +kernel
theorem dX8_init_48 : decode cX8_init 48 = .ok (.aload_n 0, 1) := by decide +kernel
theorem dX8_init_49 : decode cX8_init 49 = .ok (.sipush 500, 3) := by decide +kernel
theorem dX8_init_52 : decode cX8_init 52 = .ok (.newarray .int, 2) := by decide +kernel
theorem dX8_init_54 : decode cX8_init 54 = .ok (.putfield 27, 3) := by decide +kernel
theorem dX8_init_57 : decode cX8_init 57 = .ok (.aload_n 0, 1) := by decide +kernel
theorem dX8_init_58 : decode cX8_init 58 = .ok (.sipush 300, 3) := by decide +kernel
theorem dX8_init_61 : decode cX8_init 61 = .ok (.newarray .byte, 2) := by decide +kernel
theorem dX8_init_63 : decode cX8_init 63 = .ok (.putfield 30, 3) := by decide +kernel
theorem dX8_init_66 : decode cX8_init 66 = .ok (.aload_n 0, 1) := by decide +kernel
theorem dX8_init_67 : decode cX8_init 67 = .ok (.iconst (-1), 1) := by decide +kernel
theorem dX8_init_68 : decode cX8_init 68 = .ok (.putfield 34, 3) := by decide +kernel
theorem dX8_init_71 : decode cX8_init 71 = .ok (.aload_n 0, 1) := by decide +kernel
theorem dX8_init_72 : decode cX8_init 72 = .ok (.ldc 38, 2) := by decide +kernel
theorem dX8_init_74 : decode cX8_init 74 = .ok (.sipush 600, 3) := by decide +kernel
theorem dX8_init_77 : decode cX8_init 77 = .ok (.bipush 12, 2) := by decide +kernel
theorem dX8_init_79 : decode cX8_init 79 = .ok (.invokevirtual 39, 3) := by decide +kernel
theorem dX8_init_82 : decode cX8_init 82 = .ok (.istore_n 1, 1) := by decide +kernel
theorem dX8_init_83 : decode cX8_init 83 = .ok (.aload_n 0, 1) := by decide +kernel
theorem dX8_init_84 : decode cX8_init 84 = .ok (.ldc 43, 2) := by decide +kernel
theorem dX8_init_86 : decode cX8_init 86 = .ok (.sipush 1200, 3) := by decide +kernel
theorem dX8_init_89 : decode cX8_init 89 = .ok (.bipush 6, 2) := by decide +kernel
theorem dX8_init_91 : decode cX8_init 91 = .ok (.invokevirtual 39, 3) := by decide +kernel
theorem dX8_init_94 : decode cX8_init 94 = .ok (.istore_n 1, 1) := by decide +kernel
theorem dX8_init_95 : decode cX8_init 95 = .ok (.aload_n 0, 1) := by decide +kernel
theorem dX8_init_96 : decode cX8_init 96 = .ok (.sipush 999, 3) := by decide +kernel
theorem dX8_init_99 : decode cX8_init 99 = .ok (.iconst 0, 1) := by decide +kernel
theorem dX8_init_100 : decode cX8_init 100 = .ok (.iconst 4, 1) := by decide +kernel
theorem dX8_init_101 : decode cX8_init 101 = .ok (.invokevirtual 39, 3) := by decide +kernel
theorem dX8_init_104 : decode cX8_init 104 = .ok (.istore_n 1, 1) := by decide +kernel
theorem dX8_init_105 : decode cX8_init 105 = .ok (.aload_n 0, 1) := by decide +kernel
theorem dX8_init_106 : decode cX8_init 106 = .ok (.invokevirtual 44, 3) := by decide +kernel
theorem dX8_init_109 : decode cX8_init 109 = .ok (.istore_n 2, 1) := by decide +kernel
theorem dX8_init_110 : decode cX8_init 110 = .ok (.aload_n 0, 1) := by decide +kernel
theorem dX8_init_111 : decode cX8_init 111 = .ok (.iconst 0, 1) := by decide +kernel
theorem dX8_init_112 : decode cX8_init 112 = .ok (.sipush 20000, 3) := by decide +kernel
theorem dX8_init_115 : decode cX8_init 115 = .ok (.iconst 0, 1) := by decide +kernel
theorem dX8_init_116 : decode cX8_init 116 = .ok (.invokevirtual 48, 3) := by decide +kernel
theorem dX8_init_119 : decode cX8_init 119 = .ok (.aload_n 0, 1) := by decide +kernel
theorem dX8_init_120 : decode cX8_init 120 = .ok (.iconst 1, 1) := by decide +kernel
theorem dX8_init_121 : decode cX8_init 121 = .ok (.invokevirtual 52, 3) := by decide +kernel
theorem dX8_init_124 : decode cX8_init 124 = .ok (.istore_n 3, 1) := by decide +kernel
theorem dX8_init_125 : decode cX8_init 125 = .ok (.return_, 1) := by decide +kernel
theorem dX8_thrown_0 : decode cX8_thrown 0 = .ok (.aload_n 0, 1) := by decide +kernel
theorem dX8_thrown_1 : decode cX8_thrown 1 = .ok (.getfield 56, 3) := by decide +kernel
theorem dX8_thrown_4 : decode cX8_thrown 4 = .ok (.ireturn, 1) := by decide +kernel
theorem dX8_copy_0 : decode cX8_copy 0 = .ok (.iconst 0, 1) := by decide +kernel
theorem dX8_copy_1 : decode cX8_copy 1 = .ok (.istore_n 2, 1) := by decide +kernel
theorem dX8_copy_2 : decode cX8_copy 2 = .ok (.iload_n 2, 1) := by decide +kernel
theorem dX8_copy_3 : decode cX8_copy 3 = .ok (.bipush 122, 2) := by decide +kernel
theorem dX8_copy_5 : decode cX8_copy 5 = .ok (.if_icmp .ge 15, 3) := by decide +kernel
theorem dX8_copy_8 : decode cX8_copy 8 = .ok (.aload_n 1, 1) := by decide +kernel
theorem dX8_copy_9 : decode cX8_copy 9 = .ok (.iload_n 2, 1) := by decide +kernel
theorem dX8_copy_10 : decode cX8_copy 10 = .ok (.aload_n 0, 1) := by decide +kernel
theorem dX8_copy_11 : decode cX8_copy 11 = .ok (.iload_n 2, 1) := by decide +kernel
theorem dX8_copy_12 : decode cX8_copy 12 = .ok (.iaload, 1) := by decide +kernel
theorem dX8_copy_13 : decode cX8_copy 13 = .ok (.iastore, 1) := by decide +kernel
theorem dX8_copy_14 : decode cX8_copy 14 = .ok (.iinc 2 1, 3) := by decide +kernel
theorem dX8_copy_17 : decode cX8_copy 17 = .ok (.goto (-15), 3) := by decide +kernel
theorem dX8_copy_20 : decode cX8_copy 20 = .ok (.return_, 1) := by decide +kernel
theorem dX8_start_0 : decode cX8_start 0 = .ok (.iconst 0, 1) := by decide +kernel
theorem dX8_start_1 : decode cX8_start 1 = .ok (.istore_n 1, 1) := by decide +kernel
theorem dX8_start_2 : decode cX8_start 2 = .ok (.iload_n 1, 1) := by decide +kernel
theorem dX8_start_3 : decode cX8_start 3 = .ok (.bipush 122, 2) := by decide +kernel
theorem dX8_start_5 : decode cX8_start 5 = .ok (.if_icmp .ge 16, 3) := by decide +kernel
theorem dX8_start_8 : decode cX8_start 8 = .ok (.aload_n 0, 1) := by decide +kernel
theorem dX8_start_9 : decode cX8_start 9 = .ok (.getfield 9, 3) := by decide +kernel
theorem dX8_start_12 : decode cX8_start 12 = .ok (.iload_n 1, 1) := by decide +kernel
theorem dX8_start_13 : decode cX8_start 13 = .ok (.iconst 0, 1) := by decide +kernel
theorem dX8_start_14 : decode cX8_start 14 = .ok (.iastore, 1) := by decide +kernel
theorem dX8_start_15 : decode cX8_start 15 = .ok (.iinc 1 1, 3) := by decide +kernel
theorem dX8_start_18 : decode cX8_start 18 = .ok (.goto (-16), 3) := by decide +kernel
theorem dX8_start_21 : decode cX8_start 21 = .ok (.return_, 1) := by decide +kernel
set_option maxRecDepth 20000 in
theorem ggX8_remember_X8_copy : GoodIn wsX8_remember wsX8_copy := goodIn_r _ [6] (by decide +kernel) (by decide +kernel)
set_option maxRecDepth 20000 in
theorem gX8_remember_X8_copy : GoodIn wsX8_remember (va_wsS RX8 62 yX8_copy wsX8_copy) := goodIn_app (goodIn_of _ (by decide +kernel)) ggX8_remember_X8_copy
theorem dX8_remember_0 : decode cX8_remember 0 = .ok (.aload_n 0, 1) := by decide +kernel
theorem dX8_remember_1 : decode cX8_remember 1 = .ok (.getfield 59, 3) := by decide +kernel
theorem dX8_remember_4 : decode cX8_remember 4 = .ok (.bipush 8, 2) := by decide +kernel
theorem dX8_remember_6 : decode cX8_remember 6 = .ok (.if_icmp .ne 56, 3) := by decide +kernel
theorem dX8_remember_9 : decode cX8_remember 9 = .ok (.aload_n 0, 1) := by decide +kernel
theorem dX8_remember_10 : decode cX8_remember 10 = .ok (.getfield 15, 3) := by decide +kernel
theorem dX8_remember_13 : decode cX8_remember 13 = .ok (.iconst 0, 1) := by decide +kernel
theorem dX8_remember_14 : decode cX8_remember 14 = .ok (.aaload, 1) := by decide +kernel
theorem dX8_remember_15 : decode cX8_remember 15 = .ok (.astore_n 2, 1) := by decide +kernel
theorem dX8_remember_16 : decode cX8_remember 16 = .ok (.iconst 1, 1) := by decide +kernel
theorem dX8_remember_17 : decode cX8_remember 17 = .ok (.istore_n 3, 1) := by decide +kernel
theorem dX8_remember_18 : decode cX8_remember 18 = .ok (.iload_n 3, 1) := by decide +kernel
theorem dX8_remember_19 : decode cX8_remember 19 = .ok (.bipush 8, 2) := by decide +kernel
theorem dX8_remember_21 : decode cX8_remember 21 = .ok (.if_icmp .ge 23, 3) := by decide +kernel
theorem dX8_remember_24 : decode cX8_remember 24 = .ok (.aload_n 0, 1) := by decide +kernel
theorem dX8_remember_25 : decode cX8_remember 25 = .ok (.getfield 15, 3) := by decide +kernel
theorem dX8_remember_28 : decode cX8_remember 28 = .ok (.iload_n 3, 1) := by decide +kernel
theorem dX8_remember_29 : decode cX8_remember 29 = .ok (.iconst 1, 1) := by decide +kernel
theorem dX8_remember_30 : decode cX8_remember 30 = .ok (.isub, 1) := by decide +kernel
theorem dX8_remember_31 : decode cX8_remember 31 = .ok (.aload_n 0, 1) := by decide +kernel
theorem dX8_remember_32 : decode cX8_remember 32 = .ok (.getfield 15, 3) := by decide +kernel
theorem dX8_remember_35 : decode cX8_remember 35 = .ok (.iload_n 3, 1) := by decide +kernel
theorem dX8_remember_36 : decode cX8_remember 36 = .ok (.aaload, 1) := by decide +kernel
theorem dX8_remember_37 : decode cX8_remember 37 = .ok (.aastore, 1) := by decide +kernel
theorem dX8_remember_38 : decode cX8_remember 38 = .ok (.iinc 3 1, 3) := by decide +kernel
theorem dX8_remember_41 : decode cX8_remember 41 = .ok (.goto (-23), 3) := by decide +kernel
theorem dX8_remember_44 : decode cX8_remember 44 = .ok (.aload_n 0, 1) := by decide +kernel
theorem dX8_remember_45 : decode cX8_remember 45 = .ok (.getfield 15, 3) := by decide +kernel
theorem dX8_remember_48 : decode cX8_remember 48 = .ok (.bipush 7, 2) := by decide +kernel
theorem dX8_remember_50 : decode cX8_remember 50 = .ok (.aload_n 2, 1) := by decide +kernel
theorem dX8_remember_51 : decode cX8_remember 51 = .ok (.aastore, 1) := by decide +kernel
theorem dX8_remember_52 : decode cX8_remember 52 = .ok (.aload_n 0, 1) := by decide +kernel
theorem dX8_remember_53 : decode cX8_remember 53 = .ok (.dup, 1) := by decide +kernel
theorem dX8_remember_54 : decode cX8_remember 54 = .ok (.getfield 59, 3) := by decide +kernel
theorem dX8_remember_57 : decode cX8_remember 57 = .ok (.iconst 1, 1) := by decide +kernel
theorem dX8_remember_58 : decode cX8_remember 58 = .ok (.isub, 1) := by decide +kernel
theorem dX8_remember_59 : decode cX8_remember 59 = .ok (.putfield 59, 3) := by decide +kernel
theorem dX8_remember_62 : decode cX8_remember 62 = .ok (.aload_n 1, 1) := by decide +kernel
theorem dX8_remember_63 : decode cX8_remember 63 = .ok (.aload_n 0, 1) := by decide +kernel
theorem dX8_remember_64 : decode cX8_remember 64 = .ok (.getfield 15, 3) := by decide +kernel
theorem dX8_remember_67 : decode cX8_remember 67 = .ok (.aload_n 0, 1) := by decide +kernel
theorem dX8_remember_68 : decode cX8_remember 68 = .ok (.getfield 59, 3) := by decide +kernel
theorem dX8_remember_71 : decode cX8_remember 71 = .ok (.aaload, 1) := by decide +kernel
theorem dX8_remember_72 : decode cX8_remember 72 = .ok (.invokestatic 62, 3) := by decide +kernel
theorem dX8_remember_75 : decode cX8_remember 75 = .ok (.aload_n 0, 1) := by decide +kernel
theorem dX8_remember_76 : decode cX8_remember 76 = .ok (.dup, 1) := by decide +kernel
theorem dX8_remember_77 : decode cX8_remember 77 = .ok (.getfield 59, 3) := by decide +kernel
theorem dX8_remember_80 : decode cX8_remember 80 = .ok (.iconst 1, 1) := by decide +kernel
theorem dX8_remember_81 : decode cX8_remember 81 = .ok (.iadd, 1) := by decide +kernel
theorem dX8_remember_82 : decode cX8_remember 82 = .ok (.putfield 59, 3) := by decide +kernel
theorem dX8_remember_85 : decode cX8_remember 85 = .ok (.return_, 1) := by decide +kernel
theorem dX8_outside_0 : decode cX8_outside 0 = .ok (.iload_n 1, 1) := by decide +kernel
theorem dX8_outside_1 : decode cX8_outside 1 = .ok (.iload_n 2, 1) := by decide +kernel
theorem dX8_outside_2 : decode cX8_outside 2 = .ok (.if_icmp .lt 8, 3) := by decide +kernel
theorem dX8_outside_5 : decode cX8_outside 5 = .ok (.iload_n 1, 1) := by decide +kernel
theorem dX8_outside_6 : decode cX8_outside 6 = .ok (.iload_n 3, 1) := by decide +kernel
theorem dX8_outside_7 : decode cX8_outside 7 = .ok (.if_icmp .le 11, 3) := by decide +kernel
theorem dX8_outside_10 : decode cX8_outside 10 = .ok (.aload_n 0, 1) := by decide +kernel
theorem dX8_outside_11 : decode cX8_outside 11 = .ok (.iload 4, 2) := by decide +kernel
theorem dX8_outside_13 : decode cX8_outside 13 = .ok (.putfield 56, 3) := by decide +kernel
theorem dX8_outside_16 : decode cX8_outside 16 = .ok (.iconst 1, 1) := by decide +kernel
theorem dX8_outside_17 : decode cX8_outside 17 = .ok (.ireturn, 1) := by decide +kernel
theorem dX8_outside_18 : decode cX8_outside 18 = .ok (.iconst 0, 1) := by decide +kernel
theorem dX8_outside_19 : decode cX8_outside 19 = .ok (.ireturn, 1) := by decide +kernel
theorem dX8_raise_0 : decode cX8_raise 0 = .ok (.iload_n 1, 1) := by decide +kernel
theorem dX8_raise_1 : decode cX8_raise 1 = .ok (.ifCond .eq 8, 3) := by decide +kernel
theorem dX8_raise_4 : decode cX8_raise 4 = .ok (.aload_n 0, 1) := by decide +kernel
theorem dX8_raise_5 : decode cX8_raise 5 = .ok (.iload_n 2, 1) := by decide +kernel
theorem dX8_raise_6 : decode cX8_raise 6 = .ok (.putfield 56, 3) := by decide +kernel
theorem dX8_raise_9 : decode cX8_raise 9 = .ok (.iload_n 1, 1) := by decide +kernel
theorem dX8_raise_10 : decode cX8_raise 10 = .ok (.ireturn, 1) := by decide +kernel
set_option maxRecDepth 20000 in
theorem ggX8_noLoan_X8_outside : GoodIn wsX8_noLoan wsX8_outside := goodIn_r _ [6, 7, 8, 9, 10, 11, 12, 13, 14, 15, 16, 17, 18, 19, 20, 21, 22, 23, 24, 25, 26, 27, 28, 29, 30, 31, 32, 33, 34, 35, 36] (by decide +kernel) (by decide +kernel)
set_option maxRecDepth 20000 in
theorem gX8_noLoan_X8_outside : GoodIn wsX8_noLoan (wsV RX8 66 RX8 yX8_outside wsX8_outside) := goodIn_app (goodIn_of _ (by decide +kernel)) ggX8_noLoan_X8_outside
theorem dX8_noLoan_0 : decode cX8_noLoan 0 = .ok (.aload_n 0, 1) := by decide +kernel
theorem dX8_noLoan_1 : decode cX8_noLoan 1 = .ok (.iload_n 1, 1) := by decide +kernel
theorem dX8_noLoan_2 : decode cX8_noLoan 2 = .ok (.iconst 0, 1) := by decide +kernel
theorem dX8_noLoan_3 : decode cX8_noLoan 3 = .ok (.aload_n 0, 1) := by decide +kernel
theorem dX8_noLoan_4 : decode cX8_noLoan 4 = .ok (.getfield 9, 3) := by decide +kernel
theorem dX8_noLoan_7 : decode cX8_noLoan 7 = .ok (.iconst 0, 1) := by decide +kernel
theorem dX8_noLoan_8 : decode cX8_noLoan 8 = .ok (.iaload, 1) := by decide +kernel
theorem dX8_noLoan_9 : decode cX8_noLoan 9 = .ok (.iconst 1, 1) := by decide +kernel
theorem dX8_noLoan_10 : decode cX8_noLoan 10 = .ok (.isub, 1) := by decide +kernel
theorem dX8_noLoan_11 : decode cX8_noLoan 11 = .ok (.iconst 1, 1) := by decide +kernel
theorem dX8_noLoan_12 : decode cX8_noLoan 12 = .ok (.invokevirtual 66, 3) := by decide +kernel
theorem dX8_noLoan_15 : decode cX8_noLoan 15 = .ok (.ireturn, 1) := by decide +kernel
theorem dX8_of_0 : decode cX8_of 0 = .ok (.aload_n 0, 1) := by decide +kernel
theorem dX8_of_1 : decode cX8_of 1 = .ok (.getfield 9, 3) := by decide +kernel
theorem dX8_of_4 : decode cX8_of 4 = .ok (.bipush 62, 2) := by decide +kernel
theorem dX8_of_6 : decode cX8_of 6 = .ok (.iload_n 1, 1) := by decide +kernel
theorem dX8_of_7 : decode cX8_of 7 = .ok (.bipush 10, 2) := by decide +kernel
theorem dX8_of_9 : decode cX8_of 9 = .ok (.imul, 1) := by decide +kernel
theorem dX8_of_10 : decode cX8_of 10 = .ok (.iadd, 1) := by decide +kernel
theorem dX8_of_11 : decode cX8_of 11 = .ok (.iload_n 2, 1) := by decide +kernel
theorem dX8_of_12 : decode cX8_of 12 = .ok (.iadd, 1) := by decide +kernel
theorem dX8_of_13 : decode cX8_of 13 = .ok (.iaload, 1) := by decide +kernel
theorem dX8_of_14 : decode cX8_of 14 = .ok (.ireturn, 1) := by decide +kernel
theorem dX8_put_0 : decode cX8_put 0 = .ok (.aload_n 0, 1) := by decide +kernel
theorem dX8_put_1 : decode cX8_put 1 = .ok (.getfield 9, 3) := by decide +kernel
theorem dX8_put_4 : decode cX8_put 4 = .ok (.bipush 62, 2) := by decide +kernel
theorem dX8_put_6 : decode cX8_put 6 = .ok (.iload_n 1, 1) := by decide +kernel
theorem dX8_put_7 : decode cX8_put 7 = .ok (.bipush 10, 2) := by decide +kernel
theorem dX8_put_9 : decode cX8_put 9 = .ok (.imul, 1) := by decide +kernel
theorem dX8_put_10 : decode cX8_put 10 = .ok (.iadd, 1) := by decide +kernel
theorem dX8_put_11 : decode cX8_put 11 = .ok (.iload_n 2, 1) := by decide +kernel
theorem dX8_put_12 : decode cX8_put 12 = .ok (.iadd, 1) := by decide +kernel
theorem dX8_put_13 : decode cX8_put 13 = .ok (.iload_n 3, 1) := by decide +kernel
theorem dX8_put_14 : decode cX8_put 14 = .ok (.iastore, 1) := by decide +kernel
theorem dX8_put_15 : decode cX8_put 15 = .ok (.return_, 1) := by decide +kernel
set_option maxRecDepth 20000 in
theorem ggX8_grow_X8_of : GoodIn wsX8_grow wsX8_of := goodIn_r _ [5, 6, 11, 12, 13, 14, 15, 16, 17, 18, 19, 20, 21, 22, 23, 24, 25, 26, 27, 28, 29, 30, 31, 32, 33, 34, 35, 36, 37, 38, 39] (by decide +kernel) (by decide +kernel)
set_option maxRecDepth 20000 in
theorem gX8_grow_X8_of : GoodIn wsX8_grow (wsV RX8 70 RX8 yX8_of wsX8_of) := goodIn_app (goodIn_of _ (by decide +kernel)) ggX8_grow_X8_of
set_option maxRecDepth 20000 in
theorem ggX8_grow_X8_put : GoodIn wsX8_grow wsX8_put := goodIn_r _ [10, 6, 11, 12, 13, 14, 15, 16, 17, 18, 19, 20, 21, 22, 23, 24, 25, 26, 27, 28, 29, 30, 31, 32, 33, 34, 35, 36, 37, 38, 39] (by decide +kernel) (by decide +kernel)
set_option maxRecDepth 20000 in
theorem gX8_grow_X8_put : GoodIn wsX8_grow (wsV RX8 74 RX8 yX8_put wsX8_put) := goodIn_app (goodIn_of _ (by decide +kernel)) ggX8_grow_X8_put
theorem dX8_grow_0 : decode cX8_grow 0 = .ok (.aload_n 0, 1) := by decide +kernel
theorem dX8_grow_1 : decode cX8_grow 1 = .ok (.iload_n 1, 1) := by decide +kernel
theorem dX8_grow_2 : decode cX8_grow 2 = .ok (.iload_n 2, 1) := by decide +kernel
theorem dX8_grow_3 : decode cX8_grow 3 = .ok (.aload_n 0, 1) := by decide +kernel
theorem dX8_grow_4 : decode cX8_grow 4 = .ok (.iload_n 1, 1) := by decide +kernel
theorem dX8_grow_5 : decode cX8_grow 5 = .ok (.iload_n 2, 1) := by decide +kernel
theorem dX8_grow_6 : decode cX8_grow 6 = .ok (.invokevirtual 70, 3) := by decide +kernel
theorem dX8_grow_9 : decode cX8_grow 9 = .ok (.iload_n 3, 1) := by decide +kernel
theorem dX8_grow_10 : decode cX8_grow 10 = .ok (.iadd, 1) := by decide +kernel
theorem dX8_grow_11 : decode cX8_grow 11 = .ok (.invokevirtual 74, 3) := by decide +kernel
theorem dX8_grow_14 : decode cX8_grow 14 = .ok (.return_, 1) := by decide +kernel
set_option maxRecDepth 20000 in
theorem ggX8_isRunning_X8_of : GoodIn wsX8_isRunning wsX8_of := goodIn_r _ [5, 6, 7, 8, 9, 10, 11, 12, 13, 14, 15, 16, 17, 18, 19, 20, 21, 22, 23, 24, 25, 26, 27, 28, 29, 30, 31, 32, 33, 34, 35] (by decide +kernel) (by decide +kernel)
set_option maxRecDepth 20000 in
theorem gX8_isRunning_X8_of : GoodIn wsX8_isRunning (wsV RX8 70 RX8 yX8_of wsX8_of) := goodIn_app (goodIn_of _ (by decide +kernel)) ggX8_isRunning_X8_of
theorem dX8_isRunning_0 : decode cX8_isRunning 0 = .ok (.aload_n 0, 1) := by decide +kernel
theorem dX8_isRunning_1 : decode cX8_isRunning 1 = .ok (.iload_n 1, 1) := by decide +kernel
theorem dX8_isRunning_2 : decode cX8_isRunning 2 = .ok (.iconst 1, 1) := by decide +kernel
theorem dX8_isRunning_3 : decode cX8_isRunning 3 = .ok (.invokevirtual 70, 3) := by decide +kernel
theorem dX8_isRunning_6 : decode cX8_isRunning 6 = .ok (.ifCond .le 7, 3) := by decide +kernel
theorem dX8_isRunning_9 : decode cX8_isRunning 9 = .ok (.iconst 1, 1) := by decide +kernel
theorem dX8_isRunning_10 : decode cX8_isRunning 10 = .ok (.goto 4, 3) := by decide +kernel
theorem dX8_isRunning_13 : decode cX8_isRunning 13 = .ok (.iconst 0, 1) := by decide +kernel
theorem dX8_isRunning_14 : decode cX8_isRunning 14 = .ok (.ireturn, 1) := by decide +kernel
theorem dX8_begin_0 : decode cX8_begin 0 = .ok (.aload_n 0, 1) := by decide +kernel
theorem dX8_begin_1 : decode cX8_begin 1 = .ok (.lload_n 1, 1) := by decide +kernel
theorem dX8_begin_2 : decode cX8_begin 2 = .ok (.putfield 78, 3) := by decide +kernel
theorem dX8_begin_5 : decode cX8_begin 5 = .ok (.aload_n 0, 1) := by decide +kernel
theorem dX8_begin_6 : decode cX8_begin 6 = .ok (.lload_n 3, 1) := by decide +kernel
theorem dX8_begin_7 : decode cX8_begin 7 = .ok (.putfield 82, 3) := by decide +kernel
theorem dX8_begin_10 : decode cX8_begin 10 = .ok (.aload_n 0, 1) := by decide +kernel
theorem dX8_begin_11 : decode cX8_begin 11 = .ok (.iconst 0, 1) := by decide +kernel
theorem dX8_begin_12 : decode cX8_begin 12 = .ok (.putfield 85, 3) := by decide +kernel
theorem dX8_begin_15 : decode cX8_begin 15 = .ok (.aload_n 0, 1) := by decide +kernel
theorem dX8_begin_16 : decode cX8_begin 16 = .ok (.lconst 0, 1) := by decide +kernel
theorem dX8_begin_17 : decode cX8_begin 17 = .ok (.putfield 88, 3) := by decide +kernel
theorem dX8_begin_20 : decode cX8_begin 20 = .ok (.aload_n 0, 1) := by decide +kernel
theorem dX8_begin_21 : decode cX8_begin 21 = .ok (.lconst 0, 1) := by decide +kernel
theorem dX8_begin_22 : decode cX8_begin 22 = .ok (.putfield 91, 3) := by decide +kernel
theorem dX8_begin_25 : decode cX8_begin 25 = .ok (.aload_n 0, 1) := by decide +kernel
theorem dX8_begin_26 : decode cX8_begin 26 = .ok (.lconst 0, 1) := by decide +kernel
theorem dX8_begin_27 : decode cX8_begin 27 = .ok (.putfield 94, 3) := by decide +kernel
theorem dX8_begin_30 : decode cX8_begin 30 = .ok (.return_, 1) := by decide +kernel
set_option maxRecDepth 20000 in
theorem ggX8_beginWith_X8_of : GoodIn wsX8_beginWith wsX8_of := goodIn_r _ [5, 6, 17, 18, 19, 20, 21, 22, 23, 24, 25, 26, 27, 28, 29, 30, 31, 32, 33, 34, 35, 36, 37, 38, 39, 40, 41, 42, 43, 44, 45] (by decide +kernel) (by decide +kernel)
set_option maxRecDepth 20000 in
theorem gX8_beginWith_X8_of : GoodIn wsX8_beginWith (wsV RX8 70 RX8 yX8_of wsX8_of) := goodIn_app (goodIn_of _ (by decide +kernel)) ggX8_beginWith_X8_of
set_option maxRecDepth 20000 in
theorem ggX8_beginWith_X8_begin : GoodIn wsX8_beginWith wsX8_begin := goodIn_r _ [10, 11, 12, 13, 14, 15, 16, 17, 18, 19, 20, 21, 22, 23, 24, 25, 26, 27, 28, 29, 30, 31, 32, 33, 34, 35, 36, 37, 38, 39, 40, 41, 42, 43, 44, 45] (by decide +kernel) (by decide +kernel)
set_option maxRecDepth 20000 in
theorem gX8_beginWith_X8_begin : GoodIn wsX8_beginWith (wsV RX8 97 RX8 yX8_begin wsX8_begin) := goodIn_app (goodIn_of _ (by decide +kernel)) ggX8_beginWith_X8_begin
theorem dX8_beginWith_0 : decode cX8_beginWith 0 = .ok (.aload_n 0, 1) := by decide +kernel
theorem dX8_beginWith_1 : decode cX8_beginWith 1 = .ok (.aload_n 0, 1) := by decide +kernel
theorem dX8_beginWith_2 : decode cX8_beginWith 2 = .ok (.iload_n 1, 1) := by decide +kernel
theorem dX8_beginWith_3 : decode cX8_beginWith 3 = .ok (.iconst 1, 1) := by decide +kernel
theorem dX8_beginWith_4 : decode cX8_beginWith 4 = .ok (.invokevirtual 70, 3) := by decide +kernel
theorem dX8_beginWith_7 : decode cX8_beginWith 7 = .ok (.i2l, 1) := by decide +kernel
theorem dX8_beginWith_8 : decode cX8_beginWith 8 = .ok (.aload_n 0, 1) := by decide +kernel
theorem dX8_beginWith_9 : decode cX8_beginWith 9 = .ok (.iload_n 1, 1) := by decide +kernel
theorem dX8_beginWith_10 : decode cX8_beginWith 10 = .ok (.iconst 5, 1) := by decide +kernel
theorem dX8_beginWith_11 : decode cX8_beginWith 11 = .ok (.invokevirtual 70, 3) := by decide +kernel
theorem dX8_beginWith_14 : decode cX8_beginWith 14 = .ok (.i2l, 1) := by decide +kernel
theorem dX8_beginWith_15 : decode cX8_beginWith 15 = .ok (.invokevirtual 97, 3) := by decide +kernel
theorem dX8_beginWith_18 : decode cX8_beginWith 18 = .ok (.return_, 1) := by decide +kernel
theorem dX8_step_0 : decode cX8_step 0 = .ok (.aload_n 0, 1) := by decide +kernel
theorem dX8_step_1 : decode cX8_step 1 = .ok (.getfield 78, 3) := by decide +kernel
theorem dX8_step_4 : decode cX8_step 4 = .ok (.iload_n 1, 1) := by decide +kernel
theorem dX8_step_5 : decode cX8_step 5 = .ok (.i2l, 1) := by decide +kernel
theorem dX8_step_6 : decode cX8_step 6 = .ok (.lmul, 1) := by decide +kernel
theorem dX8_step_7 : decode cX8_step 7 = .ok (.aload_n 0, 1) := by decide +kernel
theorem dX8_step_8 : decode cX8_step 8 = .ok (.getfield 82, 3) := by decide +kernel
theorem dX8_step_11 : decode cX8_step 11 = .ok (.ladd, 1) := by decide +kernel
theorem dX8_step_12 : decode cX8_step 12 = .ok (.lstore 5, 2) := by decide +kernel
theorem dX8_step_14 : decode cX8_step 14 = .ok (.aload_n 0, 1) := by decide +kernel
theorem dX8_step_15 : decode cX8_step 15 = .ok (.lload 5, 2) := by decide +kernel
theorem dX8_step_17 : decode cX8_step 17 = .ok (.ldc2_w 101, 3) := by decide +kernel
theorem dX8_step_20 : decode cX8_step 20 = .ok (.ldiv, 1) := by decide +kernel
theorem dX8_step_21 : decode cX8_step 21 = .ok (.putfield 94, 3) := by decide +kernel
theorem dX8_step_24 : decode cX8_step 24 = .ok (.aload_n 0, 1) := by decide +kernel
theorem dX8_step_25 : decode cX8_step 25 = .ok (.lload 5, 2) := by decide +kernel
theorem dX8_step_27 : decode cX8_step 27 = .ok (.ldc2_w 101, 3) := by decide +kernel
theorem dX8_step_30 : decode cX8_step 30 = .ok (.lrem, 1) := by decide +kernel
theorem dX8_step_31 : decode cX8_step 31 = .ok (.putfield 82, 3) := by decide +kernel
theorem dX8_step_34 : decode cX8_step 34 = .ok (.aload_n 0, 1) := by decide +kernel
theorem dX8_step_35 : decode cX8_step 35 = .ok (.getfield 78, 3) := by decide +kernel
theorem dX8_step_38 : decode cX8_step 38 = .ok (.aload_n 0, 1) := by decide +kernel
theorem dX8_step_39 : decode cX8_step 39 = .ok (.getfield 94, 3) := by decide +kernel
theorem dX8_step_42 : decode cX8_step 42 = .ok (.ladd, 1) := by decide +kernel
theorem dX8_step_43 : decode cX8_step 43 = .ok (.lstore 7, 2) := by decide +kernel
theorem dX8_step_45 : decode cX8_step 45 = .ok (.aload_n 0, 1) := by decide +kernel
theorem dX8_step_46 : decode cX8_step 46 = .ok (.lload 7, 2) := by decide +kernel
theorem dX8_step_48 : decode cX8_step 48 = .ok (.lload_n 2, 1) := by decide +kernel
theorem dX8_step_49 : decode cX8_step 49 = .ok (.lcmp, 1) := by decide +kernel
theorem dX8_step_50 : decode cX8_step 50 = .ok (.ifCond .le 9, 3) := by decide +kernel
theorem dX8_step_53 : decode cX8_step 53 = .ok (.iload 4, 2) := by decide +kernel
theorem dX8_step_55 : decode cX8_step 55 = .ok (.iconst 1, 1) := by decide +kernel
theorem dX8_step_56 : decode cX8_step 56 = .ok (.if_icmp .ne 8, 3) := by decide +kernel
theorem dX8_step_59 : decode cX8_step 59 = .ok (.lload 7, 2) := by decide +kernel
theorem dX8_step_61 : decode cX8_step 61 = .ok (.goto 4, 3) := by decide +kernel
theorem dX8_step_64 : decode cX8_step 64 = .ok (.lload_n 2, 1) := by decide +kernel
theorem dX8_step_65 : decode cX8_step 65 = .ok (.putfield 91, 3) := by decide +kernel
theorem dX8_step_68 : decode cX8_step 68 = .ok (.aload_n 0, 1) := by decide +kernel
theorem dX8_step_69 : decode cX8_step 69 = .ok (.lload 7, 2) := by decide +kernel
theorem dX8_step_71 : decode cX8_step 71 = .ok (.aload_n 0, 1) := by decide +kernel
theorem dX8_step_72 : decode cX8_step 72 = .ok (.getfield 91, 3) := by decide +kernel
theorem dX8_step_75 : decode cX8_step 75 = .ok (.lsub, 1) := by decide +kernel
theorem dX8_step_76 : decode cX8_step 76 = .ok (.putfield 78, 3) := by decide +kernel
theorem dX8_step_79 : decode cX8_step 79 = .ok (.aload_n 0, 1) := by decide +kernel
theorem dX8_step_80 : decode cX8_step 80 = .ok (.dup, 1) := by decide +kernel
theorem dX8_step_81 : decode cX8_step 81 = .ok (.getfield 88, 3) := by decide +kernel
theorem dX8_step_84 : decode cX8_step 84 = .ok (.aload_n 0, 1) := by decide +kernel
theorem dX8_step_85 : decode cX8_step 85 = .ok (.getfield 94, 3) := by decide +kernel
theorem dX8_step_88 : decode cX8_step 88 = .ok (.ladd, 1) := by decide +kernel
theorem dX8_step_89 : decode cX8_step 89 = .ok (.putfield 88, 3) := by decide +kernel
theorem dX8_step_92 : decode cX8_step 92 = .ok (.aload_n 0, 1) := by decide +kernel
theorem dX8_step_93 : decode cX8_step 93 = .ok (.dup, 1) := by decide +kernel
theorem dX8_step_94 : decode cX8_step 94 = .ok (.getfield 85, 3) := by decide +kernel
theorem dX8_step_97 : decode cX8_step 97 = .ok (.iconst 1, 1) := by decide +kernel
theorem dX8_step_98 : decode cX8_step 98 = .ok (.iadd, 1) := by decide +kernel
theorem dX8_step_99 : decode cX8_step 99 = .ok (.putfield 85, 3) := by decide +kernel
theorem dX8_step_102 : decode cX8_step 102 = .ok (.return_, 1) := by decide +kernel
set_option maxRecDepth 20000 in
theorem ggX8_walkAll_X8_step : GoodIn wsX8_walkAll wsX8_step := goodIn_r _ [7, 1, 8, 9, 10, 2, 11, 12, 13, 14, 15, 16, 17, 18, 19, 20, 21, 22, 23, 24, 25, 26, 27, 28, 29, 30, 31, 32, 33, 34, 35, 36, 37, 38, 39, 40, 41] (by decide +kernel) (by decide +kernel)
set_option maxRecDepth 20000 in
theorem gX8_walkAll_X8_step : GoodIn wsX8_walkAll (wsV RX8 103 RX8 yX8_step wsX8_step) := goodIn_app (goodIn_of _ (by decide +kernel)) ggX8_walkAll_X8_step
theorem dX8_walkAll_0 : decode cX8_walkAll 0 = .ok (.iload 4, 2) := by decide +kernel
theorem dX8_walkAll_2 : decode cX8_walkAll 2 = .ok (.istore 5, 2) := by decide +kernel
theorem dX8_walkAll_4 : decode cX8_walkAll 4 = .ok (.iload 5, 2) := by decide +kernel
theorem dX8_walkAll_6 : decode cX8_walkAll 6 = .ok (.ifCond .le 26, 3) := by decide +kernel
theorem dX8_walkAll_9 : decode cX8_walkAll 9 = .ok (.aload_n 0, 1) := by decide +kernel
theorem dX8_walkAll_10 : decode cX8_walkAll 10 = .ok (.getfield 78, 3) := by decide +kernel
theorem dX8_walkAll_13 : decode cX8_walkAll 13 = .ok (.lconst 0, 1) := by decide +kernel
theorem dX8_walkAll_14 : decode cX8_walkAll 14 = .ok (.lcmp, 1) := by decide +kernel
theorem dX8_walkAll_15 : decode cX8_walkAll 15 = .ok (.ifCond .le 17, 3) := by decide +kernel
theorem dX8_walkAll_18 : decode cX8_walkAll 18 = .ok (.aload_n 0, 1) := by decide +kernel
theorem dX8_walkAll_19 : decode cX8_walkAll 19 = .ok (.iload_n 1, 1) := by decide +kernel
theorem dX8_walkAll_20 : decode cX8_walkAll 20 = .ok (.lload_n 2, 1) := by decide +kernel
theorem dX8_walkAll_21 : decode cX8_walkAll 21 = .ok (.iload 5, 2) := by decide +kernel
theorem dX8_walkAll_23 : decode cX8_walkAll 23 = .ok (.invokevirtual 103, 3) := by decide +kernel
theorem dX8_walkAll_26 : decode cX8_walkAll 26 = .ok (.iinc 5 (-1), 3) := by decide +kernel
theorem dX8_walkAll_29 : decode cX8_walkAll 29 = .ok (.goto (-25), 3) := by decide +kernel
theorem dX8_walkAll_32 : decode cX8_walkAll 32 = .ok (.aload_n 0, 1) := by decide +kernel
theorem dX8_walkAll_33 : decode cX8_walkAll 33 = .ok (.getfield 91, 3) := by decide +kernel
theorem dX8_walkAll_36 : decode cX8_walkAll 36 = .ok (.lreturn, 1) := by decide +kernel
set_option maxRecDepth 20000 in
theorem ggX8_suits_X8_beginWith : GoodIn wsX8_suits wsX8_beginWith := goodIn_r _ [5, 6, 7, 8, 4, 9, 10, 11, 12, 13, 14, 15, 16, 17, 18, 19, 20, 30, 31, 32, 33, 34, 35, 36, 37, 38, 39, 40, 41, 42, 43, 44, 45, 46, 47, 48, 49, 50, 51, 52, 53, 54, 55, 56, 57, 58] (by decide +kernel) (by decide +kernel)
set_option maxRecDepth 20000 in
theorem gX8_suits_X8_beginWith : GoodIn wsX8_suits (wsV RX8 107 RX8 yX8_beginWith wsX8_beginWith) := goodIn_app (goodIn_of _ (by decide +kernel)) ggX8_suits_X8_beginWith
set_option maxRecDepth 20000 in
theorem ggX8_suits_X8_walkAll : GoodIn wsX8_suits wsX8_walkAll := goodIn_r _ [24, 15, 19, 25, 26, 27, 4, 28, 16, 29, 20, 18, 17, 30, 31, 32, 33, 34, 35, 36, 37, 38, 39, 40, 41, 42, 43, 44, 45, 46, 47, 48, 49, 50, 51, 52, 53, 54, 55, 56, 57, 58] (by decide +kernel) (by decide +kernel)
set_option maxRecDepth 20000 in
theorem gX8_suits_X8_walkAll : GoodIn wsX8_suits (wsV RX8 111 RX8 yX8_walkAll wsX8_walkAll) := goodIn_app (goodIn_of _ (by decide +kernel)) ggX8_suits_X8_walkAll
theorem dX8_suits_0 : decode cX8_suits 0 = .ok (.aload_n 0, 1) := by decide +kernel
theorem dX8_suits_1 : decode cX8_suits 1 = .ok (.iload_n 1, 1) := by decide +kernel
theorem dX8_suits_2 : decode cX8_suits 2 = .ok (.invokevirtual 107, 3) := by decide +kernel
theorem dX8_suits_5 : decode cX8_suits 5 = .ok (.aload_n 0, 1) := by decide +kernel
theorem dX8_suits_6 : decode cX8_suits 6 = .ok (.iload_n 2, 1) := by decide +kernel
theorem dX8_suits_7 : decode cX8_suits 7 = .ok (.lload_n 3, 1) := by decide +kernel
theorem dX8_suits_8 : decode cX8_suits 8 = .ok (.iload 5, 2) := by decide +kernel
theorem dX8_suits_10 : decode cX8_suits 10 = .ok (.invokevirtual 111, 3) := by decide +kernel
theorem dX8_suits_13 : decode cX8_suits 13 = .ok (.lload_n 3, 1) := by decide +kernel
theorem dX8_suits_14 : decode cX8_suits 14 = .ok (.lcmp, 1) := by decide +kernel
theorem dX8_suits_15 : decode cX8_suits 15 = .ok (.ifCond .gt 7, 3) := by decide +kernel
theorem dX8_suits_18 : decode cX8_suits 18 = .ok (.iconst 1, 1) := by decide +kernel
theorem dX8_suits_19 : decode cX8_suits 19 = .ok (.goto 4, 3) := by decide +kernel
theorem dX8_suits_22 : decode cX8_suits 22 = .ok (.iconst 0, 1) := by decide +kernel
theorem dX8_suits_23 : decode cX8_suits 23 = .ok (.ireturn, 1) := by decide +kernel
set_option maxRecDepth 20000 in
theorem ggX8_level_X8_beginWith : GoodIn wsX8_level wsX8_beginWith := goodIn_r _ [7, 8, 9, 10, 6, 11, 12, 13, 14, 15, 16, 17, 18, 19, 20, 1, 21, 35, 36, 37, 38, 39, 40, 41, 42, 43, 44, 45, 46, 47, 48, 49, 50, 51, 52, 53, 54, 55, 56, 57, 58, 59, 60, 61, 62, 63] (by decide +kernel) (by decide +kernel)
set_option maxRecDepth 20000 in
theorem gX8_level_X8_beginWith : GoodIn wsX8_level (wsV RX8 107 RX8 yX8_beginWith wsX8_beginWith) := goodIn_app (goodIn_of _ (by decide +kernel)) ggX8_level_X8_beginWith
set_option maxRecDepth 20000 in
theorem ggX8_level_X8_step : GoodIn wsX8_level wsX8_step := goodIn_r _ [25, 17, 18, 26, 21, 1, 20, 19, 35, 36, 37, 38, 39, 40, 41, 42, 43, 44, 45, 46, 47, 48, 49, 50, 51, 52, 53, 54, 55, 56, 57, 58, 59, 60, 61, 62, 63] (by decide +kernel) (by decide +kernel)
set_option maxRecDepth 20000 in
theorem gX8_level_X8_step : GoodIn wsX8_level (wsV RX8 103 RX8 yX8_step wsX8_step) := goodIn_app (goodIn_of _ (by decide +kernel)) ggX8_level_X8_step
set_option maxRecDepth 20000 in
theorem ggX8_level_X8_suits : GoodIn wsX8_level wsX8_suits := goodIn_r _ [30, 3, 4, 5, 6, 7, 8, 9, 10, 11, 12, 13, 14, 15, 16, 17, 18, 19, 20, 1, 21, 31, 32, 33, 34, 22, 23, 24, 25, 26, 35, 36, 37, 38, 39, 40, 41, 42, 43, 44, 45, 46, 47, 48, 49, 50, 51, 52, 53, 54, 55, 56, 57, 58, 59, 60, 61, 62, 63] (by decide +kernel) (by decide +kernel)
set_option maxRecDepth 20000 in
theorem gX8_level_X8_suits : GoodIn wsX8_level (wsV RX8 117 RX8 yX8_suits wsX8_suits) := goodIn_app (goodIn_of _ (by decide +kernel)) ggX8_level_X8_suits
theorem dX8_level_0 : decode cX8_level 0 = .ok (.aload_n 0, 1) := by decide +kernel
theorem dX8_level_1 : decode cX8_level 1 = .ok (.iload_n 1, 1) := by decide +kernel
theorem dX8_level_2 : decode cX8_level 2 = .ok (.invokevirtual 107, 3) := by decide +kernel
theorem dX8_level_5 : decode cX8_level 5 = .ok (.aload_n 0, 1) := by decide +kernel
theorem dX8_level_6 : decode cX8_level 6 = .ok (.iload_n 2, 1) := by decide +kernel
theorem dX8_level_7 : decode cX8_level 7 = .ok (.lconst 1, 1) := by decide +kernel
theorem dX8_level_8 : decode cX8_level 8 = .ok (.iconst 1, 1) := by decide +kernel
theorem dX8_level_9 : decode cX8_level 9 = .ok (.invokevirtual 103, 3) := by decide +kernel
theorem dX8_level_12 : decode cX8_level 12 = .ok (.lconst 1, 1) := by decide +kernel
theorem dX8_level_13 : decode cX8_level 13 = .ok (.lstore 4, 2) := by decide +kernel
theorem dX8_level_15 : decode cX8_level 15 = .ok (.aload_n 0, 1) := by decide +kernel
theorem dX8_level_16 : decode cX8_level 16 = .ok (.getfield 91, 3) := by decide +kernel
theorem dX8_level_19 : decode cX8_level 19 = .ok (.lstore 6, 2) := by decide +kernel
theorem dX8_level_21 : decode cX8_level 21 = .ok (.lload 4, 2) := by decide +kernel
theorem dX8_level_23 : decode cX8_level 23 = .ok (.lload 6, 2) := by decide +kernel
theorem dX8_level_25 : decode cX8_level 25 = .ok (.lcmp, 1) := by decide +kernel
theorem dX8_level_26 : decode cX8_level 26 = .ok (.ifCond .ge 42, 3) := by decide +kernel
theorem dX8_level_29 : decode cX8_level 29 = .ok (.lload 4, 2) := by decide +kernel
theorem dX8_level_31 : decode cX8_level 31 = .ok (.lload 6, 2) := by decide +kernel
theorem dX8_level_33 : decode cX8_level 33 = .ok (.ladd, 1) := by decide +kernel
theorem dX8_level_34 : decode cX8_level 34 = .ok (.ldc2_w 115, 3) := by decide +kernel
theorem dX8_level_37 : decode cX8_level 37 = .ok (.ldiv, 1) := by decide +kernel
theorem dX8_level_38 : decode cX8_level 38 = .ok (.lstore 8, 2) := by decide +kernel
theorem dX8_level_40 : decode cX8_level 40 = .ok (.aload_n 0, 1) := by decide +kernel
theorem dX8_level_41 : decode cX8_level 41 = .ok (.iload_n 1, 1) := by decide +kernel
theorem dX8_level_42 : decode cX8_level 42 = .ok (.iload_n 2, 1) := by decide +kernel
theorem dX8_level_43 : decode cX8_level 43 = .ok (.lload 8, 2) := by decide +kernel
theorem dX8_level_45 : decode cX8_level 45 = .ok (.iload_n 3, 1) := by decide +kernel
theorem dX8_level_46 : decode cX8_level 46 = .ok (.invokevirtual 117, 3) := by decide +kernel
theorem dX8_level_49 : decode cX8_level 49 = .ok (.ifCond .eq 10, 3) := by decide +kernel
theorem dX8_level_52 : decode cX8_level 52 = .ok (.lload 8, 2) := by decide +kernel
theorem dX8_level_54 : decode cX8_level 54 = .ok (.lstore 6, 2) := by decide +kernel
theorem dX8_level_56 : decode cX8_level 56 = .ok (.goto 9, 3) := by decide +kernel
theorem dX8_level_59 : decode cX8_level 59 = .ok (.lload 8, 2) := by decide +kernel
theorem dX8_level_61 : decode cX8_level 61 = .ok (.lconst 1, 1) := by decide +kernel
theorem dX8_level_62 : decode cX8_level 62 = .ok (.ladd, 1) := by decide +kernel
theorem dX8_level_63 : decode cX8_level 63 = .ok (.lstore 4, 2) := by decide +kernel
theorem dX8_level_65 : decode cX8_level 65 = .ok (.goto (-44), 3) := by decide +kernel
theorem dX8_level_68 : decode cX8_level 68 = .ok (.lload 4, 2) := by decide +kernel
theorem dX8_level_70 : decode cX8_level 70 = .ok (.l2i, 1) := by decide +kernel
theorem dX8_level_71 : decode cX8_level 71 = .ok (.ireturn, 1) := by decide +kernel
set_option maxRecDepth 20000 in
theorem ggX8_fewestMonths_X8_suits : GoodIn wsX8_fewestMonths wsX8_suits := goodIn_r _ [5, 6, 7, 8, 4, 9, 10, 11, 12, 13, 14, 15, 16, 17, 18, 19, 20, 21, 22, 23, 24, 25, 26, 27, 28, 29, 30, 31, 32, 33, 34, 35, 36, 37, 38, 39, 40, 41, 42, 43, 44, 45, 46, 47, 48, 49, 50, 51, 52, 53, 54, 55, 56, 57, 58, 59, 60, 61, 62] (by decide +kernel) (by decide +kernel)
set_option maxRecDepth 20000 in
theorem gX8_fewestMonths_X8_suits : GoodIn wsX8_fewestMonths (wsV RX8 117 RX8 yX8_suits wsX8_suits) := goodIn_app (goodIn_of _ (by decide +kernel)) ggX8_fewestMonths_X8_suits
theorem dX8_fewestMonths_0 : decode cX8_fewestMonths 0 = .ok (.iconst 1, 1) := by decide +kernel
theorem dX8_fewestMonths_1 : decode cX8_fewestMonths 1 = .ok (.istore 4, 2) := by decide +kernel
theorem dX8_fewestMonths_3 : decode cX8_fewestMonths 3 = .ok (.iload 4, 2) := by decide +kernel
theorem dX8_fewestMonths_5 : decode cX8_fewestMonths 5 = .ok (.bipush 120, 2) := by decide +kernel
theorem dX8_fewestMonths_7 : decode cX8_fewestMonths 7 = .ok (.if_icmp .gt 25, 3) := by decide +kernel
theorem dX8_fewestMonths_10 : decode cX8_fewestMonths 10 = .ok (.aload_n 0, 1) := by decide +kernel
theorem dX8_fewestMonths_11 : decode cX8_fewestMonths 11 = .ok (.iload_n 1, 1) := by decide +kernel
theorem dX8_fewestMonths_12 : decode cX8_fewestMonths 12 = .ok (.iload_n 2, 1) := by decide +kernel
theorem dX8_fewestMonths_13 : decode cX8_fewestMonths 13 = .ok (.iload_n 3, 1) := by decide +kernel
theorem dX8_fewestMonths_14 : decode cX8_fewestMonths 14 = .ok (.i2l, 1) := by decide +kernel
theorem dX8_fewestMonths_15 : decode cX8_fewestMonths 15 = .ok (.iload 4, 2) := by decide +kernel
theorem dX8_fewestMonths_17 : decode cX8_fewestMonths 17 = .ok (.invokevirtual 117, 3) := by decide +kernel
theorem dX8_fewestMonths_20 : decode cX8_fewestMonths 20 = .ok (.ifCond .eq 6, 3) := by decide +kernel
theorem dX8_fewestMonths_23 : decode cX8_fewestMonths 23 = .ok (.iload 4, 2) := by decide +kernel
theorem dX8_fewestMonths_25 : decode cX8_fewestMonths 25 = .ok (.ireturn, 1) := by decide +kernel
theorem dX8_fewestMonths_26 : decode cX8_fewestMonths 26 = .ok (.iinc 4 1, 3) := by decide +kernel
theorem dX8_fewestMonths_29 : decode cX8_fewestMonths 29 = .ok (.goto (-26), 3) := by decide +kernel
theorem dX8_fewestMonths_32 : decode cX8_fewestMonths 32 = .ok (.iconst (-1), 1) := by decide +kernel
theorem dX8_fewestMonths_33 : decode cX8_fewestMonths 33 = .ok (.ireturn, 1) := by decide +kernel
set_option maxRecDepth 20000 in
theorem ggX8_calculate_X8_of : GoodIn wsX8_calculate wsX8_of := goodIn_r _ [5, 6, 43, 44, 45, 46, 47, 48, 49, 50, 51, 52, 53, 54, 55, 56, 57, 58, 59, 60, 61, 62, 63, 64, 65, 66, 67, 68, 69, 70, 71] (by decide +kernel) (by decide +kernel)
set_option maxRecDepth 20000 in
theorem gX8_calculate_X8_of : GoodIn wsX8_calculate (wsV RX8 70 RX8 yX8_of wsX8_of) := goodIn_app (goodIn_of _ (by decide +kernel)) ggX8_calculate_X8_of
set_option maxRecDepth 20000 in
theorem ggX8_calculate_X8_level : GoodIn wsX8_calculate wsX8_level := goodIn_r _ [10, 11, 12, 13, 14, 15, 4, 16, 1, 2, 3, 5, 6, 17, 18, 19, 20, 21, 22, 23, 24, 25, 26, 27, 28, 29, 30, 31, 32, 33, 34, 35, 36, 37, 38, 43, 44, 45, 46, 47, 48, 49, 50, 51, 52, 53, 54, 55, 56, 57, 58, 59, 60, 61, 62, 63, 64, 65, 66, 67, 68, 69, 70, 71] (by decide +kernel) (by decide +kernel)
set_option maxRecDepth 20000 in
theorem gX8_calculate_X8_level : GoodIn wsX8_calculate (wsV RX8 121 RX8 yX8_level wsX8_level) := goodIn_app (goodIn_of _ (by decide +kernel)) ggX8_calculate_X8_level
set_option maxRecDepth 20000 in
theorem ggX8_calculate_X8_put : GoodIn wsX8_calculate wsX8_put := goodIn_r _ [42, 6, 43, 44, 45, 46, 47, 48, 49, 50, 51, 52, 53, 54, 55, 56, 57, 58, 59, 60, 61, 62, 63, 64, 65, 66, 67, 68, 69, 70, 71] (by decide +kernel) (by decide +kernel)
set_option maxRecDepth 20000 in
theorem gX8_calculate_X8_put : GoodIn wsX8_calculate (wsV RX8 74 RX8 yX8_put wsX8_put) := goodIn_app (goodIn_of _ (by decide +kernel)) ggX8_calculate_X8_put
theorem dX8_calculate_0 : decode cX8_calculate 0 = .ok (.aload_n 0, 1) := by decide +kernel
theorem dX8_calculate_1 : decode cX8_calculate 1 = .ok (.iload_n 1, 1) := by decide +kernel
theorem dX8_calculate_2 : decode cX8_calculate 2 = .ok (.iconst 4, 1) := by decide +kernel
theorem dX8_calculate_3 : decode cX8_calculate 3 = .ok (.aload_n 0, 1) := by decide +kernel
theorem dX8_calculate_4 : decode cX8_calculate 4 = .ok (.iload_n 1, 1) := by decide +kernel
theorem dX8_calculate_5 : decode cX8_calculate 5 = .ok (.aload_n 0, 1) := by decide +kernel
theorem dX8_calculate_6 : decode cX8_calculate 6 = .ok (.iload_n 1, 1) := by decide +kernel
theorem dX8_calculate_7 : decode cX8_calculate 7 = .ok (.iconst 2, 1) := by decide +kernel
theorem dX8_calculate_8 : decode cX8_calculate 8 = .ok (.invokevirtual 70, 3) := by decide +kernel
theorem dX8_calculate_11 : decode cX8_calculate 11 = .ok (.aload_n 0, 1) := by decide +kernel
theorem dX8_calculate_12 : decode cX8_calculate 12 = .ok (.iload_n 1, 1) := by decide +kernel
theorem dX8_calculate_13 : decode cX8_calculate 13 = .ok (.iconst 3, 1) := by decide +kernel
theorem dX8_calculate_14 : decode cX8_calculate 14 = .ok (.invokevirtual 70, 3) := by decide +kernel
theorem dX8_calculate_17 : decode cX8_calculate 17 = .ok (.invokevirtual 121, 3) := by decide +kernel
theorem dX8_calculate_20 : decode cX8_calculate 20 = .ok (.invokevirtual 74, 3) := by decide +kernel
theorem dX8_calculate_23 : decode cX8_calculate 23 = .ok (.return_, 1) := by decide +kernel
set_option maxRecDepth 20000 in
theorem ggX8_nextMonth_X8_beginWith : GoodIn wsX8_nextMonth wsX8_beginWith := goodIn_r _ [5, 6, 7, 8, 4, 9, 10, 11, 12, 13, 14, 15, 16, 17, 18, 19, 20, 26, 27, 28, 29, 30, 31, 32, 33, 34, 35, 36, 37, 38, 39, 40, 41, 42, 43, 44, 45, 46, 47, 48, 49, 50, 51, 52, 53, 54] (by decide +kernel) (by decide +kernel)
set_option maxRecDepth 20000 in
theorem gX8_nextMonth_X8_beginWith : GoodIn wsX8_nextMonth (wsV RX8 107 RX8 yX8_beginWith wsX8_beginWith) := goodIn_app (goodIn_of _ (by decide +kernel)) ggX8_nextMonth_X8_beginWith
set_option maxRecDepth 20000 in
theorem ggX8_nextMonth_X8_of : GoodIn wsX8_nextMonth wsX8_of := goodIn_r _ [9, 10, 26, 27, 28, 29, 30, 31, 32, 33, 34, 35, 36, 37, 38, 39, 40, 41, 42, 43, 44, 45, 46, 47, 48, 49, 50, 51, 52, 53, 54] (by decide +kernel) (by decide +kernel)
set_option maxRecDepth 20000 in
theorem gX8_nextMonth_X8_of : GoodIn wsX8_nextMonth (wsV RX8 70 RX8 yX8_of wsX8_of) := goodIn_app (goodIn_of _ (by decide +kernel)) ggX8_nextMonth_X8_of
set_option maxRecDepth 20000 in
theorem ggX8_nextMonth_X8_step : GoodIn wsX8_nextMonth wsX8_step := goodIn_r _ [24, 15, 16, 25, 20, 19, 18, 17, 26, 27, 28, 29, 30, 31, 32, 33, 34, 35, 36, 37, 38, 39, 40, 41, 42, 43, 44, 45, 46, 47, 48, 49, 50, 51, 52, 53, 54] (by decide +kernel) (by decide +kernel)
set_option maxRecDepth 20000 in
theorem gX8_nextMonth_X8_step : GoodIn wsX8_nextMonth (wsV RX8 103 RX8 yX8_step wsX8_step) := goodIn_app (goodIn_of _ (by decide +kernel)) ggX8_nextMonth_X8_step
theorem dX8_nextMonth_0 : decode cX8_nextMonth 0 = .ok (.aload_n 0, 1) := by decide +kernel
theorem dX8_nextMonth_1 : decode cX8_nextMonth 1 = .ok (.iload_n 1, 1) := by decide +kernel
theorem dX8_nextMonth_2 : decode cX8_nextMonth 2 = .ok (.invokevirtual 107, 3) := by decide +kernel
theorem dX8_nextMonth_5 : decode cX8_nextMonth 5 = .ok (.aload_n 0, 1) := by decide +kernel
theorem dX8_nextMonth_6 : decode cX8_nextMonth 6 = .ok (.aload_n 0, 1) := by decide +kernel
theorem dX8_nextMonth_7 : decode cX8_nextMonth 7 = .ok (.iload_n 1, 1) := by decide +kernel
theorem dX8_nextMonth_8 : decode cX8_nextMonth 8 = .ok (.iconst 2, 1) := by decide +kernel
theorem dX8_nextMonth_9 : decode cX8_nextMonth 9 = .ok (.invokevirtual 70, 3) := by decide +kernel
theorem dX8_nextMonth_12 : decode cX8_nextMonth 12 = .ok (.aload_n 0, 1) := by decide +kernel
theorem dX8_nextMonth_13 : decode cX8_nextMonth 13 = .ok (.iload_n 1, 1) := by decide +kernel
theorem dX8_nextMonth_14 : decode cX8_nextMonth 14 = .ok (.iconst 4, 1) := by decide +kernel
theorem dX8_nextMonth_15 : decode cX8_nextMonth 15 = .ok (.invokevirtual 70, 3) := by decide +kernel
theorem dX8_nextMonth_18 : decode cX8_nextMonth 18 = .ok (.i2l, 1) := by decide +kernel
theorem dX8_nextMonth_19 : decode cX8_nextMonth 19 = .ok (.aload_n 0, 1) := by decide +kernel
theorem dX8_nextMonth_20 : decode cX8_nextMonth 20 = .ok (.iload_n 1, 1) := by decide +kernel
theorem dX8_nextMonth_21 : decode cX8_nextMonth 21 = .ok (.iconst 3, 1) := by decide +kernel
theorem dX8_nextMonth_22 : decode cX8_nextMonth 22 = .ok (.invokevirtual 70, 3) := by decide +kernel
theorem dX8_nextMonth_25 : decode cX8_nextMonth 25 = .ok (.invokevirtual 103, 3) := by decide +kernel
theorem dX8_nextMonth_28 : decode cX8_nextMonth 28 = .ok (.return_, 1) := by decide +kernel
set_option maxRecDepth 20000 in
theorem ggX8_ahead_X8_beginWith : GoodIn wsX8_ahead wsX8_beginWith := goodIn_r _ [5, 6, 7, 8, 4, 9, 10, 11, 12, 13, 14, 15, 16, 17, 18, 19, 20, 30, 31, 32, 33, 34, 35, 36, 37, 38, 39, 40, 41, 42, 43, 44, 45, 46, 47, 48, 49, 50, 51, 52, 53, 54, 55, 56, 57, 58] (by decide +kernel) (by decide +kernel)
set_option maxRecDepth 20000 in
theorem gX8_ahead_X8_beginWith : GoodIn wsX8_ahead (wsV RX8 107 RX8 yX8_beginWith wsX8_beginWith) := goodIn_app (goodIn_of _ (by decide +kernel)) ggX8_ahead_X8_beginWith
set_option maxRecDepth 20000 in
theorem ggX8_ahead_X8_of : GoodIn wsX8_ahead wsX8_of := goodIn_r _ [9, 10, 30, 31, 32, 33, 34, 35, 36, 37, 38, 39, 40, 41, 42, 43, 44, 45, 46, 47, 48, 49, 50, 51, 52, 53, 54, 55, 56, 57, 58] (by decide +kernel) (by decide +kernel)
set_option maxRecDepth 20000 in
theorem gX8_ahead_X8_of : GoodIn wsX8_ahead (wsV RX8 70 RX8 yX8_of wsX8_of) := goodIn_app (goodIn_of _ (by decide +kernel)) ggX8_ahead_X8_of
set_option maxRecDepth 20000 in
theorem ggX8_ahead_X8_walkAll : GoodIn wsX8_ahead wsX8_walkAll := goodIn_r _ [24, 15, 19, 25, 26, 27, 4, 28, 16, 29, 20, 18, 17, 30, 31, 32, 33, 34, 35, 36, 37, 38, 39, 40, 41, 42, 43, 44, 45, 46, 47, 48, 49, 50, 51, 52, 53, 54, 55, 56, 57, 58] (by decide +kernel) (by decide +kernel)
set_option maxRecDepth 20000 in
theorem gX8_ahead_X8_walkAll : GoodIn wsX8_ahead (wsV RX8 111 RX8 yX8_walkAll wsX8_walkAll) := goodIn_app (goodIn_of _ (by decide +kernel)) ggX8_ahead_X8_walkAll
theorem dX8_ahead_0 : decode cX8_ahead 0 = .ok (.aload_n 0, 1) := by decide +kernel
theorem dX8_ahead_1 : decode cX8_ahead 1 = .ok (.iload_n 1, 1) := by decide +kernel
theorem dX8_ahead_2 : decode cX8_ahead 2 = .ok (.invokevirtual 107, 3) := by decide +kernel
theorem dX8_ahead_5 : decode cX8_ahead 5 = .ok (.aload_n 0, 1) := by decide +kernel
theorem dX8_ahead_6 : decode cX8_ahead 6 = .ok (.aload_n 0, 1) := by decide +kernel
theorem dX8_ahead_7 : decode cX8_ahead 7 = .ok (.iload_n 1, 1) := by decide +kernel
theorem dX8_ahead_8 : decode cX8_ahead 8 = .ok (.iconst 2, 1) := by decide +kernel
theorem dX8_ahead_9 : decode cX8_ahead 9 = .ok (.invokevirtual 70, 3) := by decide +kernel
theorem dX8_ahead_12 : decode cX8_ahead 12 = .ok (.aload_n 0, 1) := by decide +kernel
theorem dX8_ahead_13 : decode cX8_ahead 13 = .ok (.iload_n 1, 1) := by decide +kernel
theorem dX8_ahead_14 : decode cX8_ahead 14 = .ok (.iconst 4, 1) := by decide +kernel
theorem dX8_ahead_15 : decode cX8_ahead 15 = .ok (.invokevirtual 70, 3) := by decide +kernel
theorem dX8_ahead_18 : decode cX8_ahead 18 = .ok (.i2l, 1) := by decide +kernel
theorem dX8_ahead_19 : decode cX8_ahead 19 = .ok (.aload_n 0, 1) := by decide +kernel
theorem dX8_ahead_20 : decode cX8_ahead 20 = .ok (.iload_n 1, 1) := by decide +kernel
theorem dX8_ahead_21 : decode cX8_ahead 21 = .ok (.iconst 3, 1) := by decide +kernel
theorem dX8_ahead_22 : decode cX8_ahead 22 = .ok (.invokevirtual 70, 3) := by decide +kernel
theorem dX8_ahead_25 : decode cX8_ahead 25 = .ok (.invokevirtual 111, 3) := by decide +kernel
theorem dX8_ahead_28 : decode cX8_ahead 28 = .ok (.l2i, 1) := by decide +kernel
theorem dX8_ahead_29 : decode cX8_ahead 29 = .ok (.ireturn, 1) := by decide +kernel
set_option maxRecDepth 20000 in
theorem ggX8_costAhead_X8_ahead : GoodIn wsX8_costAhead wsX8_ahead := goodIn_r _ [6, 7, 8, 9, 5, 10, 11, 12, 13, 14, 15, 16, 17, 18, 19, 20, 21, 22, 1, 23, 24, 25, 26, 27, 28, 29, 30, 31, 32, 33, 34, 35, 36, 37, 38, 39, 40, 41, 42, 43, 44, 45, 46, 47, 48, 49, 50, 51, 52, 53, 54, 55, 56, 57, 58, 59, 60, 61, 62] (by decide +kernel) (by decide +kernel)
set_option maxRecDepth 20000 in
theorem gX8_costAhead_X8_ahead : GoodIn wsX8_costAhead (wsV RX8 124 RX8 yX8_ahead wsX8_ahead) := goodIn_app (goodIn_of _ (by decide +kernel)) ggX8_costAhead_X8_ahead
theorem dX8_costAhead_0 : decode cX8_costAhead 0 = .ok (.aload_n 0, 1) := by decide +kernel
theorem dX8_costAhead_1 : decode cX8_costAhead 1 = .ok (.iload_n 1, 1) := by decide +kernel
theorem dX8_costAhead_2 : decode cX8_costAhead 2 = .ok (.invokevirtual 124, 3) := by decide +kernel
theorem dX8_costAhead_5 : decode cX8_costAhead 5 = .ok (.istore_n 2, 1) := by decide +kernel
theorem dX8_costAhead_6 : decode cX8_costAhead 6 = .ok (.iload_n 2, 1) := by decide +kernel
theorem dX8_costAhead_7 : decode cX8_costAhead 7 = .ok (.ifCond .ge 7, 3) := by decide +kernel
theorem dX8_costAhead_10 : decode cX8_costAhead 10 = .ok (.iconst (-1), 1) := by decide +kernel
theorem dX8_costAhead_11 : decode cX8_costAhead 11 = .ok (.goto 8, 3) := by decide +kernel
theorem dX8_costAhead_14 : decode cX8_costAhead 14 = .ok (.aload_n 0, 1) := by decide +kernel
theorem dX8_costAhead_15 : decode cX8_costAhead 15 = .ok (.getfield 88, 3) := by decide +kernel
theorem dX8_costAhead_18 : decode cX8_costAhead 18 = .ok (.l2i, 1) := by decide +kernel
theorem dX8_costAhead_19 : decode cX8_costAhead 19 = .ok (.ireturn, 1) := by decide +kernel
set_option maxRecDepth 20000 in
theorem ggX8_makeLoan_X8_put : GoodIn wsX8_makeLoan wsX8_put := goodIn_r _ [6, 1, 47, 48, 49, 50, 51, 52, 53, 54, 55, 56, 57, 58, 59, 60, 61, 62, 63, 64, 65, 66, 67, 68, 69, 70, 71, 72, 73, 74, 75] (by decide +kernel) (by decide +kernel)
set_option maxRecDepth 20000 in
theorem gX8_makeLoan_X8_put : GoodIn wsX8_makeLoan (wsV RX8 74 RX8 yX8_put wsX8_put) := goodIn_app (goodIn_of _ (by decide +kernel)) ggX8_makeLoan_X8_put
set_option maxRecDepth 20000 in
theorem ggX8_makeLoan_X8_calculate : GoodIn wsX8_makeLoan wsX8_calculate := goodIn_r _ [10, 11, 12, 13, 5, 14, 1, 15, 16, 17, 18, 19, 20, 21, 22, 23, 24, 25, 26, 27, 28, 29, 30, 31, 32, 33, 34, 35, 36, 37, 38, 39, 40, 41, 42, 43, 44, 45, 46, 2, 3, 4, 6, 47, 48, 49, 50, 51, 52, 53, 54, 55, 56, 57, 58, 59, 60, 61, 62, 63, 64, 65, 66, 67, 68, 69, 70, 71, 72, 73, 74, 75] (by decide +kernel) (by decide +kernel)
set_option maxRecDepth 20000 in
theorem gX8_makeLoan_X8_calculate : GoodIn wsX8_makeLoan (wsV RX8 127 RX8 yX8_calculate wsX8_calculate) := goodIn_app (goodIn_of _ (by decide +kernel)) ggX8_makeLoan_X8_calculate
theorem dX8_makeLoan_0 : decode cX8_makeLoan 0 = .ok (.aload_n 0, 1) := by decide +kernel
theorem dX8_makeLoan_1 : decode cX8_makeLoan 1 = .ok (.getfield 9, 3) := by decide +kernel
theorem dX8_makeLoan_4 : decode cX8_makeLoan 4 = .ok (.iconst 0, 1) := by decide +kernel
theorem dX8_makeLoan_5 : decode cX8_makeLoan 5 = .ok (.iaload, 1) := by decide +kernel
theorem dX8_makeLoan_6 : decode cX8_makeLoan 6 = .ok (.istore 4, 2) := by decide +kernel
theorem dX8_makeLoan_8 : decode cX8_makeLoan 8 = .ok (.iconst 0, 1) := by decide +kernel
theorem dX8_makeLoan_9 : decode cX8_makeLoan 9 = .ok (.istore 5, 2) := by decide +kernel
theorem dX8_makeLoan_11 : decode cX8_makeLoan 11 = .ok (.iload 5, 2) := by decide +kernel
theorem dX8_makeLoan_13 : decode cX8_makeLoan 13 = .ok (.bipush 10, 2) := by decide +kernel
theorem dX8_makeLoan_15 : decode cX8_makeLoan 15 = .ok (.if_icmp .ge 18, 3) := by decide +kernel
theorem dX8_makeLoan_18 : decode cX8_makeLoan 18 = .ok (.aload_n 0, 1) := by decide +kernel
theorem dX8_makeLoan_19 : decode cX8_makeLoan 19 = .ok (.iload 4, 2) := by decide +kernel
theorem dX8_makeLoan_21 : decode cX8_makeLoan 21 = .ok (.iload 5, 2) := by decide +kernel
theorem dX8_makeLoan_23 : decode cX8_makeLoan 23 = .ok (.iconst 0, 1) := by decide +kernel
theorem dX8_makeLoan_24 : decode cX8_makeLoan 24 = .ok (.invokevirtual 74, 3) := by decide +kernel
theorem dX8_makeLoan_27 : decode cX8_makeLoan 27 = .ok (.iinc 5 1, 3) := by decide +kernel
theorem dX8_makeLoan_30 : decode cX8_makeLoan 30 = .ok (.goto (-19), 3) := by decide +kernel
theorem dX8_makeLoan_33 : decode cX8_makeLoan 33 = .ok (.aload_n 0, 1) := by decide +kernel
theorem dX8_makeLoan_34 : decode cX8_makeLoan 34 = .ok (.iload 4, 2) := by decide +kernel
theorem dX8_makeLoan_36 : decode cX8_makeLoan 36 = .ok (.iconst 0, 1) := by decide +kernel
theorem dX8_makeLoan_37 : decode cX8_makeLoan 37 = .ok (.iload_n 1, 1) := by decide +kernel
theorem dX8_makeLoan_38 : decode cX8_makeLoan 38 = .ok (.invokevirtual 74, 3) := by decide +kernel
theorem dX8_makeLoan_41 : decode cX8_makeLoan 41 = .ok (.aload_n 0, 1) := by decide +kernel
theorem dX8_makeLoan_42 : decode cX8_makeLoan 42 = .ok (.iload 4, 2) := by decide +kernel
theorem dX8_makeLoan_44 : decode cX8_makeLoan 44 = .ok (.iconst 1, 1) := by decide +kernel
theorem dX8_makeLoan_45 : decode cX8_makeLoan 45 = .ok (.iload_n 1, 1) := by decide +kernel
theorem dX8_makeLoan_46 : decode cX8_makeLoan 46 = .ok (.invokevirtual 74, 3) := by decide +kernel
theorem dX8_makeLoan_49 : decode cX8_makeLoan 49 = .ok (.aload_n 0, 1) := by decide +kernel
theorem dX8_makeLoan_50 : decode cX8_makeLoan 50 = .ok (.iload 4, 2) := by decide +kernel
theorem dX8_makeLoan_52 : decode cX8_makeLoan 52 = .ok (.iconst 2, 1) := by decide +kernel
theorem dX8_makeLoan_53 : decode cX8_makeLoan 53 = .ok (.iload_n 2, 1) := by decide +kernel
theorem dX8_makeLoan_54 : decode cX8_makeLoan 54 = .ok (.invokevirtual 74, 3) := by decide +kernel
theorem dX8_makeLoan_57 : decode cX8_makeLoan 57 = .ok (.aload_n 0, 1) := by decide +kernel
theorem dX8_makeLoan_58 : decode cX8_makeLoan 58 = .ok (.iload 4, 2) := by decide +kernel
theorem dX8_makeLoan_60 : decode cX8_makeLoan 60 = .ok (.iconst 3, 1) := by decide +kernel
theorem dX8_makeLoan_61 : decode cX8_makeLoan 61 = .ok (.iload_n 3, 1) := by decide +kernel
theorem dX8_makeLoan_62 : decode cX8_makeLoan 62 = .ok (.invokevirtual 74, 3) := by decide +kernel
theorem dX8_makeLoan_65 : decode cX8_makeLoan 65 = .ok (.aload_n 0, 1) := by decide +kernel
theorem dX8_makeLoan_66 : decode cX8_makeLoan 66 = .ok (.getfield 9, 3) := by decide +kernel
theorem dX8_makeLoan_69 : decode cX8_makeLoan 69 = .ok (.iconst 0, 1) := by decide +kernel
theorem dX8_makeLoan_70 : decode cX8_makeLoan 70 = .ok (.dup2, 1) := by decide +kernel
theorem dX8_makeLoan_71 : decode cX8_makeLoan 71 = .ok (.iaload, 1) := by decide +kernel
theorem dX8_makeLoan_72 : decode cX8_makeLoan 72 = .ok (.iconst 1, 1) := by decide +kernel
theorem dX8_makeLoan_73 : decode cX8_makeLoan 73 = .ok (.iadd, 1) := by decide +kernel
theorem dX8_makeLoan_74 : decode cX8_makeLoan 74 = .ok (.iastore, 1) := by decide +kernel
theorem dX8_makeLoan_75 : decode cX8_makeLoan 75 = .ok (.aload_n 0, 1) := by decide +kernel
theorem dX8_makeLoan_76 : decode cX8_makeLoan 76 = .ok (.iload 4, 2) := by decide +kernel
theorem dX8_makeLoan_78 : decode cX8_makeLoan 78 = .ok (.invokevirtual 127, 3) := by decide +kernel
theorem dX8_makeLoan_81 : decode cX8_makeLoan 81 = .ok (.iload 4, 2) := by decide +kernel
theorem dX8_makeLoan_83 : decode cX8_makeLoan 83 = .ok (.ireturn, 1) := by decide +kernel
theorem dX8_book_0 : decode cX8_book 0 = .ok (.bipush 59, 2) := by decide +kernel
theorem dX8_book_2 : decode cX8_book 2 = .ok (.istore 4, 2) := by decide +kernel
theorem dX8_book_4 : decode cX8_book 4 = .ok (.iload 4, 2) := by decide +kernel
theorem dX8_book_6 : decode cX8_book 6 = .ok (.iconst 3, 1) := by decide +kernel
theorem dX8_book_7 : decode cX8_book 7 = .ok (.if_icmp .lt 29, 3) := by decide +kernel
theorem dX8_book_10 : decode cX8_book 10 = .ok (.aload_n 0, 1) := by decide +kernel
theorem dX8_book_11 : decode cX8_book 11 = .ok (.getfield 9, 3) := by decide +kernel
theorem dX8_book_14 : decode cX8_book 14 = .ok (.iconst 2, 1) := by decide +kernel
theorem dX8_book_15 : decode cX8_book 15 = .ok (.iload 4, 2) := by decide +kernel
theorem dX8_book_17 : decode cX8_book 17 = .ok (.iadd, 1) := by decide +kernel
theorem dX8_book_18 : decode cX8_book 18 = .ok (.aload_n 0, 1) := by decide +kernel
theorem dX8_book_19 : decode cX8_book 19 = .ok (.getfield 9, 3) := by decide +kernel
theorem dX8_book_22 : decode cX8_book 22 = .ok (.iconst 2, 1) := by decide +kernel
theorem dX8_book_23 : decode cX8_book 23 = .ok (.iload 4, 2) := by decide +kernel
theorem dX8_book_25 : decode cX8_book 25 = .ok (.iadd, 1) := by decide +kernel
theorem dX8_book_26 : decode cX8_book 26 = .ok (.iconst 3, 1) := by decide +kernel
theorem dX8_book_27 : decode cX8_book 27 = .ok (.isub, 1) := by decide +kernel
theorem dX8_book_28 : decode cX8_book 28 = .ok (.iaload, 1) := by decide +kernel
theorem dX8_book_29 : decode cX8_book 29 = .ok (.iastore, 1) := by decide +kernel
theorem dX8_book_30 : decode cX8_book 30 = .ok (.iinc 4 (-1), 3) := by decide +kernel
theorem dX8_book_33 : decode cX8_book 33 = .ok (.goto (-29), 3) := by decide +kernel
theorem dX8_book_36 : decode cX8_book 36 = .ok (.aload_n 0, 1) := by decide +kernel
theorem dX8_book_37 : decode cX8_book 37 = .ok (.getfield 9, 3) := by decide +kernel
theorem dX8_book_40 : decode cX8_book 40 = .ok (.iconst 2, 1) := by decide +kernel
theorem dX8_book_41 : decode cX8_book 41 = .ok (.iload_n 1, 1) := by decide +kernel
theorem dX8_book_42 : decode cX8_book 42 = .ok (.iastore, 1) := by decide +kernel
theorem dX8_book_43 : decode cX8_book 43 = .ok (.aload_n 0, 1) := by decide +kernel
theorem dX8_book_44 : decode cX8_book 44 = .ok (.getfield 9, 3) := by decide +kernel
theorem dX8_book_47 : decode cX8_book 47 = .ok (.iconst 3, 1) := by decide +kernel
theorem dX8_book_48 : decode cX8_book 48 = .ok (.iload_n 2, 1) := by decide +kernel
theorem dX8_book_49 : decode cX8_book 49 = .ok (.iastore, 1) := by decide +kernel
theorem dX8_book_50 : decode cX8_book 50 = .ok (.aload_n 0, 1) := by decide +kernel
theorem dX8_book_51 : decode cX8_book 51 = .ok (.getfield 9, 3) := by decide +kernel
theorem dX8_book_54 : decode cX8_book 54 = .ok (.iconst 4, 1) := by decide +kernel
theorem dX8_book_55 : decode cX8_book 55 = .ok (.iload_n 3, 1) := by decide +kernel
theorem dX8_book_56 : decode cX8_book 56 = .ok (.iastore, 1) := by decide +kernel
theorem dX8_book_57 : decode cX8_book 57 = .ok (.aload_n 0, 1) := by decide +kernel
theorem dX8_book_58 : decode cX8_book 58 = .ok (.getfield 9, 3) := by decide +kernel
theorem dX8_book_61 : decode cX8_book 61 = .ok (.iconst 1, 1) := by decide +kernel
theorem dX8_book_62 : decode cX8_book 62 = .ok (.dup2, 1) := by decide +kernel
theorem dX8_book_63 : decode cX8_book 63 = .ok (.iaload, 1) := by decide +kernel
theorem dX8_book_64 : decode cX8_book 64 = .ok (.aload_n 0, 1) := by decide +kernel
theorem dX8_book_65 : decode cX8_book 65 = .ok (.getfield 9, 3) := by decide +kernel
theorem dX8_book_68 : decode cX8_book 68 = .ok (.iconst 1, 1) := by decide +kernel
theorem dX8_book_69 : decode cX8_book 69 = .ok (.iaload, 1) := by decide +kernel
theorem dX8_book_70 : decode cX8_book 70 = .ok (.bipush 20, 2) := by decide +kernel
theorem dX8_book_72 : decode cX8_book 72 = .ok (.if_icmp .ge 7, 3) := by decide +kernel
theorem dX8_book_75 : decode cX8_book 75 = .ok (.iconst 1, 1) := by decide +kernel
theorem dX8_book_76 : decode cX8_book 76 = .ok (.goto 4, 3) := by decide +kernel
theorem dX8_book_79 : decode cX8_book 79 = .ok (.iconst 0, 1) := by decide +kernel
theorem dX8_book_80 : decode cX8_book 80 = .ok (.iadd, 1) := by decide +kernel
theorem dX8_book_81 : decode cX8_book 81 = .ok (.iastore, 1) := by decide +kernel
theorem dX8_book_82 : decode cX8_book 82 = .ok (.return_, 1) := by decide +kernel
set_option maxRecDepth 20000 in
theorem ggX8_closeIfPaid_X8_isRunning : GoodIn wsX8_closeIfPaid wsX8_isRunning := goodIn_r _ [5, 6, 7, 8, 4, 9, 10, 15, 16, 17, 18, 19, 20, 21, 22, 23, 24, 25, 26, 27, 28, 29, 30, 31, 32, 33, 34, 35, 36, 37, 38, 39, 40, 41, 42, 43] (by decide +kernel) (by decide +kernel)
set_option maxRecDepth 20000 in
theorem gX8_closeIfPaid_X8_isRunning : GoodIn wsX8_closeIfPaid (wsV RX8 130 RX8 yX8_isRunning wsX8_isRunning) := goodIn_app (goodIn_of _ (by decide +kernel)) ggX8_closeIfPaid_X8_isRunning
set_option maxRecDepth 20000 in
theorem ggX8_closeIfPaid_X8_put : GoodIn wsX8_closeIfPaid wsX8_put := goodIn_r _ [14, 10, 15, 16, 17, 18, 19, 20, 21, 22, 23, 24, 25, 26, 27, 28, 29, 30, 31, 32, 33, 34, 35, 36, 37, 38, 39, 40, 41, 42, 43] (by decide +kernel) (by decide +kernel)
set_option maxRecDepth 20000 in
theorem gX8_closeIfPaid_X8_put : GoodIn wsX8_closeIfPaid (wsV RX8 74 RX8 yX8_put wsX8_put) := goodIn_app (goodIn_of _ (by decide +kernel)) ggX8_closeIfPaid_X8_put
theorem dX8_closeIfPaid_0 : decode cX8_closeIfPaid 0 = .ok (.aload_n 0, 1) := by decide +kernel
theorem dX8_closeIfPaid_1 : decode cX8_closeIfPaid 1 = .ok (.iload_n 1, 1) := by decide +kernel
theorem dX8_closeIfPaid_2 : decode cX8_closeIfPaid 2 = .ok (.invokevirtual 130, 3) := by decide +kernel
theorem dX8_closeIfPaid_5 : decode cX8_closeIfPaid 5 = .ok (.ifCond .ne 24, 3) := by decide +kernel
theorem dX8_closeIfPaid_8 : decode cX8_closeIfPaid 8 = .ok (.aload_n 0, 1) := by decide +kernel
theorem dX8_closeIfPaid_9 : decode cX8_closeIfPaid 9 = .ok (.iload_n 1, 1) := by decide +kernel
theorem dX8_closeIfPaid_10 : decode cX8_closeIfPaid 10 = .ok (.iconst 3, 1) := by decide +kernel
theorem dX8_closeIfPaid_11 : decode cX8_closeIfPaid 11 = .ok (.iconst 0, 1) := by decide +kernel
theorem dX8_closeIfPaid_12 : decode cX8_closeIfPaid 12 = .ok (.invokevirtual 74, 3) := by decide +kernel
theorem dX8_closeIfPaid_15 : decode cX8_closeIfPaid 15 = .ok (.aload_n 0, 1) := by decide +kernel
theorem dX8_closeIfPaid_16 : decode cX8_closeIfPaid 16 = .ok (.iload_n 1, 1) := by decide +kernel
theorem dX8_closeIfPaid_17 : decode cX8_closeIfPaid 17 = .ok (.iconst 4, 1) := by decide +kernel
theorem dX8_closeIfPaid_18 : decode cX8_closeIfPaid 18 = .ok (.iconst 0, 1) := by decide +kernel
theorem dX8_closeIfPaid_19 : decode cX8_closeIfPaid 19 = .ok (.invokevirtual 74, 3) := by decide +kernel
theorem dX8_closeIfPaid_22 : decode cX8_closeIfPaid 22 = .ok (.aload_n 0, 1) := by decide +kernel
theorem dX8_closeIfPaid_23 : decode cX8_closeIfPaid 23 = .ok (.iload_n 1, 1) := by decide +kernel
theorem dX8_closeIfPaid_24 : decode cX8_closeIfPaid 24 = .ok (.iconst 5, 1) := by decide +kernel
theorem dX8_closeIfPaid_25 : decode cX8_closeIfPaid 25 = .ok (.iconst 0, 1) := by decide +kernel
theorem dX8_closeIfPaid_26 : decode cX8_closeIfPaid 26 = .ok (.invokevirtual 74, 3) := by decide +kernel
theorem dX8_closeIfPaid_29 : decode cX8_closeIfPaid 29 = .ok (.return_, 1) := by decide +kernel
set_option maxRecDepth 20000 in
theorem ggX8_payOne_X8_nextMonth : GoodIn wsX8_payOne wsX8_nextMonth := goodIn_r _ [9, 10, 11, 12, 8, 13, 14, 15, 16, 17, 18, 19, 20, 21, 22, 2, 3, 23, 24, 1, 4, 25, 26, 27, 28, 29, 50, 51, 52, 53, 54, 55, 56, 57, 58, 59, 60, 61, 62, 63, 64, 65, 66, 67, 68, 69, 70, 71, 72, 73, 74, 75, 76, 77, 78] (by decide +kernel) (by decide +kernel)
set_option maxRecDepth 20000 in
theorem gX8_payOne_X8_nextMonth : GoodIn wsX8_payOne (wsV RX8 134 RX8 yX8_nextMonth wsX8_nextMonth) := goodIn_app (goodIn_of _ (by decide +kernel)) ggX8_payOne_X8_nextMonth
set_option maxRecDepth 20000 in
theorem ggX8_payOne_X8_put : GoodIn wsX8_payOne wsX8_put := goodIn_r _ [33, 18, 50, 51, 52, 53, 54, 55, 56, 57, 58, 59, 60, 61, 62, 63, 64, 65, 66, 67, 68, 69, 70, 71, 72, 73, 74, 75, 76, 77, 78] (by decide +kernel) (by decide +kernel)
set_option maxRecDepth 20000 in
theorem gX8_payOne_X8_put : GoodIn wsX8_payOne (wsV RX8 74 RX8 yX8_put wsX8_put) := goodIn_app (goodIn_of _ (by decide +kernel)) ggX8_payOne_X8_put
set_option maxRecDepth 20000 in
theorem ggX8_payOne_X8_grow : GoodIn wsX8_payOne wsX8_grow := goodIn_r _ [37, 14, 15, 16, 8, 17, 18, 30, 31, 32, 33, 50, 51, 52, 53, 54, 55, 56, 57, 58, 59, 60, 61, 62, 63, 64, 65, 66, 67, 68, 69, 70, 71, 72, 73, 74, 75, 76, 77, 78] (by decide +kernel) (by decide +kernel)
set_option maxRecDepth 20000 in
theorem gX8_payOne_X8_grow : GoodIn wsX8_payOne (wsV RX8 137 RX8 yX8_grow wsX8_grow) := goodIn_app (goodIn_of _ (by decide +kernel)) ggX8_payOne_X8_grow
set_option maxRecDepth 20000 in
theorem ggX8_payOne_X8_book : GoodIn wsX8_payOne wsX8_book := goodIn_r _ [41, 18, 50, 51, 52, 53, 54, 55, 56, 57, 58, 59, 60, 61, 62, 63, 64, 65, 66, 67, 68, 69, 70, 71, 72, 73, 74, 75, 76, 77, 78] (by decide +kernel) (by decide +kernel)
set_option maxRecDepth 20000 in
theorem gX8_payOne_X8_book : GoodIn wsX8_payOne (wsV RX8 140 RX8 yX8_book wsX8_book) := goodIn_app (goodIn_of _ (by decide +kernel)) ggX8_payOne_X8_book
set_option maxRecDepth 20000 in
theorem ggX8_payOne_X8_closeIfPaid : GoodIn wsX8_payOne wsX8_closeIfPaid := goodIn_r _ [45, 46, 47, 48, 8, 49, 14, 15, 16, 17, 18, 30, 31, 32, 33, 50, 51, 52, 53, 54, 55, 56, 57, 58, 59, 60, 61, 62, 63, 64, 65, 66, 67, 68, 69, 70, 71, 72, 73, 74, 75, 76, 77, 78] (by decide +kernel) (by decide +kernel)
set_option maxRecDepth 20000 in
theorem gX8_payOne_X8_closeIfPaid : GoodIn wsX8_payOne (wsV RX8 143 RX8 yX8_closeIfPaid wsX8_closeIfPaid) := goodIn_app (goodIn_of _ (by decide +kernel)) ggX8_payOne_X8_closeIfPaid
theorem dX8_payOne_0 : decode cX8_payOne 0 = .ok (.aload_n 0, 1) := by decide +kernel
theorem dX8_payOne_1 : decode cX8_payOne 1 = .ok (.iload_n 1, 1) := by decide +kernel
theorem dX8_payOne_2 : decode cX8_payOne 2 = .ok (.invokevirtual 134, 3) := by decide +kernel
theorem dX8_payOne_5 : decode cX8_payOne 5 = .ok (.aload_n 0, 1) := by decide +kernel
theorem dX8_payOne_6 : decode cX8_payOne 6 = .ok (.getfield 91, 3) := by decide +kernel
theorem dX8_payOne_9 : decode cX8_payOne 9 = .ok (.l2i, 1) := by decide +kernel
theorem dX8_payOne_10 : decode cX8_payOne 10 = .ok (.istore_n 2, 1) := by decide +kernel
theorem dX8_payOne_11 : decode cX8_payOne 11 = .ok (.aload_n 0, 1) := by decide +kernel
theorem dX8_payOne_12 : decode cX8_payOne 12 = .ok (.iload_n 1, 1) := by decide +kernel
theorem dX8_payOne_13 : decode cX8_payOne 13 = .ok (.iconst 1, 1) := by decide +kernel
theorem dX8_payOne_14 : decode cX8_payOne 14 = .ok (.aload_n 0, 1) := by decide +kernel
theorem dX8_payOne_15 : decode cX8_payOne 15 = .ok (.getfield 78, 3) := by decide +kernel
theorem dX8_payOne_18 : decode cX8_payOne 18 = .ok (.l2i, 1) := by decide +kernel
theorem dX8_payOne_19 : decode cX8_payOne 19 = .ok (.invokevirtual 74, 3) := by decide +kernel
theorem dX8_payOne_22 : decode cX8_payOne 22 = .ok (.aload_n 0, 1) := by decide +kernel
theorem dX8_payOne_23 : decode cX8_payOne 23 = .ok (.iload_n 1, 1) := by decide +kernel
theorem dX8_payOne_24 : decode cX8_payOne 24 = .ok (.iconst 5, 1) := by decide +kernel
theorem dX8_payOne_25 : decode cX8_payOne 25 = .ok (.aload_n 0, 1) := by decide +kernel
theorem dX8_payOne_26 : decode cX8_payOne 26 = .ok (.getfield 82, 3) := by decide +kernel
theorem dX8_payOne_29 : decode cX8_payOne 29 = .ok (.l2i, 1) := by decide +kernel
theorem dX8_payOne_30 : decode cX8_payOne 30 = .ok (.invokevirtual 74, 3) := by decide +kernel
theorem dX8_payOne_33 : decode cX8_payOne 33 = .ok (.aload_n 0, 1) := by decide +kernel
theorem dX8_payOne_34 : decode cX8_payOne 34 = .ok (.iload_n 1, 1) := by decide +kernel
theorem dX8_payOne_35 : decode cX8_payOne 35 = .ok (.bipush 6, 2) := by decide +kernel
theorem dX8_payOne_37 : decode cX8_payOne 37 = .ok (.aload_n 0, 1) := by decide +kernel
theorem dX8_payOne_38 : decode cX8_payOne 38 = .ok (.getfield 94, 3) := by decide +kernel
theorem dX8_payOne_41 : decode cX8_payOne 41 = .ok (.l2i, 1) := by decide +kernel
theorem dX8_payOne_42 : decode cX8_payOne 42 = .ok (.invokevirtual 137, 3) := by decide +kernel
theorem dX8_payOne_45 : decode cX8_payOne 45 = .ok (.aload_n 0, 1) := by decide +kernel
theorem dX8_payOne_46 : decode cX8_payOne 46 = .ok (.iload_n 1, 1) := by decide +kernel
theorem dX8_payOne_47 : decode cX8_payOne 47 = .ok (.bipush 7, 2) := by decide +kernel
theorem dX8_payOne_49 : decode cX8_payOne 49 = .ok (.iload_n 2, 1) := by decide +kernel
theorem dX8_payOne_50 : decode cX8_payOne 50 = .ok (.invokevirtual 137, 3) := by decide +kernel
theorem dX8_payOne_53 : decode cX8_payOne 53 = .ok (.aload_n 0, 1) := by decide +kernel
theorem dX8_payOne_54 : decode cX8_payOne 54 = .ok (.iload_n 1, 1) := by decide +kernel
theorem dX8_payOne_55 : decode cX8_payOne 55 = .ok (.bipush 8, 2) := by decide +kernel
theorem dX8_payOne_57 : decode cX8_payOne 57 = .ok (.iconst 1, 1) := by decide +kernel
theorem dX8_payOne_58 : decode cX8_payOne 58 = .ok (.invokevirtual 137, 3) := by decide +kernel
theorem dX8_payOne_61 : decode cX8_payOne 61 = .ok (.aload_n 0, 1) := by decide +kernel
theorem dX8_payOne_62 : decode cX8_payOne 62 = .ok (.iload_n 1, 1) := by decide +kernel
theorem dX8_payOne_63 : decode cX8_payOne 63 = .ok (.iconst 3, 1) := by decide +kernel
theorem dX8_payOne_64 : decode cX8_payOne 64 = .ok (.iconst (-1), 1) := by decide +kernel
theorem dX8_payOne_65 : decode cX8_payOne 65 = .ok (.invokevirtual 137, 3) := by decide +kernel
theorem dX8_payOne_68 : decode cX8_payOne 68 = .ok (.aload_n 0, 1) := by decide +kernel
theorem dX8_payOne_69 : decode cX8_payOne 69 = .ok (.iload_n 1, 1) := by decide +kernel
theorem dX8_payOne_70 : decode cX8_payOne 70 = .ok (.iload_n 2, 1) := by decide +kernel
theorem dX8_payOne_71 : decode cX8_payOne 71 = .ok (.aload_n 0, 1) := by decide +kernel
theorem dX8_payOne_72 : decode cX8_payOne 72 = .ok (.getfield 94, 3) := by decide +kernel
theorem dX8_payOne_75 : decode cX8_payOne 75 = .ok (.l2i, 1) := by decide +kernel
theorem dX8_payOne_76 : decode cX8_payOne 76 = .ok (.invokevirtual 140, 3) := by decide +kernel
theorem dX8_payOne_79 : decode cX8_payOne 79 = .ok (.aload_n 0, 1) := by decide +kernel
theorem dX8_payOne_80 : decode cX8_payOne 80 = .ok (.iload_n 1, 1) := by decide +kernel
theorem dX8_payOne_81 : decode cX8_payOne 81 = .ok (.invokevirtual 143, 3) := by decide +kernel
theorem dX8_payOne_84 : decode cX8_payOne 84 = .ok (.iload_n 2, 1) := by decide +kernel
theorem dX8_payOne_85 : decode cX8_payOne 85 = .ok (.ireturn, 1) := by decide +kernel
set_option maxRecDepth 20000 in
theorem ggX8_payEach_X8_isRunning : GoodIn wsX8_payEach wsX8_isRunning := goodIn_r _ [6, 7, 8, 9, 5, 10, 1, 54, 55, 56, 57, 58, 59, 60, 61, 62, 63, 64, 65, 66, 67, 68, 69, 70, 71, 72, 73, 74, 75, 76, 77, 78, 79, 80, 81, 82] (by decide +kernel) (by decide +kernel)
set_option maxRecDepth 20000 in
theorem gX8_payEach_X8_isRunning : GoodIn wsX8_payEach (wsV RX8 130 RX8 yX8_isRunning wsX8_isRunning) := goodIn_app (goodIn_of _ (by decide +kernel)) ggX8_payEach_X8_isRunning
set_option maxRecDepth 20000 in
theorem ggX8_payEach_X8_payOne : GoodIn wsX8_payEach wsX8_payOne := goodIn_r _ [14, 15, 16, 17, 18, 19, 20, 21, 5, 22, 23, 24, 25, 26, 7, 8, 9, 10, 1, 27, 28, 29, 30, 31, 32, 33, 34, 35, 36, 37, 38, 39, 40, 41, 42, 43, 44, 45, 46, 47, 48, 49, 50, 51, 52, 53, 2, 3, 4, 6, 54, 55, 56, 57, 58, 59, 60, 61, 62, 63, 64, 65, 66, 67, 68, 69, 70, 71, 72, 73, 74, 75, 76, 77, 78, 79, 80, 81, 82] (by decide +kernel) (by decide +kernel)
set_option maxRecDepth 20000 in
theorem gX8_payEach_X8_payOne : GoodIn wsX8_payEach (wsV RX8 146 RX8 yX8_payOne wsX8_payOne) := goodIn_app (goodIn_of _ (by decide +kernel)) ggX8_payEach_X8_payOne
theorem dX8_payEach_0 : decode cX8_payEach 0 = .ok (.iconst 0, 1) := by decide +kernel
theorem dX8_payEach_1 : decode cX8_payEach 1 = .ok (.istore_n 1, 1) := by decide +kernel
theorem dX8_payEach_2 : decode cX8_payEach 2 = .ok (.iconst 0, 1) := by decide +kernel
theorem dX8_payEach_3 : decode cX8_payEach 3 = .ok (.istore_n 2, 1) := by decide +kernel
theorem dX8_payEach_4 : decode cX8_payEach 4 = .ok (.iload_n 2, 1) := by decide +kernel
theorem dX8_payEach_5 : decode cX8_payEach 5 = .ok (.aload_n 0, 1) := by decide +kernel
theorem dX8_payEach_6 : decode cX8_payEach 6 = .ok (.getfield 9, 3) := by decide +kernel
theorem dX8_payEach_9 : decode cX8_payEach 9 = .ok (.iconst 0, 1) := by decide +kernel
theorem dX8_payEach_10 : decode cX8_payEach 10 = .ok (.iaload, 1) := by decide +kernel
theorem dX8_payEach_11 : decode cX8_payEach 11 = .ok (.if_icmp .ge 29, 3) := by decide +kernel
theorem dX8_payEach_14 : decode cX8_payEach 14 = .ok (.iload_n 1, 1) := by decide +kernel
theorem dX8_payEach_15 : decode cX8_payEach 15 = .ok (.aload_n 0, 1) := by decide +kernel
theorem dX8_payEach_16 : decode cX8_payEach 16 = .ok (.iload_n 2, 1) := by decide +kernel
theorem dX8_payEach_17 : decode cX8_payEach 17 = .ok (.invokevirtual 130, 3) := by decide +kernel
theorem dX8_payEach_20 : decode cX8_payEach 20 = .ok (.ifCond .eq 11, 3) := by decide +kernel
theorem dX8_payEach_23 : decode cX8_payEach 23 = .ok (.aload_n 0, 1) := by decide +kernel
theorem dX8_payEach_24 : decode cX8_payEach 24 = .ok (.iload_n 2, 1) := by decide +kernel
theorem dX8_payEach_25 : decode cX8_payEach 25 = .ok (.invokevirtual 146, 3) := by decide +kernel
theorem dX8_payEach_28 : decode cX8_payEach 28 = .ok (.goto 4, 3) := by decide +kernel
theorem dX8_payEach_31 : decode cX8_payEach 31 = .ok (.iconst 0, 1) := by decide +kernel
theorem dX8_payEach_32 : decode cX8_payEach 32 = .ok (.iadd, 1) := by decide +kernel
theorem dX8_payEach_33 : decode cX8_payEach 33 = .ok (.istore_n 1, 1) := by decide +kernel
theorem dX8_payEach_34 : decode cX8_payEach 34 = .ok (.iinc 2 1, 3) := by decide +kernel
theorem dX8_payEach_37 : decode cX8_payEach 37 = .ok (.goto (-33), 3) := by decide +kernel
theorem dX8_payEach_40 : decode cX8_payEach 40 = .ok (.iload_n 1, 1) := by decide +kernel
theorem dX8_payEach_41 : decode cX8_payEach 41 = .ok (.ireturn, 1) := by decide +kernel
set_option maxRecDepth 20000 in
theorem ggX8_extra_X8_grow : GoodIn wsX8_extra wsX8_grow := goodIn_r _ [5, 6, 7, 8, 4, 9, 10, 11, 12, 13, 14, 67, 68, 69, 70, 71, 72, 73, 74, 75, 76, 77, 78, 79, 80, 81, 82, 83, 84, 85, 86, 87, 88, 89, 90, 91, 92, 93, 94, 95] (by decide +kernel) (by decide +kernel)
set_option maxRecDepth 20000 in
theorem gX8_extra_X8_grow : GoodIn wsX8_extra (wsV RX8 137 RX8 yX8_grow wsX8_grow) := goodIn_app (goodIn_of _ (by decide +kernel)) ggX8_extra_X8_grow
set_option maxRecDepth 20000 in
theorem ggX8_extra_X8_book : GoodIn wsX8_extra wsX8_book := goodIn_r _ [18, 10, 67, 68, 69, 70, 71, 72, 73, 74, 75, 76, 77, 78, 79, 80, 81, 82, 83, 84, 85, 86, 87, 88, 89, 90, 91, 92, 93, 94, 95] (by decide +kernel) (by decide +kernel)
set_option maxRecDepth 20000 in
theorem gX8_extra_X8_book : GoodIn wsX8_extra (wsV RX8 140 RX8 yX8_book wsX8_book) := goodIn_app (goodIn_of _ (by decide +kernel)) ggX8_extra_X8_book
set_option maxRecDepth 20000 in
theorem ggX8_extra_X8_closeIfPaid : GoodIn wsX8_extra wsX8_closeIfPaid := goodIn_r _ [22, 23, 24, 25, 4, 26, 6, 7, 8, 9, 10, 11, 12, 13, 14, 67, 68, 69, 70, 71, 72, 73, 74, 75, 76, 77, 78, 79, 80, 81, 82, 83, 84, 85, 86, 87, 88, 89, 90, 91, 92, 93, 94, 95] (by decide +kernel) (by decide +kernel)
set_option maxRecDepth 20000 in
theorem gX8_extra_X8_closeIfPaid : GoodIn wsX8_extra (wsV RX8 143 RX8 yX8_closeIfPaid wsX8_closeIfPaid) := goodIn_app (goodIn_of _ (by decide +kernel)) ggX8_extra_X8_closeIfPaid
set_option maxRecDepth 20000 in
theorem ggX8_extra_X8_isRunning : GoodIn wsX8_extra wsX8_isRunning := goodIn_r _ [26, 6, 7, 8, 4, 9, 10, 67, 68, 69, 70, 71, 72, 73, 74, 75, 76, 77, 78, 79, 80, 81, 82, 83, 84, 85, 86, 87, 88, 89, 90, 91, 92, 93, 94, 95] (by decide +kernel) (by decide +kernel)
set_option maxRecDepth 20000 in
theorem gX8_extra_X8_isRunning : GoodIn wsX8_extra (wsV RX8 130 RX8 yX8_isRunning wsX8_isRunning) := goodIn_app (goodIn_of _ (by decide +kernel)) ggX8_extra_X8_isRunning
set_option maxRecDepth 20000 in
theorem ggX8_extra_X8_calculate : GoodIn wsX8_extra wsX8_calculate := goodIn_r _ [30, 6, 7, 8, 4, 9, 10, 31, 32, 33, 34, 35, 36, 37, 38, 39, 40, 41, 42, 43, 44, 45, 46, 47, 48, 49, 50, 51, 52, 53, 54, 55, 56, 57, 58, 59, 60, 61, 62, 11, 12, 13, 14, 67, 68, 69, 70, 71, 72, 73, 74, 75, 76, 77, 78, 79, 80, 81, 82, 83, 84, 85, 86, 87, 88, 89, 90, 91, 92, 93, 94, 95] (by decide +kernel) (by decide +kernel)
set_option maxRecDepth 20000 in
theorem gX8_extra_X8_calculate : GoodIn wsX8_extra (wsV RX8 127 RX8 yX8_calculate wsX8_calculate) := goodIn_app (goodIn_of _ (by decide +kernel)) ggX8_extra_X8_calculate
set_option maxRecDepth 20000 in
theorem ggX8_extra_X8_of : GoodIn wsX8_extra wsX8_of := goodIn_r _ [9, 10, 67, 68, 69, 70, 71, 72, 73, 74, 75, 76, 77, 78, 79, 80, 81, 82, 83, 84, 85, 86, 87, 88, 89, 90, 91, 92, 93, 94, 95] (by decide +kernel) (by decide +kernel)
set_option maxRecDepth 20000 in
theorem gX8_extra_X8_of : GoodIn wsX8_extra (wsV RX8 70 RX8 yX8_of wsX8_of) := goodIn_app (goodIn_of _ (by decide +kernel)) ggX8_extra_X8_of
set_option maxRecDepth 20000 in
theorem ggX8_extra_X8_fewestMonths : GoodIn wsX8_extra wsX8_fewestMonths := goodIn_r _ [66, 55, 56, 57, 4, 58, 37, 38, 39, 40, 6, 7, 8, 9, 10, 41, 42, 43, 44, 45, 46, 47, 48, 35, 49, 59, 60, 61, 62, 50, 51, 52, 53, 54, 67, 68, 69, 70, 71, 72, 73, 74, 75, 76, 77, 78, 79, 80, 81, 82, 83, 84, 85, 86, 87, 88, 89, 90, 91, 92, 93, 94, 95] (by decide +kernel) (by decide +kernel)
set_option maxRecDepth 20000 in
theorem gX8_extra_X8_fewestMonths : GoodIn wsX8_extra (wsV RX8 149 RX8 yX8_fewestMonths wsX8_fewestMonths) := goodIn_app (goodIn_of _ (by decide +kernel)) ggX8_extra_X8_fewestMonths
set_option maxRecDepth 20000 in
theorem ggX8_extra_X8_put : GoodIn wsX8_extra wsX8_put := goodIn_r _ [14, 10, 67, 68, 69, 70, 71, 72, 73, 74, 75, 76, 77, 78, 79, 80, 81, 82, 83, 84, 85, 86, 87, 88, 89, 90, 91, 92, 93, 94, 95] (by decide +kernel) (by decide +kernel)
set_option maxRecDepth 20000 in
theorem gX8_extra_X8_put : GoodIn wsX8_extra (wsV RX8 74 RX8 yX8_put wsX8_put) := goodIn_app (goodIn_of _ (by decide +kernel)) ggX8_extra_X8_put
theorem dX8_extra_0 : decode cX8_extra 0 = .ok (.aload_n 0, 1) := by decide +kernel
theorem dX8_extra_1 : decode cX8_extra 1 = .ok (.iload_n 1, 1) := by decide +kernel
theorem dX8_extra_2 : decode cX8_extra 2 = .ok (.iconst 1, 1) := by decide +kernel
theorem dX8_extra_3 : decode cX8_extra 3 = .ok (.iload_n 2, 1) := by decide +kernel
theorem dX8_extra_4 : decode cX8_extra 4 = .ok (.ineg, 1) := by decide +kernel
theorem dX8_extra_5 : decode cX8_extra 5 = .ok (.invokevirtual 137, 3) := by decide +kernel
theorem dX8_extra_8 : decode cX8_extra 8 = .ok (.aload_n 0, 1) := by decide +kernel
theorem dX8_extra_9 : decode cX8_extra 9 = .ok (.iload_n 1, 1) := by decide +kernel
theorem dX8_extra_10 : decode cX8_extra 10 = .ok (.bipush 7, 2) := by decide +kernel
theorem dX8_extra_12 : decode cX8_extra 12 = .ok (.iload_n 2, 1) := by decide +kernel
theorem dX8_extra_13 : decode cX8_extra 13 = .ok (.invokevirtual 137, 3) := by decide +kernel
theorem dX8_extra_16 : decode cX8_extra 16 = .ok (.aload_n 0, 1) := by decide +kernel
theorem dX8_extra_17 : decode cX8_extra 17 = .ok (.iload_n 1, 1) := by decide +kernel
theorem dX8_extra_18 : decode cX8_extra 18 = .ok (.iload_n 2, 1) := by decide +kernel
theorem dX8_extra_19 : decode cX8_extra 19 = .ok (.iconst 0, 1) := by decide +kernel
theorem dX8_extra_20 : decode cX8_extra 20 = .ok (.invokevirtual 140, 3) := by decide +kernel
theorem dX8_extra_23 : decode cX8_extra 23 = .ok (.aload_n 0, 1) := by decide +kernel
theorem dX8_extra_24 : decode cX8_extra 24 = .ok (.iload_n 1, 1) := by decide +kernel
theorem dX8_extra_25 : decode cX8_extra 25 = .ok (.invokevirtual 143, 3) := by decide +kernel
theorem dX8_extra_28 : decode cX8_extra 28 = .ok (.aload_n 0, 1) := by decide +kernel
theorem dX8_extra_29 : decode cX8_extra 29 = .ok (.iload_n 1, 1) := by decide +kernel
theorem dX8_extra_30 : decode cX8_extra 30 = .ok (.invokevirtual 130, 3) := by decide +kernel
theorem dX8_extra_33 : decode cX8_extra 33 = .ok (.ifCond .eq 15, 3) := by decide +kernel
theorem dX8_extra_36 : decode cX8_extra 36 = .ok (.iload_n 3, 1) := by decide +kernel
theorem dX8_extra_37 : decode cX8_extra 37 = .ok (.ifCond .eq 11, 3) := by decide +kernel
theorem dX8_extra_40 : decode cX8_extra 40 = .ok (.aload_n 0, 1) := by decide +kernel
theorem dX8_extra_41 : decode cX8_extra 41 = .ok (.iload_n 1, 1) := by decide +kernel
theorem dX8_extra_42 : decode cX8_extra 42 = .ok (.invokevirtual 127, 3) := by decide +kernel
theorem dX8_extra_45 : decode cX8_extra 45 = .ok (.goto 34, 3) := by decide +kernel
theorem dX8_extra_48 : decode cX8_extra 48 = .ok (.aload_n 0, 1) := by decide +kernel
theorem dX8_extra_49 : decode cX8_extra 49 = .ok (.iload_n 1, 1) := by decide +kernel
theorem dX8_extra_50 : decode cX8_extra 50 = .ok (.invokevirtual 130, 3) := by decide +kernel
theorem dX8_extra_53 : decode cX8_extra 53 = .ok (.ifCond .eq 26, 3) := by decide +kernel
theorem dX8_extra_56 : decode cX8_extra 56 = .ok (.aload_n 0, 1) := by decide +kernel
theorem dX8_extra_57 : decode cX8_extra 57 = .ok (.iload_n 1, 1) := by decide +kernel
theorem dX8_extra_58 : decode cX8_extra 58 = .ok (.iconst 3, 1) := by decide +kernel
theorem dX8_extra_59 : decode cX8_extra 59 = .ok (.aload_n 0, 1) := by decide +kernel
theorem dX8_extra_60 : decode cX8_extra 60 = .ok (.iload_n 1, 1) := by decide +kernel
theorem dX8_extra_61 : decode cX8_extra 61 = .ok (.aload_n 0, 1) := by decide +kernel
theorem dX8_extra_62 : decode cX8_extra 62 = .ok (.iload_n 1, 1) := by decide +kernel
theorem dX8_extra_63 : decode cX8_extra 63 = .ok (.iconst 2, 1) := by decide +kernel
theorem dX8_extra_64 : decode cX8_extra 64 = .ok (.invokevirtual 70, 3) := by decide +kernel
theorem dX8_extra_67 : decode cX8_extra 67 = .ok (.aload_n 0, 1) := by decide +kernel
theorem dX8_extra_68 : decode cX8_extra 68 = .ok (.iload_n 1, 1) := by decide +kernel
theorem dX8_extra_69 : decode cX8_extra 69 = .ok (.iconst 4, 1) := by decide +kernel
theorem dX8_extra_70 : decode cX8_extra 70 = .ok (.invokevirtual 70, 3) := by decide +kernel
theorem dX8_extra_73 : decode cX8_extra 73 = .ok (.invokevirtual 149, 3) := by decide +kernel
theorem dX8_extra_76 : decode cX8_extra 76 = .ok (.invokevirtual 74, 3) := by decide +kernel
theorem dX8_extra_79 : decode cX8_extra 79 = .ok (.return_, 1) := by decide +kernel
set_option maxRecDepth 20000 in
theorem ggX8_skip_X8_nextMonth : GoodIn wsX8_skip wsX8_nextMonth := goodIn_r _ [7, 8, 9, 10, 6, 11, 12, 13, 14, 15, 16, 17, 18, 19, 20, 21, 2, 22, 23, 24, 1, 25, 26, 27, 28, 29, 55, 56, 57, 58, 59, 60, 61, 62, 63, 64, 65, 66, 67, 68, 69, 70, 71, 72, 73, 74, 75, 76, 77, 78, 79, 80, 81, 82, 83] (by decide +kernel) (by decide +kernel)
set_option maxRecDepth 20000 in
theorem gX8_skip_X8_nextMonth : GoodIn wsX8_skip (wsV RX8 134 RX8 yX8_nextMonth wsX8_nextMonth) := goodIn_app (goodIn_of _ (by decide +kernel)) ggX8_skip_X8_nextMonth
set_option maxRecDepth 20000 in
theorem ggX8_skip_X8_put : GoodIn wsX8_skip wsX8_put := goodIn_r _ [33, 16, 55, 56, 57, 58, 59, 60, 61, 62, 63, 64, 65, 66, 67, 68, 69, 70, 71, 72, 73, 74, 75, 76, 77, 78, 79, 80, 81, 82, 83] (by decide +kernel) (by decide +kernel)
set_option maxRecDepth 20000 in
theorem gX8_skip_X8_put : GoodIn wsX8_skip (wsV RX8 74 RX8 yX8_put wsX8_put) := goodIn_app (goodIn_of _ (by decide +kernel)) ggX8_skip_X8_put
set_option maxRecDepth 20000 in
theorem ggX8_skip_X8_grow : GoodIn wsX8_skip wsX8_grow := goodIn_r _ [37, 12, 13, 14, 6, 15, 16, 30, 31, 32, 33, 55, 56, 57, 58, 59, 60, 61, 62, 63, 64, 65, 66, 67, 68, 69, 70, 71, 72, 73, 74, 75, 76, 77, 78, 79, 80, 81, 82, 83] (by decide +kernel) (by decide +kernel)
set_option maxRecDepth 20000 in
theorem gX8_skip_X8_grow : GoodIn wsX8_skip (wsV RX8 137 RX8 yX8_grow wsX8_grow) := goodIn_app (goodIn_of _ (by decide +kernel)) ggX8_skip_X8_grow
set_option maxRecDepth 20000 in
theorem ggX8_skip_X8_calculate : GoodIn wsX8_skip wsX8_calculate := goodIn_r _ [41, 12, 13, 14, 6, 15, 16, 42, 43, 44, 45, 24, 46, 8, 9, 10, 11, 17, 18, 19, 20, 21, 2, 22, 23, 1, 25, 26, 27, 28, 29, 47, 48, 49, 50, 51, 52, 53, 54, 30, 31, 32, 33, 55, 56, 57, 58, 59, 60, 61, 62, 63, 64, 65, 66, 67, 68, 69, 70, 71, 72, 73, 74, 75, 76, 77, 78, 79, 80, 81, 82, 83] (by decide +kernel) (by decide +kernel)
set_option maxRecDepth 20000 in
theorem gX8_skip_X8_calculate : GoodIn wsX8_skip (wsV RX8 127 RX8 yX8_calculate wsX8_calculate) := goodIn_app (goodIn_of _ (by decide +kernel)) ggX8_skip_X8_calculate
theorem dX8_skip_0 : decode cX8_skip 0 = .ok (.aload_n 0, 1) := by decide +kernel
theorem dX8_skip_1 : decode cX8_skip 1 = .ok (.iload_n 1, 1) := by decide +kernel
theorem dX8_skip_2 : decode cX8_skip 2 = .ok (.invokevirtual 134, 3) := by decide +kernel
theorem dX8_skip_5 : decode cX8_skip 5 = .ok (.aload_n 0, 1) := by decide +kernel
theorem dX8_skip_6 : decode cX8_skip 6 = .ok (.getfield 94, 3) := by decide +kernel
theorem dX8_skip_9 : decode cX8_skip 9 = .ok (.l2i, 1) := by decide +kernel
theorem dX8_skip_10 : decode cX8_skip 10 = .ok (.istore_n 2, 1) := by decide +kernel
theorem dX8_skip_11 : decode cX8_skip 11 = .ok (.aload_n 0, 1) := by decide +kernel
theorem dX8_skip_12 : decode cX8_skip 12 = .ok (.iload_n 1, 1) := by decide +kernel
theorem dX8_skip_13 : decode cX8_skip 13 = .ok (.iconst 5, 1) := by decide +kernel
theorem dX8_skip_14 : decode cX8_skip 14 = .ok (.aload_n 0, 1) := by decide +kernel
theorem dX8_skip_15 : decode cX8_skip 15 = .ok (.getfield 82, 3) := by decide +kernel
theorem dX8_skip_18 : decode cX8_skip 18 = .ok (.l2i, 1) := by decide +kernel
theorem dX8_skip_19 : decode cX8_skip 19 = .ok (.invokevirtual 74, 3) := by decide +kernel
theorem dX8_skip_22 : decode cX8_skip 22 = .ok (.aload_n 0, 1) := by decide +kernel
theorem dX8_skip_23 : decode cX8_skip 23 = .ok (.iload_n 1, 1) := by decide +kernel
theorem dX8_skip_24 : decode cX8_skip 24 = .ok (.iconst 1, 1) := by decide +kernel
theorem dX8_skip_25 : decode cX8_skip 25 = .ok (.iload_n 2, 1) := by decide +kernel
theorem dX8_skip_26 : decode cX8_skip 26 = .ok (.invokevirtual 137, 3) := by decide +kernel
theorem dX8_skip_29 : decode cX8_skip 29 = .ok (.aload_n 0, 1) := by decide +kernel
theorem dX8_skip_30 : decode cX8_skip 30 = .ok (.iload_n 1, 1) := by decide +kernel
theorem dX8_skip_31 : decode cX8_skip 31 = .ok (.bipush 6, 2) := by decide +kernel
theorem dX8_skip_33 : decode cX8_skip 33 = .ok (.iload_n 2, 1) := by decide +kernel
theorem dX8_skip_34 : decode cX8_skip 34 = .ok (.invokevirtual 137, 3) := by decide +kernel
theorem dX8_skip_37 : decode cX8_skip 37 = .ok (.aload_n 0, 1) := by decide +kernel
theorem dX8_skip_38 : decode cX8_skip 38 = .ok (.iload_n 1, 1) := by decide +kernel
theorem dX8_skip_39 : decode cX8_skip 39 = .ok (.bipush 9, 2) := by decide +kernel
theorem dX8_skip_41 : decode cX8_skip 41 = .ok (.iconst 1, 1) := by decide +kernel
theorem dX8_skip_42 : decode cX8_skip 42 = .ok (.invokevirtual 137, 3) := by decide +kernel
theorem dX8_skip_45 : decode cX8_skip 45 = .ok (.aload_n 0, 1) := by decide +kernel
theorem dX8_skip_46 : decode cX8_skip 46 = .ok (.iload_n 1, 1) := by decide +kernel
theorem dX8_skip_47 : decode cX8_skip 47 = .ok (.invokevirtual 127, 3) := by decide +kernel
theorem dX8_skip_50 : decode cX8_skip 50 = .ok (.iload_n 2, 1) := by decide +kernel
theorem dX8_skip_51 : decode cX8_skip 51 = .ok (.ireturn, 1) := by decide +kernel
set_option maxRecDepth 20000 in
theorem ggX8_cannotSkip_X8_isRunning : GoodIn wsX8_cannotSkip wsX8_isRunning := goodIn_r _ [7, 8, 9, 10, 6, 11, 12, 35, 36, 37, 38, 39, 40, 41, 42, 43, 44, 45, 46, 47, 48, 49, 50, 51, 52, 53, 54, 55, 56, 57, 58, 59, 60, 61, 62, 63] (by decide +kernel) (by decide +kernel)
set_option maxRecDepth 20000 in
theorem gX8_cannotSkip_X8_isRunning : GoodIn wsX8_cannotSkip (wsV RX8 130 RX8 yX8_isRunning wsX8_isRunning) := goodIn_app (goodIn_of _ (by decide +kernel)) ggX8_cannotSkip_X8_isRunning
set_option maxRecDepth 20000 in
theorem ggX8_cannotSkip_X8_of : GoodIn wsX8_cannotSkip wsX8_of := goodIn_r _ [11, 12, 35, 36, 37, 38, 39, 40, 41, 42, 43, 44, 45, 46, 47, 48, 49, 50, 51, 52, 53, 54, 55, 56, 57, 58, 59, 60, 61, 62, 63] (by decide +kernel) (by decide +kernel)
set_option maxRecDepth 20000 in
theorem gX8_cannotSkip_X8_of : GoodIn wsX8_cannotSkip (wsV RX8 70 RX8 yX8_of wsX8_of) := goodIn_app (goodIn_of _ (by decide +kernel)) ggX8_cannotSkip_X8_of
set_option maxRecDepth 20000 in
theorem ggX8_cannotSkip_X8_nextMonth : GoodIn wsX8_cannotSkip wsX8_nextMonth := goodIn_r _ [16, 17, 18, 19, 6, 20, 8, 9, 10, 11, 12, 21, 22, 23, 24, 25, 26, 27, 28, 29, 1, 30, 31, 32, 33, 34, 35, 36, 37, 38, 39, 40, 41, 42, 43, 44, 45, 46, 47, 48, 49, 50, 51, 52, 53, 54, 55, 56, 57, 58, 59, 60, 61, 62, 63] (by decide +kernel) (by decide +kernel)
set_option maxRecDepth 20000 in
theorem gX8_cannotSkip_X8_nextMonth : GoodIn wsX8_cannotSkip (wsV RX8 134 RX8 yX8_nextMonth wsX8_nextMonth) := goodIn_app (goodIn_of _ (by decide +kernel)) ggX8_cannotSkip_X8_nextMonth
theorem dX8_cannotSkip_0 : decode cX8_cannotSkip 0 = .ok (.aload_n 0, 1) := by decide +kernel
theorem dX8_cannotSkip_1 : decode cX8_cannotSkip 1 = .ok (.iload_n 1, 1) := by decide +kernel
theorem dX8_cannotSkip_2 : decode cX8_cannotSkip 2 = .ok (.invokevirtual 130, 3) := by decide +kernel
theorem dX8_cannotSkip_5 : decode cX8_cannotSkip 5 = .ok (.ifCond .eq 15, 3) := by decide +kernel
theorem dX8_cannotSkip_8 : decode cX8_cannotSkip 8 = .ok (.aload_n 0, 1) := by decide +kernel
theorem dX8_cannotSkip_9 : decode cX8_cannotSkip 9 = .ok (.iload_n 1, 1) := by decide +kernel
theorem dX8_cannotSkip_10 : decode cX8_cannotSkip 10 = .ok (.bipush 9, 2) := by decide +kernel
theorem dX8_cannotSkip_12 : decode cX8_cannotSkip 12 = .ok (.invokevirtual 70, 3) := by decide +kernel
theorem dX8_cannotSkip_15 : decode cX8_cannotSkip 15 = .ok (.bipush 6, 2) := by decide +kernel
theorem dX8_cannotSkip_17 : decode cX8_cannotSkip 17 = .ok (.if_icmp .ne 5, 3) := by decide +kernel
theorem dX8_cannotSkip_20 : decode cX8_cannotSkip 20 = .ok (.iconst 1, 1) := by decide +kernel
theorem dX8_cannotSkip_21 : decode cX8_cannotSkip 21 = .ok (.ireturn, 1) := by decide +kernel
theorem dX8_cannotSkip_22 : decode cX8_cannotSkip 22 = .ok (.aload_n 0, 1) := by decide +kernel
theorem dX8_cannotSkip_23 : decode cX8_cannotSkip 23 = .ok (.iload_n 1, 1) := by decide +kernel
theorem dX8_cannotSkip_24 : decode cX8_cannotSkip 24 = .ok (.invokevirtual 134, 3) := by decide +kernel
theorem dX8_cannotSkip_27 : decode cX8_cannotSkip 27 = .ok (.aload_n 0, 1) := by decide +kernel
theorem dX8_cannotSkip_28 : decode cX8_cannotSkip 28 = .ok (.iload_n 1, 1) := by decide +kernel
theorem dX8_cannotSkip_29 : decode cX8_cannotSkip 29 = .ok (.iconst 1, 1) := by decide +kernel
theorem dX8_cannotSkip_30 : decode cX8_cannotSkip 30 = .ok (.invokevirtual 70, 3) := by decide +kernel
theorem dX8_cannotSkip_33 : decode cX8_cannotSkip 33 = .ok (.i2l, 1) := by decide +kernel
theorem dX8_cannotSkip_34 : decode cX8_cannotSkip 34 = .ok (.aload_n 0, 1) := by decide +kernel
theorem dX8_cannotSkip_35 : decode cX8_cannotSkip 35 = .ok (.getfield 94, 3) := by decide +kernel
theorem dX8_cannotSkip_38 : decode cX8_cannotSkip 38 = .ok (.ladd, 1) := by decide +kernel
theorem dX8_cannotSkip_39 : decode cX8_cannotSkip 39 = .ok (.ldc2_w 152, 3) := by decide +kernel
theorem dX8_cannotSkip_42 : decode cX8_cannotSkip 42 = .ok (.lcmp, 1) := by decide +kernel
theorem dX8_cannotSkip_43 : decode cX8_cannotSkip 43 = .ok (.ifCond .le 7, 3) := by decide +kernel
theorem dX8_cannotSkip_46 : decode cX8_cannotSkip 46 = .ok (.iconst 1, 1) := by decide +kernel
theorem dX8_cannotSkip_47 : decode cX8_cannotSkip 47 = .ok (.goto 4, 3) := by decide +kernel
theorem dX8_cannotSkip_50 : decode cX8_cannotSkip 50 = .ok (.iconst 0, 1) := by decide +kernel
theorem dX8_cannotSkip_51 : decode cX8_cannotSkip 51 = .ok (.ireturn, 1) := by decide +kernel
set_option maxRecDepth 20000 in
theorem ggX8_cannotExtend_X8_isRunning : GoodIn wsX8_cannotExtend wsX8_isRunning := goodIn_r _ [5, 6, 7, 8, 4, 9, 10, 11, 12, 13, 14, 15, 16, 17, 18, 19, 20, 21, 22, 23, 24, 25, 26, 27, 28, 29, 30, 31, 32, 33, 34, 35, 36, 37, 38, 39] (by decide +kernel) (by decide +kernel)
set_option maxRecDepth 20000 in
theorem gX8_cannotExtend_X8_isRunning : GoodIn wsX8_cannotExtend (wsV RX8 130 RX8 yX8_isRunning wsX8_isRunning) := goodIn_app (goodIn_of _ (by decide +kernel)) ggX8_cannotExtend_X8_isRunning
set_option maxRecDepth 20000 in
theorem ggX8_cannotExtend_X8_of : GoodIn wsX8_cannotExtend wsX8_of := goodIn_r _ [9, 10, 11, 12, 13, 14, 15, 16, 17, 18, 19, 20, 21, 22, 23, 24, 25, 26, 27, 28, 29, 30, 31, 32, 33, 34, 35, 36, 37, 38, 39] (by decide +kernel) (by decide +kernel)
set_option maxRecDepth 20000 in
theorem gX8_cannotExtend_X8_of : GoodIn wsX8_cannotExtend (wsV RX8 70 RX8 yX8_of wsX8_of) := goodIn_app (goodIn_of _ (by decide +kernel)) ggX8_cannotExtend_X8_of
theorem dX8_cannotExtend_0 : decode cX8_cannotExtend 0 = .ok (.aload_n 0, 1) := by decide +kernel
theorem dX8_cannotExtend_1 : decode cX8_cannotExtend 1 = .ok (.iload_n 1, 1) := by decide +kernel
theorem dX8_cannotExtend_2 : decode cX8_cannotExtend 2 = .ok (.invokevirtual 130, 3) := by decide +kernel
theorem dX8_cannotExtend_5 : decode cX8_cannotExtend 5 = .ok (.ifCond .eq 16, 3) := by decide +kernel
theorem dX8_cannotExtend_8 : decode cX8_cannotExtend 8 = .ok (.aload_n 0, 1) := by decide +kernel
theorem dX8_cannotExtend_9 : decode cX8_cannotExtend 9 = .ok (.iload_n 1, 1) := by decide +kernel
theorem dX8_cannotExtend_10 : decode cX8_cannotExtend 10 = .ok (.iconst 3, 1) := by decide +kernel
theorem dX8_cannotExtend_11 : decode cX8_cannotExtend 11 = .ok (.invokevirtual 70, 3) := by decide +kernel
theorem dX8_cannotExtend_14 : decode cX8_cannotExtend 14 = .ok (.iload_n 2, 1) := by decide +kernel
theorem dX8_cannotExtend_15 : decode cX8_cannotExtend 15 = .ok (.iadd, 1) := by decide +kernel
theorem dX8_cannotExtend_16 : decode cX8_cannotExtend 16 = .ok (.bipush 120, 2) := by decide +kernel
theorem dX8_cannotExtend_18 : decode cX8_cannotExtend 18 = .ok (.if_icmp .le 7, 3) := by decide +kernel
theorem dX8_cannotExtend_21 : decode cX8_cannotExtend 21 = .ok (.iconst 1, 1) := by decide +kernel
theorem dX8_cannotExtend_22 : decode cX8_cannotExtend 22 = .ok (.goto 4, 3) := by decide +kernel
theorem dX8_cannotExtend_25 : decode cX8_cannotExtend 25 = .ok (.iconst 0, 1) := by decide +kernel
theorem dX8_cannotExtend_26 : decode cX8_cannotExtend 26 = .ok (.ireturn, 1) := by decide +kernel
set_option maxRecDepth 20000 in
theorem ggX8_extend_X8_grow : GoodIn wsX8_extend wsX8_grow := goodIn_r _ [5, 6, 7, 8, 4, 9, 10, 11, 12, 13, 14, 51, 52, 53, 54, 55, 56, 57, 58, 59, 60, 61, 62, 63, 64, 65, 66, 67, 68, 69, 70, 71, 72, 73, 74, 75, 76, 77, 78, 79] (by decide +kernel) (by decide +kernel)
set_option maxRecDepth 20000 in
theorem gX8_extend_X8_grow : GoodIn wsX8_extend (wsV RX8 137 RX8 yX8_grow wsX8_grow) := goodIn_app (goodIn_of _ (by decide +kernel)) ggX8_extend_X8_grow
set_option maxRecDepth 20000 in
theorem ggX8_extend_X8_calculate : GoodIn wsX8_extend wsX8_calculate := goodIn_r _ [18, 6, 7, 8, 4, 9, 10, 19, 20, 21, 22, 23, 24, 25, 26, 27, 28, 29, 30, 31, 32, 33, 34, 35, 36, 37, 38, 39, 40, 41, 42, 43, 44, 45, 46, 47, 48, 49, 50, 11, 12, 13, 14, 51, 52, 53, 54, 55, 56, 57, 58, 59, 60, 61, 62, 63, 64, 65, 66, 67, 68, 69, 70, 71, 72, 73, 74, 75, 76, 77, 78, 79] (by decide +kernel) (by decide +kernel)
set_option maxRecDepth 20000 in
theorem gX8_extend_X8_calculate : GoodIn wsX8_extend (wsV RX8 127 RX8 yX8_calculate wsX8_calculate) := goodIn_app (goodIn_of _ (by decide +kernel)) ggX8_extend_X8_calculate
theorem dX8_extend_0 : decode cX8_extend 0 = .ok (.aload_n 0, 1) := by decide +kernel
theorem dX8_extend_1 : decode cX8_extend 1 = .ok (.iload_n 1, 1) := by decide +kernel
theorem dX8_extend_2 : decode cX8_extend 2 = .ok (.iconst 3, 1) := by decide +kernel
theorem dX8_extend_3 : decode cX8_extend 3 = .ok (.iload_n 2, 1) := by decide +kernel
theorem dX8_extend_4 : decode cX8_extend 4 = .ok (.invokevirtual 137, 3) := by decide +kernel
theorem dX8_extend_7 : decode cX8_extend 7 = .ok (.aload_n 0, 1) := by decide +kernel
theorem dX8_extend_8 : decode cX8_extend 8 = .ok (.iload_n 1, 1) := by decide +kernel
theorem dX8_extend_9 : decode cX8_extend 9 = .ok (.invokevirtual 127, 3) := by decide +kernel
theorem dX8_extend_12 : decode cX8_extend 12 = .ok (.return_, 1) := by decide +kernel
set_option maxRecDepth 20000 in
theorem ggX8_setRate_X8_put : GoodIn wsX8_setRate wsX8_put := goodIn_r _ [5, 6, 47, 48, 49, 50, 51, 52, 53, 54, 55, 56, 57, 58, 59, 60, 61, 62, 63, 64, 65, 66, 67, 68, 69, 70, 71, 72, 73, 74, 75] (by decide +kernel) (by decide +kernel)
set_option maxRecDepth 20000 in
theorem gX8_setRate_X8_put : GoodIn wsX8_setRate (wsV RX8 74 RX8 yX8_put wsX8_put) := goodIn_app (goodIn_of _ (by decide +kernel)) ggX8_setRate_X8_put
set_option maxRecDepth 20000 in
theorem ggX8_setRate_X8_calculate : GoodIn wsX8_setRate wsX8_calculate := goodIn_r _ [10, 11, 12, 13, 4, 14, 6, 15, 16, 17, 18, 19, 20, 21, 22, 23, 24, 25, 26, 27, 28, 29, 30, 31, 32, 33, 34, 35, 36, 37, 38, 39, 40, 41, 42, 43, 44, 45, 46, 1, 2, 3, 5, 47, 48, 49, 50, 51, 52, 53, 54, 55, 56, 57, 58, 59, 60, 61, 62, 63, 64, 65, 66, 67, 68, 69, 70, 71, 72, 73, 74, 75] (by decide +kernel) (by decide +kernel)
set_option maxRecDepth 20000 in
theorem gX8_setRate_X8_calculate : GoodIn wsX8_setRate (wsV RX8 127 RX8 yX8_calculate wsX8_calculate) := goodIn_app (goodIn_of _ (by decide +kernel)) ggX8_setRate_X8_calculate
theorem dX8_setRate_0 : decode cX8_setRate 0 = .ok (.aload_n 0, 1) := by decide +kernel
theorem dX8_setRate_1 : decode cX8_setRate 1 = .ok (.iload_n 1, 1) := by decide +kernel
theorem dX8_setRate_2 : decode cX8_setRate 2 = .ok (.iconst 2, 1) := by decide +kernel
theorem dX8_setRate_3 : decode cX8_setRate 3 = .ok (.iload_n 2, 1) := by decide +kernel
theorem dX8_setRate_4 : decode cX8_setRate 4 = .ok (.invokevirtual 74, 3) := by decide +kernel
theorem dX8_setRate_7 : decode cX8_setRate 7 = .ok (.aload_n 0, 1) := by decide +kernel
theorem dX8_setRate_8 : decode cX8_setRate 8 = .ok (.iload_n 1, 1) := by decide +kernel
theorem dX8_setRate_9 : decode cX8_setRate 9 = .ok (.invokevirtual 127, 3) := by decide +kernel
theorem dX8_setRate_12 : decode cX8_setRate 12 = .ok (.return_, 1) := by decide +kernel
set_option maxRecDepth 20000 in
theorem ggX8_cannotPayExtra_X8_isRunning : GoodIn wsX8_cannotPayExtra wsX8_isRunning := goodIn_r _ [5, 6, 7, 8, 4, 9, 10, 11, 12, 13, 14, 15, 16, 17, 18, 19, 20, 21, 22, 23, 24, 25, 26, 27, 28, 29, 30, 31, 32, 33, 34, 35, 36, 37, 38, 39] (by decide +kernel) (by decide +kernel)
set_option maxRecDepth 20000 in
theorem gX8_cannotPayExtra_X8_isRunning : GoodIn wsX8_cannotPayExtra (wsV RX8 130 RX8 yX8_isRunning wsX8_isRunning) := goodIn_app (goodIn_of _ (by decide +kernel)) ggX8_cannotPayExtra_X8_isRunning
set_option maxRecDepth 20000 in
theorem ggX8_cannotPayExtra_X8_of : GoodIn wsX8_cannotPayExtra wsX8_of := goodIn_r _ [9, 10, 11, 12, 13, 14, 15, 16, 17, 18, 19, 20, 21, 22, 23, 24, 25, 26, 27, 28, 29, 30, 31, 32, 33, 34, 35, 36, 37, 38, 39] (by decide +kernel) (by decide +kernel)
set_option maxRecDepth 20000 in
theorem gX8_cannotPayExtra_X8_of : GoodIn wsX8_cannotPayExtra (wsV RX8 70 RX8 yX8_of wsX8_of) := goodIn_app (goodIn_of _ (by decide +kernel)) ggX8_cannotPayExtra_X8_of
theorem dX8_cannotPayExtra_0 : decode cX8_cannotPayExtra 0 = .ok (.aload_n 0, 1) := by decide +kernel
theorem dX8_cannotPayExtra_1 : decode cX8_cannotPayExtra 1 = .ok (.iload_n 1, 1) := by decide +kernel
theorem dX8_cannotPayExtra_2 : decode cX8_cannotPayExtra 2 = .ok (.invokevirtual 130, 3) := by decide +kernel
theorem dX8_cannotPayExtra_5 : decode cX8_cannotPayExtra 5 = .ok (.ifCond .eq 13, 3) := by decide +kernel
theorem dX8_cannotPayExtra_8 : decode cX8_cannotPayExtra 8 = .ok (.iload_n 2, 1) := by decide +kernel
theorem dX8_cannotPayExtra_9 : decode cX8_cannotPayExtra 9 = .ok (.aload_n 0, 1) := by decide +kernel
theorem dX8_cannotPayExtra_10 : decode cX8_cannotPayExtra 10 = .ok (.iload_n 1, 1) := by decide +kernel
theorem dX8_cannotPayExtra_11 : decode cX8_cannotPayExtra 11 = .ok (.iconst 1, 1) := by decide +kernel
theorem dX8_cannotPayExtra_12 : decode cX8_cannotPayExtra 12 = .ok (.invokevirtual 70, 3) := by decide +kernel
theorem dX8_cannotPayExtra_15 : decode cX8_cannotPayExtra 15 = .ok (.if_icmp .le 7, 3) := by decide +kernel
theorem dX8_cannotPayExtra_18 : decode cX8_cannotPayExtra 18 = .ok (.iconst 1, 1) := by decide +kernel
theorem dX8_cannotPayExtra_19 : decode cX8_cannotPayExtra 19 = .ok (.goto 4, 3) := by decide +kernel
theorem dX8_cannotPayExtra_22 : decode cX8_cannotPayExtra 22 = .ok (.iconst 0, 1) := by decide +kernel
theorem dX8_cannotPayExtra_23 : decode cX8_cannotPayExtra 23 = .ok (.ireturn, 1) := by decide +kernel
set_option maxRecDepth 20000 in
theorem ggX8_dearest_X8_isRunning : GoodIn wsX8_dearest wsX8_isRunning := goodIn_r _ [6, 7, 8, 9, 5, 10, 1, 11, 12, 13, 14, 15, 16, 17, 18, 19, 20, 21, 22, 23, 24, 25, 26, 27, 28, 29, 30, 31, 32, 33, 34, 35, 36, 37, 38, 39] (by decide +kernel) (by decide +kernel)
set_option maxRecDepth 20000 in
theorem gX8_dearest_X8_isRunning : GoodIn wsX8_dearest (wsV RX8 130 RX8 yX8_isRunning wsX8_isRunning) := goodIn_app (goodIn_of _ (by decide +kernel)) ggX8_dearest_X8_isRunning
set_option maxRecDepth 20000 in
theorem ggX8_dearest_X8_of : GoodIn wsX8_dearest wsX8_of := goodIn_r _ [10, 1, 11, 12, 13, 14, 15, 16, 17, 18, 19, 20, 21, 22, 23, 24, 25, 26, 27, 28, 29, 30, 31, 32, 33, 34, 35, 36, 37, 38, 39] (by decide +kernel) (by decide +kernel)
set_option maxRecDepth 20000 in
theorem gX8_dearest_X8_of : GoodIn wsX8_dearest (wsV RX8 70 RX8 yX8_of wsX8_of) := goodIn_app (goodIn_of _ (by decide +kernel)) ggX8_dearest_X8_of
theorem dX8_dearest_0 : decode cX8_dearest 0 = .ok (.iconst (-1), 1) := by decide +kernel
theorem dX8_dearest_1 : decode cX8_dearest 1 = .ok (.istore_n 1, 1) := by decide +kernel
theorem dX8_dearest_2 : decode cX8_dearest 2 = .ok (.iconst 0, 1) := by decide +kernel
theorem dX8_dearest_3 : decode cX8_dearest 3 = .ok (.istore_n 2, 1) := by decide +kernel
theorem dX8_dearest_4 : decode cX8_dearest 4 = .ok (.iload_n 2, 1) := by decide +kernel
theorem dX8_dearest_5 : decode cX8_dearest 5 = .ok (.aload_n 0, 1) := by decide +kernel
theorem dX8_dearest_6 : decode cX8_dearest 6 = .ok (.getfield 9, 3) := by decide +kernel
theorem dX8_dearest_9 : decode cX8_dearest 9 = .ok (.iconst 0, 1) := by decide +kernel
theorem dX8_dearest_10 : decode cX8_dearest 10 = .ok (.iaload, 1) := by decide +kernel
theorem dX8_dearest_11 : decode cX8_dearest 11 = .ok (.if_icmp .ge 43, 3) := by decide +kernel
theorem dX8_dearest_14 : decode cX8_dearest 14 = .ok (.aload_n 0, 1) := by decide +kernel
theorem dX8_dearest_15 : decode cX8_dearest 15 = .ok (.iload_n 2, 1) := by decide +kernel
theorem dX8_dearest_16 : decode cX8_dearest 16 = .ok (.invokevirtual 130, 3) := by decide +kernel
theorem dX8_dearest_19 : decode cX8_dearest 19 = .ok (.ifCond .eq 27, 3) := by decide +kernel
theorem dX8_dearest_22 : decode cX8_dearest 22 = .ok (.iload_n 1, 1) := by decide +kernel
theorem dX8_dearest_23 : decode cX8_dearest 23 = .ok (.iconst (-1), 1) := by decide +kernel
theorem dX8_dearest_24 : decode cX8_dearest 24 = .ok (.if_icmp .eq 18, 3) := by decide +kernel
theorem dX8_dearest_27 : decode cX8_dearest 27 = .ok (.aload_n 0, 1) := by decide +kernel
theorem dX8_dearest_28 : decode cX8_dearest 28 = .ok (.iload_n 2, 1) := by decide +kernel
theorem dX8_dearest_29 : decode cX8_dearest 29 = .ok (.iconst 2, 1) := by decide +kernel
theorem dX8_dearest_30 : decode cX8_dearest 30 = .ok (.invokevirtual 70, 3) := by decide +kernel
theorem dX8_dearest_33 : decode cX8_dearest 33 = .ok (.aload_n 0, 1) := by decide +kernel
theorem dX8_dearest_34 : decode cX8_dearest 34 = .ok (.iload_n 1, 1) := by decide +kernel
theorem dX8_dearest_35 : decode cX8_dearest 35 = .ok (.iconst 2, 1) := by decide +kernel
theorem dX8_dearest_36 : decode cX8_dearest 36 = .ok (.invokevirtual 70, 3) := by decide +kernel
theorem dX8_dearest_39 : decode cX8_dearest 39 = .ok (.if_icmp .le 7, 3) := by decide +kernel
theorem dX8_dearest_42 : decode cX8_dearest 42 = .ok (.iload_n 2, 1) := by decide +kernel
theorem dX8_dearest_43 : decode cX8_dearest 43 = .ok (.goto 4, 3) := by decide +kernel
theorem dX8_dearest_46 : decode cX8_dearest 46 = .ok (.iload_n 1, 1) := by decide +kernel
theorem dX8_dearest_47 : decode cX8_dearest 47 = .ok (.istore_n 1, 1) := by decide +kernel
theorem dX8_dearest_48 : decode cX8_dearest 48 = .ok (.iinc 2 1, 3) := by decide +kernel
theorem dX8_dearest_51 : decode cX8_dearest 51 = .ok (.goto (-47), 3) := by decide +kernel
theorem dX8_dearest_54 : decode cX8_dearest 54 = .ok (.iload_n 1, 1) := by decide +kernel
theorem dX8_dearest_55 : decode cX8_dearest 55 = .ok (.ireturn, 1) := by decide +kernel
set_option maxRecDepth 20000 in
theorem ggX8_openLoan_X8_outside : GoodIn wsX8_openLoan wsX8_outside := goodIn_r _ [8, 1, 70, 71, 72, 73, 74, 75, 76, 77, 78, 79, 80, 81, 82, 83, 84, 85, 86, 87, 88, 89, 90, 91, 92, 93, 94, 95, 96, 97, 98] (by decide +kernel) (by decide +kernel)
set_option maxRecDepth 20000 in
theorem gX8_openLoan_X8_outside : GoodIn wsX8_openLoan (wsV RX8 66 RX8 yX8_outside wsX8_outside) := goodIn_app (goodIn_of _ (by decide +kernel)) ggX8_openLoan_X8_outside
set_option maxRecDepth 20000 in
theorem ggX8_openLoan_X8_raise : GoodIn wsX8_openLoan wsX8_raise := goodIn_r _ [12, 1, 70, 71, 72, 73, 74, 75, 76, 77, 78, 79, 80, 81, 82, 83, 84, 85, 86, 87, 88, 89, 90, 91, 92, 93, 94, 95, 96, 97, 98] (by decide +kernel) (by decide +kernel)
set_option maxRecDepth 20000 in
theorem gX8_openLoan_X8_raise : GoodIn wsX8_openLoan (wsV RX8 155 RX8 yX8_raise wsX8_raise) := goodIn_app (goodIn_of _ (by decide +kernel)) ggX8_openLoan_X8_raise
set_option maxRecDepth 20000 in
theorem ggX8_openLoan_X8_remember : GoodIn wsX8_openLoan wsX8_remember := goodIn_r _ [16, 17, 18, 19, 20, 7, 21, 70, 71, 72, 73, 74, 75, 76, 77, 78, 79, 80, 81, 82, 83, 84, 85, 86, 87, 88, 89, 90, 91, 92, 93, 94, 95, 96, 97, 98] (by decide +kernel) (by decide +kernel)
set_option maxRecDepth 20000 in
theorem gX8_openLoan_X8_remember : GoodIn wsX8_openLoan (wsV RX8 159 RX8 yX8_remember wsX8_remember) := goodIn_app (goodIn_of _ (by decide +kernel)) ggX8_openLoan_X8_remember
set_option maxRecDepth 20000 in
theorem ggX8_openLoan_X8_makeLoan : GoodIn wsX8_openLoan wsX8_makeLoan := goodIn_r _ [25, 3, 26, 27, 28, 7, 29, 30, 31, 32, 33, 34, 35, 36, 37, 38, 39, 40, 41, 42, 43, 44, 45, 46, 47, 48, 49, 50, 51, 52, 53, 54, 55, 56, 57, 58, 59, 60, 61, 62, 63, 64, 65, 66, 67, 68, 69, 70, 71, 72, 73, 74, 75, 76, 77, 78, 79, 80, 81, 82, 83, 84, 85, 86, 87, 88, 89, 90, 91, 92, 93, 94, 95, 96, 97, 98] (by decide +kernel) (by decide +kernel)
set_option maxRecDepth 20000 in
theorem gX8_openLoan_X8_makeLoan : GoodIn wsX8_openLoan (wsV RX8 39 RX8 yX8_makeLoan wsX8_makeLoan) := goodIn_app (goodIn_of _ (by decide +kernel)) ggX8_openLoan_X8_makeLoan
theorem dX8_openLoan_0 : decode cX8_openLoan 0 = .ok (.aload_n 0, 1) := by decide +kernel
theorem dX8_openLoan_1 : decode cX8_openLoan 1 = .ok (.iconst 0, 1) := by decide +kernel
theorem dX8_openLoan_2 : decode cX8_openLoan 2 = .ok (.putfield 56, 3) := by decide +kernel
theorem dX8_openLoan_5 : decode cX8_openLoan 5 = .ok (.aload_n 0, 1) := by decide +kernel
theorem dX8_openLoan_6 : decode cX8_openLoan 6 = .ok (.iload_n 1, 1) := by decide +kernel
theorem dX8_openLoan_7 : decode cX8_openLoan 7 = .ok (.iconst 1, 1) := by decide +kernel
theorem dX8_openLoan_8 : decode cX8_openLoan 8 = .ok (.ldc 154, 2) := by decide +kernel
theorem dX8_openLoan_10 : decode cX8_openLoan 10 = .ok (.iconst 1, 1) := by decide +kernel
theorem dX8_openLoan_11 : decode cX8_openLoan 11 = .ok (.invokevirtual 66, 3) := by decide +kernel
theorem dX8_openLoan_14 : decode cX8_openLoan 14 = .ok (.ifCond .ne 28, 3) := by decide +kernel
theorem dX8_openLoan_17 : decode cX8_openLoan 17 = .ok (.aload_n 0, 1) := by decide +kernel
theorem dX8_openLoan_18 : decode cX8_openLoan 18 = .ok (.iload_n 2, 1) := by decide +kernel
theorem dX8_openLoan_19 : decode cX8_openLoan 19 = .ok (.iconst 0, 1) := by decide +kernel
theorem dX8_openLoan_20 : decode cX8_openLoan 20 = .ok (.sipush 3000, 3) := by decide +kernel
theorem dX8_openLoan_23 : decode cX8_openLoan 23 = .ok (.iconst 1, 1) := by decide +kernel
theorem dX8_openLoan_24 : decode cX8_openLoan 24 = .ok (.invokevirtual 66, 3) := by decide +kernel
theorem dX8_openLoan_27 : decode cX8_openLoan 27 = .ok (.ifCond .ne 15, 3) := by decide +kernel
theorem dX8_openLoan_30 : decode cX8_openLoan 30 = .ok (.aload_n 0, 1) := by decide +kernel
theorem dX8_openLoan_31 : decode cX8_openLoan 31 = .ok (.iload_n 3, 1) := by decide +kernel
theorem dX8_openLoan_32 : decode cX8_openLoan 32 = .ok (.iconst 1, 1) := by decide +kernel
theorem dX8_openLoan_33 : decode cX8_openLoan 33 = .ok (.bipush 120, 2) := by decide +kernel
theorem dX8_openLoan_35 : decode cX8_openLoan 35 = .ok (.iconst 1, 1) := by decide +kernel
theorem dX8_openLoan_36 : decode cX8_openLoan 36 = .ok (.invokevirtual 66, 3) := by decide +kernel
theorem dX8_openLoan_39 : decode cX8_openLoan 39 = .ok (.ifCond .eq 5, 3) := by decide +kernel
theorem dX8_openLoan_42 : decode cX8_openLoan 42 = .ok (.iconst 0, 1) := by decide +kernel
theorem dX8_openLoan_43 : decode cX8_openLoan 43 = .ok (.ireturn, 1) := by decide +kernel
theorem dX8_openLoan_44 : decode cX8_openLoan 44 = .ok (.aload_n 0, 1) := by decide +kernel
theorem dX8_openLoan_45 : decode cX8_openLoan 45 = .ok (.aload_n 0, 1) := by decide +kernel
theorem dX8_openLoan_46 : decode cX8_openLoan 46 = .ok (.getfield 9, 3) := by decide +kernel
theorem dX8_openLoan_49 : decode cX8_openLoan 49 = .ok (.iconst 0, 1) := by decide +kernel
theorem dX8_openLoan_50 : decode cX8_openLoan 50 = .ok (.iaload, 1) := by decide +kernel
theorem dX8_openLoan_51 : decode cX8_openLoan 51 = .ok (.bipush 6, 2) := by decide +kernel
theorem dX8_openLoan_53 : decode cX8_openLoan 53 = .ok (.if_icmp .ne 7, 3) := by decide +kernel
theorem dX8_openLoan_56 : decode cX8_openLoan 56 = .ok (.iconst 1, 1) := by decide +kernel
theorem dX8_openLoan_57 : decode cX8_openLoan 57 = .ok (.goto 4, 3) := by decide +kernel
theorem dX8_openLoan_60 : decode cX8_openLoan 60 = .ok (.iconst 0, 1) := by decide +kernel
theorem dX8_openLoan_61 : decode cX8_openLoan 61 = .ok (.iconst 2, 1) := by decide +kernel
theorem dX8_openLoan_62 : decode cX8_openLoan 62 = .ok (.invokevirtual 155, 3) := by decide +kernel
theorem dX8_openLoan_65 : decode cX8_openLoan 65 = .ok (.ifCond .eq 5, 3) := by decide +kernel
theorem dX8_openLoan_68 : decode cX8_openLoan 68 = .ok (.iconst 0, 1) := by decide +kernel
theorem dX8_openLoan_69 : decode cX8_openLoan 69 = .ok (.ireturn, 1) := by decide +kernel
theorem dX8_openLoan_70 : decode cX8_openLoan 70 = .ok (.aload_n 0, 1) := by decide +kernel
theorem dX8_openLoan_71 : decode cX8_openLoan 71 = .ok (.aload_n 0, 1) := by decide +kernel
theorem dX8_openLoan_72 : decode cX8_openLoan 72 = .ok (.getfield 9, 3) := by decide +kernel
theorem dX8_openLoan_75 : decode cX8_openLoan 75 = .ok (.invokevirtual 159, 3) := by decide +kernel
theorem dX8_openLoan_78 : decode cX8_openLoan 78 = .ok (.aload_n 0, 1) := by decide +kernel
theorem dX8_openLoan_79 : decode cX8_openLoan 79 = .ok (.iload_n 1, 1) := by decide +kernel
theorem dX8_openLoan_80 : decode cX8_openLoan 80 = .ok (.iload_n 2, 1) := by decide +kernel
theorem dX8_openLoan_81 : decode cX8_openLoan 81 = .ok (.iload_n 3, 1) := by decide +kernel
theorem dX8_openLoan_82 : decode cX8_openLoan 82 = .ok (.invokevirtual 39, 3) := by decide +kernel
theorem dX8_openLoan_85 : decode cX8_openLoan 85 = .ok (.ireturn, 1) := by decide +kernel
set_option maxRecDepth 20000 in
theorem ggX8_pay_X8_noLoan : GoodIn wsX8_pay wsX8_noLoan := goodIn_r _ [7, 2, 8, 9, 10, 6, 11, 1, 76, 77, 78, 79, 80, 81, 82, 83, 84, 85, 86, 87, 88, 89, 90, 91, 92, 93, 94, 95, 96, 97, 98, 99, 100, 101, 102, 103, 104] (by decide +kernel) (by decide +kernel)
set_option maxRecDepth 20000 in
theorem gX8_pay_X8_noLoan : GoodIn wsX8_pay (wsV RX8 163 RX8 yX8_noLoan wsX8_noLoan) := goodIn_app (goodIn_of _ (by decide +kernel)) ggX8_pay_X8_noLoan
set_option maxRecDepth 20000 in
theorem ggX8_pay_X8_isRunning : GoodIn wsX8_pay wsX8_isRunning := goodIn_r _ [15, 16, 17, 18, 6, 19, 2, 76, 77, 78, 79, 80, 81, 82, 83, 84, 85, 86, 87, 88, 89, 90, 91, 92, 93, 94, 95, 96, 97, 98, 99, 100, 101, 102, 103, 104] (by decide +kernel) (by decide +kernel)
set_option maxRecDepth 20000 in
theorem gX8_pay_X8_isRunning : GoodIn wsX8_pay (wsV RX8 130 RX8 yX8_isRunning wsX8_isRunning) := goodIn_app (goodIn_of _ (by decide +kernel)) ggX8_pay_X8_isRunning
set_option maxRecDepth 20000 in
theorem ggX8_pay_X8_raise : GoodIn wsX8_pay wsX8_raise := goodIn_r _ [23, 1, 76, 77, 78, 79, 80, 81, 82, 83, 84, 85, 86, 87, 88, 89, 90, 91, 92, 93, 94, 95, 96, 97, 98, 99, 100, 101, 102, 103, 104] (by decide +kernel) (by decide +kernel)
set_option maxRecDepth 20000 in
theorem gX8_pay_X8_raise : GoodIn wsX8_pay (wsV RX8 155 RX8 yX8_raise wsX8_raise) := goodIn_app (goodIn_of _ (by decide +kernel)) ggX8_pay_X8_raise
set_option maxRecDepth 20000 in
theorem ggX8_pay_X8_remember : GoodIn wsX8_pay wsX8_remember := goodIn_r _ [27, 28, 29, 30, 31, 6, 32, 76, 77, 78, 79, 80, 81, 82, 83, 84, 85, 86, 87, 88, 89, 90, 91, 92, 93, 94, 95, 96, 97, 98, 99, 100, 101, 102, 103, 104] (by decide +kernel) (by decide +kernel)
set_option maxRecDepth 20000 in
theorem gX8_pay_X8_remember : GoodIn wsX8_pay (wsV RX8 159 RX8 yX8_remember wsX8_remember) := goodIn_app (goodIn_of _ (by decide +kernel)) ggX8_pay_X8_remember
set_option maxRecDepth 20000 in
theorem ggX8_pay_X8_payOne : GoodIn wsX8_pay wsX8_payOne := goodIn_r _ [36, 37, 38, 39, 40, 41, 42, 43, 6, 44, 45, 46, 47, 48, 16, 17, 18, 19, 2, 49, 50, 51, 52, 53, 54, 55, 56, 57, 58, 59, 60, 61, 62, 63, 64, 65, 66, 67, 68, 69, 70, 71, 72, 73, 74, 75, 12, 13, 14, 15, 76, 77, 78, 79, 80, 81, 82, 83, 84, 85, 86, 87, 88, 89, 90, 91, 92, 93, 94, 95, 96, 97, 98, 99, 100, 101, 102, 103, 104] (by decide +kernel) (by decide +kernel)
set_option maxRecDepth 20000 in
theorem gX8_pay_X8_payOne : GoodIn wsX8_pay (wsV RX8 146 RX8 yX8_payOne wsX8_payOne) := goodIn_app (goodIn_of _ (by decide +kernel)) ggX8_pay_X8_payOne
theorem dX8_pay_0 : decode cX8_pay 0 = .ok (.aload_n 0, 1) := by decide +kernel
theorem dX8_pay_1 : decode cX8_pay 1 = .ok (.iconst 0, 1) := by decide +kernel
theorem dX8_pay_2 : decode cX8_pay 2 = .ok (.putfield 56, 3) := by decide +kernel
theorem dX8_pay_5 : decode cX8_pay 5 = .ok (.aload_n 0, 1) := by decide +kernel
theorem dX8_pay_6 : decode cX8_pay 6 = .ok (.iload_n 1, 1) := by decide +kernel
theorem dX8_pay_7 : decode cX8_pay 7 = .ok (.invokevirtual 163, 3) := by decide +kernel
theorem dX8_pay_10 : decode cX8_pay 10 = .ok (.ifCond .ne 24, 3) := by decide +kernel
theorem dX8_pay_13 : decode cX8_pay 13 = .ok (.aload_n 0, 1) := by decide +kernel
theorem dX8_pay_14 : decode cX8_pay 14 = .ok (.aload_n 0, 1) := by decide +kernel
theorem dX8_pay_15 : decode cX8_pay 15 = .ok (.iload_n 1, 1) := by decide +kernel
theorem dX8_pay_16 : decode cX8_pay 16 = .ok (.invokevirtual 130, 3) := by decide +kernel
theorem dX8_pay_19 : decode cX8_pay 19 = .ok (.ifCond .ne 7, 3) := by decide +kernel
theorem dX8_pay_22 : decode cX8_pay 22 = .ok (.iconst 1, 1) := by decide +kernel
theorem dX8_pay_23 : decode cX8_pay 23 = .ok (.goto 4, 3) := by decide +kernel
theorem dX8_pay_26 : decode cX8_pay 26 = .ok (.iconst 0, 1) := by decide +kernel
theorem dX8_pay_27 : decode cX8_pay 27 = .ok (.iconst 2, 1) := by decide +kernel
theorem dX8_pay_28 : decode cX8_pay 28 = .ok (.invokevirtual 155, 3) := by decide +kernel
theorem dX8_pay_31 : decode cX8_pay 31 = .ok (.ifCond .eq 5, 3) := by decide +kernel
theorem dX8_pay_34 : decode cX8_pay 34 = .ok (.iconst 0, 1) := by decide +kernel
theorem dX8_pay_35 : decode cX8_pay 35 = .ok (.ireturn, 1) := by decide +kernel
theorem dX8_pay_36 : decode cX8_pay 36 = .ok (.aload_n 0, 1) := by decide +kernel
theorem dX8_pay_37 : decode cX8_pay 37 = .ok (.aload_n 0, 1) := by decide +kernel
theorem dX8_pay_38 : decode cX8_pay 38 = .ok (.getfield 9, 3) := by decide +kernel
theorem dX8_pay_41 : decode cX8_pay 41 = .ok (.invokevirtual 159, 3) := by decide +kernel
theorem dX8_pay_44 : decode cX8_pay 44 = .ok (.aload_n 0, 1) := by decide +kernel
theorem dX8_pay_45 : decode cX8_pay 45 = .ok (.iload_n 1, 1) := by decide +kernel
theorem dX8_pay_46 : decode cX8_pay 46 = .ok (.invokevirtual 146, 3) := by decide +kernel
theorem dX8_pay_49 : decode cX8_pay 49 = .ok (.ireturn, 1) := by decide +kernel
set_option maxRecDepth 20000 in
theorem ggX8_payAll_X8_remember : GoodIn wsX8_payAll wsX8_remember := goodIn_r _ [7, 8, 9, 10, 11, 6, 12, 68, 69, 70, 71, 72, 73, 74, 75, 76, 77, 78, 79, 80, 81, 82, 83, 84, 85, 86, 87, 88, 89, 90, 91, 92, 93, 94, 95, 96] (by decide +kernel) (by decide +kernel)
set_option maxRecDepth 20000 in
theorem gX8_payAll_X8_remember : GoodIn wsX8_payAll (wsV RX8 159 RX8 yX8_remember wsX8_remember) := goodIn_app (goodIn_of _ (by decide +kernel)) ggX8_payAll_X8_remember
set_option maxRecDepth 20000 in
theorem ggX8_payAll_X8_payEach : GoodIn wsX8_payAll wsX8_payEach := goodIn_r _ [16, 2, 17, 18, 19, 6, 20, 21, 22, 23, 24, 25, 26, 27, 28, 29, 30, 31, 32, 33, 34, 35, 36, 37, 38, 39, 40, 41, 42, 43, 44, 45, 46, 47, 48, 49, 50, 51, 52, 53, 54, 55, 56, 57, 58, 59, 60, 61, 62, 63, 64, 65, 66, 67, 68, 69, 70, 71, 72, 73, 74, 75, 76, 77, 78, 79, 80, 81, 82, 83, 84, 85, 86, 87, 88, 89, 90, 91, 92, 93, 94, 95, 96] (by decide +kernel) (by decide +kernel)
set_option maxRecDepth 20000 in
theorem gX8_payAll_X8_payEach : GoodIn wsX8_payAll (wsV RX8 44 RX8 yX8_payEach wsX8_payEach) := goodIn_app (goodIn_of _ (by decide +kernel)) ggX8_payAll_X8_payEach
theorem dX8_payAll_0 : decode cX8_payAll 0 = .ok (.aload_n 0, 1) := by decide +kernel
theorem dX8_payAll_1 : decode cX8_payAll 1 = .ok (.iconst 0, 1) := by decide +kernel
theorem dX8_payAll_2 : decode cX8_payAll 2 = .ok (.putfield 56, 3) := by decide +kernel
theorem dX8_payAll_5 : decode cX8_payAll 5 = .ok (.aload_n 0, 1) := by decide +kernel
theorem dX8_payAll_6 : decode cX8_payAll 6 = .ok (.aload_n 0, 1) := by decide +kernel
theorem dX8_payAll_7 : decode cX8_payAll 7 = .ok (.getfield 9, 3) := by decide +kernel
theorem dX8_payAll_10 : decode cX8_payAll 10 = .ok (.invokevirtual 159, 3) := by decide +kernel
theorem dX8_payAll_13 : decode cX8_payAll 13 = .ok (.aload_n 0, 1) := by decide +kernel
theorem dX8_payAll_14 : decode cX8_payAll 14 = .ok (.invokevirtual 44, 3) := by decide +kernel
theorem dX8_payAll_17 : decode cX8_payAll 17 = .ok (.ireturn, 1) := by decide +kernel
set_option maxRecDepth 20000 in
theorem ggX8_payExtra_X8_noLoan : GoodIn wsX8_payExtra wsX8_noLoan := goodIn_r _ [8, 3, 9, 10, 11, 7, 12, 1, 98, 99, 100, 101, 102, 103, 104, 105, 106, 107, 108, 109, 110, 111, 112, 113, 114, 115, 116, 117, 118, 119, 120, 121, 122, 123, 124, 125, 126] (by decide +kernel) (by decide +kernel)
set_option maxRecDepth 20000 in
theorem gX8_payExtra_X8_noLoan : GoodIn wsX8_payExtra (wsV RX8 163 RX8 yX8_noLoan wsX8_noLoan) := goodIn_app (goodIn_of _ (by decide +kernel)) ggX8_payExtra_X8_noLoan
set_option maxRecDepth 20000 in
theorem ggX8_payExtra_X8_outside : GoodIn wsX8_payExtra wsX8_outside := goodIn_r _ [12, 1, 98, 99, 100, 101, 102, 103, 104, 105, 106, 107, 108, 109, 110, 111, 112, 113, 114, 115, 116, 117, 118, 119, 120, 121, 122, 123, 124, 125, 126] (by decide +kernel) (by decide +kernel)
set_option maxRecDepth 20000 in
theorem gX8_payExtra_X8_outside : GoodIn wsX8_payExtra (wsV RX8 66 RX8 yX8_outside wsX8_outside) := goodIn_app (goodIn_of _ (by decide +kernel)) ggX8_payExtra_X8_outside
set_option maxRecDepth 20000 in
theorem ggX8_payExtra_X8_cannotPayExtra : GoodIn wsX8_payExtra wsX8_cannotPayExtra := goodIn_r _ [16, 17, 18, 19, 7, 20, 21, 22, 23, 24, 3, 98, 99, 100, 101, 102, 103, 104, 105, 106, 107, 108, 109, 110, 111, 112, 113, 114, 115, 116, 117, 118, 119, 120, 121, 122, 123, 124, 125, 126] (by decide +kernel) (by decide +kernel)
set_option maxRecDepth 20000 in
theorem gX8_payExtra_X8_cannotPayExtra : GoodIn wsX8_payExtra (wsV RX8 166 RX8 yX8_cannotPayExtra wsX8_cannotPayExtra) := goodIn_app (goodIn_of _ (by decide +kernel)) ggX8_payExtra_X8_cannotPayExtra
set_option maxRecDepth 20000 in
theorem ggX8_payExtra_X8_raise : GoodIn wsX8_payExtra wsX8_raise := goodIn_r _ [28, 1, 98, 99, 100, 101, 102, 103, 104, 105, 106, 107, 108, 109, 110, 111, 112, 113, 114, 115, 116, 117, 118, 119, 120, 121, 122, 123, 124, 125, 126] (by decide +kernel) (by decide +kernel)
set_option maxRecDepth 20000 in
theorem gX8_payExtra_X8_raise : GoodIn wsX8_payExtra (wsV RX8 155 RX8 yX8_raise wsX8_raise) := goodIn_app (goodIn_of _ (by decide +kernel)) ggX8_payExtra_X8_raise
set_option maxRecDepth 20000 in
theorem ggX8_payExtra_X8_remember : GoodIn wsX8_payExtra wsX8_remember := goodIn_r _ [32, 33, 34, 35, 36, 7, 37, 98, 99, 100, 101, 102, 103, 104, 105, 106, 107, 108, 109, 110, 111, 112, 113, 114, 115, 116, 117, 118, 119, 120, 121, 122, 123, 124, 125, 126] (by decide +kernel) (by decide +kernel)
set_option maxRecDepth 20000 in
theorem gX8_payExtra_X8_remember : GoodIn wsX8_payExtra (wsV RX8 159 RX8 yX8_remember wsX8_remember) := goodIn_app (goodIn_of _ (by decide +kernel)) ggX8_payExtra_X8_remember
set_option maxRecDepth 20000 in
theorem ggX8_payExtra_X8_extra : GoodIn wsX8_payExtra wsX8_extra := goodIn_r _ [41, 42, 43, 44, 7, 45, 21, 22, 23, 24, 3, 46, 47, 48, 49, 50, 51, 52, 53, 54, 55, 56, 57, 17, 18, 19, 20, 58, 59, 60, 61, 62, 63, 64, 65, 66, 67, 68, 69, 70, 71, 72, 73, 74, 75, 76, 77, 78, 79, 80, 81, 82, 83, 84, 85, 86, 87, 88, 89, 90, 91, 92, 93, 94, 95, 96, 97, 98, 99, 100, 101, 102, 103, 104, 105, 106, 107, 108, 109, 110, 111, 112, 113, 114, 115, 116, 117, 118, 119, 120, 121, 122, 123, 124, 125, 126] (by decide +kernel) (by decide +kernel)
set_option maxRecDepth 20000 in
theorem gX8_payExtra_X8_extra : GoodIn wsX8_payExtra (wsV RX8 48 RX8 yX8_extra wsX8_extra) := goodIn_app (goodIn_of _ (by decide +kernel)) ggX8_payExtra_X8_extra
set_option maxRecDepth 20000 in
theorem ggX8_payExtra_X8_of : GoodIn wsX8_payExtra wsX8_of := goodIn_r _ [24, 3, 98, 99, 100, 101, 102, 103, 104, 105, 106, 107, 108, 109, 110, 111, 112, 113, 114, 115, 116, 117, 118, 119, 120, 121, 122, 123, 124, 125, 126] (by decide +kernel) (by decide +kernel)
set_option maxRecDepth 20000 in
theorem gX8_payExtra_X8_of : GoodIn wsX8_payExtra (wsV RX8 70 RX8 yX8_of wsX8_of) := goodIn_app (goodIn_of _ (by decide +kernel)) ggX8_payExtra_X8_of
theorem dX8_payExtra_0 : decode cX8_payExtra 0 = .ok (.aload_n 0, 1) := by decide +kernel
theorem dX8_payExtra_1 : decode cX8_payExtra 1 = .ok (.iconst 0, 1) := by decide +kernel
theorem dX8_payExtra_2 : decode cX8_payExtra 2 = .ok (.putfield 56, 3) := by decide +kernel
theorem dX8_payExtra_5 : decode cX8_payExtra 5 = .ok (.aload_n 0, 1) := by decide +kernel
theorem dX8_payExtra_6 : decode cX8_payExtra 6 = .ok (.iload_n 1, 1) := by decide +kernel
theorem dX8_payExtra_7 : decode cX8_payExtra 7 = .ok (.invokevirtual 163, 3) := by decide +kernel
theorem dX8_payExtra_10 : decode cX8_payExtra 10 = .ok (.ifCond .ne 29, 3) := by decide +kernel
theorem dX8_payExtra_13 : decode cX8_payExtra 13 = .ok (.aload_n 0, 1) := by decide +kernel
theorem dX8_payExtra_14 : decode cX8_payExtra 14 = .ok (.iload_n 2, 1) := by decide +kernel
theorem dX8_payExtra_15 : decode cX8_payExtra 15 = .ok (.iconst 1, 1) := by decide +kernel
theorem dX8_payExtra_16 : decode cX8_payExtra 16 = .ok (.ldc 154, 2) := by decide +kernel
theorem dX8_payExtra_18 : decode cX8_payExtra 18 = .ok (.iconst 2, 1) := by decide +kernel
theorem dX8_payExtra_19 : decode cX8_payExtra 19 = .ok (.invokevirtual 66, 3) := by decide +kernel
theorem dX8_payExtra_22 : decode cX8_payExtra 22 = .ok (.ifCond .ne 17, 3) := by decide +kernel
theorem dX8_payExtra_25 : decode cX8_payExtra 25 = .ok (.aload_n 0, 1) := by decide +kernel
theorem dX8_payExtra_26 : decode cX8_payExtra 26 = .ok (.aload_n 0, 1) := by decide +kernel
theorem dX8_payExtra_27 : decode cX8_payExtra 27 = .ok (.iload_n 1, 1) := by decide +kernel
theorem dX8_payExtra_28 : decode cX8_payExtra 28 = .ok (.iload_n 2, 1) := by decide +kernel
theorem dX8_payExtra_29 : decode cX8_payExtra 29 = .ok (.invokevirtual 166, 3) := by decide +kernel
theorem dX8_payExtra_32 : decode cX8_payExtra 32 = .ok (.iconst 3, 1) := by decide +kernel
theorem dX8_payExtra_33 : decode cX8_payExtra 33 = .ok (.invokevirtual 155, 3) := by decide +kernel
theorem dX8_payExtra_36 : decode cX8_payExtra 36 = .ok (.ifCond .eq 5, 3) := by decide +kernel
theorem dX8_payExtra_39 : decode cX8_payExtra 39 = .ok (.iconst 0, 1) := by decide +kernel
theorem dX8_payExtra_40 : decode cX8_payExtra 40 = .ok (.ireturn, 1) := by decide +kernel
theorem dX8_payExtra_41 : decode cX8_payExtra 41 = .ok (.aload_n 0, 1) := by decide +kernel
theorem dX8_payExtra_42 : decode cX8_payExtra 42 = .ok (.aload_n 0, 1) := by decide +kernel
theorem dX8_payExtra_43 : decode cX8_payExtra 43 = .ok (.getfield 9, 3) := by decide +kernel
theorem dX8_payExtra_46 : decode cX8_payExtra 46 = .ok (.invokevirtual 159, 3) := by decide +kernel
theorem dX8_payExtra_49 : decode cX8_payExtra 49 = .ok (.aload_n 0, 1) := by decide +kernel
theorem dX8_payExtra_50 : decode cX8_payExtra 50 = .ok (.iload_n 1, 1) := by decide +kernel
theorem dX8_payExtra_51 : decode cX8_payExtra 51 = .ok (.iload_n 2, 1) := by decide +kernel
theorem dX8_payExtra_52 : decode cX8_payExtra 52 = .ok (.iload_n 3, 1) := by decide +kernel
theorem dX8_payExtra_53 : decode cX8_payExtra 53 = .ok (.invokevirtual 48, 3) := by decide +kernel
theorem dX8_payExtra_56 : decode cX8_payExtra 56 = .ok (.aload_n 0, 1) := by decide +kernel
theorem dX8_payExtra_57 : decode cX8_payExtra 57 = .ok (.iload_n 1, 1) := by decide +kernel
theorem dX8_payExtra_58 : decode cX8_payExtra 58 = .ok (.iconst 1, 1) := by decide +kernel
theorem dX8_payExtra_59 : decode cX8_payExtra 59 = .ok (.invokevirtual 70, 3) := by decide +kernel
theorem dX8_payExtra_62 : decode cX8_payExtra 62 = .ok (.ireturn, 1) := by decide +kernel
set_option maxRecDepth 20000 in
theorem ggX8_skipMonth_X8_noLoan : GoodIn wsX8_skipMonth wsX8_noLoan := goodIn_r _ [7, 2, 8, 9, 10, 6, 11, 1, 90, 91, 92, 93, 94, 95, 96, 97, 98, 99, 100, 101, 102, 103, 104, 105, 106, 107, 108, 109, 110, 111, 112, 113, 114, 115, 116, 117, 118] (by decide +kernel) (by decide +kernel)
set_option maxRecDepth 20000 in
theorem gX8_skipMonth_X8_noLoan : GoodIn wsX8_skipMonth (wsV RX8 163 RX8 yX8_noLoan wsX8_noLoan) := goodIn_app (goodIn_of _ (by decide +kernel)) ggX8_skipMonth_X8_noLoan
set_option maxRecDepth 20000 in
theorem ggX8_skipMonth_X8_cannotSkip : GoodIn wsX8_skipMonth wsX8_cannotSkip := goodIn_r _ [15, 16, 17, 18, 19, 20, 6, 21, 22, 23, 24, 25, 2, 26, 27, 28, 29, 30, 31, 32, 33, 34, 35, 36, 37, 38, 39, 40, 41, 42, 43, 44, 45, 46, 47, 90, 91, 92, 93, 94, 95, 96, 97, 98, 99, 100, 101, 102, 103, 104, 105, 106, 107, 108, 109, 110, 111, 112, 113, 114, 115, 116, 117, 118] (by decide +kernel) (by decide +kernel)
set_option maxRecDepth 20000 in
theorem gX8_skipMonth_X8_cannotSkip : GoodIn wsX8_skipMonth (wsV RX8 170 RX8 yX8_cannotSkip wsX8_cannotSkip) := goodIn_app (goodIn_of _ (by decide +kernel)) ggX8_skipMonth_X8_cannotSkip
set_option maxRecDepth 20000 in
theorem ggX8_skipMonth_X8_raise : GoodIn wsX8_skipMonth wsX8_raise := goodIn_r _ [51, 1, 90, 91, 92, 93, 94, 95, 96, 97, 98, 99, 100, 101, 102, 103, 104, 105, 106, 107, 108, 109, 110, 111, 112, 113, 114, 115, 116, 117, 118] (by decide +kernel) (by decide +kernel)
set_option maxRecDepth 20000 in
theorem gX8_skipMonth_X8_raise : GoodIn wsX8_skipMonth (wsV RX8 155 RX8 yX8_raise wsX8_raise) := goodIn_app (goodIn_of _ (by decide +kernel)) ggX8_skipMonth_X8_raise
set_option maxRecDepth 20000 in
theorem ggX8_skipMonth_X8_remember : GoodIn wsX8_skipMonth wsX8_remember := goodIn_r _ [55, 56, 57, 58, 59, 6, 60, 90, 91, 92, 93, 94, 95, 96, 97, 98, 99, 100, 101, 102, 103, 104, 105, 106, 107, 108, 109, 110, 111, 112, 113, 114, 115, 116, 117, 118] (by decide +kernel) (by decide +kernel)
set_option maxRecDepth 20000 in
theorem gX8_skipMonth_X8_remember : GoodIn wsX8_skipMonth (wsV RX8 159 RX8 yX8_remember wsX8_remember) := goodIn_app (goodIn_of _ (by decide +kernel)) ggX8_skipMonth_X8_remember
set_option maxRecDepth 20000 in
theorem ggX8_skipMonth_X8_skip : GoodIn wsX8_skipMonth wsX8_skip := goodIn_r _ [64, 16, 39, 26, 27, 28, 6, 29, 30, 31, 32, 33, 22, 23, 24, 25, 2, 34, 35, 36, 37, 38, 40, 41, 42, 43, 44, 45, 46, 47, 65, 66, 67, 68, 69, 70, 71, 72, 73, 74, 75, 76, 77, 78, 79, 80, 81, 82, 83, 84, 85, 86, 87, 88, 89, 90, 91, 92, 93, 94, 95, 96, 97, 98, 99, 100, 101, 102, 103, 104, 105, 106, 107, 108, 109, 110, 111, 112, 113, 114, 115, 116, 117, 118] (by decide +kernel) (by decide +kernel)
set_option maxRecDepth 20000 in
theorem gX8_skipMonth_X8_skip : GoodIn wsX8_skipMonth (wsV RX8 52 RX8 yX8_skip wsX8_skip) := goodIn_app (goodIn_of _ (by decide +kernel)) ggX8_skipMonth_X8_skip
theorem dX8_skipMonth_0 : decode cX8_skipMonth 0 = .ok (.aload_n 0, 1) := by decide +kernel
theorem dX8_skipMonth_1 : decode cX8_skipMonth 1 = .ok (.iconst 0, 1) := by decide +kernel
theorem dX8_skipMonth_2 : decode cX8_skipMonth 2 = .ok (.putfield 56, 3) := by decide +kernel
theorem dX8_skipMonth_5 : decode cX8_skipMonth 5 = .ok (.aload_n 0, 1) := by decide +kernel
theorem dX8_skipMonth_6 : decode cX8_skipMonth 6 = .ok (.iload_n 1, 1) := by decide +kernel
theorem dX8_skipMonth_7 : decode cX8_skipMonth 7 = .ok (.invokevirtual 163, 3) := by decide +kernel
theorem dX8_skipMonth_10 : decode cX8_skipMonth 10 = .ok (.ifCond .ne 16, 3) := by decide +kernel
theorem dX8_skipMonth_13 : decode cX8_skipMonth 13 = .ok (.aload_n 0, 1) := by decide +kernel
theorem dX8_skipMonth_14 : decode cX8_skipMonth 14 = .ok (.aload_n 0, 1) := by decide +kernel
theorem dX8_skipMonth_15 : decode cX8_skipMonth 15 = .ok (.iload_n 1, 1) := by decide +kernel
theorem dX8_skipMonth_16 : decode cX8_skipMonth 16 = .ok (.invokevirtual 170, 3) := by decide +kernel
theorem dX8_skipMonth_19 : decode cX8_skipMonth 19 = .ok (.iconst 2, 1) := by decide +kernel
theorem dX8_skipMonth_20 : decode cX8_skipMonth 20 = .ok (.invokevirtual 155, 3) := by decide +kernel
theorem dX8_skipMonth_23 : decode cX8_skipMonth 23 = .ok (.ifCond .eq 5, 3) := by decide +kernel
theorem dX8_skipMonth_26 : decode cX8_skipMonth 26 = .ok (.iconst 0, 1) := by decide +kernel
theorem dX8_skipMonth_27 : decode cX8_skipMonth 27 = .ok (.ireturn, 1) := by decide +kernel
theorem dX8_skipMonth_28 : decode cX8_skipMonth 28 = .ok (.aload_n 0, 1) := by decide +kernel
theorem dX8_skipMonth_29 : decode cX8_skipMonth 29 = .ok (.aload_n 0, 1) := by decide +kernel
theorem dX8_skipMonth_30 : decode cX8_skipMonth 30 = .ok (.getfield 9, 3) := by decide +kernel
theorem dX8_skipMonth_33 : decode cX8_skipMonth 33 = .ok (.invokevirtual 159, 3) := by decide +kernel
theorem dX8_skipMonth_36 : decode cX8_skipMonth 36 = .ok (.aload_n 0, 1) := by decide +kernel
theorem dX8_skipMonth_37 : decode cX8_skipMonth 37 = .ok (.iload_n 1, 1) := by decide +kernel
theorem dX8_skipMonth_38 : decode cX8_skipMonth 38 = .ok (.invokevirtual 52, 3) := by decide +kernel
theorem dX8_skipMonth_41 : decode cX8_skipMonth 41 = .ok (.ireturn, 1) := by decide +kernel
set_option maxRecDepth 20000 in
theorem ggX8_changeRate_X8_noLoan : GoodIn wsX8_changeRate wsX8_noLoan := goodIn_r _ [7, 2, 8, 9, 10, 6, 11, 1, 77, 78, 79, 80, 81, 82, 83, 84, 85, 86, 87, 88, 89, 90, 91, 92, 93, 94, 95, 96, 97, 98, 99, 100, 101, 102, 103, 104, 105] (by decide +kernel) (by decide +kernel)
set_option maxRecDepth 20000 in
theorem gX8_changeRate_X8_noLoan : GoodIn wsX8_changeRate (wsV RX8 163 RX8 yX8_noLoan wsX8_noLoan) := goodIn_app (goodIn_of _ (by decide +kernel)) ggX8_changeRate_X8_noLoan
set_option maxRecDepth 20000 in
theorem ggX8_changeRate_X8_outside : GoodIn wsX8_changeRate wsX8_outside := goodIn_r _ [11, 1, 77, 78, 79, 80, 81, 82, 83, 84, 85, 86, 87, 88, 89, 90, 91, 92, 93, 94, 95, 96, 97, 98, 99, 100, 101, 102, 103, 104, 105] (by decide +kernel) (by decide +kernel)
set_option maxRecDepth 20000 in
theorem gX8_changeRate_X8_outside : GoodIn wsX8_changeRate (wsV RX8 66 RX8 yX8_outside wsX8_outside) := goodIn_app (goodIn_of _ (by decide +kernel)) ggX8_changeRate_X8_outside
set_option maxRecDepth 20000 in
theorem ggX8_changeRate_X8_isRunning : GoodIn wsX8_changeRate wsX8_isRunning := goodIn_r _ [15, 16, 17, 18, 6, 19, 2, 77, 78, 79, 80, 81, 82, 83, 84, 85, 86, 87, 88, 89, 90, 91, 92, 93, 94, 95, 96, 97, 98, 99, 100, 101, 102, 103, 104, 105] (by decide +kernel) (by decide +kernel)
set_option maxRecDepth 20000 in
theorem gX8_changeRate_X8_isRunning : GoodIn wsX8_changeRate (wsV RX8 130 RX8 yX8_isRunning wsX8_isRunning) := goodIn_app (goodIn_of _ (by decide +kernel)) ggX8_changeRate_X8_isRunning
set_option maxRecDepth 20000 in
theorem ggX8_changeRate_X8_raise : GoodIn wsX8_changeRate wsX8_raise := goodIn_r _ [23, 1, 77, 78, 79, 80, 81, 82, 83, 84, 85, 86, 87, 88, 89, 90, 91, 92, 93, 94, 95, 96, 97, 98, 99, 100, 101, 102, 103, 104, 105] (by decide +kernel) (by decide +kernel)
set_option maxRecDepth 20000 in
theorem gX8_changeRate_X8_raise : GoodIn wsX8_changeRate (wsV RX8 155 RX8 yX8_raise wsX8_raise) := goodIn_app (goodIn_of _ (by decide +kernel)) ggX8_changeRate_X8_raise
set_option maxRecDepth 20000 in
theorem ggX8_changeRate_X8_remember : GoodIn wsX8_changeRate wsX8_remember := goodIn_r _ [27, 28, 29, 30, 31, 6, 32, 77, 78, 79, 80, 81, 82, 83, 84, 85, 86, 87, 88, 89, 90, 91, 92, 93, 94, 95, 96, 97, 98, 99, 100, 101, 102, 103, 104, 105] (by decide +kernel) (by decide +kernel)
set_option maxRecDepth 20000 in
theorem gX8_changeRate_X8_remember : GoodIn wsX8_changeRate (wsV RX8 159 RX8 yX8_remember wsX8_remember) := goodIn_app (goodIn_of _ (by decide +kernel)) ggX8_changeRate_X8_remember
set_option maxRecDepth 20000 in
theorem ggX8_changeRate_X8_setRate : GoodIn wsX8_changeRate wsX8_setRate := goodIn_r _ [36, 37, 38, 39, 6, 40, 2, 41, 42, 43, 44, 16, 17, 18, 19, 45, 46, 47, 48, 49, 50, 51, 52, 53, 54, 55, 56, 57, 58, 59, 60, 61, 62, 63, 64, 65, 66, 67, 68, 69, 70, 71, 72, 73, 74, 75, 76, 77, 78, 79, 80, 81, 82, 83, 84, 85, 86, 87, 88, 89, 90, 91, 92, 93, 94, 95, 96, 97, 98, 99, 100, 101, 102, 103, 104, 105] (by decide +kernel) (by decide +kernel)
set_option maxRecDepth 20000 in
theorem gX8_changeRate_X8_setRate : GoodIn wsX8_changeRate (wsV RX8 173 RX8 yX8_setRate wsX8_setRate) := goodIn_app (goodIn_of _ (by decide +kernel)) ggX8_changeRate_X8_setRate
set_option maxRecDepth 20000 in
theorem ggX8_changeRate_X8_of : GoodIn wsX8_changeRate wsX8_of := goodIn_r _ [19, 2, 77, 78, 79, 80, 81, 82, 83, 84, 85, 86, 87, 88, 89, 90, 91, 92, 93, 94, 95, 96, 97, 98, 99, 100, 101, 102, 103, 104, 105] (by decide +kernel) (by decide +kernel)
set_option maxRecDepth 20000 in
theorem gX8_changeRate_X8_of : GoodIn wsX8_changeRate (wsV RX8 70 RX8 yX8_of wsX8_of) := goodIn_app (goodIn_of _ (by decide +kernel)) ggX8_changeRate_X8_of
theorem dX8_changeRate_0 : decode cX8_changeRate 0 = .ok (.aload_n 0, 1) := by decide +kernel
theorem dX8_changeRate_1 : decode cX8_changeRate 1 = .ok (.iconst 0, 1) := by decide +kernel
theorem dX8_changeRate_2 : decode cX8_changeRate 2 = .ok (.putfield 56, 3) := by decide +kernel
theorem dX8_changeRate_5 : decode cX8_changeRate 5 = .ok (.aload_n 0, 1) := by decide +kernel
theorem dX8_changeRate_6 : decode cX8_changeRate 6 = .ok (.iload_n 1, 1) := by decide +kernel
theorem dX8_changeRate_7 : decode cX8_changeRate 7 = .ok (.invokevirtual 163, 3) := by decide +kernel
theorem dX8_changeRate_10 : decode cX8_changeRate 10 = .ok (.ifCond .ne 37, 3) := by decide +kernel
theorem dX8_changeRate_13 : decode cX8_changeRate 13 = .ok (.aload_n 0, 1) := by decide +kernel
theorem dX8_changeRate_14 : decode cX8_changeRate 14 = .ok (.iload_n 2, 1) := by decide +kernel
theorem dX8_changeRate_15 : decode cX8_changeRate 15 = .ok (.iconst 0, 1) := by decide +kernel
theorem dX8_changeRate_16 : decode cX8_changeRate 16 = .ok (.sipush 3000, 3) := by decide +kernel
theorem dX8_changeRate_19 : decode cX8_changeRate 19 = .ok (.iconst 2, 1) := by decide +kernel
theorem dX8_changeRate_20 : decode cX8_changeRate 20 = .ok (.invokevirtual 66, 3) := by decide +kernel
theorem dX8_changeRate_23 : decode cX8_changeRate 23 = .ok (.ifCond .ne 24, 3) := by decide +kernel
theorem dX8_changeRate_26 : decode cX8_changeRate 26 = .ok (.aload_n 0, 1) := by decide +kernel
theorem dX8_changeRate_27 : decode cX8_changeRate 27 = .ok (.aload_n 0, 1) := by decide +kernel
theorem dX8_changeRate_28 : decode cX8_changeRate 28 = .ok (.iload_n 1, 1) := by decide +kernel
theorem dX8_changeRate_29 : decode cX8_changeRate 29 = .ok (.invokevirtual 130, 3) := by decide +kernel
theorem dX8_changeRate_32 : decode cX8_changeRate 32 = .ok (.ifCond .ne 7, 3) := by decide +kernel
theorem dX8_changeRate_35 : decode cX8_changeRate 35 = .ok (.iconst 1, 1) := by decide +kernel
theorem dX8_changeRate_36 : decode cX8_changeRate 36 = .ok (.goto 4, 3) := by decide +kernel
theorem dX8_changeRate_39 : decode cX8_changeRate 39 = .ok (.iconst 0, 1) := by decide +kernel
theorem dX8_changeRate_40 : decode cX8_changeRate 40 = .ok (.iconst 3, 1) := by decide +kernel
theorem dX8_changeRate_41 : decode cX8_changeRate 41 = .ok (.invokevirtual 155, 3) := by decide +kernel
theorem dX8_changeRate_44 : decode cX8_changeRate 44 = .ok (.ifCond .eq 5, 3) := by decide +kernel
theorem dX8_changeRate_47 : decode cX8_changeRate 47 = .ok (.iconst 0, 1) := by decide +kernel
theorem dX8_changeRate_48 : decode cX8_changeRate 48 = .ok (.ireturn, 1) := by decide +kernel
theorem dX8_changeRate_49 : decode cX8_changeRate 49 = .ok (.aload_n 0, 1) := by decide +kernel
theorem dX8_changeRate_50 : decode cX8_changeRate 50 = .ok (.aload_n 0, 1) := by decide +kernel
theorem dX8_changeRate_51 : decode cX8_changeRate 51 = .ok (.getfield 9, 3) := by decide +kernel
theorem dX8_changeRate_54 : decode cX8_changeRate 54 = .ok (.invokevirtual 159, 3) := by decide +kernel
theorem dX8_changeRate_57 : decode cX8_changeRate 57 = .ok (.aload_n 0, 1) := by decide +kernel
theorem dX8_changeRate_58 : decode cX8_changeRate 58 = .ok (.iload_n 1, 1) := by decide +kernel
theorem dX8_changeRate_59 : decode cX8_changeRate 59 = .ok (.iload_n 2, 1) := by decide +kernel
theorem dX8_changeRate_60 : decode cX8_changeRate 60 = .ok (.invokevirtual 173, 3) := by decide +kernel
theorem dX8_changeRate_63 : decode cX8_changeRate 63 = .ok (.aload_n 0, 1) := by decide +kernel
theorem dX8_changeRate_64 : decode cX8_changeRate 64 = .ok (.iload_n 1, 1) := by decide +kernel
theorem dX8_changeRate_65 : decode cX8_changeRate 65 = .ok (.iconst 4, 1) := by decide +kernel
theorem dX8_changeRate_66 : decode cX8_changeRate 66 = .ok (.invokevirtual 70, 3) := by decide +kernel
theorem dX8_changeRate_69 : decode cX8_changeRate 69 = .ok (.ireturn, 1) := by decide +kernel
set_option maxRecDepth 20000 in
theorem ggX8_extendTerm_X8_noLoan : GoodIn wsX8_extendTerm wsX8_noLoan := goodIn_r _ [7, 2, 8, 9, 10, 6, 11, 1, 85, 86, 87, 88, 89, 90, 91, 92, 93, 94, 95, 96, 97, 98, 99, 100, 101, 102, 103, 104, 105, 106, 107, 108, 109, 110, 111, 112, 113] (by decide +kernel) (by decide +kernel)
set_option maxRecDepth 20000 in
theorem gX8_extendTerm_X8_noLoan : GoodIn wsX8_extendTerm (wsV RX8 163 RX8 yX8_noLoan wsX8_noLoan) := goodIn_app (goodIn_of _ (by decide +kernel)) ggX8_extendTerm_X8_noLoan
set_option maxRecDepth 20000 in
theorem ggX8_extendTerm_X8_outside : GoodIn wsX8_extendTerm wsX8_outside := goodIn_r _ [11, 1, 85, 86, 87, 88, 89, 90, 91, 92, 93, 94, 95, 96, 97, 98, 99, 100, 101, 102, 103, 104, 105, 106, 107, 108, 109, 110, 111, 112, 113] (by decide +kernel) (by decide +kernel)
set_option maxRecDepth 20000 in
theorem gX8_extendTerm_X8_outside : GoodIn wsX8_extendTerm (wsV RX8 66 RX8 yX8_outside wsX8_outside) := goodIn_app (goodIn_of _ (by decide +kernel)) ggX8_extendTerm_X8_outside
set_option maxRecDepth 20000 in
theorem ggX8_extendTerm_X8_cannotExtend : GoodIn wsX8_extendTerm wsX8_cannotExtend := goodIn_r _ [15, 16, 17, 18, 6, 19, 20, 21, 22, 23, 2, 85, 86, 87, 88, 89, 90, 91, 92, 93, 94, 95, 96, 97, 98, 99, 100, 101, 102, 103, 104, 105, 106, 107, 108, 109, 110, 111, 112, 113] (by decide +kernel) (by decide +kernel)
set_option maxRecDepth 20000 in
theorem gX8_extendTerm_X8_cannotExtend : GoodIn wsX8_extendTerm (wsV RX8 177 RX8 yX8_cannotExtend wsX8_cannotExtend) := goodIn_app (goodIn_of _ (by decide +kernel)) ggX8_extendTerm_X8_cannotExtend
set_option maxRecDepth 20000 in
theorem ggX8_extendTerm_X8_raise : GoodIn wsX8_extendTerm wsX8_raise := goodIn_r _ [27, 1, 85, 86, 87, 88, 89, 90, 91, 92, 93, 94, 95, 96, 97, 98, 99, 100, 101, 102, 103, 104, 105, 106, 107, 108, 109, 110, 111, 112, 113] (by decide +kernel) (by decide +kernel)
set_option maxRecDepth 20000 in
theorem gX8_extendTerm_X8_raise : GoodIn wsX8_extendTerm (wsV RX8 155 RX8 yX8_raise wsX8_raise) := goodIn_app (goodIn_of _ (by decide +kernel)) ggX8_extendTerm_X8_raise
set_option maxRecDepth 20000 in
theorem ggX8_extendTerm_X8_remember : GoodIn wsX8_extendTerm wsX8_remember := goodIn_r _ [31, 32, 33, 34, 35, 6, 36, 85, 86, 87, 88, 89, 90, 91, 92, 93, 94, 95, 96, 97, 98, 99, 100, 101, 102, 103, 104, 105, 106, 107, 108, 109, 110, 111, 112, 113] (by decide +kernel) (by decide +kernel)
set_option maxRecDepth 20000 in
theorem gX8_extendTerm_X8_remember : GoodIn wsX8_extendTerm (wsV RX8 159 RX8 yX8_remember wsX8_remember) := goodIn_app (goodIn_of _ (by decide +kernel)) ggX8_extendTerm_X8_remember
set_option maxRecDepth 20000 in
theorem ggX8_extendTerm_X8_extend : GoodIn wsX8_extendTerm wsX8_extend := goodIn_r _ [40, 41, 42, 43, 6, 44, 20, 21, 22, 23, 2, 45, 46, 47, 48, 49, 50, 51, 52, 53, 54, 55, 56, 57, 58, 59, 60, 61, 62, 63, 64, 65, 66, 67, 68, 69, 70, 71, 72, 73, 74, 75, 76, 77, 78, 79, 80, 81, 82, 83, 84, 85, 86, 87, 88, 89, 90, 91, 92, 93, 94, 95, 96, 97, 98, 99, 100, 101, 102, 103, 104, 105, 106, 107, 108, 109, 110, 111, 112, 113] (by decide +kernel) (by decide +kernel)
set_option maxRecDepth 20000 in
theorem gX8_extendTerm_X8_extend : GoodIn wsX8_extendTerm (wsV RX8 180 RX8 yX8_extend wsX8_extend) := goodIn_app (goodIn_of _ (by decide +kernel)) ggX8_extendTerm_X8_extend
set_option maxRecDepth 20000 in
theorem ggX8_extendTerm_X8_of : GoodIn wsX8_extendTerm wsX8_of := goodIn_r _ [23, 2, 85, 86, 87, 88, 89, 90, 91, 92, 93, 94, 95, 96, 97, 98, 99, 100, 101, 102, 103, 104, 105, 106, 107, 108, 109, 110, 111, 112, 113] (by decide +kernel) (by decide +kernel)
set_option maxRecDepth 20000 in
theorem gX8_extendTerm_X8_of : GoodIn wsX8_extendTerm (wsV RX8 70 RX8 yX8_of wsX8_of) := goodIn_app (goodIn_of _ (by decide +kernel)) ggX8_extendTerm_X8_of
theorem dX8_extendTerm_0 : decode cX8_extendTerm 0 = .ok (.aload_n 0, 1) := by decide +kernel
theorem dX8_extendTerm_1 : decode cX8_extendTerm 1 = .ok (.iconst 0, 1) := by decide +kernel
theorem dX8_extendTerm_2 : decode cX8_extendTerm 2 = .ok (.putfield 56, 3) := by decide +kernel
theorem dX8_extendTerm_5 : decode cX8_extendTerm 5 = .ok (.aload_n 0, 1) := by decide +kernel
theorem dX8_extendTerm_6 : decode cX8_extendTerm 6 = .ok (.iload_n 1, 1) := by decide +kernel
theorem dX8_extendTerm_7 : decode cX8_extendTerm 7 = .ok (.invokevirtual 163, 3) := by decide +kernel
theorem dX8_extendTerm_10 : decode cX8_extendTerm 10 = .ok (.ifCond .ne 29, 3) := by decide +kernel
theorem dX8_extendTerm_13 : decode cX8_extendTerm 13 = .ok (.aload_n 0, 1) := by decide +kernel
theorem dX8_extendTerm_14 : decode cX8_extendTerm 14 = .ok (.iload_n 2, 1) := by decide +kernel
theorem dX8_extendTerm_15 : decode cX8_extendTerm 15 = .ok (.iconst 1, 1) := by decide +kernel
theorem dX8_extendTerm_16 : decode cX8_extendTerm 16 = .ok (.bipush 60, 2) := by decide +kernel
theorem dX8_extendTerm_18 : decode cX8_extendTerm 18 = .ok (.iconst 2, 1) := by decide +kernel
theorem dX8_extendTerm_19 : decode cX8_extendTerm 19 = .ok (.invokevirtual 66, 3) := by decide +kernel
theorem dX8_extendTerm_22 : decode cX8_extendTerm 22 = .ok (.ifCond .ne 17, 3) := by decide +kernel
theorem dX8_extendTerm_25 : decode cX8_extendTerm 25 = .ok (.aload_n 0, 1) := by decide +kernel
theorem dX8_extendTerm_26 : decode cX8_extendTerm 26 = .ok (.aload_n 0, 1) := by decide +kernel
theorem dX8_extendTerm_27 : decode cX8_extendTerm 27 = .ok (.iload_n 1, 1) := by decide +kernel
theorem dX8_extendTerm_28 : decode cX8_extendTerm 28 = .ok (.iload_n 2, 1) := by decide +kernel
theorem dX8_extendTerm_29 : decode cX8_extendTerm 29 = .ok (.invokevirtual 177, 3) := by decide +kernel
theorem dX8_extendTerm_32 : decode cX8_extendTerm 32 = .ok (.iconst 3, 1) := by decide +kernel
theorem dX8_extendTerm_33 : decode cX8_extendTerm 33 = .ok (.invokevirtual 155, 3) := by decide +kernel
theorem dX8_extendTerm_36 : decode cX8_extendTerm 36 = .ok (.ifCond .eq 5, 3) := by decide +kernel
theorem dX8_extendTerm_39 : decode cX8_extendTerm 39 = .ok (.iconst 0, 1) := by decide +kernel
theorem dX8_extendTerm_40 : decode cX8_extendTerm 40 = .ok (.ireturn, 1) := by decide +kernel
theorem dX8_extendTerm_41 : decode cX8_extendTerm 41 = .ok (.aload_n 0, 1) := by decide +kernel
theorem dX8_extendTerm_42 : decode cX8_extendTerm 42 = .ok (.aload_n 0, 1) := by decide +kernel
theorem dX8_extendTerm_43 : decode cX8_extendTerm 43 = .ok (.getfield 9, 3) := by decide +kernel
theorem dX8_extendTerm_46 : decode cX8_extendTerm 46 = .ok (.invokevirtual 159, 3) := by decide +kernel
theorem dX8_extendTerm_49 : decode cX8_extendTerm 49 = .ok (.aload_n 0, 1) := by decide +kernel
theorem dX8_extendTerm_50 : decode cX8_extendTerm 50 = .ok (.iload_n 1, 1) := by decide +kernel
theorem dX8_extendTerm_51 : decode cX8_extendTerm 51 = .ok (.iload_n 2, 1) := by decide +kernel
theorem dX8_extendTerm_52 : decode cX8_extendTerm 52 = .ok (.invokevirtual 180, 3) := by decide +kernel
theorem dX8_extendTerm_55 : decode cX8_extendTerm 55 = .ok (.aload_n 0, 1) := by decide +kernel
theorem dX8_extendTerm_56 : decode cX8_extendTerm 56 = .ok (.iload_n 1, 1) := by decide +kernel
theorem dX8_extendTerm_57 : decode cX8_extendTerm 57 = .ok (.iconst 4, 1) := by decide +kernel
theorem dX8_extendTerm_58 : decode cX8_extendTerm 58 = .ok (.invokevirtual 70, 3) := by decide +kernel
theorem dX8_extendTerm_61 : decode cX8_extendTerm 61 = .ok (.ireturn, 1) := by decide +kernel
set_option maxRecDepth 20000 in
theorem ggX8_setTerms_X8_put : GoodIn wsX8_setTerms wsX8_put := goodIn_r _ [5, 6, 47, 48, 49, 50, 51, 52, 53, 54, 55, 56, 57, 58, 59, 60, 61, 62, 63, 64, 65, 66, 67, 68, 69, 70, 71, 72, 73, 74, 75] (by decide +kernel) (by decide +kernel)
set_option maxRecDepth 20000 in
theorem gX8_setTerms_X8_put : GoodIn wsX8_setTerms (wsV RX8 74 RX8 yX8_put wsX8_put) := goodIn_app (goodIn_of _ (by decide +kernel)) ggX8_setTerms_X8_put
set_option maxRecDepth 20000 in
theorem ggX8_setTerms_X8_calculate : GoodIn wsX8_setTerms wsX8_calculate := goodIn_r _ [10, 11, 12, 13, 4, 14, 6, 15, 16, 17, 18, 19, 20, 21, 22, 23, 24, 25, 26, 27, 28, 29, 30, 31, 32, 33, 34, 35, 36, 37, 38, 39, 40, 41, 42, 43, 44, 45, 46, 1, 2, 3, 5, 47, 48, 49, 50, 51, 52, 53, 54, 55, 56, 57, 58, 59, 60, 61, 62, 63, 64, 65, 66, 67, 68, 69, 70, 71, 72, 73, 74, 75] (by decide +kernel) (by decide +kernel)
set_option maxRecDepth 20000 in
theorem gX8_setTerms_X8_calculate : GoodIn wsX8_setTerms (wsV RX8 127 RX8 yX8_calculate wsX8_calculate) := goodIn_app (goodIn_of _ (by decide +kernel)) ggX8_setTerms_X8_calculate
theorem dX8_setTerms_0 : decode cX8_setTerms 0 = .ok (.aload_n 0, 1) := by decide +kernel
theorem dX8_setTerms_1 : decode cX8_setTerms 1 = .ok (.iload_n 1, 1) := by decide +kernel
theorem dX8_setTerms_2 : decode cX8_setTerms 2 = .ok (.iconst 2, 1) := by decide +kernel
theorem dX8_setTerms_3 : decode cX8_setTerms 3 = .ok (.iload_n 2, 1) := by decide +kernel
theorem dX8_setTerms_4 : decode cX8_setTerms 4 = .ok (.invokevirtual 74, 3) := by decide +kernel
theorem dX8_setTerms_7 : decode cX8_setTerms 7 = .ok (.aload_n 0, 1) := by decide +kernel
theorem dX8_setTerms_8 : decode cX8_setTerms 8 = .ok (.iload_n 1, 1) := by decide +kernel
theorem dX8_setTerms_9 : decode cX8_setTerms 9 = .ok (.iconst 3, 1) := by decide +kernel
theorem dX8_setTerms_10 : decode cX8_setTerms 10 = .ok (.iload_n 3, 1) := by decide +kernel
theorem dX8_setTerms_11 : decode cX8_setTerms 11 = .ok (.invokevirtual 74, 3) := by decide +kernel
theorem dX8_setTerms_14 : decode cX8_setTerms 14 = .ok (.aload_n 0, 1) := by decide +kernel
theorem dX8_setTerms_15 : decode cX8_setTerms 15 = .ok (.iload_n 1, 1) := by decide +kernel
theorem dX8_setTerms_16 : decode cX8_setTerms 16 = .ok (.invokevirtual 127, 3) := by decide +kernel
theorem dX8_setTerms_19 : decode cX8_setTerms 19 = .ok (.return_, 1) := by decide +kernel
set_option maxRecDepth 20000 in
theorem ggX8_badTerms_X8_outside : GoodIn wsX8_badTerms wsX8_outside := goodIn_r _ [5, 6, 7, 8, 9, 10, 11, 12, 13, 14, 15, 16, 17, 18, 19, 20, 21, 22, 23, 24, 25, 26, 27, 28, 29, 30, 31, 32, 33, 34, 35] (by decide +kernel) (by decide +kernel)
set_option maxRecDepth 20000 in
theorem gX8_badTerms_X8_outside : GoodIn wsX8_badTerms (wsV RX8 66 RX8 yX8_outside wsX8_outside) := goodIn_app (goodIn_of _ (by decide +kernel)) ggX8_badTerms_X8_outside
theorem dX8_badTerms_0 : decode cX8_badTerms 0 = .ok (.aload_n 0, 1) := by decide +kernel
theorem dX8_badTerms_1 : decode cX8_badTerms 1 = .ok (.iload_n 1, 1) := by decide +kernel
theorem dX8_badTerms_2 : decode cX8_badTerms 2 = .ok (.iconst 0, 1) := by decide +kernel
theorem dX8_badTerms_3 : decode cX8_badTerms 3 = .ok (.sipush 3000, 3) := by decide +kernel
theorem dX8_badTerms_6 : decode cX8_badTerms 6 = .ok (.iconst 2, 1) := by decide +kernel
theorem dX8_badTerms_7 : decode cX8_badTerms 7 = .ok (.invokevirtual 66, 3) := by decide +kernel
theorem dX8_badTerms_10 : decode cX8_badTerms 10 = .ok (.ifCond .ne 15, 3) := by decide +kernel
theorem dX8_badTerms_13 : decode cX8_badTerms 13 = .ok (.aload_n 0, 1) := by decide +kernel
theorem dX8_badTerms_14 : decode cX8_badTerms 14 = .ok (.iload_n 2, 1) := by decide +kernel
theorem dX8_badTerms_15 : decode cX8_badTerms 15 = .ok (.iconst 1, 1) := by decide +kernel
theorem dX8_badTerms_16 : decode cX8_badTerms 16 = .ok (.bipush 120, 2) := by decide +kernel
theorem dX8_badTerms_18 : decode cX8_badTerms 18 = .ok (.iconst 2, 1) := by decide +kernel
theorem dX8_badTerms_19 : decode cX8_badTerms 19 = .ok (.invokevirtual 66, 3) := by decide +kernel
theorem dX8_badTerms_22 : decode cX8_badTerms 22 = .ok (.ifCond .eq 7, 3) := by decide +kernel
theorem dX8_badTerms_25 : decode cX8_badTerms 25 = .ok (.iconst 1, 1) := by decide +kernel
theorem dX8_badTerms_26 : decode cX8_badTerms 26 = .ok (.goto 4, 3) := by decide +kernel
theorem dX8_badTerms_29 : decode cX8_badTerms 29 = .ok (.iconst 0, 1) := by decide +kernel
theorem dX8_badTerms_30 : decode cX8_badTerms 30 = .ok (.ireturn, 1) := by decide +kernel
set_option maxRecDepth 20000 in
theorem ggX8_refinance_X8_noLoan : GoodIn wsX8_refinance wsX8_noLoan := goodIn_r _ [7, 2, 8, 9, 10, 6, 11, 1, 81, 82, 83, 84, 85, 86, 87, 88, 89, 90, 91, 92, 93, 94, 95, 96, 97, 98, 99, 100, 101, 102, 103, 104, 105, 106, 107, 108, 109] (by decide +kernel) (by decide +kernel)
set_option maxRecDepth 20000 in
theorem gX8_refinance_X8_noLoan : GoodIn wsX8_refinance (wsV RX8 163 RX8 yX8_noLoan wsX8_noLoan) := goodIn_app (goodIn_of _ (by decide +kernel)) ggX8_refinance_X8_noLoan
set_option maxRecDepth 20000 in
theorem ggX8_refinance_X8_badTerms : GoodIn wsX8_refinance wsX8_badTerms := goodIn_r _ [15, 8, 9, 10, 6, 11, 1, 81, 82, 83, 84, 85, 86, 87, 88, 89, 90, 91, 92, 93, 94, 95, 96, 97, 98, 99, 100, 101, 102, 103, 104, 105, 106, 107, 108, 109] (by decide +kernel) (by decide +kernel)
set_option maxRecDepth 20000 in
theorem gX8_refinance_X8_badTerms : GoodIn wsX8_refinance (wsV RX8 183 RX8 yX8_badTerms wsX8_badTerms) := goodIn_app (goodIn_of _ (by decide +kernel)) ggX8_refinance_X8_badTerms
set_option maxRecDepth 20000 in
theorem ggX8_refinance_X8_isRunning : GoodIn wsX8_refinance wsX8_isRunning := goodIn_r _ [19, 20, 21, 22, 6, 23, 2, 81, 82, 83, 84, 85, 86, 87, 88, 89, 90, 91, 92, 93, 94, 95, 96, 97, 98, 99, 100, 101, 102, 103, 104, 105, 106, 107, 108, 109] (by decide +kernel) (by decide +kernel)
set_option maxRecDepth 20000 in
theorem gX8_refinance_X8_isRunning : GoodIn wsX8_refinance (wsV RX8 130 RX8 yX8_isRunning wsX8_isRunning) := goodIn_app (goodIn_of _ (by decide +kernel)) ggX8_refinance_X8_isRunning
set_option maxRecDepth 20000 in
theorem ggX8_refinance_X8_raise : GoodIn wsX8_refinance wsX8_raise := goodIn_r _ [27, 1, 81, 82, 83, 84, 85, 86, 87, 88, 89, 90, 91, 92, 93, 94, 95, 96, 97, 98, 99, 100, 101, 102, 103, 104, 105, 106, 107, 108, 109] (by decide +kernel) (by decide +kernel)
set_option maxRecDepth 20000 in
theorem gX8_refinance_X8_raise : GoodIn wsX8_refinance (wsV RX8 155 RX8 yX8_raise wsX8_raise) := goodIn_app (goodIn_of _ (by decide +kernel)) ggX8_refinance_X8_raise
set_option maxRecDepth 20000 in
theorem ggX8_refinance_X8_remember : GoodIn wsX8_refinance wsX8_remember := goodIn_r _ [31, 32, 33, 34, 35, 6, 36, 81, 82, 83, 84, 85, 86, 87, 88, 89, 90, 91, 92, 93, 94, 95, 96, 97, 98, 99, 100, 101, 102, 103, 104, 105, 106, 107, 108, 109] (by decide +kernel) (by decide +kernel)
set_option maxRecDepth 20000 in
theorem gX8_refinance_X8_remember : GoodIn wsX8_refinance (wsV RX8 159 RX8 yX8_remember wsX8_remember) := goodIn_app (goodIn_of _ (by decide +kernel)) ggX8_refinance_X8_remember
set_option maxRecDepth 20000 in
theorem ggX8_refinance_X8_setTerms : GoodIn wsX8_refinance wsX8_setTerms := goodIn_r _ [40, 41, 42, 43, 6, 44, 2, 45, 46, 47, 48, 20, 21, 22, 23, 49, 50, 51, 52, 53, 54, 55, 56, 57, 58, 59, 60, 61, 62, 63, 64, 65, 66, 67, 68, 69, 70, 71, 72, 73, 74, 75, 76, 77, 78, 79, 80, 81, 82, 83, 84, 85, 86, 87, 88, 89, 90, 91, 92, 93, 94, 95, 96, 97, 98, 99, 100, 101, 102, 103, 104, 105, 106, 107, 108, 109] (by decide +kernel) (by decide +kernel)
set_option maxRecDepth 20000 in
theorem gX8_refinance_X8_setTerms : GoodIn wsX8_refinance (wsV RX8 186 RX8 yX8_setTerms wsX8_setTerms) := goodIn_app (goodIn_of _ (by decide +kernel)) ggX8_refinance_X8_setTerms
set_option maxRecDepth 20000 in
theorem ggX8_refinance_X8_of : GoodIn wsX8_refinance wsX8_of := goodIn_r _ [23, 2, 81, 82, 83, 84, 85, 86, 87, 88, 89, 90, 91, 92, 93, 94, 95, 96, 97, 98, 99, 100, 101, 102, 103, 104, 105, 106, 107, 108, 109] (by decide +kernel) (by decide +kernel)
set_option maxRecDepth 20000 in
theorem gX8_refinance_X8_of : GoodIn wsX8_refinance (wsV RX8 70 RX8 yX8_of wsX8_of) := goodIn_app (goodIn_of _ (by decide +kernel)) ggX8_refinance_X8_of
theorem dX8_refinance_0 : decode cX8_refinance 0 = .ok (.aload_n 0, 1) := by decide +kernel
theorem dX8_refinance_1 : decode cX8_refinance 1 = .ok (.iconst 0, 1) := by decide +kernel
theorem dX8_refinance_2 : decode cX8_refinance 2 = .ok (.putfield 56, 3) := by decide +kernel
theorem dX8_refinance_5 : decode cX8_refinance 5 = .ok (.aload_n 0, 1) := by decide +kernel
theorem dX8_refinance_6 : decode cX8_refinance 6 = .ok (.iload_n 1, 1) := by decide +kernel
theorem dX8_refinance_7 : decode cX8_refinance 7 = .ok (.invokevirtual 163, 3) := by decide +kernel
theorem dX8_refinance_10 : decode cX8_refinance 10 = .ok (.ifCond .ne 33, 3) := by decide +kernel
theorem dX8_refinance_13 : decode cX8_refinance 13 = .ok (.aload_n 0, 1) := by decide +kernel
theorem dX8_refinance_14 : decode cX8_refinance 14 = .ok (.iload_n 2, 1) := by decide +kernel
theorem dX8_refinance_15 : decode cX8_refinance 15 = .ok (.iload_n 3, 1) := by decide +kernel
theorem dX8_refinance_16 : decode cX8_refinance 16 = .ok (.invokevirtual 183, 3) := by decide +kernel
theorem dX8_refinance_19 : decode cX8_refinance 19 = .ok (.ifCond .ne 24, 3) := by decide +kernel
theorem dX8_refinance_22 : decode cX8_refinance 22 = .ok (.aload_n 0, 1) := by decide +kernel
theorem dX8_refinance_23 : decode cX8_refinance 23 = .ok (.aload_n 0, 1) := by decide +kernel
theorem dX8_refinance_24 : decode cX8_refinance 24 = .ok (.iload_n 1, 1) := by decide +kernel
theorem dX8_refinance_25 : decode cX8_refinance 25 = .ok (.invokevirtual 130, 3) := by decide +kernel
theorem dX8_refinance_28 : decode cX8_refinance 28 = .ok (.ifCond .ne 7, 3) := by decide +kernel
theorem dX8_refinance_31 : decode cX8_refinance 31 = .ok (.iconst 1, 1) := by decide +kernel
theorem dX8_refinance_32 : decode cX8_refinance 32 = .ok (.goto 4, 3) := by decide +kernel
theorem dX8_refinance_35 : decode cX8_refinance 35 = .ok (.iconst 0, 1) := by decide +kernel
theorem dX8_refinance_36 : decode cX8_refinance 36 = .ok (.iconst 3, 1) := by decide +kernel
theorem dX8_refinance_37 : decode cX8_refinance 37 = .ok (.invokevirtual 155, 3) := by decide +kernel
theorem dX8_refinance_40 : decode cX8_refinance 40 = .ok (.ifCond .eq 5, 3) := by decide +kernel
theorem dX8_refinance_43 : decode cX8_refinance 43 = .ok (.iconst 0, 1) := by decide +kernel
theorem dX8_refinance_44 : decode cX8_refinance 44 = .ok (.ireturn, 1) := by decide +kernel
theorem dX8_refinance_45 : decode cX8_refinance 45 = .ok (.aload_n 0, 1) := by decide +kernel
theorem dX8_refinance_46 : decode cX8_refinance 46 = .ok (.aload_n 0, 1) := by decide +kernel
theorem dX8_refinance_47 : decode cX8_refinance 47 = .ok (.getfield 9, 3) := by decide +kernel
theorem dX8_refinance_50 : decode cX8_refinance 50 = .ok (.invokevirtual 159, 3) := by decide +kernel
theorem dX8_refinance_53 : decode cX8_refinance 53 = .ok (.aload_n 0, 1) := by decide +kernel
theorem dX8_refinance_54 : decode cX8_refinance 54 = .ok (.iload_n 1, 1) := by decide +kernel
theorem dX8_refinance_55 : decode cX8_refinance 55 = .ok (.iload_n 2, 1) := by decide +kernel
theorem dX8_refinance_56 : decode cX8_refinance 56 = .ok (.iload_n 3, 1) := by decide +kernel
theorem dX8_refinance_57 : decode cX8_refinance 57 = .ok (.invokevirtual 186, 3) := by decide +kernel
theorem dX8_refinance_60 : decode cX8_refinance 60 = .ok (.aload_n 0, 1) := by decide +kernel
theorem dX8_refinance_61 : decode cX8_refinance 61 = .ok (.iload_n 1, 1) := by decide +kernel
theorem dX8_refinance_62 : decode cX8_refinance 62 = .ok (.iconst 4, 1) := by decide +kernel
theorem dX8_refinance_63 : decode cX8_refinance 63 = .ok (.invokevirtual 70, 3) := by decide +kernel
theorem dX8_refinance_66 : decode cX8_refinance 66 = .ok (.ireturn, 1) := by decide +kernel
set_option maxRecDepth 20000 in
theorem ggX8_spendExtra_X8_outside : GoodIn wsX8_spendExtra wsX8_outside := goodIn_r _ [8, 1, 90, 91, 92, 93, 94, 95, 96, 97, 98, 99, 100, 101, 102, 103, 104, 105, 106, 107, 108, 109, 110, 111, 112, 113, 114, 115, 116, 117, 118] (by decide +kernel) (by decide +kernel)
set_option maxRecDepth 20000 in
theorem gX8_spendExtra_X8_outside : GoodIn wsX8_spendExtra (wsV RX8 66 RX8 yX8_outside wsX8_outside) := goodIn_app (goodIn_of _ (by decide +kernel)) ggX8_spendExtra_X8_outside
set_option maxRecDepth 20000 in
theorem ggX8_spendExtra_X8_remember : GoodIn wsX8_spendExtra wsX8_remember := goodIn_r _ [12, 13, 14, 15, 16, 7, 17, 90, 91, 92, 93, 94, 95, 96, 97, 98, 99, 100, 101, 102, 103, 104, 105, 106, 107, 108, 109, 110, 111, 112, 113, 114, 115, 116, 117, 118] (by decide +kernel) (by decide +kernel)
set_option maxRecDepth 20000 in
theorem gX8_spendExtra_X8_remember : GoodIn wsX8_spendExtra (wsV RX8 159 RX8 yX8_remember wsX8_remember) := goodIn_app (goodIn_of _ (by decide +kernel)) ggX8_spendExtra_X8_remember
set_option maxRecDepth 20000 in
theorem ggX8_spendExtra_X8_dearest : GoodIn wsX8_spendExtra wsX8_dearest := goodIn_r _ [21, 3, 22, 23, 24, 7, 25, 26, 27, 28, 29, 90, 91, 92, 93, 94, 95, 96, 97, 98, 99, 100, 101, 102, 103, 104, 105, 106, 107, 108, 109, 110, 111, 112, 113, 114, 115, 116, 117, 118] (by decide +kernel) (by decide +kernel)
set_option maxRecDepth 20000 in
theorem gX8_spendExtra_X8_dearest : GoodIn wsX8_spendExtra (wsV RX8 189 RX8 yX8_dearest wsX8_dearest) := goodIn_app (goodIn_of _ (by decide +kernel)) ggX8_spendExtra_X8_dearest
set_option maxRecDepth 20000 in
theorem ggX8_spendExtra_X8_of : GoodIn wsX8_spendExtra wsX8_of := goodIn_r _ [29, 3, 90, 91, 92, 93, 94, 95, 96, 97, 98, 99, 100, 101, 102, 103, 104, 105, 106, 107, 108, 109, 110, 111, 112, 113, 114, 115, 116, 117, 118] (by decide +kernel) (by decide +kernel)
set_option maxRecDepth 20000 in
theorem gX8_spendExtra_X8_of : GoodIn wsX8_spendExtra (wsV RX8 70 RX8 yX8_of wsX8_of) := goodIn_app (goodIn_of _ (by decide +kernel)) ggX8_spendExtra_X8_of
set_option maxRecDepth 20000 in
theorem ggX8_spendExtra_X8_extra : GoodIn wsX8_spendExtra wsX8_extra := goodIn_r _ [33, 34, 35, 36, 7, 37, 26, 27, 28, 29, 3, 38, 39, 40, 41, 42, 43, 44, 45, 46, 47, 48, 49, 22, 23, 24, 25, 50, 51, 52, 53, 54, 55, 56, 57, 58, 59, 60, 61, 62, 63, 64, 65, 66, 67, 68, 69, 70, 71, 72, 73, 74, 75, 76, 77, 78, 79, 80, 81, 82, 83, 84, 85, 86, 87, 88, 89, 90, 91, 92, 93, 94, 95, 96, 97, 98, 99, 100, 101, 102, 103, 104, 105, 106, 107, 108, 109, 110, 111, 112, 113, 114, 115, 116, 117, 118] (by decide +kernel) (by decide +kernel)
set_option maxRecDepth 20000 in
theorem gX8_spendExtra_X8_extra : GoodIn wsX8_spendExtra (wsV RX8 48 RX8 yX8_extra wsX8_extra) := goodIn_app (goodIn_of _ (by decide +kernel)) ggX8_spendExtra_X8_extra
theorem dX8_spendExtra_0 : decode cX8_spendExtra 0 = .ok (.aload_n 0, 1) := by decide +kernel
theorem dX8_spendExtra_1 : decode cX8_spendExtra 1 = .ok (.iconst 0, 1) := by decide +kernel
theorem dX8_spendExtra_2 : decode cX8_spendExtra 2 = .ok (.putfield 56, 3) := by decide +kernel
theorem dX8_spendExtra_5 : decode cX8_spendExtra 5 = .ok (.aload_n 0, 1) := by decide +kernel
theorem dX8_spendExtra_6 : decode cX8_spendExtra 6 = .ok (.iload_n 1, 1) := by decide +kernel
theorem dX8_spendExtra_7 : decode cX8_spendExtra 7 = .ok (.iconst 1, 1) := by decide +kernel
theorem dX8_spendExtra_8 : decode cX8_spendExtra 8 = .ok (.ldc 154, 2) := by decide +kernel
theorem dX8_spendExtra_10 : decode cX8_spendExtra 10 = .ok (.iconst 1, 1) := by decide +kernel
theorem dX8_spendExtra_11 : decode cX8_spendExtra 11 = .ok (.invokevirtual 66, 3) := by decide +kernel
theorem dX8_spendExtra_14 : decode cX8_spendExtra 14 = .ok (.ifCond .eq 5, 3) := by decide +kernel
theorem dX8_spendExtra_17 : decode cX8_spendExtra 17 = .ok (.iconst 0, 1) := by decide +kernel
theorem dX8_spendExtra_18 : decode cX8_spendExtra 18 = .ok (.ireturn, 1) := by decide +kernel
theorem dX8_spendExtra_19 : decode cX8_spendExtra 19 = .ok (.aload_n 0, 1) := by decide +kernel
theorem dX8_spendExtra_20 : decode cX8_spendExtra 20 = .ok (.aload_n 0, 1) := by decide +kernel
theorem dX8_spendExtra_21 : decode cX8_spendExtra 21 = .ok (.getfield 9, 3) := by decide +kernel
theorem dX8_spendExtra_24 : decode cX8_spendExtra 24 = .ok (.invokevirtual 159, 3) := by decide +kernel
theorem dX8_spendExtra_27 : decode cX8_spendExtra 27 = .ok (.iload_n 1, 1) := by decide +kernel
theorem dX8_spendExtra_28 : decode cX8_spendExtra 28 = .ok (.istore_n 2, 1) := by decide +kernel
theorem dX8_spendExtra_29 : decode cX8_spendExtra 29 = .ok (.aload_n 0, 1) := by decide +kernel
theorem dX8_spendExtra_30 : decode cX8_spendExtra 30 = .ok (.invokevirtual 189, 3) := by decide +kernel
theorem dX8_spendExtra_33 : decode cX8_spendExtra 33 = .ok (.istore_n 3, 1) := by decide +kernel
theorem dX8_spendExtra_34 : decode cX8_spendExtra 34 = .ok (.iload_n 3, 1) := by decide +kernel
theorem dX8_spendExtra_35 : decode cX8_spendExtra 35 = .ok (.iconst (-1), 1) := by decide +kernel
theorem dX8_spendExtra_36 : decode cX8_spendExtra 36 = .ok (.if_icmp .eq 50, 3) := by decide +kernel
theorem dX8_spendExtra_39 : decode cX8_spendExtra 39 = .ok (.iload_n 2, 1) := by decide +kernel
theorem dX8_spendExtra_40 : decode cX8_spendExtra 40 = .ok (.ifCond .le 46, 3) := by decide +kernel
theorem dX8_spendExtra_43 : decode cX8_spendExtra 43 = .ok (.iload_n 2, 1) := by decide +kernel
theorem dX8_spendExtra_44 : decode cX8_spendExtra 44 = .ok (.aload_n 0, 1) := by decide +kernel
theorem dX8_spendExtra_45 : decode cX8_spendExtra 45 = .ok (.iload_n 3, 1) := by decide +kernel
theorem dX8_spendExtra_46 : decode cX8_spendExtra 46 = .ok (.iconst 1, 1) := by decide +kernel
theorem dX8_spendExtra_47 : decode cX8_spendExtra 47 = .ok (.invokevirtual 70, 3) := by decide +kernel
theorem dX8_spendExtra_50 : decode cX8_spendExtra 50 = .ok (.if_icmp .ge 7, 3) := by decide +kernel
theorem dX8_spendExtra_53 : decode cX8_spendExtra 53 = .ok (.iload_n 2, 1) := by decide +kernel
theorem dX8_spendExtra_54 : decode cX8_spendExtra 54 = .ok (.goto 9, 3) := by decide +kernel
theorem dX8_spendExtra_57 : decode cX8_spendExtra 57 = .ok (.aload_n 0, 1) := by decide +kernel
theorem dX8_spendExtra_58 : decode cX8_spendExtra 58 = .ok (.iload_n 3, 1) := by decide +kernel
theorem dX8_spendExtra_59 : decode cX8_spendExtra 59 = .ok (.iconst 1, 1) := by decide +kernel
theorem dX8_spendExtra_60 : decode cX8_spendExtra 60 = .ok (.invokevirtual 70, 3) := by decide +kernel
theorem dX8_spendExtra_63 : decode cX8_spendExtra 63 = .ok (.istore 4, 2) := by decide +kernel
theorem dX8_spendExtra_65 : decode cX8_spendExtra 65 = .ok (.aload_n 0, 1) := by decide +kernel
theorem dX8_spendExtra_66 : decode cX8_spendExtra 66 = .ok (.iload_n 3, 1) := by decide +kernel
theorem dX8_spendExtra_67 : decode cX8_spendExtra 67 = .ok (.iload 4, 2) := by decide +kernel
theorem dX8_spendExtra_69 : decode cX8_spendExtra 69 = .ok (.iconst 0, 1) := by decide +kernel
theorem dX8_spendExtra_70 : decode cX8_spendExtra 70 = .ok (.invokevirtual 48, 3) := by decide +kernel
theorem dX8_spendExtra_73 : decode cX8_spendExtra 73 = .ok (.iload_n 2, 1) := by decide +kernel
theorem dX8_spendExtra_74 : decode cX8_spendExtra 74 = .ok (.iload 4, 2) := by decide +kernel
theorem dX8_spendExtra_76 : decode cX8_spendExtra 76 = .ok (.isub, 1) := by decide +kernel
theorem dX8_spendExtra_77 : decode cX8_spendExtra 77 = .ok (.istore_n 2, 1) := by decide +kernel
theorem dX8_spendExtra_78 : decode cX8_spendExtra 78 = .ok (.aload_n 0, 1) := by decide +kernel
theorem dX8_spendExtra_79 : decode cX8_spendExtra 79 = .ok (.invokevirtual 189, 3) := by decide +kernel
theorem dX8_spendExtra_82 : decode cX8_spendExtra 82 = .ok (.istore_n 3, 1) := by decide +kernel
theorem dX8_spendExtra_83 : decode cX8_spendExtra 83 = .ok (.goto (-49), 3) := by decide +kernel
theorem dX8_spendExtra_86 : decode cX8_spendExtra 86 = .ok (.iload_n 1, 1) := by decide +kernel
theorem dX8_spendExtra_87 : decode cX8_spendExtra 87 = .ok (.iload_n 2, 1) := by decide +kernel
theorem dX8_spendExtra_88 : decode cX8_spendExtra 88 = .ok (.isub, 1) := by decide +kernel
theorem dX8_spendExtra_89 : decode cX8_spendExtra 89 = .ok (.ireturn, 1) := by decide +kernel
set_option maxRecDepth 20000 in
theorem ggX8_undo_X8_copy : GoodIn wsX8_undo wsX8_copy := goodIn_r _ [8] (by decide +kernel) (by decide +kernel)
set_option maxRecDepth 20000 in
theorem gX8_undo_X8_copy : GoodIn wsX8_undo (va_wsS RX8 62 yX8_copy wsX8_copy) := goodIn_app (goodIn_of _ (by decide +kernel)) ggX8_undo_X8_copy
theorem dX8_undo_0 : decode cX8_undo 0 = .ok (.aload_n 0, 1) := by decide +kernel
theorem dX8_undo_1 : decode cX8_undo 1 = .ok (.iconst 0, 1) := by decide +kernel
theorem dX8_undo_2 : decode cX8_undo 2 = .ok (.putfield 56, 3) := by decide +kernel
theorem dX8_undo_5 : decode cX8_undo 5 = .ok (.aload_n 0, 1) := by decide +kernel
theorem dX8_undo_6 : decode cX8_undo 6 = .ok (.getfield 59, 3) := by decide +kernel
theorem dX8_undo_9 : decode cX8_undo 9 = .ok (.ifCond .ne 5, 3) := by decide +kernel
theorem dX8_undo_12 : decode cX8_undo 12 = .ok (.iconst (-1), 1) := by decide +kernel
theorem dX8_undo_13 : decode cX8_undo 13 = .ok (.ireturn, 1) := by decide +kernel
theorem dX8_undo_14 : decode cX8_undo 14 = .ok (.aload_n 0, 1) := by decide +kernel
theorem dX8_undo_15 : decode cX8_undo 15 = .ok (.dup, 1) := by decide +kernel
theorem dX8_undo_16 : decode cX8_undo 16 = .ok (.getfield 59, 3) := by decide +kernel
theorem dX8_undo_19 : decode cX8_undo 19 = .ok (.iconst 1, 1) := by decide +kernel
theorem dX8_undo_20 : decode cX8_undo 20 = .ok (.isub, 1) := by decide +kernel
theorem dX8_undo_21 : decode cX8_undo 21 = .ok (.putfield 59, 3) := by decide +kernel
theorem dX8_undo_24 : decode cX8_undo 24 = .ok (.aload_n 0, 1) := by decide +kernel
theorem dX8_undo_25 : decode cX8_undo 25 = .ok (.getfield 15, 3) := by decide +kernel
theorem dX8_undo_28 : decode cX8_undo 28 = .ok (.aload_n 0, 1) := by decide +kernel
theorem dX8_undo_29 : decode cX8_undo 29 = .ok (.getfield 59, 3) := by decide +kernel
theorem dX8_undo_32 : decode cX8_undo 32 = .ok (.aaload, 1) := by decide +kernel
theorem dX8_undo_33 : decode cX8_undo 33 = .ok (.aload_n 0, 1) := by decide +kernel
theorem dX8_undo_34 : decode cX8_undo 34 = .ok (.getfield 9, 3) := by decide +kernel
theorem dX8_undo_37 : decode cX8_undo 37 = .ok (.invokestatic 62, 3) := by decide +kernel
theorem dX8_undo_40 : decode cX8_undo 40 = .ok (.aload_n 0, 1) := by decide +kernel
theorem dX8_undo_41 : decode cX8_undo 41 = .ok (.getfield 59, 3) := by decide +kernel
theorem dX8_undo_44 : decode cX8_undo 44 = .ok (.ireturn, 1) := by decide +kernel
theorem dX8_undoCount_0 : decode cX8_undoCount 0 = .ok (.aload_n 0, 1) := by decide +kernel
theorem dX8_undoCount_1 : decode cX8_undoCount 1 = .ok (.iconst 0, 1) := by decide +kernel
theorem dX8_undoCount_2 : decode cX8_undoCount 2 = .ok (.putfield 56, 3) := by decide +kernel
theorem dX8_undoCount_5 : decode cX8_undoCount 5 = .ok (.aload_n 0, 1) := by decide +kernel
theorem dX8_undoCount_6 : decode cX8_undoCount 6 = .ok (.getfield 59, 3) := by decide +kernel
theorem dX8_undoCount_9 : decode cX8_undoCount 9 = .ok (.ireturn, 1) := by decide +kernel
set_option maxRecDepth 20000 in
theorem ggX8_saveSnapshot_X8_copy : GoodIn wsX8_saveSnapshot wsX8_copy := goodIn_r _ [8] (by decide +kernel) (by decide +kernel)
set_option maxRecDepth 20000 in
theorem gX8_saveSnapshot_X8_copy : GoodIn wsX8_saveSnapshot (va_wsS RX8 62 yX8_copy wsX8_copy) := goodIn_app (goodIn_of _ (by decide +kernel)) ggX8_saveSnapshot_X8_copy
theorem dX8_saveSnapshot_0 : decode cX8_saveSnapshot 0 = .ok (.aload_n 0, 1) := by decide +kernel
theorem dX8_saveSnapshot_1 : decode cX8_saveSnapshot 1 = .ok (.iconst 0, 1) := by decide +kernel
theorem dX8_saveSnapshot_2 : decode cX8_saveSnapshot 2 = .ok (.putfield 56, 3) := by decide +kernel
theorem dX8_saveSnapshot_5 : decode cX8_saveSnapshot 5 = .ok (.aload_n 0, 1) := by decide +kernel
theorem dX8_saveSnapshot_6 : decode cX8_saveSnapshot 6 = .ok (.getfield 9, 3) := by decide +kernel
theorem dX8_saveSnapshot_9 : decode cX8_saveSnapshot 9 = .ok (.aload_n 0, 1) := by decide +kernel
theorem dX8_saveSnapshot_10 : decode cX8_saveSnapshot 10 = .ok (.getfield 18, 3) := by decide +kernel
theorem dX8_saveSnapshot_13 : decode cX8_saveSnapshot 13 = .ok (.invokestatic 62, 3) := by decide +kernel
theorem dX8_saveSnapshot_16 : decode cX8_saveSnapshot 16 = .ok (.aload_n 0, 1) := by decide +kernel
theorem dX8_saveSnapshot_17 : decode cX8_saveSnapshot 17 = .ok (.iconst 1, 1) := by decide +kernel
theorem dX8_saveSnapshot_18 : decode cX8_saveSnapshot 18 = .ok (.putfield 192, 3) := by decide +kernel
theorem dX8_saveSnapshot_21 : decode cX8_saveSnapshot 21 = .ok (.aload_n 0, 1) := by decide +kernel
theorem dX8_saveSnapshot_22 : decode cX8_saveSnapshot 22 = .ok (.getfield 9, 3) := by decide +kernel
theorem dX8_saveSnapshot_25 : decode cX8_saveSnapshot 25 = .ok (.iconst 0, 1) := by decide +kernel
theorem dX8_saveSnapshot_26 : decode cX8_saveSnapshot 26 = .ok (.iaload, 1) := by decide +kernel
theorem dX8_saveSnapshot_27 : decode cX8_saveSnapshot 27 = .ok (.ireturn, 1) := by decide +kernel
set_option maxRecDepth 20000 in
theorem ggX8_restoreSnapshot_X8_raise : GoodIn wsX8_restoreSnapshot wsX8_raise := goodIn_r _ [10, 1, 14, 15, 16, 17, 18, 19, 20, 21, 22, 23, 24, 25, 26, 27, 28, 29, 30, 31, 32, 33, 34, 35, 36, 37, 38, 39, 40, 41, 42] (by decide +kernel) (by decide +kernel)
set_option maxRecDepth 20000 in
theorem gX8_restoreSnapshot_X8_raise : GoodIn wsX8_restoreSnapshot (wsV RX8 155 RX8 yX8_raise wsX8_raise) := goodIn_app (goodIn_of _ (by decide +kernel)) ggX8_restoreSnapshot_X8_raise
set_option maxRecDepth 20000 in
theorem ggX8_restoreSnapshot_X8_copy : GoodIn wsX8_restoreSnapshot wsX8_copy := goodIn_r _ [13] (by decide +kernel) (by decide +kernel)
set_option maxRecDepth 20000 in
theorem gX8_restoreSnapshot_X8_copy : GoodIn wsX8_restoreSnapshot (va_wsS RX8 62 yX8_copy wsX8_copy) := goodIn_app (goodIn_of _ (by decide +kernel)) ggX8_restoreSnapshot_X8_copy
theorem dX8_restoreSnapshot_0 : decode cX8_restoreSnapshot 0 = .ok (.aload_n 0, 1) := by decide +kernel
theorem dX8_restoreSnapshot_1 : decode cX8_restoreSnapshot 1 = .ok (.iconst 0, 1) := by decide +kernel
theorem dX8_restoreSnapshot_2 : decode cX8_restoreSnapshot 2 = .ok (.putfield 56, 3) := by decide +kernel
theorem dX8_restoreSnapshot_5 : decode cX8_restoreSnapshot 5 = .ok (.aload_n 0, 1) := by decide +kernel
theorem dX8_restoreSnapshot_6 : decode cX8_restoreSnapshot 6 = .ok (.aload_n 0, 1) := by decide +kernel
theorem dX8_restoreSnapshot_7 : decode cX8_restoreSnapshot 7 = .ok (.getfield 192, 3) := by decide +kernel
theorem dX8_restoreSnapshot_10 : decode cX8_restoreSnapshot 10 = .ok (.ifCond .ne 7, 3) := by decide +kernel
theorem dX8_restoreSnapshot_13 : decode cX8_restoreSnapshot 13 = .ok (.iconst 1, 1) := by decide +kernel
theorem dX8_restoreSnapshot_14 : decode cX8_restoreSnapshot 14 = .ok (.goto 4, 3) := by decide +kernel
theorem dX8_restoreSnapshot_17 : decode cX8_restoreSnapshot 17 = .ok (.iconst 0, 1) := by decide +kernel
theorem dX8_restoreSnapshot_18 : decode cX8_restoreSnapshot 18 = .ok (.iconst 1, 1) := by decide +kernel
theorem dX8_restoreSnapshot_19 : decode cX8_restoreSnapshot 19 = .ok (.invokevirtual 155, 3) := by decide +kernel
theorem dX8_restoreSnapshot_22 : decode cX8_restoreSnapshot 22 = .ok (.ifCond .eq 5, 3) := by decide +kernel
theorem dX8_restoreSnapshot_25 : decode cX8_restoreSnapshot 25 = .ok (.iconst 0, 1) := by decide +kernel
theorem dX8_restoreSnapshot_26 : decode cX8_restoreSnapshot 26 = .ok (.ireturn, 1) := by decide +kernel
theorem dX8_restoreSnapshot_27 : decode cX8_restoreSnapshot 27 = .ok (.aload_n 0, 1) := by decide +kernel
theorem dX8_restoreSnapshot_28 : decode cX8_restoreSnapshot 28 = .ok (.getfield 18, 3) := by decide +kernel
theorem dX8_restoreSnapshot_31 : decode cX8_restoreSnapshot 31 = .ok (.aload_n 0, 1) := by decide +kernel
theorem dX8_restoreSnapshot_32 : decode cX8_restoreSnapshot 32 = .ok (.getfield 9, 3) := by decide +kernel
theorem dX8_restoreSnapshot_35 : decode cX8_restoreSnapshot 35 = .ok (.invokestatic 62, 3) := by decide +kernel
theorem dX8_restoreSnapshot_38 : decode cX8_restoreSnapshot 38 = .ok (.aload_n 0, 1) := by decide +kernel
theorem dX8_restoreSnapshot_39 : decode cX8_restoreSnapshot 39 = .ok (.iconst 0, 1) := by decide +kernel
theorem dX8_restoreSnapshot_40 : decode cX8_restoreSnapshot 40 = .ok (.putfield 59, 3) := by decide +kernel
theorem dX8_restoreSnapshot_43 : decode cX8_restoreSnapshot 43 = .ok (.aload_n 0, 1) := by decide +kernel
theorem dX8_restoreSnapshot_44 : decode cX8_restoreSnapshot 44 = .ok (.getfield 9, 3) := by decide +kernel
theorem dX8_restoreSnapshot_47 : decode cX8_restoreSnapshot 47 = .ok (.iconst 0, 1) := by decide +kernel
theorem dX8_restoreSnapshot_48 : decode cX8_restoreSnapshot 48 = .ok (.iaload, 1) := by decide +kernel
theorem dX8_restoreSnapshot_49 : decode cX8_restoreSnapshot 49 = .ok (.ireturn, 1) := by decide +kernel
theorem dX8_letterAt_0 : decode cX8_letterAt 0 = .ok (.iload_n 1, 1) := by decide +kernel
theorem dX8_letterAt_1 : decode cX8_letterAt 1 = .ok (.aload_n 0, 1) := by decide +kernel
theorem dX8_letterAt_2 : decode cX8_letterAt 2 = .ok (.getfield 196, 3) := by decide +kernel
theorem dX8_letterAt_5 : decode cX8_letterAt 5 = .ok (.if_icmp .ge 29, 3) := by decide +kernel
theorem dX8_letterAt_8 : decode cX8_letterAt 8 = .ok (.aload_n 0, 1) := by decide +kernel
theorem dX8_letterAt_9 : decode cX8_letterAt 9 = .ok (.getfield 27, 3) := by decide +kernel
theorem dX8_letterAt_12 : decode cX8_letterAt 12 = .ok (.iload_n 1, 1) := by decide +kernel
theorem dX8_letterAt_13 : decode cX8_letterAt 13 = .ok (.iaload, 1) := by decide +kernel
theorem dX8_letterAt_14 : decode cX8_letterAt 14 = .ok (.bipush 97, 2) := by decide +kernel
theorem dX8_letterAt_16 : decode cX8_letterAt 16 = .ok (.if_icmp .lt 18, 3) := by decide +kernel
theorem dX8_letterAt_19 : decode cX8_letterAt 19 = .ok (.aload_n 0, 1) := by decide +kernel
theorem dX8_letterAt_20 : decode cX8_letterAt 20 = .ok (.getfield 27, 3) := by decide +kernel
theorem dX8_letterAt_23 : decode cX8_letterAt 23 = .ok (.iload_n 1, 1) := by decide +kernel
theorem dX8_letterAt_24 : decode cX8_letterAt 24 = .ok (.iaload, 1) := by decide +kernel
theorem dX8_letterAt_25 : decode cX8_letterAt 25 = .ok (.bipush 122, 2) := by decide +kernel
theorem dX8_letterAt_27 : decode cX8_letterAt 27 = .ok (.if_icmp .gt 7, 3) := by decide +kernel
theorem dX8_letterAt_30 : decode cX8_letterAt 30 = .ok (.iconst 1, 1) := by decide +kernel
theorem dX8_letterAt_31 : decode cX8_letterAt 31 = .ok (.goto 4, 3) := by decide +kernel
theorem dX8_letterAt_34 : decode cX8_letterAt 34 = .ok (.iconst 0, 1) := by decide +kernel
theorem dX8_letterAt_35 : decode cX8_letterAt 35 = .ok (.ireturn, 1) := by decide +kernel
theorem dX8_digitAt_0 : decode cX8_digitAt 0 = .ok (.iload_n 1, 1) := by decide +kernel
theorem dX8_digitAt_1 : decode cX8_digitAt 1 = .ok (.aload_n 0, 1) := by decide +kernel
theorem dX8_digitAt_2 : decode cX8_digitAt 2 = .ok (.getfield 196, 3) := by decide +kernel
theorem dX8_digitAt_5 : decode cX8_digitAt 5 = .ok (.if_icmp .ge 29, 3) := by decide +kernel
theorem dX8_digitAt_8 : decode cX8_digitAt 8 = .ok (.aload_n 0, 1) := by decide +kernel
theorem dX8_digitAt_9 : decode cX8_digitAt 9 = .ok (.getfield 27, 3) := by decide +kernel
theorem dX8_digitAt_12 : decode cX8_digitAt 12 = .ok (.iload_n 1, 1) := by decide +kernel
theorem dX8_digitAt_13 : decode cX8_digitAt 13 = .ok (.iaload, 1) := by decide +kernel
theorem dX8_digitAt_14 : decode cX8_digitAt 14 = .ok (.bipush 48, 2) := by decide +kernel
theorem dX8_digitAt_16 : decode cX8_digitAt 16 = .ok (.if_icmp .lt 18, 3) := by decide +kernel
theorem dX8_digitAt_19 : decode cX8_digitAt 19 = .ok (.aload_n 0, 1) := by decide +kernel
theorem dX8_digitAt_20 : decode cX8_digitAt 20 = .ok (.getfield 27, 3) := by decide +kernel
theorem dX8_digitAt_23 : decode cX8_digitAt 23 = .ok (.iload_n 1, 1) := by decide +kernel
theorem dX8_digitAt_24 : decode cX8_digitAt 24 = .ok (.iaload, 1) := by decide +kernel
theorem dX8_digitAt_25 : decode cX8_digitAt 25 = .ok (.bipush 57, 2) := by decide +kernel
theorem dX8_digitAt_27 : decode cX8_digitAt 27 = .ok (.if_icmp .gt 7, 3) := by decide +kernel
theorem dX8_digitAt_30 : decode cX8_digitAt 30 = .ok (.iconst 1, 1) := by decide +kernel
theorem dX8_digitAt_31 : decode cX8_digitAt 31 = .ok (.goto 4, 3) := by decide +kernel
theorem dX8_digitAt_34 : decode cX8_digitAt 34 = .ok (.iconst 0, 1) := by decide +kernel
theorem dX8_digitAt_35 : decode cX8_digitAt 35 = .ok (.ireturn, 1) := by decide +kernel
set_option maxRecDepth 20000 in
theorem ggX8_scan_X8_letterAt : GoodIn wsX8_scan wsX8_letterAt := goodIn_r _ [11, 2, 3, 16, 17, 18, 19, 20, 21, 22, 23, 24, 25, 26, 27, 28, 29, 30, 31, 32, 33, 34, 35, 36, 37, 38, 39, 40, 41, 42, 43, 44] (by decide +kernel) (by decide +kernel)
set_option maxRecDepth 20000 in
theorem gX8_scan_X8_letterAt : GoodIn wsX8_scan (wsV RX8 208 RX8 yX8_letterAt wsX8_letterAt) := goodIn_app (goodIn_of _ (by decide +kernel)) ggX8_scan_X8_letterAt
set_option maxRecDepth 20000 in
theorem ggX8_scan_X8_digitAt : GoodIn wsX8_scan wsX8_digitAt := goodIn_r _ [15, 2, 3, 16, 17, 18, 19, 20, 21, 22, 23, 24, 25, 26, 27, 28, 29, 30, 31, 32, 33, 34, 35, 36, 37, 38, 39, 40, 41, 42, 43, 44] (by decide +kernel) (by decide +kernel)
set_option maxRecDepth 20000 in
theorem gX8_scan_X8_digitAt : GoodIn wsX8_scan (wsV RX8 211 RX8 yX8_digitAt wsX8_digitAt) := goodIn_app (goodIn_of _ (by decide +kernel)) ggX8_scan_X8_digitAt
theorem dX8_scan_0 : decode cX8_scan 0 = .ok (.aload_n 0, 1) := by decide +kernel
theorem dX8_scan_1 : decode cX8_scan 1 = .ok (.getfield 199, 3) := by decide +kernel
theorem dX8_scan_4 : decode cX8_scan 4 = .ok (.aload_n 0, 1) := by decide +kernel
theorem dX8_scan_5 : decode cX8_scan 5 = .ok (.getfield 196, 3) := by decide +kernel
theorem dX8_scan_8 : decode cX8_scan 8 = .ok (.if_icmp .ge 44, 3) := by decide +kernel
theorem dX8_scan_11 : decode cX8_scan 11 = .ok (.aload_n 0, 1) := by decide +kernel
theorem dX8_scan_12 : decode cX8_scan 12 = .ok (.getfield 27, 3) := by decide +kernel
theorem dX8_scan_15 : decode cX8_scan 15 = .ok (.aload_n 0, 1) := by decide +kernel
theorem dX8_scan_16 : decode cX8_scan 16 = .ok (.getfield 199, 3) := by decide +kernel
theorem dX8_scan_19 : decode cX8_scan 19 = .ok (.iaload, 1) := by decide +kernel
theorem dX8_scan_20 : decode cX8_scan 20 = .ok (.bipush 32, 2) := by decide +kernel
theorem dX8_scan_22 : decode cX8_scan 22 = .ok (.if_icmp .eq 17, 3) := by decide +kernel
theorem dX8_scan_25 : decode cX8_scan 25 = .ok (.aload_n 0, 1) := by decide +kernel
theorem dX8_scan_26 : decode cX8_scan 26 = .ok (.getfield 27, 3) := by decide +kernel
theorem dX8_scan_29 : decode cX8_scan 29 = .ok (.aload_n 0, 1) := by decide +kernel
theorem dX8_scan_30 : decode cX8_scan 30 = .ok (.getfield 199, 3) := by decide +kernel
theorem dX8_scan_33 : decode cX8_scan 33 = .ok (.iaload, 1) := by decide +kernel
theorem dX8_scan_34 : decode cX8_scan 34 = .ok (.bipush 10, 2) := by decide +kernel
theorem dX8_scan_36 : decode cX8_scan 36 = .ok (.if_icmp .ne 16, 3) := by decide +kernel
theorem dX8_scan_39 : decode cX8_scan 39 = .ok (.aload_n 0, 1) := by decide +kernel
theorem dX8_scan_40 : decode cX8_scan 40 = .ok (.dup, 1) := by decide +kernel
theorem dX8_scan_41 : decode cX8_scan 41 = .ok (.getfield 199, 3) := by decide +kernel
theorem dX8_scan_44 : decode cX8_scan 44 = .ok (.iconst 1, 1) := by decide +kernel
theorem dX8_scan_45 : decode cX8_scan 45 = .ok (.iadd, 1) := by decide +kernel
theorem dX8_scan_46 : decode cX8_scan 46 = .ok (.putfield 199, 3) := by decide +kernel
theorem dX8_scan_49 : decode cX8_scan 49 = .ok (.goto (-49), 3) := by decide +kernel
theorem dX8_scan_52 : decode cX8_scan 52 = .ok (.aload_n 0, 1) := by decide +kernel
theorem dX8_scan_53 : decode cX8_scan 53 = .ok (.aload_n 0, 1) := by decide +kernel
theorem dX8_scan_54 : decode cX8_scan 54 = .ok (.getfield 199, 3) := by decide +kernel
theorem dX8_scan_57 : decode cX8_scan 57 = .ok (.putfield 202, 3) := by decide +kernel
theorem dX8_scan_60 : decode cX8_scan 60 = .ok (.aload_n 0, 1) := by decide +kernel
theorem dX8_scan_61 : decode cX8_scan 61 = .ok (.getfield 199, 3) := by decide +kernel
theorem dX8_scan_64 : decode cX8_scan 64 = .ok (.aload_n 0, 1) := by decide +kernel
theorem dX8_scan_65 : decode cX8_scan 65 = .ok (.getfield 196, 3) := by decide +kernel
theorem dX8_scan_68 : decode cX8_scan 68 = .ok (.if_icmp .ne 11, 3) := by decide +kernel
theorem dX8_scan_71 : decode cX8_scan 71 = .ok (.aload_n 0, 1) := by decide +kernel
theorem dX8_scan_72 : decode cX8_scan 72 = .ok (.iconst 0, 1) := by decide +kernel
theorem dX8_scan_73 : decode cX8_scan 73 = .ok (.putfield 205, 3) := by decide +kernel
theorem dX8_scan_76 : decode cX8_scan 76 = .ok (.goto 227, 3) := by decide +kernel
theorem dX8_scan_79 : decode cX8_scan 79 = .ok (.aload_n 0, 1) := by decide +kernel
theorem dX8_scan_80 : decode cX8_scan 80 = .ok (.aload_n 0, 1) := by decide +kernel
theorem dX8_scan_81 : decode cX8_scan 81 = .ok (.getfield 199, 3) := by decide +kernel
theorem dX8_scan_84 : decode cX8_scan 84 = .ok (.invokevirtual 208, 3) := by decide +kernel
theorem dX8_scan_87 : decode cX8_scan 87 = .ok (.ifCond .eq 35, 3) := by decide +kernel
theorem dX8_scan_90 : decode cX8_scan 90 = .ok (.aload_n 0, 1) := by decide +kernel
theorem dX8_scan_91 : decode cX8_scan 91 = .ok (.aload_n 0, 1) := by decide +kernel
theorem dX8_scan_92 : decode cX8_scan 92 = .ok (.getfield 199, 3) := by decide +kernel
theorem dX8_scan_95 : decode cX8_scan 95 = .ok (.invokevirtual 208, 3) := by decide +kernel
theorem dX8_scan_98 : decode cX8_scan 98 = .ok (.ifCond .eq 16, 3) := by decide +kernel
theorem dX8_scan_101 : decode cX8_scan 101 = .ok (.aload_n 0, 1) := by decide +kernel
theorem dX8_scan_102 : decode cX8_scan 102 = .ok (.dup, 1) := by decide +kernel
theorem dX8_scan_103 : decode cX8_scan 103 = .ok (.getfield 199, 3) := by decide +kernel
theorem dX8_scan_106 : decode cX8_scan 106 = .ok (.iconst 1, 1) := by decide +kernel
theorem dX8_scan_107 : decode cX8_scan 107 = .ok (.iadd, 1) := by decide +kernel
theorem dX8_scan_108 : decode cX8_scan 108 = .ok (.putfield 199, 3) := by decide +kernel
theorem dX8_scan_111 : decode cX8_scan 111 = .ok (.goto (-21), 3) := by decide +kernel
