theorem dL_cell_0 : decode cL_cell 0 = .ok (.iload_n 1, 1) := by decide +kernel
theorem dL_cell_1 : decode cL_cell 1 = .ok (.aload_n 0, 1) := by decide +kernel
theorem dL_cell_2 : decode cL_cell 2 = .ok (.arraylength, 1) := by decide +kernel
theorem dL_cell_3 : decode cL_cell 3 = .ok (.if_icmp .ge 9, 3) := by decide +kernel
theorem dL_cell_6 : decode cL_cell 6 = .ok (.aload_n 0, 1) := by decide +kernel
theorem dL_cell_7 : decode cL_cell 7 = .ok (.iload_n 1, 1) := by decide +kernel
theorem dL_cell_8 : decode cL_cell 8 = .ok (.iaload, 1) := by decide +kernel
theorem dL_cell_9 : decode cL_cell 9 = .ok (.goto 4, 3) := by decide +kernel
theorem dL_cell_12 : decode cL_cell 12 = .ok (.iconst 0, 1) := by decide +kernel
theorem dL_cell_13 : decode cL_cell 13 = .ok (.ireturn, 1) := by decide +kernel
theorem dL_of_0 : decode cL_of 0 = .ok (.iload_n 2, 1) := by decide +kernel
theorem dL_of_1 : decode cL_of 1 = .ok (.aload_n 0, 1) := by decide +kernel
theorem dL_of_2 : decode cL_of 2 = .ok (.iload_n 1, 1) := by decide +kernel
theorem dL_of_3 : decode cL_of 3 = .ok (.invokestatic 7, 3) := by decide +kernel
theorem dL_of_6 : decode cL_of 6 = .ok (.iload_n 3, 1) := by decide +kernel
theorem dL_of_7 : decode cL_of 7 = .ok (.invokestatic 13, 3) := by decide +kernel
theorem dL_of_10 : decode cL_of 10 = .ok (.iadd, 1) := by decide +kernel
theorem dL_of_11 : decode cL_of 11 = .ok (.ireturn, 1) := by decide +kernel
theorem dL_openLoan_0 : decode cL_openLoan 0 = .ok (.aload_n 0, 1) := by decide +kernel
theorem dL_openLoan_1 : decode cL_openLoan 1 = .ok (.iload_n 1, 1) := by decide +kernel
theorem dL_openLoan_2 : decode cL_openLoan 2 = .ok (.iload_n 2, 1) := by decide +kernel
theorem dL_openLoan_3 : decode cL_openLoan 3 = .ok (.iload_n 3, 1) := by decide +kernel
theorem dL_openLoan_4 : decode cL_openLoan 4 = .ok (.invokevirtual 19, 3) := by decide +kernel
theorem dL_openLoan_7 : decode cL_openLoan 7 = .ok (.ireturn, 1) := by decide +kernel
theorem dL_openLoan_8 : decode cL_openLoan 8 = .ok (.astore 4, 2) := by decide +kernel
theorem dL_openLoan_10 : decode cL_openLoan 10 = .ok (.sipush (-7777), 3) := by decide +kernel
theorem dL_openLoan_13 : decode cL_openLoan 13 = .ok (.ireturn, 1) := by decide +kernel
theorem dL_openLoan_14 : decode cL_openLoan 14 = .ok (.astore 4, 2) := by decide +kernel
theorem dL_openLoan_16 : decode cL_openLoan 16 = .ok (.sipush (-7777), 3) := by decide +kernel
theorem dL_openLoan_19 : decode cL_openLoan 19 = .ok (.ireturn, 1) := by decide +kernel
theorem dL_pay_0 : decode cL_pay 0 = .ok (.aload_n 0, 1) := by decide +kernel
theorem dL_pay_1 : decode cL_pay 1 = .ok (.iload_n 1, 1) := by decide +kernel
theorem dL_pay_2 : decode cL_pay 2 = .ok (.invokevirtual 29, 3) := by decide +kernel
theorem dL_pay_5 : decode cL_pay 5 = .ok (.ireturn, 1) := by decide +kernel
theorem dL_pay_6 : decode cL_pay 6 = .ok (.astore_n 2, 1) := by decide +kernel
theorem dL_pay_7 : decode cL_pay 7 = .ok (.sipush (-7777), 3) := by decide +kernel
theorem dL_pay_10 : decode cL_pay 10 = .ok (.ireturn, 1) := by decide +kernel
theorem dL_pay_11 : decode cL_pay 11 = .ok (.astore_n 2, 1) := by decide +kernel
theorem dL_pay_12 : decode cL_pay 12 = .ok (.sipush (-7777), 3) := by decide +kernel
theorem dL_pay_15 : decode cL_pay 15 = .ok (.ireturn, 1) := by decide +kernel
theorem dL_payExtra_0 : decode cL_payExtra 0 = .ok (.aload_n 0, 1) := by decide +kernel
theorem dL_payExtra_1 : decode cL_payExtra 1 = .ok (.iload_n 1, 1) := by decide +kernel
theorem dL_payExtra_2 : decode cL_payExtra 2 = .ok (.iload_n 2, 1) := by decide +kernel
theorem dL_payExtra_3 : decode cL_payExtra 3 = .ok (.iload_n 3, 1) := by decide +kernel
theorem dL_payExtra_4 : decode cL_payExtra 4 = .ok (.invokevirtual 35, 3) := by decide +kernel
theorem dL_payExtra_7 : decode cL_payExtra 7 = .ok (.ireturn, 1) := by decide +kernel
theorem dL_payExtra_8 : decode cL_payExtra 8 = .ok (.astore 4, 2) := by decide +kernel
theorem dL_payExtra_10 : decode cL_payExtra 10 = .ok (.sipush (-7777), 3) := by decide +kernel
theorem dL_payExtra_13 : decode cL_payExtra 13 = .ok (.ireturn, 1) := by decide +kernel
theorem dL_payExtra_14 : decode cL_payExtra 14 = .ok (.astore 4, 2) := by decide +kernel
theorem dL_payExtra_16 : decode cL_payExtra 16 = .ok (.sipush (-7777), 3) := by decide +kernel
theorem dL_payExtra_19 : decode cL_payExtra 19 = .ok (.ireturn, 1) := by decide +kernel
theorem dL_payExtra_20 : decode cL_payExtra 20 = .ok (.astore 4, 2) := by decide +kernel
theorem dL_payExtra_22 : decode cL_payExtra 22 = .ok (.sipush (-7777), 3) := by decide +kernel
theorem dL_payExtra_25 : decode cL_payExtra 25 = .ok (.ireturn, 1) := by decide +kernel
theorem dL_skipMonth_0 : decode cL_skipMonth 0 = .ok (.aload_n 0, 1) := by decide +kernel
theorem dL_skipMonth_1 : decode cL_skipMonth 1 = .ok (.iload_n 1, 1) := by decide +kernel
theorem dL_skipMonth_2 : decode cL_skipMonth 2 = .ok (.invokevirtual 39, 3) := by decide +kernel
theorem dL_skipMonth_5 : decode cL_skipMonth 5 = .ok (.ireturn, 1) := by decide +kernel
theorem dL_skipMonth_6 : decode cL_skipMonth 6 = .ok (.astore_n 2, 1) := by decide +kernel
theorem dL_skipMonth_7 : decode cL_skipMonth 7 = .ok (.sipush (-7777), 3) := by decide +kernel
theorem dL_skipMonth_10 : decode cL_skipMonth 10 = .ok (.ireturn, 1) := by decide +kernel
theorem dL_skipMonth_11 : decode cL_skipMonth 11 = .ok (.astore_n 2, 1) := by decide +kernel
theorem dL_skipMonth_12 : decode cL_skipMonth 12 = .ok (.sipush (-7777), 3) := by decide +kernel
theorem dL_skipMonth_15 : decode cL_skipMonth 15 = .ok (.ireturn, 1) := by decide +kernel
theorem dL_changeRate_0 : decode cL_changeRate 0 = .ok (.aload_n 0, 1) := by decide +kernel
theorem dL_changeRate_1 : decode cL_changeRate 1 = .ok (.iload_n 1, 1) := by decide +kernel
theorem dL_changeRate_2 : decode cL_changeRate 2 = .ok (.iload_n 2, 1) := by decide +kernel
theorem dL_changeRate_3 : decode cL_changeRate 3 = .ok (.invokevirtual 42, 3) := by decide +kernel
theorem dL_changeRate_6 : decode cL_changeRate 6 = .ok (.ireturn, 1) := by decide +kernel
theorem dL_changeRate_7 : decode cL_changeRate 7 = .ok (.astore_n 3, 1) := by decide +kernel
theorem dL_changeRate_8 : decode cL_changeRate 8 = .ok (.sipush (-7777), 3) := by decide +kernel
theorem dL_changeRate_11 : decode cL_changeRate 11 = .ok (.ireturn, 1) := by decide +kernel
theorem dL_changeRate_12 : decode cL_changeRate 12 = .ok (.astore_n 3, 1) := by decide +kernel
theorem dL_changeRate_13 : decode cL_changeRate 13 = .ok (.sipush (-7777), 3) := by decide +kernel
theorem dL_changeRate_16 : decode cL_changeRate 16 = .ok (.ireturn, 1) := by decide +kernel
theorem dL_changeRate_17 : decode cL_changeRate 17 = .ok (.astore_n 3, 1) := by decide +kernel
theorem dL_changeRate_18 : decode cL_changeRate 18 = .ok (.sipush (-7777), 3) := by decide +kernel
theorem dL_changeRate_21 : decode cL_changeRate 21 = .ok (.ireturn, 1) := by decide +kernel
theorem dL_extendTerm_0 : decode cL_extendTerm 0 = .ok (.aload_n 0, 1) := by decide +kernel
theorem dL_extendTerm_1 : decode cL_extendTerm 1 = .ok (.iload_n 1, 1) := by decide +kernel
theorem dL_extendTerm_2 : decode cL_extendTerm 2 = .ok (.iload_n 2, 1) := by decide +kernel
theorem dL_extendTerm_3 : decode cL_extendTerm 3 = .ok (.invokevirtual 45, 3) := by decide +kernel
theorem dL_extendTerm_6 : decode cL_extendTerm 6 = .ok (.ireturn, 1) := by decide +kernel
theorem dL_extendTerm_7 : decode cL_extendTerm 7 = .ok (.astore_n 3, 1) := by decide +kernel
theorem dL_extendTerm_8 : decode cL_extendTerm 8 = .ok (.sipush (-7777), 3) := by decide +kernel
theorem dL_extendTerm_11 : decode cL_extendTerm 11 = .ok (.ireturn, 1) := by decide +kernel
theorem dL_extendTerm_12 : decode cL_extendTerm 12 = .ok (.astore_n 3, 1) := by decide +kernel
theorem dL_extendTerm_13 : decode cL_extendTerm 13 = .ok (.sipush (-7777), 3) := by decide +kernel
theorem dL_extendTerm_16 : decode cL_extendTerm 16 = .ok (.ireturn, 1) := by decide +kernel
theorem dL_extendTerm_17 : decode cL_extendTerm 17 = .ok (.astore_n 3, 1) := by decide +kernel
theorem dL_extendTerm_18 : decode cL_extendTerm 18 = .ok (.sipush (-7777), 3) := by decide +kernel
theorem dL_extendTerm_21 : decode cL_extendTerm 21 = .ok (.ireturn, 1) := by decide +kernel
theorem dL_refinance_0 : decode cL_refinance 0 = .ok (.aload_n 0, 1) := by decide +kernel
theorem dL_refinance_1 : decode cL_refinance 1 = .ok (.iload_n 1, 1) := by decide +kernel
theorem dL_refinance_2 : decode cL_refinance 2 = .ok (.iload_n 2, 1) := by decide +kernel
theorem dL_refinance_3 : decode cL_refinance 3 = .ok (.iload_n 3, 1) := by decide +kernel
theorem dL_refinance_4 : decode cL_refinance 4 = .ok (.invokevirtual 48, 3) := by decide +kernel
theorem dL_refinance_7 : decode cL_refinance 7 = .ok (.ireturn, 1) := by decide +kernel
theorem dL_refinance_8 : decode cL_refinance 8 = .ok (.astore 4, 2) := by decide +kernel
theorem dL_refinance_10 : decode cL_refinance 10 = .ok (.sipush (-7777), 3) := by decide +kernel
theorem dL_refinance_13 : decode cL_refinance 13 = .ok (.ireturn, 1) := by decide +kernel
theorem dL_refinance_14 : decode cL_refinance 14 = .ok (.astore 4, 2) := by decide +kernel
theorem dL_refinance_16 : decode cL_refinance 16 = .ok (.sipush (-7777), 3) := by decide +kernel
theorem dL_refinance_19 : decode cL_refinance 19 = .ok (.ireturn, 1) := by decide +kernel
theorem dL_refinance_20 : decode cL_refinance 20 = .ok (.astore 4, 2) := by decide +kernel
theorem dL_refinance_22 : decode cL_refinance 22 = .ok (.sipush (-7777), 3) := by decide +kernel
theorem dL_refinance_25 : decode cL_refinance 25 = .ok (.ireturn, 1) := by decide +kernel
theorem dL_spendExtra_0 : decode cL_spendExtra 0 = .ok (.aload_n 0, 1) := by decide +kernel
theorem dL_spendExtra_1 : decode cL_spendExtra 1 = .ok (.iload_n 1, 1) := by decide +kernel
theorem dL_spendExtra_2 : decode cL_spendExtra 2 = .ok (.invokevirtual 51, 3) := by decide +kernel
theorem dL_spendExtra_5 : decode cL_spendExtra 5 = .ok (.ireturn, 1) := by decide +kernel
theorem dL_spendExtra_6 : decode cL_spendExtra 6 = .ok (.astore_n 2, 1) := by decide +kernel
theorem dL_spendExtra_7 : decode cL_spendExtra 7 = .ok (.sipush (-7777), 3) := by decide +kernel
theorem dL_spendExtra_10 : decode cL_spendExtra 10 = .ok (.ireturn, 1) := by decide +kernel
theorem dL_isOpen_0 : decode cL_isOpen 0 = .ok (.aload_n 0, 1) := by decide +kernel
theorem dL_isOpen_1 : decode cL_isOpen 1 = .ok (.iload_n 1, 1) := by decide +kernel
theorem dL_isOpen_2 : decode cL_isOpen 2 = .ok (.invokevirtual 54, 3) := by decide +kernel
theorem dL_isOpen_5 : decode cL_isOpen 5 = .ok (.ireturn, 1) := by decide +kernel
theorem dL_isOpen_6 : decode cL_isOpen 6 = .ok (.astore_n 2, 1) := by decide +kernel
theorem dL_isOpen_7 : decode cL_isOpen 7 = .ok (.iconst 0, 1) := by decide +kernel
theorem dL_isOpen_8 : decode cL_isOpen 8 = .ok (.ireturn, 1) := by decide +kernel
theorem dL_principal_0 : decode cL_principal 0 = .ok (.aload_n 0, 1) := by decide +kernel
theorem dL_principal_1 : decode cL_principal 1 = .ok (.iload_n 1, 1) := by decide +kernel
theorem dL_principal_2 : decode cL_principal 2 = .ok (.invokevirtual 58, 3) := by decide +kernel
theorem dL_principal_5 : decode cL_principal 5 = .ok (.ireturn, 1) := by decide +kernel
theorem dL_principal_6 : decode cL_principal 6 = .ok (.astore_n 2, 1) := by decide +kernel
theorem dL_principal_7 : decode cL_principal 7 = .ok (.sipush (-7777), 3) := by decide +kernel
theorem dL_principal_10 : decode cL_principal 10 = .ok (.ireturn, 1) := by decide +kernel
theorem dL_balance_0 : decode cL_balance 0 = .ok (.aload_n 0, 1) := by decide +kernel
theorem dL_balance_1 : decode cL_balance 1 = .ok (.iload_n 1, 1) := by decide +kernel
theorem dL_balance_2 : decode cL_balance 2 = .ok (.invokevirtual 61, 3) := by decide +kernel
theorem dL_balance_5 : decode cL_balance 5 = .ok (.ireturn, 1) := by decide +kernel
theorem dL_balance_6 : decode cL_balance 6 = .ok (.astore_n 2, 1) := by decide +kernel
theorem dL_balance_7 : decode cL_balance 7 = .ok (.sipush (-7777), 3) := by decide +kernel
theorem dL_balance_10 : decode cL_balance 10 = .ok (.ireturn, 1) := by decide +kernel
theorem dL_rate_0 : decode cL_rate 0 = .ok (.aload_n 0, 1) := by decide +kernel
theorem dL_rate_1 : decode cL_rate 1 = .ok (.iload_n 1, 1) := by decide +kernel
theorem dL_rate_2 : decode cL_rate 2 = .ok (.invokevirtual 64, 3) := by decide +kernel
theorem dL_rate_5 : decode cL_rate 5 = .ok (.ireturn, 1) := by decide +kernel
theorem dL_rate_6 : decode cL_rate 6 = .ok (.astore_n 2, 1) := by decide +kernel
theorem dL_rate_7 : decode cL_rate 7 = .ok (.sipush (-7777), 3) := by decide +kernel
theorem dL_rate_10 : decode cL_rate 10 = .ok (.ireturn, 1) := by decide +kernel
theorem dL_monthsLeft_0 : decode cL_monthsLeft 0 = .ok (.aload_n 0, 1) := by decide +kernel
theorem dL_monthsLeft_1 : decode cL_monthsLeft 1 = .ok (.iload_n 1, 1) := by decide +kernel
theorem dL_monthsLeft_2 : decode cL_monthsLeft 2 = .ok (.invokevirtual 67, 3) := by decide +kernel
theorem dL_monthsLeft_5 : decode cL_monthsLeft 5 = .ok (.ireturn, 1) := by decide +kernel
theorem dL_monthsLeft_6 : decode cL_monthsLeft 6 = .ok (.astore_n 2, 1) := by decide +kernel
theorem dL_monthsLeft_7 : decode cL_monthsLeft 7 = .ok (.sipush (-7777), 3) := by decide +kernel
theorem dL_monthsLeft_10 : decode cL_monthsLeft 10 = .ok (.ireturn, 1) := by decide +kernel
theorem dL_installment_0 : decode cL_installment 0 = .ok (.aload_n 0, 1) := by decide +kernel
theorem dL_installment_1 : decode cL_installment 1 = .ok (.iload_n 1, 1) := by decide +kernel
theorem dL_installment_2 : decode cL_installment 2 = .ok (.invokevirtual 70, 3) := by decide +kernel
theorem dL_installment_5 : decode cL_installment 5 = .ok (.ireturn, 1) := by decide +kernel
theorem dL_installment_6 : decode cL_installment 6 = .ok (.astore_n 2, 1) := by decide +kernel
theorem dL_installment_7 : decode cL_installment 7 = .ok (.sipush (-7777), 3) := by decide +kernel
theorem dL_installment_10 : decode cL_installment 10 = .ok (.ireturn, 1) := by decide +kernel
theorem dL_carry_0 : decode cL_carry 0 = .ok (.aload_n 0, 1) := by decide +kernel
theorem dL_carry_1 : decode cL_carry 1 = .ok (.iload_n 1, 1) := by decide +kernel
theorem dL_carry_2 : decode cL_carry 2 = .ok (.invokevirtual 73, 3) := by decide +kernel
theorem dL_carry_5 : decode cL_carry 5 = .ok (.ireturn, 1) := by decide +kernel
theorem dL_carry_6 : decode cL_carry 6 = .ok (.astore_n 2, 1) := by decide +kernel
theorem dL_carry_7 : decode cL_carry 7 = .ok (.sipush (-7777), 3) := by decide +kernel
theorem dL_carry_10 : decode cL_carry 10 = .ok (.ireturn, 1) := by decide +kernel
theorem dL_interestDue_0 : decode cL_interestDue 0 = .ok (.aload_n 0, 1) := by decide +kernel
theorem dL_interestDue_1 : decode cL_interestDue 1 = .ok (.iload_n 1, 1) := by decide +kernel
theorem dL_interestDue_2 : decode cL_interestDue 2 = .ok (.invokevirtual 76, 3) := by decide +kernel
theorem dL_interestDue_5 : decode cL_interestDue 5 = .ok (.ireturn, 1) := by decide +kernel
theorem dL_interestDue_6 : decode cL_interestDue 6 = .ok (.astore_n 2, 1) := by decide +kernel
theorem dL_interestDue_7 : decode cL_interestDue 7 = .ok (.sipush (-7777), 3) := by decide +kernel
theorem dL_interestDue_10 : decode cL_interestDue 10 = .ok (.ireturn, 1) := by decide +kernel
theorem dL_amountDue_0 : decode cL_amountDue 0 = .ok (.aload_n 0, 1) := by decide +kernel
theorem dL_amountDue_1 : decode cL_amountDue 1 = .ok (.iload_n 1, 1) := by decide +kernel
theorem dL_amountDue_2 : decode cL_amountDue 2 = .ok (.invokevirtual 79, 3) := by decide +kernel
theorem dL_amountDue_5 : decode cL_amountDue 5 = .ok (.ireturn, 1) := by decide +kernel
theorem dL_amountDue_6 : decode cL_amountDue 6 = .ok (.astore_n 2, 1) := by decide +kernel
theorem dL_amountDue_7 : decode cL_amountDue 7 = .ok (.sipush (-7777), 3) := by decide +kernel
theorem dL_amountDue_10 : decode cL_amountDue 10 = .ok (.ireturn, 1) := by decide +kernel
theorem dL_interestSoFar_0 : decode cL_interestSoFar 0 = .ok (.aload_n 0, 1) := by decide +kernel
theorem dL_interestSoFar_1 : decode cL_interestSoFar 1 = .ok (.iload_n 1, 1) := by decide +kernel
theorem dL_interestSoFar_2 : decode cL_interestSoFar 2 = .ok (.invokevirtual 82, 3) := by decide +kernel
theorem dL_interestSoFar_5 : decode cL_interestSoFar 5 = .ok (.ireturn, 1) := by decide +kernel
theorem dL_interestSoFar_6 : decode cL_interestSoFar 6 = .ok (.astore_n 2, 1) := by decide +kernel
theorem dL_interestSoFar_7 : decode cL_interestSoFar 7 = .ok (.sipush (-7777), 3) := by decide +kernel
theorem dL_interestSoFar_10 : decode cL_interestSoFar 10 = .ok (.ireturn, 1) := by decide +kernel
theorem dL_paidSoFar_0 : decode cL_paidSoFar 0 = .ok (.aload_n 0, 1) := by decide +kernel
theorem dL_paidSoFar_1 : decode cL_paidSoFar 1 = .ok (.iload_n 1, 1) := by decide +kernel
theorem dL_paidSoFar_2 : decode cL_paidSoFar 2 = .ok (.invokevirtual 85, 3) := by decide +kernel
theorem dL_paidSoFar_5 : decode cL_paidSoFar 5 = .ok (.ireturn, 1) := by decide +kernel
theorem dL_paidSoFar_6 : decode cL_paidSoFar 6 = .ok (.astore_n 2, 1) := by decide +kernel
theorem dL_paidSoFar_7 : decode cL_paidSoFar 7 = .ok (.sipush (-7777), 3) := by decide +kernel
theorem dL_paidSoFar_10 : decode cL_paidSoFar 10 = .ok (.ireturn, 1) := by decide +kernel
theorem dL_paidMonths_0 : decode cL_paidMonths 0 = .ok (.aload_n 0, 1) := by decide +kernel
theorem dL_paidMonths_1 : decode cL_paidMonths 1 = .ok (.iload_n 1, 1) := by decide +kernel
theorem dL_paidMonths_2 : decode cL_paidMonths 2 = .ok (.invokevirtual 88, 3) := by decide +kernel
theorem dL_paidMonths_5 : decode cL_paidMonths 5 = .ok (.ireturn, 1) := by decide +kernel
theorem dL_paidMonths_6 : decode cL_paidMonths 6 = .ok (.astore_n 2, 1) := by decide +kernel
theorem dL_paidMonths_7 : decode cL_paidMonths 7 = .ok (.sipush (-7777), 3) := by decide +kernel
theorem dL_paidMonths_10 : decode cL_paidMonths 10 = .ok (.ireturn, 1) := by decide +kernel
theorem dL_skippedMonths_0 : decode cL_skippedMonths 0 = .ok (.aload_n 0, 1) := by decide +kernel
theorem dL_skippedMonths_1 : decode cL_skippedMonths 1 = .ok (.iload_n 1, 1) := by decide +kernel
theorem dL_skippedMonths_2 : decode cL_skippedMonths 2 = .ok (.invokevirtual 91, 3) := by decide +kernel
theorem dL_skippedMonths_5 : decode cL_skippedMonths 5 = .ok (.ireturn, 1) := by decide +kernel
theorem dL_skippedMonths_6 : decode cL_skippedMonths 6 = .ok (.astore_n 2, 1) := by decide +kernel
theorem dL_skippedMonths_7 : decode cL_skippedMonths 7 = .ok (.sipush (-7777), 3) := by decide +kernel
theorem dL_skippedMonths_10 : decode cL_skippedMonths 10 = .ok (.ireturn, 1) := by decide +kernel
theorem dL_interestAhead_0 : decode cL_interestAhead 0 = .ok (.aload_n 0, 1) := by decide +kernel
theorem dL_interestAhead_1 : decode cL_interestAhead 1 = .ok (.iload_n 1, 1) := by decide +kernel
theorem dL_interestAhead_2 : decode cL_interestAhead 2 = .ok (.invokevirtual 94, 3) := by decide +kernel
theorem dL_interestAhead_5 : decode cL_interestAhead 5 = .ok (.ireturn, 1) := by decide +kernel
theorem dL_interestAhead_6 : decode cL_interestAhead 6 = .ok (.astore_n 2, 1) := by decide +kernel
theorem dL_interestAhead_7 : decode cL_interestAhead 7 = .ok (.sipush (-7777), 3) := by decide +kernel
theorem dL_interestAhead_10 : decode cL_interestAhead 10 = .ok (.ireturn, 1) := by decide +kernel
theorem dL_lastDue_0 : decode cL_lastDue 0 = .ok (.aload_n 0, 1) := by decide +kernel
theorem dL_lastDue_1 : decode cL_lastDue 1 = .ok (.iload_n 1, 1) := by decide +kernel
theorem dL_lastDue_2 : decode cL_lastDue 2 = .ok (.invokevirtual 97, 3) := by decide +kernel
theorem dL_lastDue_5 : decode cL_lastDue 5 = .ok (.ireturn, 1) := by decide +kernel
theorem dL_lastDue_6 : decode cL_lastDue 6 = .ok (.astore_n 2, 1) := by decide +kernel
theorem dL_lastDue_7 : decode cL_lastDue 7 = .ok (.sipush (-7777), 3) := by decide +kernel
theorem dL_lastDue_10 : decode cL_lastDue 10 = .ok (.ireturn, 1) := by decide +kernel
theorem dL_balanceAfter_0 : decode cL_balanceAfter 0 = .ok (.aload_n 0, 1) := by decide +kernel
theorem dL_balanceAfter_1 : decode cL_balanceAfter 1 = .ok (.iload_n 1, 1) := by decide +kernel
theorem dL_balanceAfter_2 : decode cL_balanceAfter 2 = .ok (.iload_n 2, 1) := by decide +kernel
theorem dL_balanceAfter_3 : decode cL_balanceAfter 3 = .ok (.invokevirtual 106, 3) := by decide +kernel
theorem dL_balanceAfter_6 : decode cL_balanceAfter 6 = .ok (.ireturn, 1) := by decide +kernel
theorem dL_balanceAfter_7 : decode cL_balanceAfter 7 = .ok (.astore_n 3, 1) := by decide +kernel
theorem dL_balanceAfter_8 : decode cL_balanceAfter 8 = .ok (.sipush (-7777), 3) := by decide +kernel
theorem dL_balanceAfter_11 : decode cL_balanceAfter 11 = .ok (.ireturn, 1) := by decide +kernel
theorem dL_balanceAfter_12 : decode cL_balanceAfter 12 = .ok (.astore_n 3, 1) := by decide +kernel
theorem dL_balanceAfter_13 : decode cL_balanceAfter 13 = .ok (.sipush (-7777), 3) := by decide +kernel
theorem dL_balanceAfter_16 : decode cL_balanceAfter 16 = .ok (.ireturn, 1) := by decide +kernel
theorem dL_interestOfPayment_0 : decode cL_interestOfPayment 0 = .ok (.aload_n 0, 1) := by decide +kernel
theorem dL_interestOfPayment_1 : decode cL_interestOfPayment 1 = .ok (.iload_n 1, 1) := by decide +kernel
theorem dL_interestOfPayment_2 : decode cL_interestOfPayment 2 = .ok (.iload_n 2, 1) := by decide +kernel
theorem dL_interestOfPayment_3 : decode cL_interestOfPayment 3 = .ok (.invokevirtual 121, 3) := by decide +kernel
theorem dL_interestOfPayment_6 : decode cL_interestOfPayment 6 = .ok (.ireturn, 1) := by decide +kernel
theorem dL_interestOfPayment_7 : decode cL_interestOfPayment 7 = .ok (.astore_n 3, 1) := by decide +kernel
theorem dL_interestOfPayment_8 : decode cL_interestOfPayment 8 = .ok (.sipush (-7777), 3) := by decide +kernel
theorem dL_interestOfPayment_11 : decode cL_interestOfPayment 11 = .ok (.ireturn, 1) := by decide +kernel
theorem dL_interestOfPayment_12 : decode cL_interestOfPayment 12 = .ok (.astore_n 3, 1) := by decide +kernel
theorem dL_interestOfPayment_13 : decode cL_interestOfPayment 13 = .ok (.sipush (-7777), 3) := by decide +kernel
theorem dL_interestOfPayment_16 : decode cL_interestOfPayment 16 = .ok (.ireturn, 1) := by decide +kernel
theorem dL_amountOfPayment_0 : decode cL_amountOfPayment 0 = .ok (.aload_n 0, 1) := by decide +kernel
theorem dL_amountOfPayment_1 : decode cL_amountOfPayment 1 = .ok (.iload_n 1, 1) := by decide +kernel
theorem dL_amountOfPayment_2 : decode cL_amountOfPayment 2 = .ok (.iload_n 2, 1) := by decide +kernel
theorem dL_amountOfPayment_3 : decode cL_amountOfPayment 3 = .ok (.invokevirtual 124, 3) := by decide +kernel
theorem dL_amountOfPayment_6 : decode cL_amountOfPayment 6 = .ok (.ireturn, 1) := by decide +kernel
theorem dL_amountOfPayment_7 : decode cL_amountOfPayment 7 = .ok (.astore_n 3, 1) := by decide +kernel
theorem dL_amountOfPayment_8 : decode cL_amountOfPayment 8 = .ok (.sipush (-7777), 3) := by decide +kernel
theorem dL_amountOfPayment_11 : decode cL_amountOfPayment 11 = .ok (.ireturn, 1) := by decide +kernel
theorem dL_amountOfPayment_12 : decode cL_amountOfPayment 12 = .ok (.astore_n 3, 1) := by decide +kernel
theorem dL_amountOfPayment_13 : decode cL_amountOfPayment 13 = .ok (.sipush (-7777), 3) := by decide +kernel
theorem dL_amountOfPayment_16 : decode cL_amountOfPayment 16 = .ok (.ireturn, 1) := by decide +kernel
theorem dL_began_0 : decode cL_began 0 = .ok (.ldc 137, 2) := by decide +kernel
theorem dL_began_2 : decode cL_began 2 = .ok (.astore_n 1, 1) := by decide +kernel
theorem dL_began_3 : decode cL_began 3 = .ok (.iconst 5, 1) := by decide +kernel
theorem dL_began_4 : decode cL_began 4 = .ok (.newarray .int, 2) := by decide +kernel
theorem dL_began_6 : decode cL_began 6 = .ok (.astore_n 2, 1) := by decide +kernel
theorem dL_began_7 : decode cL_began 7 = .ok (.iconst 0, 1) := by decide +kernel
theorem dL_began_8 : decode cL_began 8 = .ok (.istore_n 3, 1) := by decide +kernel
theorem dL_began_9 : decode cL_began 9 = .ok (.iload_n 3, 1) := by decide +kernel
theorem dL_began_10 : decode cL_began 10 = .ok (.bipush 20, 2) := by decide +kernel
theorem dL_began_12 : decode cL_began 12 = .ok (.if_icmp .ge 32, 3) := by decide +kernel
theorem dL_began_15 : decode cL_began 15 = .ok (.aload_n 2, 1) := by decide +kernel
theorem dL_began_16 : decode cL_began 16 = .ok (.iload_n 3, 1) := by decide +kernel
theorem dL_began_17 : decode cL_began 17 = .ok (.iconst 4, 1) := by decide +kernel
theorem dL_began_18 : decode cL_began 18 = .ok (.idiv, 1) := by decide +kernel
theorem dL_began_19 : decode cL_began 19 = .ok (.dup2, 1) := by decide +kernel
theorem dL_began_20 : decode cL_began 20 = .ok (.iaload, 1) := by decide +kernel
theorem dL_began_21 : decode cL_began 21 = .ok (.aload_n 1, 1) := by decide +kernel
theorem dL_began_22 : decode cL_began 22 = .ok (.iload_n 3, 1) := by decide +kernel
theorem dL_began_23 : decode cL_began 23 = .ok (.invokevirtual 139, 3) := by decide +kernel
theorem dL_began_26 : decode cL_began 26 = .ok (.bipush 24, 2) := by decide +kernel
theorem dL_began_28 : decode cL_began 28 = .ok (.bipush 8, 2) := by decide +kernel
theorem dL_began_30 : decode cL_began 30 = .ok (.iload_n 3, 1) := by decide +kernel
theorem dL_began_31 : decode cL_began 31 = .ok (.iconst 4, 1) := by decide +kernel
theorem dL_began_32 : decode cL_began 32 = .ok (.irem, 1) := by decide +kernel
theorem dL_began_33 : decode cL_began 33 = .ok (.imul, 1) := by decide +kernel
theorem dL_began_34 : decode cL_began 34 = .ok (.isub, 1) := by decide +kernel
theorem dL_began_35 : decode cL_began 35 = .ok (.ishl, 1) := by decide +kernel
theorem dL_began_36 : decode cL_began 36 = .ok (.ior, 1) := by decide +kernel
theorem dL_began_37 : decode cL_began 37 = .ok (.iastore, 1) := by decide +kernel
theorem dL_began_38 : decode cL_began 38 = .ok (.iinc 3 1, 3) := by decide +kernel
theorem dL_began_41 : decode cL_began 41 = .ok (.goto (-32), 3) := by decide +kernel
theorem dL_began_44 : decode cL_began 44 = .ok (.aload_n 0, 1) := by decide +kernel
theorem dL_began_45 : decode cL_began 45 = .ok (.aload_n 2, 1) := by decide +kernel
theorem dL_began_46 : decode cL_began 46 = .ok (.iconst 0, 1) := by decide +kernel
theorem dL_began_47 : decode cL_began 47 = .ok (.iaload, 1) := by decide +kernel
theorem dL_began_48 : decode cL_began 48 = .ok (.aload_n 2, 1) := by decide +kernel
theorem dL_began_49 : decode cL_began 49 = .ok (.iconst 1, 1) := by decide +kernel
theorem dL_began_50 : decode cL_began 50 = .ok (.iaload, 1) := by decide +kernel
theorem dL_began_51 : decode cL_began 51 = .ok (.aload_n 2, 1) := by decide +kernel
theorem dL_began_52 : decode cL_began 52 = .ok (.iconst 2, 1) := by decide +kernel
theorem dL_began_53 : decode cL_began 53 = .ok (.iaload, 1) := by decide +kernel
theorem dL_began_54 : decode cL_began 54 = .ok (.aload_n 2, 1) := by decide +kernel
theorem dL_began_55 : decode cL_began 55 = .ok (.iconst 3, 1) := by decide +kernel
theorem dL_began_56 : decode cL_began 56 = .ok (.iaload, 1) := by decide +kernel
theorem dL_began_57 : decode cL_began 57 = .ok (.aload_n 2, 1) := by decide +kernel
theorem dL_began_58 : decode cL_began 58 = .ok (.iconst 4, 1) := by decide +kernel
theorem dL_began_59 : decode cL_began 59 = .ok (.iaload, 1) := by decide +kernel
theorem dL_began_60 : decode cL_began 60 = .ok (.invokevirtual 145, 3) := by decide +kernel
theorem dL_began_63 : decode cL_began 63 = .ok (.pop, 1) := by decide +kernel
theorem dL_began_64 : decode cL_began 64 = .ok (.aload_n 0, 1) := by decide +kernel
theorem dL_began_65 : decode cL_began 65 = .ok (.invokevirtual 149, 3) := by decide +kernel
theorem dL_began_68 : decode cL_began 68 = .ok (.ireturn, 1) := by decide +kernel
theorem dL_amount_0 : decode cL_amount 0 = .ok (.iconst 1, 1) := by decide +kernel
theorem dL_amount_1 : decode cL_amount 1 = .ok (.iload_n 0, 1) := by decide +kernel
theorem dL_amount_2 : decode cL_amount 2 = .ok (.iconst 3, 1) := by decide +kernel
theorem dL_amount_3 : decode cL_amount 3 = .ok (.irem, 1) := by decide +kernel
theorem dL_amount_4 : decode cL_amount 4 = .ok (.ifCond .ne 13, 3) := by decide +kernel
theorem dL_amount_7 : decode cL_amount 7 = .ok (.iload_n 0, 1) := by decide +kernel
theorem dL_amount_8 : decode cL_amount 8 = .ok (.bipush 8, 2) := by decide +kernel
theorem dL_amount_10 : decode cL_amount 10 = .ok (.idiv, 1) := by decide +kernel
theorem dL_amount_11 : decode cL_amount 11 = .ok (.ldc 153, 2) := by decide +kernel
theorem dL_amount_13 : decode cL_amount 13 = .ok (.irem, 1) := by decide +kernel
theorem dL_amount_14 : decode cL_amount 14 = .ok (.goto 28, 3) := by decide +kernel
theorem dL_amount_17 : decode cL_amount 17 = .ok (.iload_n 0, 1) := by decide +kernel
theorem dL_amount_18 : decode cL_amount 18 = .ok (.iconst 3, 1) := by decide +kernel
theorem dL_amount_19 : decode cL_amount 19 = .ok (.irem, 1) := by decide +kernel
theorem dL_amount_20 : decode cL_amount 20 = .ok (.iconst 1, 1) := by decide +kernel
theorem dL_amount_21 : decode cL_amount 21 = .ok (.if_icmp .ne 13, 3) := by decide +kernel
theorem dL_amount_24 : decode cL_amount 24 = .ok (.iload_n 0, 1) := by decide +kernel
theorem dL_amount_25 : decode cL_amount 25 = .ok (.bipush 8, 2) := by decide +kernel
theorem dL_amount_27 : decode cL_amount 27 = .ok (.idiv, 1) := by decide +kernel
theorem dL_amount_28 : decode cL_amount 28 = .ok (.ldc 154, 2) := by decide +kernel
theorem dL_amount_30 : decode cL_amount 30 = .ok (.irem, 1) := by decide +kernel
theorem dL_amount_31 : decode cL_amount 31 = .ok (.goto 11, 3) := by decide +kernel
theorem dL_amount_34 : decode cL_amount 34 = .ok (.iload_n 0, 1) := by decide +kernel
theorem dL_amount_35 : decode cL_amount 35 = .ok (.bipush 8, 2) := by decide +kernel
theorem dL_amount_37 : decode cL_amount 37 = .ok (.idiv, 1) := by decide +kernel
theorem dL_amount_38 : decode cL_amount 38 = .ok (.sipush 200, 3) := by decide +kernel
theorem dL_amount_41 : decode cL_amount 41 = .ok (.irem, 1) := by decide +kernel
theorem dL_amount_42 : decode cL_amount 42 = .ok (.iadd, 1) := by decide +kernel
theorem dL_amount_43 : decode cL_amount 43 = .ok (.ireturn, 1) := by decide +kernel
theorem dL_act_0 : decode cL_act 0 = .ok (.aload_n 1, 1) := by decide +kernel
theorem dL_act_1 : decode cL_act 1 = .ok (.iload_n 2, 1) := by decide +kernel
theorem dL_act_2 : decode cL_act 2 = .ok (.iconst 1, 1) := by decide +kernel
theorem dL_act_3 : decode cL_act 3 = .ok (.iadd, 1) := by decide +kernel
theorem dL_act_4 : decode cL_act 4 = .ok (.invokestatic 7, 3) := by decide +kernel
theorem dL_act_7 : decode cL_act 7 = .ok (.ldc 155, 2) := by decide +kernel
theorem dL_act_9 : decode cL_act 9 = .ok (.iand, 1) := by decide +kernel
theorem dL_act_10 : decode cL_act 10 = .ok (.istore_n 3, 1) := by decide +kernel
theorem dL_act_11 : decode cL_act 11 = .ok (.iconst 1, 1) := by decide +kernel
theorem dL_act_12 : decode cL_act 12 = .ok (.aload_n 0, 1) := by decide +kernel
theorem dL_act_13 : decode cL_act 13 = .ok (.invokevirtual 156, 3) := by decide +kernel
theorem dL_act_16 : decode cL_act 16 = .ok (.invokestatic 159, 3) := by decide +kernel
theorem dL_act_19 : decode cL_act 19 = .ok (.istore 4, 2) := by decide +kernel
theorem dL_act_21 : decode cL_act 21 = .ok (.iload_n 3, 1) := by decide +kernel
theorem dL_act_22 : decode cL_act 22 = .ok (.iload 4, 2) := by decide +kernel
theorem dL_act_24 : decode cL_act 24 = .ok (.irem, 1) := by decide +kernel
theorem dL_act_25 : decode cL_act 25 = .ok (.istore 5, 2) := by decide +kernel
theorem dL_act_27 : decode cL_act 27 = .ok (.aload_n 1, 1) := by decide +kernel
theorem dL_act_28 : decode cL_act 28 = .ok (.iload_n 2, 1) := by decide +kernel
theorem dL_act_29 : decode cL_act 29 = .ok (.invokestatic 7, 3) := by decide +kernel
theorem dL_act_32 : decode cL_act 32 = .ok (.iconst 4, 1) := by decide +kernel
theorem dL_act_33 : decode cL_act 33 = .ok (.ishr, 1) := by decide +kernel
theorem dL_act_34 : decode cL_act 34 = .ok (.ldc 162, 2) := by decide +kernel
theorem dL_act_36 : decode cL_act 36 = .ok (.iand, 1) := by decide +kernel
theorem dL_act_37 : decode cL_act 37 = .ok (.istore 6, 2) := by decide +kernel
theorem dL_act_39 : decode cL_act 39 = .ok (.aload_n 1, 1) := by decide +kernel
theorem dL_act_40 : decode cL_act 40 = .ok (.iload_n 2, 1) := by decide +kernel
theorem dL_act_41 : decode cL_act 41 = .ok (.iconst 0, 1) := by decide +kernel
theorem dL_act_42 : decode cL_act 42 = .ok (.bipush 16, 2) := by decide +kernel
theorem dL_act_44 : decode cL_act 44 = .ok (.invokestatic 163, 3) := by decide +kernel
theorem dL_act_47 : decode cL_act 47 = .ok (.tableswitch 243 0 14 #[73, 73, 73, 113, 113, 113, 113, 123, 131, 131, 160, 170, 186, 203, 230], 73) := by decide +kernel
theorem dL_act_120 : decode cL_act 120 = .ok (.aload_n 0, 1) := by decide +kernel
theorem dL_act_121 : decode cL_act 121 = .ok (.iload_n 3, 1) := by decide +kernel
theorem dL_act_122 : decode cL_act 122 = .ok (.invokestatic 167, 3) := by decide +kernel
theorem dL_act_125 : decode cL_act 125 = .ok (.iload 6, 2) := by decide +kernel
theorem dL_act_127 : decode cL_act 127 = .ok (.sipush 3001, 3) := by decide +kernel
theorem dL_act_130 : decode cL_act 130 = .ok (.irem, 1) := by decide +kernel
theorem dL_act_131 : decode cL_act 131 = .ok (.iconst 1, 1) := by decide +kernel
theorem dL_act_132 : decode cL_act 132 = .ok (.iload 6, 2) := by decide +kernel
theorem dL_act_134 : decode cL_act 134 = .ok (.sipush 4096, 3) := by decide +kernel
theorem dL_act_137 : decode cL_act 137 = .ok (.idiv, 1) := by decide +kernel
theorem dL_act_138 : decode cL_act 138 = .ok (.iload_n 3, 1) := by decide +kernel
theorem dL_act_139 : decode cL_act 139 = .ok (.iconst 2, 1) := by decide +kernel
theorem dL_act_140 : decode cL_act 140 = .ok (.irem, 1) := by decide +kernel
theorem dL_act_141 : decode cL_act 141 = .ok (.ifCond .ne 8, 3) := by decide +kernel
theorem dL_act_144 : decode cL_act 144 = .ok (.bipush 120, 2) := by decide +kernel
theorem dL_act_146 : decode cL_act 146 = .ok (.goto 5, 3) := by decide +kernel
theorem dL_act_149 : decode cL_act 149 = .ok (.bipush 12, 2) := by decide +kernel
theorem dL_act_151 : decode cL_act 151 = .ok (.irem, 1) := by decide +kernel
theorem dL_act_152 : decode cL_act 152 = .ok (.iadd, 1) := by decide +kernel
theorem dL_act_153 : decode cL_act 153 = .ok (.invokestatic 170, 3) := by decide +kernel
theorem dL_act_156 : decode cL_act 156 = .ok (.pop, 1) := by decide +kernel
theorem dL_act_157 : decode cL_act 157 = .ok (.goto 155, 3) := by decide +kernel
theorem dL_act_160 : decode cL_act 160 = .ok (.aload_n 0, 1) := by decide +kernel
theorem dL_act_161 : decode cL_act 161 = .ok (.iload 5, 2) := by decide +kernel
theorem dL_act_163 : decode cL_act 163 = .ok (.invokestatic 173, 3) := by decide +kernel
theorem dL_act_166 : decode cL_act 166 = .ok (.pop, 1) := by decide +kernel
theorem dL_act_167 : decode cL_act 167 = .ok (.goto 145, 3) := by decide +kernel
theorem dL_act_170 : decode cL_act 170 = .ok (.aload_n 0, 1) := by decide +kernel
theorem dL_act_171 : decode cL_act 171 = .ok (.invokevirtual 176, 3) := by decide +kernel
theorem dL_act_174 : decode cL_act 174 = .ok (.pop, 1) := by decide +kernel
theorem dL_act_175 : decode cL_act 175 = .ok (.goto 137, 3) := by decide +kernel
theorem dL_act_178 : decode cL_act 178 = .ok (.aload_n 0, 1) := by decide +kernel
theorem dL_act_179 : decode cL_act 179 = .ok (.iload 5, 2) := by decide +kernel
theorem dL_act_181 : decode cL_act 181 = .ok (.iload 6, 2) := by decide +kernel
theorem dL_act_183 : decode cL_act 183 = .ok (.invokestatic 167, 3) := by decide +kernel
theorem dL_act_186 : decode cL_act 186 = .ok (.iload_n 3, 1) := by decide +kernel
theorem dL_act_187 : decode cL_act 187 = .ok (.bipush 8, 2) := by decide +kernel
theorem dL_act_189 : decode cL_act 189 = .ok (.idiv, 1) := by decide +kernel
theorem dL_act_190 : decode cL_act 190 = .ok (.iconst 2, 1) := by decide +kernel
theorem dL_act_191 : decode cL_act 191 = .ok (.irem, 1) := by decide +kernel
theorem dL_act_192 : decode cL_act 192 = .ok (.ifCond .ne 7, 3) := by decide +kernel
theorem dL_act_195 : decode cL_act 195 = .ok (.iconst 1, 1) := by decide +kernel
theorem dL_act_196 : decode cL_act 196 = .ok (.goto 4, 3) := by decide +kernel
theorem dL_act_199 : decode cL_act 199 = .ok (.iconst 0, 1) := by decide +kernel
theorem dL_act_200 : decode cL_act 200 = .ok (.invokestatic 179, 3) := by decide +kernel
theorem dL_act_203 : decode cL_act 203 = .ok (.pop, 1) := by decide +kernel
theorem dL_act_204 : decode cL_act 204 = .ok (.goto 108, 3) := by decide +kernel
theorem dL_act_207 : decode cL_act 207 = .ok (.aload_n 0, 1) := by decide +kernel
theorem dL_act_208 : decode cL_act 208 = .ok (.iload 5, 2) := by decide +kernel
theorem dL_act_210 : decode cL_act 210 = .ok (.invokestatic 182, 3) := by decide +kernel
theorem dL_act_213 : decode cL_act 213 = .ok (.pop, 1) := by decide +kernel
theorem dL_act_214 : decode cL_act 214 = .ok (.goto 98, 3) := by decide +kernel
theorem dL_act_217 : decode cL_act 217 = .ok (.aload_n 0, 1) := by decide +kernel
theorem dL_act_218 : decode cL_act 218 = .ok (.iload 5, 2) := by decide +kernel
theorem dL_act_220 : decode cL_act 220 = .ok (.iload 6, 2) := by decide +kernel
theorem dL_act_222 : decode cL_act 222 = .ok (.sipush 3001, 3) := by decide +kernel
theorem dL_act_225 : decode cL_act 225 = .ok (.irem, 1) := by decide +kernel
theorem dL_act_226 : decode cL_act 226 = .ok (.invokestatic 184, 3) := by decide +kernel
theorem dL_act_229 : decode cL_act 229 = .ok (.pop, 1) := by decide +kernel
theorem dL_act_230 : decode cL_act 230 = .ok (.goto 82, 3) := by decide +kernel
theorem dL_act_233 : decode cL_act 233 = .ok (.aload_n 0, 1) := by decide +kernel
theorem dL_act_234 : decode cL_act 234 = .ok (.iload 5, 2) := by decide +kernel
theorem dL_act_236 : decode cL_act 236 = .ok (.iconst 1, 1) := by decide +kernel
theorem dL_act_237 : decode cL_act 237 = .ok (.iload 6, 2) := by decide +kernel
