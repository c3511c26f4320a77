set_option maxRecDepth 20000 in
theorem ggX0_hasProof_X3_contains : GoodIn wsX0_hasProof wsX3_contains := goodIn_r _ [5] rfl (by decide +kernel)
set_option maxRecDepth 20000 in
theorem gX0_hasProof_X3_contains : GoodIn wsX0_hasProof (va_wsS RX0 119 yX3_contains wsX3_contains) := goodIn_app (goodIn_r _ [2, 3, 4] rfl (by decide +kernel)) ggX0_hasProof_X3_contains
set_option maxRecDepth 20000 in
theorem ggX0_holdsOn_X0_doneSet : GoodIn wsX0_holdsOn wsX0_doneSet := goodIn_r _ [6, 7, 8, 39, 40, 41, 42, 43, 44, 45, 46, 47, 48, 49, 50, 51, 52, 53, 54, 55, 56, 57, 58, 59, 60, 61, 62, 63, 64, 65, 66, 67, 68, 69, 70, 71, 72, 73, 74, 75] rfl (by decide +kernel)
set_option maxRecDepth 20000 in
theorem gX0_holdsOn_X0_doneSet : GoodIn wsX0_holdsOn (wsV RX0 123 RX0 yX0_doneSet wsX0_doneSet) := goodIn_app (goodIn_r _ [2, 3, 4, 5] rfl (by decide +kernel)) ggX0_holdsOn_X0_doneSet
set_option maxRecDepth 20000 in
theorem ggX0_holdsOn_X0_judged : GoodIn wsX0_holdsOn wsX0_judged := goodIn_r _ [12, 13, 7, 14, 15, 16, 17, 18, 19, 20, 5, 21, 22, 23, 24, 25, 26, 27, 28, 29, 30, 31, 32, 33, 34, 35, 36, 37, 38, 39, 40, 41, 42, 43, 44, 45, 46, 47, 48, 49, 50, 51, 52, 53, 54, 55, 56, 57, 58, 59, 60, 61, 62, 63, 64, 65, 66, 67, 68, 69, 70, 71, 72, 73, 74, 75] rfl (by decide +kernel)
set_option maxRecDepth 20000 in
theorem gX0_holdsOn_X0_judged : GoodIn wsX0_holdsOn (wsV RX0 127 RX0 yX0_judged wsX0_judged) := goodIn_app (goodIn_r _ [9, 10, 11, 5] rfl (by decide +kernel)) ggX0_holdsOn_X0_judged
set_option maxRecDepth 20000 in
theorem ggX0_holdsWithDone_X0_doneSet : GoodIn wsX0_holdsWithDone wsX0_doneSet := goodIn_r _ [7, 8, 9, 40, 41, 42, 43, 44, 45, 46, 47, 48, 49, 50, 51, 52, 53, 54, 55, 56, 57, 58, 59, 60, 61, 62, 63, 64, 65, 66, 67, 68, 69, 70, 71, 72, 73, 74, 75, 76] rfl (by decide +kernel)
set_option maxRecDepth 20000 in
theorem gX0_holdsWithDone_X0_doneSet : GoodIn wsX0_holdsWithDone (wsV RX0 123 RX0 yX0_doneSet wsX0_doneSet) := goodIn_app (goodIn_r _ [3, 4, 5, 6] rfl (by decide +kernel)) ggX0_holdsWithDone_X0_doneSet
set_option maxRecDepth 20000 in
theorem ggX0_holdsWithDone_X0_judged : GoodIn wsX0_holdsWithDone wsX0_judged := goodIn_r _ [13, 14, 8, 15, 16, 17, 18, 19, 20, 21, 6, 22, 23, 24, 25, 26, 27, 28, 29, 30, 31, 32, 33, 34, 35, 36, 37, 38, 39, 40, 41, 42, 43, 44, 45, 46, 47, 48, 49, 50, 51, 52, 53, 54, 55, 56, 57, 58, 59, 60, 61, 62, 63, 64, 65, 66, 67, 68, 69, 70, 71, 72, 73, 74, 75, 76] rfl (by decide +kernel)
set_option maxRecDepth 20000 in
theorem gX0_holdsWithDone_X0_judged : GoodIn wsX0_holdsWithDone (wsV RX0 127 RX0 yX0_judged wsX0_judged) := goodIn_app (goodIn_r _ [10, 11, 12, 6] rfl (by decide +kernel)) ggX0_holdsWithDone_X0_judged
set_option maxRecDepth 20000 in
theorem ggX0_holdsWithProofs_X0_doneSet : GoodIn wsX0_holdsWithProofs wsX0_doneSet := goodIn_r _ [7, 8, 9, 40, 41, 42, 43, 44, 45, 46, 47, 48, 49, 50, 51, 52, 53, 54, 55, 56, 57, 58, 59, 60, 61, 62, 63, 64, 65, 66, 67, 68, 69, 70, 71, 72, 73, 74, 75, 76] rfl (by decide +kernel)
set_option maxRecDepth 20000 in
theorem gX0_holdsWithProofs_X0_doneSet : GoodIn wsX0_holdsWithProofs (wsV RX0 123 RX0 yX0_doneSet wsX0_doneSet) := goodIn_app (goodIn_r _ [3, 4, 5, 6] rfl (by decide +kernel)) ggX0_holdsWithProofs_X0_doneSet
set_option maxRecDepth 20000 in
theorem ggX0_holdsWithProofs_X0_judged : GoodIn wsX0_holdsWithProofs wsX0_judged := goodIn_r _ [13, 14, 8, 15, 16, 17, 18, 19, 20, 21, 6, 22, 23, 24, 25, 26, 27, 28, 29, 30, 31, 32, 33, 34, 35, 36, 37, 38, 39, 40, 41, 42, 43, 44, 45, 46, 47, 48, 49, 50, 51, 52, 53, 54, 55, 56, 57, 58, 59, 60, 61, 62, 63, 64, 65, 66, 67, 68, 69, 70, 71, 72, 73, 74, 75, 76] rfl (by decide +kernel)
set_option maxRecDepth 20000 in
theorem gX0_holdsWithProofs_X0_judged : GoodIn wsX0_holdsWithProofs (wsV RX0 127 RX0 yX0_judged wsX0_judged) := goodIn_app (goodIn_r _ [10, 11, 12, 6] rfl (by decide +kernel)) ggX0_holdsWithProofs_X0_judged
set_option maxRecDepth 20000 in
theorem ggX0_isShort_X0_mustBePaid : GoodIn wsX0_isShort wsX0_mustBePaid := goodIn_r _ [6, 7, 8, 9, 10, 11, 5, 12, 13, 14, 24, 25, 26, 27, 28, 29, 30, 31, 32, 33, 34, 35, 36, 37, 38, 39, 40, 41, 42, 43] rfl (by decide +kernel)
set_option maxRecDepth 20000 in
theorem gX0_isShort_X0_mustBePaid : GoodIn wsX0_isShort (wsV RX0 141 RX0 yX0_mustBePaid wsX0_mustBePaid) := goodIn_app (goodIn_r _ [2, 3, 4, 5] rfl (by decide +kernel)) ggX0_isShort_X0_mustBePaid
set_option maxRecDepth 20000 in
theorem ggX0_isShort_X0_remainingOf : GoodIn wsX0_isShort wsX0_remainingOf := goodIn_r _ [18, 1, 19, 20, 21, 22, 5, 23, 7, 24, 25, 26, 27, 28, 29, 30, 31, 32, 33, 34, 35, 36, 37, 38, 39, 40, 41, 42, 43, 44, 45, 46, 47, 48, 49, 50, 51, 52, 53, 54, 55, 56, 57, 58, 59, 60] rfl (by decide +kernel)
set_option maxRecDepth 20000 in
theorem gX0_isShort_X0_remainingOf : GoodIn wsX0_isShort (wsV RX0 144 RX0 yX0_remainingOf wsX0_remainingOf) := goodIn_app (goodIn_r _ [15, 16, 17, 5] rfl (by decide +kernel)) ggX0_isShort_X0_remainingOf
set_option maxRecDepth 20000 in
theorem ggX0_judged_X0_payments : GoodIn wsX0_judged wsX0_payments := goodIn_r _ [11, 12, 13, 29, 30, 31, 32, 33, 34, 35, 36, 37, 38, 39, 40, 41, 42, 43, 44, 45, 46, 47, 48] rfl (by decide +kernel)
set_option maxRecDepth 20000 in
theorem gX0_judged_X0_payments : GoodIn wsX0_judged (wsV RX0 131 RX0 yX0_payments wsX0_payments) := goodIn_app (goodIn_r _ [7, 8, 9, 10] rfl (by decide +kernel)) ggX0_judged_X0_payments
set_option maxRecDepth 20000 in
theorem ggX0_judged_X3_conditionHolds : GoodIn wsX0_judged wsX3_conditionHolds := goodIn_r _ [17, 18, 19, 20, 21, 22, 23, 5, 24, 25, 26, 27, 28, 4, 6, 49, 50, 51, 52, 53, 54, 55, 56, 57, 58, 59, 60, 61, 62, 63, 64, 65] rfl (by decide +kernel)
set_option maxRecDepth 20000 in
theorem gX0_judged_X3_conditionHolds : GoodIn wsX0_judged (wsV RX0 134 RX3 yX3_conditionHolds wsX3_conditionHolds) := goodIn_app (goodIn_r _ [14, 15, 16, 5] rfl (by decide +kernel)) ggX0_judged_X3_conditionHolds
set_option maxRecDepth 20000 in
theorem ggX0_judged_X3_contains : GoodIn wsX0_judged wsX3_contains := goodIn_r _ [6] rfl (by decide +kernel)
set_option maxRecDepth 20000 in
theorem gX0_judged_X3_contains : GoodIn wsX0_judged (va_wsS RX0 119 yX3_contains wsX3_contains) := goodIn_app (goodIn_r _ [3, 4, 5] rfl (by decide +kernel)) ggX0_judged_X3_contains
set_option maxRecDepth 20000 in
theorem ggX0_makeDue_X0_judged : GoodIn wsX0_makeDue wsX0_judged := goodIn_r _ [14, 15, 1, 16, 17, 18, 19, 20, 21, 22, 9, 23, 24, 25, 26, 27, 28, 29, 30, 31, 32, 33, 34, 35, 36, 37, 38, 39, 40, 41, 42, 43, 44, 45, 46, 47, 48, 49, 50, 51, 52, 53, 54, 55, 56, 57, 58, 59, 60, 61, 62, 63, 64, 65, 66, 67, 68, 69, 70, 71, 72, 73, 74, 75, 76, 77] rfl (by decide +kernel)
set_option maxRecDepth 20000 in
theorem gX0_makeDue_X0_judged : GoodIn wsX0_makeDue (wsV RX0 127 RX0 yX0_judged wsX0_judged) := goodIn_app (goodIn_r _ [11, 12, 13, 9] rfl (by decide +kernel)) ggX0_makeDue_X0_judged
set_option maxRecDepth 20000 in
theorem ggX0_makePayment_X0_isClosed : GoodIn wsX0_makePayment wsX0_isClosed := goodIn_r _ [31, 8, 36, 37, 38, 39, 40, 41, 42, 43, 44, 45, 46, 47, 48, 49, 50, 51, 52, 53, 54, 55] rfl (by decide +kernel)
set_option maxRecDepth 20000 in
theorem gX0_makePayment_X0_isClosed : GoodIn wsX0_makePayment (wsV RX0 112 RX0 yX0_isClosed wsX0_isClosed) := goodIn_app (goodIn_r _ [27, 28, 29, 30] rfl (by decide +kernel)) ggX0_makePayment_X0_isClosed
set_option maxRecDepth 20000 in
theorem ggX0_makePayment_X0_remainingOf : GoodIn wsX0_makePayment wsX0_remainingOf := goodIn_r _ [35, 1, 3, 27, 28, 29, 30, 31, 8, 36, 37, 38, 39, 40, 41, 42, 43, 44, 45, 46, 47, 48, 49, 50, 51, 52, 53, 54, 55, 56, 57, 58, 59, 60, 61, 62, 63, 64, 65, 66, 67, 68, 69, 70, 71, 72] rfl (by decide +kernel)
set_option maxRecDepth 20000 in
theorem gX0_makePayment_X0_remainingOf : GoodIn wsX0_makePayment (wsV RX0 144 RX0 yX0_remainingOf wsX0_remainingOf) := goodIn_app (goodIn_r _ [32, 33, 34, 30] rfl (by decide +kernel)) ggX0_makePayment_X0_remainingOf
set_option maxRecDepth 20000 in
theorem ggX0_makePayment_X2_enter : GoodIn wsX0_makePayment wsX2_enter := goodIn_r _ [19, 20, 21, 22, 23, 24, 25, 26, 73, 74, 75] rfl (by decide +kernel)
set_option maxRecDepth 20000 in
theorem gX0_makePayment_X2_enter : GoodIn wsX0_makePayment (wsV RX0 151 RX2 yX2_enter wsX2_enter) := goodIn_app (goodIn_r _ [15, 16, 17, 18] rfl (by decide +kernel)) ggX0_makePayment_X2_enter
set_option maxRecDepth 20000 in
theorem ggX0_makePayment_X3_feeOf : GoodIn wsX0_makePayment wsX3_feeOf := goodIn_r _ [13, 14, 56, 57, 58, 59, 60, 61, 62, 63, 64, 65, 66, 67, 68, 69, 70, 71, 72] rfl (by decide +kernel)
set_option maxRecDepth 20000 in
theorem gX0_makePayment_X3_feeOf : GoodIn wsX0_makePayment (wsV RX0 155 RX3 yX3_feeOf wsX3_feeOf) := goodIn_app (goodIn_r _ [9, 10, 11, 12] rfl (by decide +kernel)) ggX0_makePayment_X3_feeOf
set_option maxRecDepth 20000 in
theorem ggX0_moneyToSplit_X0_availableMoney : GoodIn wsX0_moneyToSplit wsX0_availableMoney := goodIn_r _ [21, 22, 11, 1, 23, 24, 25, 26, 27, 28, 29, 30, 31, 32, 33, 34, 35, 36, 37, 38, 39, 40, 41, 42, 43, 44, 45, 46, 47, 48, 49, 50, 51, 52, 53, 54, 55, 56, 57, 58, 59] rfl (by decide +kernel)
set_option maxRecDepth 20000 in
theorem gX0_moneyToSplit_X0_availableMoney : GoodIn wsX0_moneyToSplit (wsV RX0 158 RX0 yX0_availableMoney wsX0_availableMoney) := goodIn_app (goodIn_r _ [18, 19, 20, 9] rfl (by decide +kernel)) ggX0_moneyToSplit_X0_availableMoney
set_option maxRecDepth 20000 in
theorem ggX0_moneyToSplit_X0_remainingOf : GoodIn wsX0_moneyToSplit wsX0_remainingOf := goodIn_r _ [10, 11, 12, 13, 14, 15, 9, 16, 17, 23, 24, 25, 26, 27, 28, 29, 30, 31, 32, 33, 34, 35, 36, 37, 38, 39, 40, 41, 42, 43, 44, 45, 46, 47, 48, 49, 50, 51, 52, 53, 54, 55, 56, 57, 58, 59] rfl (by decide +kernel)
set_option maxRecDepth 20000 in
theorem gX0_moneyToSplit_X0_remainingOf : GoodIn wsX0_moneyToSplit (wsV RX0 144 RX0 yX0_remainingOf wsX0_remainingOf) := goodIn_app (goodIn_r _ [6, 7, 8, 9] rfl (by decide +kernel)) ggX0_moneyToSplit_X0_remainingOf
set_option maxRecDepth 20000 in
theorem ggX0_mustBePaid_X0_payDay : GoodIn wsX0_mustBePaid wsX0_payDay := goodIn_r _ [7, 8, 9, 10, 11, 12, 13, 14, 15, 16, 17, 18, 19, 20, 21, 22, 23, 24, 25, 26, 27, 28, 29] rfl (by decide +kernel)
set_option maxRecDepth 20000 in
theorem gX0_mustBePaid_X0_payDay : GoodIn wsX0_mustBePaid (wsV RX0 148 RX0 yX0_payDay wsX0_payDay) := goodIn_app (goodIn_r _ [3, 4, 5, 6] rfl (by decide +kernel)) ggX0_mustBePaid_X0_payDay
set_option maxRecDepth 20000 in
theorem ggX0_payDue_X0_availableMoney : GoodIn wsX0_payDue wsX0_availableMoney := goodIn_r _ [20, 21, 1, 22, 56, 57, 58, 59, 60, 61, 62, 63, 64, 65, 66, 67, 68, 69, 70, 71, 72, 73, 74, 75, 76, 77, 78, 79, 80, 81, 82, 83, 84, 85, 86, 87, 88, 89, 90, 91, 92] rfl (by decide +kernel)
set_option maxRecDepth 20000 in
theorem gX0_payDue_X0_availableMoney : GoodIn wsX0_payDue (wsV RX0 158 RX0 yX0_availableMoney wsX0_availableMoney) := goodIn_app (goodIn_r _ [17, 18, 19, 9] rfl (by decide +kernel)) ggX0_payDue_X0_availableMoney
set_option maxRecDepth 20000 in
theorem ggX0_payDue_X0_makePayment : GoodIn wsX0_payDue wsX0_makePayment := goodIn_r _ [37, 1, 21, 11, 38, 39, 40, 27, 16, 41, 42, 43, 44, 45, 46, 47, 48, 49, 50, 51, 52, 53, 54, 55, 3, 4, 5, 12, 13, 14, 9, 15, 6, 7, 8, 10, 56, 57, 58, 59, 60, 61, 62, 63, 64, 65, 66, 67, 68, 69, 70, 71, 72, 73, 74, 75, 76, 77, 78, 79, 80, 81, 82, 83, 84, 85, 86, 87, 88, 89, 90, 91, 92, 93, 94, 95] rfl (by decide +kernel)
set_option maxRecDepth 20000 in
theorem gX0_payDue_X0_makePayment : GoodIn wsX0_payDue (wsV RX0 177 RX0 yX0_makePayment wsX0_makePayment) := goodIn_app (goodIn_r _ [34, 35, 36, 9] rfl (by decide +kernel)) ggX0_payDue_X0_makePayment
set_option maxRecDepth 20000 in
theorem ggX0_payDue_X0_mustBePaid : GoodIn wsX0_payDue wsX0_mustBePaid := goodIn_r _ [26, 16, 27, 28, 29, 30, 9, 31, 32, 33, 56, 57, 58, 59, 60, 61, 62, 63, 64, 65, 66, 67, 68, 69, 70, 71, 72, 73, 74, 75] rfl (by decide +kernel)
set_option maxRecDepth 20000 in
theorem gX0_payDue_X0_mustBePaid : GoodIn wsX0_payDue (wsV RX0 141 RX0 yX0_mustBePaid wsX0_mustBePaid) := goodIn_app (goodIn_r _ [23, 24, 25, 9] rfl (by decide +kernel)) ggX0_payDue_X0_mustBePaid
set_option maxRecDepth 20000 in
theorem ggX0_payDue_X0_remainingOf : GoodIn wsX0_payDue wsX0_remainingOf := goodIn_r _ [10, 1, 11, 12, 13, 14, 9, 15, 16, 56, 57, 58, 59, 60, 61, 62, 63, 64, 65, 66, 67, 68, 69, 70, 71, 72, 73, 74, 75, 76, 77, 78, 79, 80, 81, 82, 83, 84, 85, 86, 87, 88, 89, 90, 91, 92] rfl (by decide +kernel)
set_option maxRecDepth 20000 in
theorem gX0_payDue_X0_remainingOf : GoodIn wsX0_payDue (wsV RX0 144 RX0 yX0_remainingOf wsX0_remainingOf) := goodIn_app (goodIn_r _ [6, 7, 8, 9] rfl (by decide +kernel)) ggX0_payDue_X0_remainingOf
set_option maxRecDepth 20000 in
theorem ggX0_remainingOf_X0_isClosed : GoodIn wsX0_remainingOf wsX0_isClosed := goodIn_r _ [7, 8, 9, 10, 11, 12, 13, 14, 15, 16, 17, 18, 19, 20, 21, 22, 23, 24, 25, 26, 27, 28] rfl (by decide +kernel)
set_option maxRecDepth 20000 in
theorem gX0_remainingOf_X0_isClosed : GoodIn wsX0_remainingOf (wsV RX0 112 RX0 yX0_isClosed wsX0_isClosed) := goodIn_app (goodIn_r _ [3, 4, 5, 6] rfl (by decide +kernel)) ggX0_remainingOf_X0_isClosed
set_option maxRecDepth 20000 in
theorem ggX2_dayOfMostPayments_X2_partOfEntry : GoodIn wsX2_dayOfMostPayments wsX2_partOfEntry := goodIn_r _ [6, 7, 1, 8, 9, 10, 11] rfl (by decide +kernel)
set_option maxRecDepth 20000 in
theorem gX2_dayOfMostPayments_X2_partOfEntry : GoodIn wsX2_dayOfMostPayments (wsV RX2 34 RX2 yX2_partOfEntry wsX2_partOfEntry) := goodIn_app (goodIn_r _ [2, 3, 4, 5] rfl (by decide +kernel)) ggX2_dayOfMostPayments_X2_partOfEntry
set_option maxRecDepth 20000 in
theorem ggX2_sumOn_X2_partOfEntry : GoodIn wsX2_sumOn wsX2_partOfEntry := goodIn_r _ [6, 7, 1, 8, 9, 10, 11] rfl (by decide +kernel)
set_option maxRecDepth 20000 in
theorem gX2_sumOn_X2_partOfEntry : GoodIn wsX2_sumOn (wsV RX2 34 RX2 yX2_partOfEntry wsX2_partOfEntry) := goodIn_app (goodIn_r _ [2, 3, 4, 5] rfl (by decide +kernel)) ggX2_sumOn_X2_partOfEntry
set_option maxRecDepth 20000 in
theorem ggX3_conditionHolds_X3_contains : GoodIn wsX3_conditionHolds wsX3_contains := goodIn_r _ [14] rfl (by decide +kernel)
set_option maxRecDepth 20000 in
theorem gX3_conditionHolds_X3_contains : GoodIn wsX3_conditionHolds (va_wsS RX3 82 yX3_contains wsX3_contains) := goodIn_app (goodIn_r _ [12, 13, 7] rfl (by decide +kernel)) ggX3_conditionHolds_X3_contains
set_option maxRecDepth 20000 in
theorem ggX3_conditionHolds_X3_firstStep : GoodIn wsX3_conditionHolds wsX3_firstStep := goodIn_r _ [8, 1, 15, 16, 17, 18, 19, 20, 21, 22, 23, 24, 25, 26, 27, 28, 29, 30, 31] rfl (by decide +kernel)
set_option maxRecDepth 20000 in
theorem gX3_conditionHolds_X3_firstStep : GoodIn wsX3_conditionHolds (wsV RX3 72 RX3 yX3_firstStep wsX3_firstStep) := goodIn_app (goodIn_r _ [4, 5, 6, 7] rfl (by decide +kernel)) ggX3_conditionHolds_X3_firstStep
set_option maxRecDepth 20000 in
theorem ggX3_conditionHolds_X3_withAnswer : GoodIn wsX3_conditionHolds wsX3_withAnswer := goodIn_r _ [11] rfl (by decide +kernel)
set_option maxRecDepth 20000 in
theorem gX3_conditionHolds_X3_withAnswer : GoodIn wsX3_conditionHolds (va_wsS RX3 78 yX3_withAnswer wsX3_withAnswer) := goodIn_app (goodIn_r _ [9, 10, 7] rfl (by decide +kernel)) ggX3_conditionHolds_X3_withAnswer
set_option maxRecDepth 20000 in
theorem ggX3_nextNamedDay_X3_firstStep : GoodIn wsX3_nextNamedDay wsX3_firstStep := goodIn_r _ [8, 1, 9, 10, 11, 12, 13, 14, 15, 16, 17, 18, 19, 20, 21, 22, 23, 24, 25] rfl (by decide +kernel)
set_option maxRecDepth 20000 in
theorem gX3_nextNamedDay_X3_firstStep : GoodIn wsX3_nextNamedDay (wsV RX3 72 RX3 yX3_firstStep wsX3_firstStep) := goodIn_app (goodIn_r _ [4, 5, 6, 7] rfl (by decide +kernel)) ggX3_nextNamedDay_X3_firstStep
set_option maxRecDepth 20000 in
theorem ggX9_closedCount_X0_isClosed : GoodIn wsX9_closedCount wsX0_isClosed := goodIn_r _ [7, 8, 35, 36, 37, 38, 39, 40, 41, 42, 43, 44, 45, 46, 47, 48, 49, 50, 51, 52, 53, 54] rfl (by decide +kernel)
set_option maxRecDepth 20000 in
theorem gX9_closedCount_X0_isClosed : GoodIn wsX9_closedCount (wsV RX9 161 RX0 yX0_isClosed wsX0_isClosed) := goodIn_app (goodIn_r _ [3, 4, 5, 6] rfl (by decide +kernel)) ggX9_closedCount_X0_isClosed
set_option maxRecDepth 20000 in
theorem ggX9_holds_X0_holdsOn : GoodIn wsX9_holds wsX0_holdsOn := goodIn_r _ [17, 18, 19, 20, 21, 16, 22, 23, 24, 25, 26, 27, 28, 29, 30, 31, 32, 33, 34, 35, 36, 37, 38, 39, 40, 41, 42, 43, 44, 45, 46, 47, 48, 49, 50, 51, 52, 53, 54, 64, 65, 66, 67, 68, 69, 70, 71, 72, 73, 74, 75, 76, 77, 78, 79, 80, 81, 82, 83, 84, 85, 86, 87, 88, 89, 90, 91, 92, 93, 94, 95, 96, 97, 98, 99, 100] rfl (by decide +kernel)
set_option maxRecDepth 20000 in
theorem gX9_holds_X0_holdsOn : GoodIn wsX9_holds (wsV RX9 139 RX0 yX0_holdsOn wsX0_holdsOn) := goodIn_app (goodIn_r _ [13, 14, 15, 16] rfl (by decide +kernel)) ggX9_holds_X0_holdsOn
set_option maxRecDepth 20000 in
theorem ggX9_needDispute_X9_needPossible : GoodIn wsX9_needDispute wsX9_needPossible := goodIn_ca (goodIn_r _ [5, 6, 7] rfl (by decide +kernel)) (goodIn_sub (fun _ h => List.mem_cons_of_mem _ (List.mem_append_right _ h)) (by decide +kernel))
set_option maxRecDepth 20000 in
theorem gX9_needDispute_X9_needPossible : GoodIn wsX9_needDispute (va_wsS RX9 251 yX9_needPossible wsX9_needPossible) := goodIn_app (goodIn_r _ [2, 3, 4] rfl (by decide +kernel)) ggX9_needDispute_X9_needPossible
set_option maxRecDepth 20000 in
theorem ggX9_remaining_X0_remainingOf : GoodIn wsX9_remaining wsX0_remainingOf := goodIn_r _ [17, 18, 19, 20, 21, 22, 16, 23, 24, 51, 52, 53, 54, 55, 56, 57, 58, 59, 60, 61, 62, 63, 64, 65, 66, 67, 68, 69, 70, 34, 35, 36, 37, 38, 39, 40, 41, 42, 43, 44, 45, 46, 47, 48, 49, 50] rfl (by decide +kernel)
set_option maxRecDepth 20000 in
theorem gX9_remaining_X0_remainingOf : GoodIn wsX9_remaining (wsV RX9 129 RX0 yX0_remainingOf wsX0_remainingOf) := goodIn_app (goodIn_r _ [13, 14, 15, 16] rfl (by decide +kernel)) ggX9_remaining_X0_remainingOf
theorem dX0_hasProof_0 : decode cX0_hasProof 0 = .ok (.aload_n 0, 1) := by decide +kernel
theorem dX0_hasProof_1 : decode cX0_hasProof 1 = .ok (.getfield 83, 3) := by decide +kernel
theorem dX0_hasProof_4 : decode cX0_hasProof 4 = .ok (.iload_n 1, 1) := by decide +kernel
theorem dX0_hasProof_5 : decode cX0_hasProof 5 = .ok (.invokestatic 119, 3) := by decide +kernel
theorem dX0_hasProof_8 : decode cX0_hasProof 8 = .ok (.ireturn, 1) := by decide +kernel
theorem dX0_holdsOn_0 : decode cX0_holdsOn 0 = .ok (.aload_n 0, 1) := by decide +kernel
theorem dX0_holdsOn_1 : decode cX0_holdsOn 1 = .ok (.iload_n 1, 1) := by decide +kernel
theorem dX0_holdsOn_2 : decode cX0_holdsOn 2 = .ok (.iload_n 2, 1) := by decide +kernel
theorem dX0_holdsOn_3 : decode cX0_holdsOn 3 = .ok (.aload_n 0, 1) := by decide +kernel
theorem dX0_holdsOn_4 : decode cX0_holdsOn 4 = .ok (.getfield 83, 3) := by decide +kernel
theorem dX0_holdsOn_7 : decode cX0_holdsOn 7 = .ok (.aload_n 0, 1) := by decide +kernel
theorem dX0_holdsOn_8 : decode cX0_holdsOn 8 = .ok (.invokevirtual 123, 3) := by decide +kernel
theorem dX0_holdsOn_11 : decode cX0_holdsOn 11 = .ok (.invokevirtual 127, 3) := by decide +kernel
theorem dX0_holdsOn_14 : decode cX0_holdsOn 14 = .ok (.ireturn, 1) := by decide +kernel
theorem dX0_holdsWithDone_0 : decode cX0_holdsWithDone 0 = .ok (.aload_n 0, 1) := by decide +kernel
theorem dX0_holdsWithDone_1 : decode cX0_holdsWithDone 1 = .ok (.iload_n 1, 1) := by decide +kernel
theorem dX0_holdsWithDone_2 : decode cX0_holdsWithDone 2 = .ok (.aload_n 0, 1) := by decide +kernel
theorem dX0_holdsWithDone_3 : decode cX0_holdsWithDone 3 = .ok (.getfield 40, 3) := by decide +kernel
theorem dX0_holdsWithDone_6 : decode cX0_holdsWithDone 6 = .ok (.aload_n 0, 1) := by decide +kernel
theorem dX0_holdsWithDone_7 : decode cX0_holdsWithDone 7 = .ok (.getfield 83, 3) := by decide +kernel
theorem dX0_holdsWithDone_10 : decode cX0_holdsWithDone 10 = .ok (.aload_n 0, 1) := by decide +kernel
theorem dX0_holdsWithDone_11 : decode cX0_holdsWithDone 11 = .ok (.invokevirtual 123, 3) := by decide +kernel
theorem dX0_holdsWithDone_14 : decode cX0_holdsWithDone 14 = .ok (.iload_n 2, 1) := by decide +kernel
theorem dX0_holdsWithDone_15 : decode cX0_holdsWithDone 15 = .ok (.ior, 1) := by decide +kernel
theorem dX0_holdsWithDone_16 : decode cX0_holdsWithDone 16 = .ok (.invokevirtual 127, 3) := by decide +kernel
theorem dX0_holdsWithDone_19 : decode cX0_holdsWithDone 19 = .ok (.ireturn, 1) := by decide +kernel
theorem dX0_holdsWithProofs_0 : decode cX0_holdsWithProofs 0 = .ok (.aload_n 0, 1) := by decide +kernel
theorem dX0_holdsWithProofs_1 : decode cX0_holdsWithProofs 1 = .ok (.iload_n 1, 1) := by decide +kernel
theorem dX0_holdsWithProofs_2 : decode cX0_holdsWithProofs 2 = .ok (.aload_n 0, 1) := by decide +kernel
theorem dX0_holdsWithProofs_3 : decode cX0_holdsWithProofs 3 = .ok (.getfield 40, 3) := by decide +kernel
theorem dX0_holdsWithProofs_6 : decode cX0_holdsWithProofs 6 = .ok (.aload_n 0, 1) := by decide +kernel
theorem dX0_holdsWithProofs_7 : decode cX0_holdsWithProofs 7 = .ok (.getfield 83, 3) := by decide +kernel
theorem dX0_holdsWithProofs_10 : decode cX0_holdsWithProofs 10 = .ok (.iload_n 2, 1) := by decide +kernel
theorem dX0_holdsWithProofs_11 : decode cX0_holdsWithProofs 11 = .ok (.ior, 1) := by decide +kernel
theorem dX0_holdsWithProofs_12 : decode cX0_holdsWithProofs 12 = .ok (.aload_n 0, 1) := by decide +kernel
theorem dX0_holdsWithProofs_13 : decode cX0_holdsWithProofs 13 = .ok (.invokevirtual 123, 3) := by decide +kernel
theorem dX0_holdsWithProofs_16 : decode cX0_holdsWithProofs 16 = .ok (.invokevirtual 127, 3) := by decide +kernel
theorem dX0_holdsWithProofs_19 : decode cX0_holdsWithProofs 19 = .ok (.ireturn, 1) := by decide +kernel
theorem dX0_isClosed_0 : decode cX0_isClosed 0 = .ok (.aload_n 0, 1) := by decide +kernel
theorem dX0_isClosed_1 : decode cX0_isClosed 1 = .ok (.getfield 18, 3) := by decide +kernel
theorem dX0_isClosed_4 : decode cX0_isClosed 4 = .ok (.iload_n 1, 1) := by decide +kernel
theorem dX0_isClosed_5 : decode cX0_isClosed 5 = .ok (.iaload, 1) := by decide +kernel
theorem dX0_isClosed_6 : decode cX0_isClosed 6 = .ok (.iconst 3, 1) := by decide +kernel
theorem dX0_isClosed_7 : decode cX0_isClosed 7 = .ok (.if_icmp .lt 7, 3) := by decide +kernel
theorem dX0_isClosed_10 : decode cX0_isClosed 10 = .ok (.iconst 1, 1) := by decide +kernel
theorem dX0_isClosed_11 : decode cX0_isClosed 11 = .ok (.goto 4, 3) := by decide +kernel
theorem dX0_isClosed_14 : decode cX0_isClosed 14 = .ok (.iconst 0, 1) := by decide +kernel
theorem dX0_isClosed_15 : decode cX0_isClosed 15 = .ok (.ireturn, 1) := by decide +kernel
theorem dX0_judged_0 : decode cX0_judged 0 = .ok (.aload_n 0, 1) := by decide +kernel
theorem dX0_judged_1 : decode cX0_judged 1 = .ok (.getfield 86, 3) := by decide +kernel
theorem dX0_judged_4 : decode cX0_judged 4 = .ok (.iload_n 1, 1) := by decide +kernel
theorem dX0_judged_5 : decode cX0_judged 5 = .ok (.invokestatic 119, 3) := by decide +kernel
theorem dX0_judged_8 : decode cX0_judged 8 = .ok (.istore 5, 2) := by decide +kernel
theorem dX0_judged_10 : decode cX0_judged 10 = .ok (.aload_n 0, 1) := by decide +kernel
theorem dX0_judged_11 : decode cX0_judged 11 = .ok (.getfield 31, 3) := by decide +kernel
theorem dX0_judged_14 : decode cX0_judged 14 = .ok (.iload_n 1, 1) := by decide +kernel
theorem dX0_judged_15 : decode cX0_judged 15 = .ok (.iload_n 2, 1) := by decide +kernel
theorem dX0_judged_16 : decode cX0_judged 16 = .ok (.iload_n 3, 1) := by decide +kernel
theorem dX0_judged_17 : decode cX0_judged 17 = .ok (.iload 4, 2) := by decide +kernel
theorem dX0_judged_19 : decode cX0_judged 19 = .ok (.aload_n 0, 1) := by decide +kernel
theorem dX0_judged_20 : decode cX0_judged 20 = .ok (.invokevirtual 131, 3) := by decide +kernel
theorem dX0_judged_23 : decode cX0_judged 23 = .ok (.iload 5, 2) := by decide +kernel
theorem dX0_judged_25 : decode cX0_judged 25 = .ok (.invokevirtual 134, 3) := by decide +kernel
theorem dX0_judged_28 : decode cX0_judged 28 = .ok (.ireturn, 1) := by decide +kernel
theorem dX0_makePayment_0 : decode cX0_makePayment 0 = .ok (.aload_n 0, 1) := by decide +kernel
theorem dX0_makePayment_1 : decode cX0_makePayment 1 = .ok (.getfield 31, 3) := by decide +kernel
theorem dX0_makePayment_4 : decode cX0_makePayment 4 = .ok (.iload_n 2, 1) := by decide +kernel
theorem dX0_makePayment_5 : decode cX0_makePayment 5 = .ok (.invokevirtual 155, 3) := by decide +kernel
theorem dX0_makePayment_8 : decode cX0_makePayment 8 = .ok (.istore_n 3, 1) := by decide +kernel
theorem dX0_makePayment_9 : decode cX0_makePayment 9 = .ok (.aload_n 0, 1) := by decide +kernel
theorem dX0_makePayment_10 : decode cX0_makePayment 10 = .ok (.dup, 1) := by decide +kernel
theorem dX0_makePayment_11 : decode cX0_makePayment 11 = .ok (.getfield 47, 3) := by decide +kernel
theorem dX0_makePayment_14 : decode cX0_makePayment 14 = .ok (.iload_n 2, 1) := by decide +kernel
theorem dX0_makePayment_15 : decode cX0_makePayment 15 = .ok (.isub, 1) := by decide +kernel
theorem dX0_makePayment_16 : decode cX0_makePayment 16 = .ok (.putfield 47, 3) := by decide +kernel
theorem dX0_makePayment_19 : decode cX0_makePayment 19 = .ok (.aload_n 0, 1) := by decide +kernel
theorem dX0_makePayment_20 : decode cX0_makePayment 20 = .ok (.getfield 22, 3) := by decide +kernel
theorem dX0_makePayment_23 : decode cX0_makePayment 23 = .ok (.iload_n 1, 1) := by decide +kernel
theorem dX0_makePayment_24 : decode cX0_makePayment 24 = .ok (.dup2, 1) := by decide +kernel
theorem dX0_makePayment_25 : decode cX0_makePayment 25 = .ok (.iaload, 1) := by decide +kernel
theorem dX0_makePayment_26 : decode cX0_makePayment 26 = .ok (.iload_n 2, 1) := by decide +kernel
theorem dX0_makePayment_27 : decode cX0_makePayment 27 = .ok (.iadd, 1) := by decide +kernel
theorem dX0_makePayment_28 : decode cX0_makePayment 28 = .ok (.iastore, 1) := by decide +kernel
theorem dX0_makePayment_29 : decode cX0_makePayment 29 = .ok (.aload_n 0, 1) := by decide +kernel
theorem dX0_makePayment_30 : decode cX0_makePayment 30 = .ok (.dup, 1) := by decide +kernel
theorem dX0_makePayment_31 : decode cX0_makePayment 31 = .ok (.getfield 63, 3) := by decide +kernel
theorem dX0_makePayment_34 : decode cX0_makePayment 34 = .ok (.iload_n 3, 1) := by decide +kernel
theorem dX0_makePayment_35 : decode cX0_makePayment 35 = .ok (.iadd, 1) := by decide +kernel
theorem dX0_makePayment_36 : decode cX0_makePayment 36 = .ok (.putfield 63, 3) := by decide +kernel
theorem dX0_makePayment_39 : decode cX0_makePayment 39 = .ok (.aload_n 0, 1) := by decide +kernel
theorem dX0_makePayment_40 : decode cX0_makePayment 40 = .ok (.dup, 1) := by decide +kernel
theorem dX0_makePayment_41 : decode cX0_makePayment 41 = .ok (.getfield 60, 3) := by decide +kernel
theorem dX0_makePayment_44 : decode cX0_makePayment 44 = .ok (.iload_n 2, 1) := by decide +kernel
theorem dX0_makePayment_45 : decode cX0_makePayment 45 = .ok (.iload_n 3, 1) := by decide +kernel
theorem dX0_makePayment_46 : decode cX0_makePayment 46 = .ok (.isub, 1) := by decide +kernel
theorem dX0_makePayment_47 : decode cX0_makePayment 47 = .ok (.iadd, 1) := by decide +kernel
theorem dX0_makePayment_48 : decode cX0_makePayment 48 = .ok (.putfield 60, 3) := by decide +kernel
theorem dX0_makePayment_51 : decode cX0_makePayment 51 = .ok (.aload_n 0, 1) := by decide +kernel
theorem dX0_makePayment_52 : decode cX0_makePayment 52 = .ok (.getfield 12, 3) := by decide +kernel
theorem dX0_makePayment_55 : decode cX0_makePayment 55 = .ok (.iconst 1, 1) := by decide +kernel
theorem dX0_makePayment_56 : decode cX0_makePayment 56 = .ok (.aload_n 0, 1) := by decide +kernel
theorem dX0_makePayment_57 : decode cX0_makePayment 57 = .ok (.getfield 40, 3) := by decide +kernel
theorem dX0_makePayment_60 : decode cX0_makePayment 60 = .ok (.iload_n 2, 1) := by decide +kernel
theorem dX0_makePayment_61 : decode cX0_makePayment 61 = .ok (.iload_n 1, 1) := by decide +kernel
theorem dX0_makePayment_62 : decode cX0_makePayment 62 = .ok (.invokevirtual 151, 3) := by decide +kernel
theorem dX0_makePayment_65 : decode cX0_makePayment 65 = .ok (.aload_n 0, 1) := by decide +kernel
theorem dX0_makePayment_66 : decode cX0_makePayment 66 = .ok (.iload_n 1, 1) := by decide +kernel
theorem dX0_makePayment_67 : decode cX0_makePayment 67 = .ok (.invokevirtual 112, 3) := by decide +kernel
theorem dX0_makePayment_70 : decode cX0_makePayment 70 = .ok (.ifCond .ne 18, 3) := by decide +kernel
theorem dX0_makePayment_73 : decode cX0_makePayment 73 = .ok (.aload_n 0, 1) := by decide +kernel
theorem dX0_makePayment_74 : decode cX0_makePayment 74 = .ok (.iload_n 1, 1) := by decide +kernel
theorem dX0_makePayment_75 : decode cX0_makePayment 75 = .ok (.invokevirtual 144, 3) := by decide +kernel
theorem dX0_makePayment_78 : decode cX0_makePayment 78 = .ok (.ifCond .ne 10, 3) := by decide +kernel
theorem dX0_makePayment_81 : decode cX0_makePayment 81 = .ok (.aload_n 0, 1) := by decide +kernel
theorem dX0_makePayment_82 : decode cX0_makePayment 82 = .ok (.getfield 18, 3) := by decide +kernel
theorem dX0_makePayment_85 : decode cX0_makePayment 85 = .ok (.iload_n 1, 1) := by decide +kernel
theorem dX0_makePayment_86 : decode cX0_makePayment 86 = .ok (.iconst 3, 1) := by decide +kernel
theorem dX0_makePayment_87 : decode cX0_makePayment 87 = .ok (.iastore, 1) := by decide +kernel
theorem dX0_makePayment_88 : decode cX0_makePayment 88 = .ok (.iload_n 3, 1) := by decide +kernel
theorem dX0_makePayment_89 : decode cX0_makePayment 89 = .ok (.ireturn, 1) := by decide +kernel
theorem dX0_moneyToSplit_0 : decode cX0_moneyToSplit 0 = .ok (.aload_n 0, 1) := by decide +kernel
theorem dX0_moneyToSplit_1 : decode cX0_moneyToSplit 1 = .ok (.iload_n 1, 1) := by decide +kernel
theorem dX0_moneyToSplit_2 : decode cX0_moneyToSplit 2 = .ok (.invokevirtual 144, 3) := by decide +kernel
theorem dX0_moneyToSplit_5 : decode cX0_moneyToSplit 5 = .ok (.aload_n 0, 1) := by decide +kernel
theorem dX0_moneyToSplit_6 : decode cX0_moneyToSplit 6 = .ok (.invokevirtual 158, 3) := by decide +kernel
theorem dX0_moneyToSplit_9 : decode cX0_moneyToSplit 9 = .ok (.aload_n 0, 1) := by decide +kernel
theorem dX0_moneyToSplit_10 : decode cX0_moneyToSplit 10 = .ok (.getfield 25, 3) := by decide +kernel
theorem dX0_moneyToSplit_13 : decode cX0_moneyToSplit 13 = .ok (.iload_n 1, 1) := by decide +kernel
theorem dX0_moneyToSplit_14 : decode cX0_moneyToSplit 14 = .ok (.iaload, 1) := by decide +kernel
theorem dX0_moneyToSplit_15 : decode cX0_moneyToSplit 15 = .ok (.iadd, 1) := by decide +kernel
theorem dX0_moneyToSplit_16 : decode cX0_moneyToSplit 16 = .ok (.invokestatic 161, 3) := by decide +kernel
theorem dX0_moneyToSplit_19 : decode cX0_moneyToSplit 19 = .ok (.ireturn, 1) := by decide +kernel
theorem dX0_mustBePaid_0 : decode cX0_mustBePaid 0 = .ok (.aload_n 0, 1) := by decide +kernel
theorem dX0_mustBePaid_1 : decode cX0_mustBePaid 1 = .ok (.getfield 18, 3) := by decide +kernel
theorem dX0_mustBePaid_4 : decode cX0_mustBePaid 4 = .ok (.iload_n 1, 1) := by decide +kernel
theorem dX0_mustBePaid_5 : decode cX0_mustBePaid 5 = .ok (.iaload, 1) := by decide +kernel
theorem dX0_mustBePaid_6 : decode cX0_mustBePaid 6 = .ok (.iconst 1, 1) := by decide +kernel
theorem dX0_mustBePaid_7 : decode cX0_mustBePaid 7 = .ok (.if_icmp .ne 19, 3) := by decide +kernel
theorem dX0_mustBePaid_10 : decode cX0_mustBePaid 10 = .ok (.aload_n 0, 1) := by decide +kernel
theorem dX0_mustBePaid_11 : decode cX0_mustBePaid 11 = .ok (.iload_n 1, 1) := by decide +kernel
theorem dX0_mustBePaid_12 : decode cX0_mustBePaid 12 = .ok (.invokevirtual 148, 3) := by decide +kernel
theorem dX0_mustBePaid_15 : decode cX0_mustBePaid 15 = .ok (.aload_n 0, 1) := by decide +kernel
theorem dX0_mustBePaid_16 : decode cX0_mustBePaid 16 = .ok (.getfield 40, 3) := by decide +kernel
theorem dX0_mustBePaid_19 : decode cX0_mustBePaid 19 = .ok (.if_icmp .gt 7, 3) := by decide +kernel
theorem dX0_mustBePaid_22 : decode cX0_mustBePaid 22 = .ok (.iconst 1, 1) := by decide +kernel
theorem dX0_mustBePaid_23 : decode cX0_mustBePaid 23 = .ok (.goto 4, 3) := by decide +kernel
theorem dX0_mustBePaid_26 : decode cX0_mustBePaid 26 = .ok (.iconst 0, 1) := by decide +kernel
theorem dX0_mustBePaid_27 : decode cX0_mustBePaid 27 = .ok (.ireturn, 1) := by decide +kernel
theorem dX0_partOf_0 : decode cX0_partOf 0 = .ok (.iload_n 0, 1) := by decide +kernel
theorem dX0_partOf_1 : decode cX0_partOf 1 = .ok (.iload_n 1, 1) := by decide +kernel
theorem dX0_partOf_2 : decode cX0_partOf 2 = .ok (.imul, 1) := by decide +kernel
theorem dX0_partOf_3 : decode cX0_partOf 3 = .ok (.sipush 1000, 3) := by decide +kernel
theorem dX0_partOf_6 : decode cX0_partOf 6 = .ok (.idiv, 1) := by decide +kernel
theorem dX0_partOf_7 : decode cX0_partOf 7 = .ok (.ireturn, 1) := by decide +kernel
theorem dX0_payDay_0 : decode cX0_payDay 0 = .ok (.aload_n 0, 1) := by decide +kernel
theorem dX0_payDay_1 : decode cX0_payDay 1 = .ok (.getfield 28, 3) := by decide +kernel
theorem dX0_payDay_4 : decode cX0_payDay 4 = .ok (.iload_n 1, 1) := by decide +kernel
theorem dX0_payDay_5 : decode cX0_payDay 5 = .ok (.iaload, 1) := by decide +kernel
theorem dX0_payDay_6 : decode cX0_payDay 6 = .ok (.aload_n 0, 1) := by decide +kernel
theorem dX0_payDay_7 : decode cX0_payDay 7 = .ok (.getfield 82, 3) := by decide +kernel
theorem dX0_payDay_10 : decode cX0_payDay 10 = .ok (.iadd, 1) := by decide +kernel
theorem dX0_payDay_11 : decode cX0_payDay 11 = .ok (.ireturn, 1) := by decide +kernel
theorem dX0_remainingOf_0 : decode cX0_remainingOf 0 = .ok (.aload_n 0, 1) := by decide +kernel
theorem dX0_remainingOf_1 : decode cX0_remainingOf 1 = .ok (.iload_n 1, 1) := by decide +kernel
theorem dX0_remainingOf_2 : decode cX0_remainingOf 2 = .ok (.invokevirtual 112, 3) := by decide +kernel
theorem dX0_remainingOf_5 : decode cX0_remainingOf 5 = .ok (.ifCond .eq 7, 3) := by decide +kernel
theorem dX0_remainingOf_8 : decode cX0_remainingOf 8 = .ok (.iconst 0, 1) := by decide +kernel
theorem dX0_remainingOf_9 : decode cX0_remainingOf 9 = .ok (.goto 19, 3) := by decide +kernel
theorem dX0_remainingOf_12 : decode cX0_remainingOf 12 = .ok (.aload_n 0, 1) := by decide +kernel
theorem dX0_remainingOf_13 : decode cX0_remainingOf 13 = .ok (.getfield 31, 3) := by decide +kernel
theorem dX0_remainingOf_16 : decode cX0_remainingOf 16 = .ok (.getfield 116, 3) := by decide +kernel
theorem dX0_remainingOf_19 : decode cX0_remainingOf 19 = .ok (.iload_n 1, 1) := by decide +kernel
theorem dX0_remainingOf_20 : decode cX0_remainingOf 20 = .ok (.iaload, 1) := by decide +kernel
theorem dX0_remainingOf_21 : decode cX0_remainingOf 21 = .ok (.aload_n 0, 1) := by decide +kernel
theorem dX0_remainingOf_22 : decode cX0_remainingOf 22 = .ok (.getfield 22, 3) := by decide +kernel
theorem dX0_remainingOf_25 : decode cX0_remainingOf 25 = .ok (.iload_n 1, 1) := by decide +kernel
theorem dX0_remainingOf_26 : decode cX0_remainingOf 26 = .ok (.iaload, 1) := by decide +kernel
theorem dX0_remainingOf_27 : decode cX0_remainingOf 27 = .ok (.isub, 1) := by decide +kernel
theorem dX0_remainingOf_28 : decode cX0_remainingOf 28 = .ok (.ireturn, 1) := by decide +kernel
theorem dX2_partOfEntry_0 : decode cX2_partOfEntry 0 = .ok (.aload_n 0, 1) := by decide +kernel
theorem dX2_partOfEntry_1 : decode cX2_partOfEntry 1 = .ok (.getfield 15, 3) := by decide +kernel
theorem dX2_partOfEntry_4 : decode cX2_partOfEntry 4 = .ok (.bipush 60, 2) := by decide +kernel
theorem dX2_partOfEntry_6 : decode cX2_partOfEntry 6 = .ok (.iadd, 1) := by decide +kernel
theorem dX2_partOfEntry_7 : decode cX2_partOfEntry 7 = .ok (.aload_n 0, 1) := by decide +kernel
theorem dX2_partOfEntry_8 : decode cX2_partOfEntry 8 = .ok (.getfield 19, 3) := by decide +kernel
theorem dX2_partOfEntry_11 : decode cX2_partOfEntry 11 = .ok (.isub, 1) := by decide +kernel
theorem dX2_partOfEntry_12 : decode cX2_partOfEntry 12 = .ok (.iload_n 1, 1) := by decide +kernel
theorem dX2_partOfEntry_13 : decode cX2_partOfEntry 13 = .ok (.iadd, 1) := by decide +kernel
theorem dX2_partOfEntry_14 : decode cX2_partOfEntry 14 = .ok (.bipush 60, 2) := by decide +kernel
theorem dX2_partOfEntry_16 : decode cX2_partOfEntry 16 = .ok (.irem, 1) := by decide +kernel
theorem dX2_partOfEntry_17 : decode cX2_partOfEntry 17 = .ok (.istore_n 3, 1) := by decide +kernel
theorem dX2_partOfEntry_18 : decode cX2_partOfEntry 18 = .ok (.aload_n 0, 1) := by decide +kernel
theorem dX2_partOfEntry_19 : decode cX2_partOfEntry 19 = .ok (.getfield 11, 3) := by decide +kernel
theorem dX2_partOfEntry_22 : decode cX2_partOfEntry 22 = .ok (.iload_n 3, 1) := by decide +kernel
theorem dX2_partOfEntry_23 : decode cX2_partOfEntry 23 = .ok (.iconst 4, 1) := by decide +kernel
theorem dX2_partOfEntry_24 : decode cX2_partOfEntry 24 = .ok (.imul, 1) := by decide +kernel
theorem dX2_partOfEntry_25 : decode cX2_partOfEntry 25 = .ok (.iload_n 2, 1) := by decide +kernel
theorem dX2_partOfEntry_26 : decode cX2_partOfEntry 26 = .ok (.iadd, 1) := by decide +kernel
theorem dX2_partOfEntry_27 : decode cX2_partOfEntry 27 = .ok (.iaload, 1) := by decide +kernel
theorem dX2_partOfEntry_28 : decode cX2_partOfEntry 28 = .ok (.ireturn, 1) := by decide +kernel
theorem dX3_conditionHolds_0 : decode cX3_conditionHolds 0 = .ok (.iconst 0, 1) := by decide +kernel
theorem dX3_conditionHolds_1 : decode cX3_conditionHolds 1 = .ok (.istore 7, 2) := by decide +kernel
theorem dX3_conditionHolds_3 : decode cX3_conditionHolds 3 = .ok (.aload_n 0, 1) := by decide +kernel
theorem dX3_conditionHolds_4 : decode cX3_conditionHolds 4 = .ok (.iload_n 1, 1) := by decide +kernel
theorem dX3_conditionHolds_5 : decode cX3_conditionHolds 5 = .ok (.invokevirtual 72, 3) := by decide +kernel
theorem dX3_conditionHolds_8 : decode cX3_conditionHolds 8 = .ok (.istore 8, 2) := by decide +kernel
theorem dX3_conditionHolds_10 : decode cX3_conditionHolds 10 = .ok (.iload 8, 2) := by decide +kernel
theorem dX3_conditionHolds_12 : decode cX3_conditionHolds 12 = .ok (.aload_n 0, 1) := by decide +kernel
theorem dX3_conditionHolds_13 : decode cX3_conditionHolds 13 = .ok (.getfield 41, 3) := by decide +kernel
theorem dX3_conditionHolds_16 : decode cX3_conditionHolds 16 = .ok (.iload_n 1, 1) := by decide +kernel
theorem dX3_conditionHolds_17 : decode cX3_conditionHolds 17 = .ok (.iaload, 1) := by decide +kernel
theorem dX3_conditionHolds_18 : decode cX3_conditionHolds 18 = .ok (.if_icmp .ge 208, 3) := by decide +kernel
theorem dX3_conditionHolds_21 : decode cX3_conditionHolds 21 = .ok (.iload 7, 2) := by decide +kernel
theorem dX3_conditionHolds_23 : decode cX3_conditionHolds 23 = .ok (.iconst 1, 1) := by decide +kernel
theorem dX3_conditionHolds_24 : decode cX3_conditionHolds 24 = .ok (.iand, 1) := by decide +kernel
theorem dX3_conditionHolds_25 : decode cX3_conditionHolds 25 = .ok (.istore 9, 2) := by decide +kernel
theorem dX3_conditionHolds_27 : decode cX3_conditionHolds 27 = .ok (.aload_n 0, 1) := by decide +kernel
theorem dX3_conditionHolds_28 : decode cX3_conditionHolds 28 = .ok (.getfield 38, 3) := by decide +kernel
theorem dX3_conditionHolds_31 : decode cX3_conditionHolds 31 = .ok (.iload 8, 2) := by decide +kernel
theorem dX3_conditionHolds_33 : decode cX3_conditionHolds 33 = .ok (.iaload, 1) := by decide +kernel
theorem dX3_conditionHolds_34 : decode cX3_conditionHolds 34 = .ok (.istore 10, 2) := by decide +kernel
theorem dX3_conditionHolds_36 : decode cX3_conditionHolds 36 = .ok (.aload_n 0, 1) := by decide +kernel
theorem dX3_conditionHolds_37 : decode cX3_conditionHolds 37 = .ok (.getfield 35, 3) := by decide +kernel
theorem dX3_conditionHolds_40 : decode cX3_conditionHolds 40 = .ok (.iload 8, 2) := by decide +kernel
theorem dX3_conditionHolds_42 : decode cX3_conditionHolds 42 = .ok (.iaload, 1) := by decide +kernel
theorem dX3_conditionHolds_43 : decode cX3_conditionHolds 43 = .ok (.tableswitch 169 14 21 #[69, 54, 45, 81, 102, 118, 135, 157], 45) := by decide +kernel
theorem dX3_conditionHolds_88 : decode cX3_conditionHolds 88 = .ok (.iload 7, 2) := by decide +kernel
theorem dX3_conditionHolds_90 : decode cX3_conditionHolds 90 = .ok (.iconst 1, 1) := by decide +kernel
theorem dX3_conditionHolds_91 : decode cX3_conditionHolds 91 = .ok (.ixor, 1) := by decide +kernel
theorem dX3_conditionHolds_92 : decode cX3_conditionHolds 92 = .ok (.istore 7, 2) := by decide +kernel
theorem dX3_conditionHolds_94 : decode cX3_conditionHolds 94 = .ok (.goto 126, 3) := by decide +kernel
theorem dX3_conditionHolds_97 : decode cX3_conditionHolds 97 = .ok (.iload 7, 2) := by decide +kernel
theorem dX3_conditionHolds_99 : decode cX3_conditionHolds 99 = .ok (.iconst 1, 1) := by decide +kernel
theorem dX3_conditionHolds_100 : decode cX3_conditionHolds 100 = .ok (.iushr, 1) := by decide +kernel
theorem dX3_conditionHolds_101 : decode cX3_conditionHolds 101 = .ok (.iload 9, 2) := by decide +kernel
theorem dX3_conditionHolds_103 : decode cX3_conditionHolds 103 = .ok (.bipush (-2), 2) := by decide +kernel
theorem dX3_conditionHolds_105 : decode cX3_conditionHolds 105 = .ok (.ior, 1) := by decide +kernel
theorem dX3_conditionHolds_106 : decode cX3_conditionHolds 106 = .ok (.iand, 1) := by decide +kernel
theorem dX3_conditionHolds_107 : decode cX3_conditionHolds 107 = .ok (.istore 7, 2) := by decide +kernel
theorem dX3_conditionHolds_109 : decode cX3_conditionHolds 109 = .ok (.goto 111, 3) := by decide +kernel
theorem dX3_conditionHolds_112 : decode cX3_conditionHolds 112 = .ok (.iload 7, 2) := by decide +kernel
theorem dX3_conditionHolds_114 : decode cX3_conditionHolds 114 = .ok (.iconst 1, 1) := by decide +kernel
theorem dX3_conditionHolds_115 : decode cX3_conditionHolds 115 = .ok (.iushr, 1) := by decide +kernel
theorem dX3_conditionHolds_116 : decode cX3_conditionHolds 116 = .ok (.iload 9, 2) := by decide +kernel
theorem dX3_conditionHolds_118 : decode cX3_conditionHolds 118 = .ok (.ior, 1) := by decide +kernel
theorem dX3_conditionHolds_119 : decode cX3_conditionHolds 119 = .ok (.istore 7, 2) := by decide +kernel
theorem dX3_conditionHolds_121 : decode cX3_conditionHolds 121 = .ok (.goto 99, 3) := by decide +kernel
theorem dX3_conditionHolds_124 : decode cX3_conditionHolds 124 = .ok (.iload 7, 2) := by decide +kernel
theorem dX3_conditionHolds_126 : decode cX3_conditionHolds 126 = .ok (.iload_n 2, 1) := by decide +kernel
theorem dX3_conditionHolds_127 : decode cX3_conditionHolds 127 = .ok (.iload 10, 2) := by decide +kernel
theorem dX3_conditionHolds_129 : decode cX3_conditionHolds 129 = .ok (.if_icmp .lt 7, 3) := by decide +kernel
theorem dX3_conditionHolds_132 : decode cX3_conditionHolds 132 = .ok (.iconst 1, 1) := by decide +kernel
theorem dX3_conditionHolds_133 : decode cX3_conditionHolds 133 = .ok (.goto 4, 3) := by decide +kernel
theorem dX3_conditionHolds_136 : decode cX3_conditionHolds 136 = .ok (.iconst 0, 1) := by decide +kernel
theorem dX3_conditionHolds_137 : decode cX3_conditionHolds 137 = .ok (.invokestatic 78, 3) := by decide +kernel
theorem dX3_conditionHolds_140 : decode cX3_conditionHolds 140 = .ok (.istore 7, 2) := by decide +kernel
theorem dX3_conditionHolds_142 : decode cX3_conditionHolds 142 = .ok (.goto 78, 3) := by decide +kernel
theorem dX3_conditionHolds_145 : decode cX3_conditionHolds 145 = .ok (.iload 7, 2) := by decide +kernel
theorem dX3_conditionHolds_147 : decode cX3_conditionHolds 147 = .ok (.iload_n 3, 1) := by decide +kernel
theorem dX3_conditionHolds_148 : decode cX3_conditionHolds 148 = .ok (.iload 10, 2) := by decide +kernel
theorem dX3_conditionHolds_150 : decode cX3_conditionHolds 150 = .ok (.invokestatic 82, 3) := by decide +kernel
theorem dX3_conditionHolds_153 : decode cX3_conditionHolds 153 = .ok (.invokestatic 78, 3) := by decide +kernel
theorem dX3_conditionHolds_156 : decode cX3_conditionHolds 156 = .ok (.istore 7, 2) := by decide +kernel
theorem dX3_conditionHolds_158 : decode cX3_conditionHolds 158 = .ok (.goto 62, 3) := by decide +kernel
theorem dX3_conditionHolds_161 : decode cX3_conditionHolds 161 = .ok (.iload 7, 2) := by decide +kernel
theorem dX3_conditionHolds_163 : decode cX3_conditionHolds 163 = .ok (.iload 4, 2) := by decide +kernel
theorem dX3_conditionHolds_165 : decode cX3_conditionHolds 165 = .ok (.iload 10, 2) := by decide +kernel
theorem dX3_conditionHolds_167 : decode cX3_conditionHolds 167 = .ok (.invokestatic 82, 3) := by decide +kernel
theorem dX3_conditionHolds_170 : decode cX3_conditionHolds 170 = .ok (.invokestatic 78, 3) := by decide +kernel
theorem dX3_conditionHolds_173 : decode cX3_conditionHolds 173 = .ok (.istore 7, 2) := by decide +kernel
theorem dX3_conditionHolds_175 : decode cX3_conditionHolds 175 = .ok (.goto 45, 3) := by decide +kernel
theorem dX3_conditionHolds_178 : decode cX3_conditionHolds 178 = .ok (.iload 7, 2) := by decide +kernel
theorem dX3_conditionHolds_180 : decode cX3_conditionHolds 180 = .ok (.iload 5, 2) := by decide +kernel
theorem dX3_conditionHolds_182 : decode cX3_conditionHolds 182 = .ok (.iload 10, 2) := by decide +kernel
theorem dX3_conditionHolds_184 : decode cX3_conditionHolds 184 = .ok (.if_icmp .lt 7, 3) := by decide +kernel
theorem dX3_conditionHolds_187 : decode cX3_conditionHolds 187 = .ok (.iconst 1, 1) := by decide +kernel
theorem dX3_conditionHolds_188 : decode cX3_conditionHolds 188 = .ok (.goto 4, 3) := by decide +kernel
theorem dX3_conditionHolds_191 : decode cX3_conditionHolds 191 = .ok (.iconst 0, 1) := by decide +kernel
theorem dX3_conditionHolds_192 : decode cX3_conditionHolds 192 = .ok (.invokestatic 78, 3) := by decide +kernel
theorem dX3_conditionHolds_195 : decode cX3_conditionHolds 195 = .ok (.istore 7, 2) := by decide +kernel
theorem dX3_conditionHolds_197 : decode cX3_conditionHolds 197 = .ok (.goto 23, 3) := by decide +kernel
theorem dX3_conditionHolds_200 : decode cX3_conditionHolds 200 = .ok (.iload 7, 2) := by decide +kernel
theorem dX3_conditionHolds_202 : decode cX3_conditionHolds 202 = .ok (.iload 6, 2) := by decide +kernel
theorem dX3_conditionHolds_204 : decode cX3_conditionHolds 204 = .ok (.invokestatic 78, 3) := by decide +kernel
theorem dX3_conditionHolds_207 : decode cX3_conditionHolds 207 = .ok (.istore 7, 2) := by decide +kernel
theorem dX3_conditionHolds_209 : decode cX3_conditionHolds 209 = .ok (.goto 11, 3) := by decide +kernel
theorem dX3_conditionHolds_212 : decode cX3_conditionHolds 212 = .ok (.iload 7, 2) := by decide +kernel
theorem dX3_conditionHolds_214 : decode cX3_conditionHolds 214 = .ok (.iconst 1, 1) := by decide +kernel
theorem dX3_conditionHolds_215 : decode cX3_conditionHolds 215 = .ok (.invokestatic 78, 3) := by decide +kernel
theorem dX3_conditionHolds_218 : decode cX3_conditionHolds 218 = .ok (.istore 7, 2) := by decide +kernel
theorem dX3_conditionHolds_220 : decode cX3_conditionHolds 220 = .ok (.iinc 8 1, 3) := by decide +kernel
theorem dX3_conditionHolds_223 : decode cX3_conditionHolds 223 = .ok (.goto (-213), 3) := by decide +kernel
theorem dX3_conditionHolds_226 : decode cX3_conditionHolds 226 = .ok (.iload 7, 2) := by decide +kernel
theorem dX3_conditionHolds_228 : decode cX3_conditionHolds 228 = .ok (.iconst 1, 1) := by decide +kernel
theorem dX3_conditionHolds_229 : decode cX3_conditionHolds 229 = .ok (.iand, 1) := by decide +kernel
theorem dX3_conditionHolds_230 : decode cX3_conditionHolds 230 = .ok (.iconst 1, 1) := by decide +kernel
theorem dX3_conditionHolds_231 : decode cX3_conditionHolds 231 = .ok (.if_icmp .ne 7, 3) := by decide +kernel
theorem dX3_conditionHolds_234 : decode cX3_conditionHolds 234 = .ok (.iconst 1, 1) := by decide +kernel
theorem dX3_conditionHolds_235 : decode cX3_conditionHolds 235 = .ok (.goto 4, 3) := by decide +kernel
theorem dX3_conditionHolds_238 : decode cX3_conditionHolds 238 = .ok (.iconst 0, 1) := by decide +kernel
theorem dX3_conditionHolds_239 : decode cX3_conditionHolds 239 = .ok (.ireturn, 1) := by decide +kernel
theorem dX3_contains_0 : decode cX3_contains 0 = .ok (.iload_n 0, 1) := by decide +kernel
theorem dX3_contains_1 : decode cX3_contains 1 = .ok (.iload_n 1, 1) := by decide +kernel
theorem dX3_contains_2 : decode cX3_contains 2 = .ok (.iushr, 1) := by decide +kernel
theorem dX3_contains_3 : decode cX3_contains 3 = .ok (.iconst 1, 1) := by decide +kernel
theorem dX3_contains_4 : decode cX3_contains 4 = .ok (.iand, 1) := by decide +kernel
theorem dX3_contains_5 : decode cX3_contains 5 = .ok (.iconst 1, 1) := by decide +kernel
theorem dX3_contains_6 : decode cX3_contains 6 = .ok (.if_icmp .ne 7, 3) := by decide +kernel
theorem dX3_contains_9 : decode cX3_contains 9 = .ok (.iconst 1, 1) := by decide +kernel
theorem dX3_contains_10 : decode cX3_contains 10 = .ok (.goto 4, 3) := by decide +kernel
theorem dX3_contains_13 : decode cX3_contains 13 = .ok (.iconst 0, 1) := by decide +kernel
theorem dX3_contains_14 : decode cX3_contains 14 = .ok (.ireturn, 1) := by decide +kernel
theorem dX3_feeOf_0 : decode cX3_feeOf 0 = .ok (.iload_n 1, 1) := by decide +kernel
theorem dX3_feeOf_1 : decode cX3_feeOf 1 = .ok (.aload_n 0, 1) := by decide +kernel
theorem dX3_feeOf_2 : decode cX3_feeOf 2 = .ok (.getfield 47, 3) := by decide +kernel
theorem dX3_feeOf_5 : decode cX3_feeOf 5 = .ok (.imul, 1) := by decide +kernel
theorem dX3_feeOf_6 : decode cX3_feeOf 6 = .ok (.sipush 10000, 3) := by decide +kernel
theorem dX3_feeOf_9 : decode cX3_feeOf 9 = .ok (.idiv, 1) := by decide +kernel
theorem dX3_feeOf_10 : decode cX3_feeOf 10 = .ok (.ireturn, 1) := by decide +kernel
theorem dX3_firstStep_0 : decode cX3_firstStep 0 = .ok (.iload_n 1, 1) := by decide +kernel
theorem dX3_firstStep_1 : decode cX3_firstStep 1 = .ok (.ifCond .le 14, 3) := by decide +kernel
theorem dX3_firstStep_4 : decode cX3_firstStep 4 = .ok (.aload_n 0, 1) := by decide +kernel
theorem dX3_firstStep_5 : decode cX3_firstStep 5 = .ok (.getfield 41, 3) := by decide +kernel
theorem dX3_firstStep_8 : decode cX3_firstStep 8 = .ok (.iload_n 1, 1) := by decide +kernel
theorem dX3_firstStep_9 : decode cX3_firstStep 9 = .ok (.iconst 1, 1) := by decide +kernel
theorem dX3_firstStep_10 : decode cX3_firstStep 10 = .ok (.isub, 1) := by decide +kernel
theorem dX3_firstStep_11 : decode cX3_firstStep 11 = .ok (.iaload, 1) := by decide +kernel
theorem dX3_firstStep_12 : decode cX3_firstStep 12 = .ok (.goto 4, 3) := by decide +kernel
theorem dX3_firstStep_15 : decode cX3_firstStep 15 = .ok (.iconst 0, 1) := by decide +kernel
theorem dX3_firstStep_16 : decode cX3_firstStep 16 = .ok (.ireturn, 1) := by decide +kernel
theorem dX3_nextNamedDay_0 : decode cX3_nextNamedDay 0 = .ok (.iconst (-1), 1) := by decide +kernel
theorem dX3_nextNamedDay_1 : decode cX3_nextNamedDay 1 = .ok (.istore_n 3, 1) := by decide +kernel
theorem dX3_nextNamedDay_2 : decode cX3_nextNamedDay 2 = .ok (.aload_n 0, 1) := by decide +kernel
theorem dX3_nextNamedDay_3 : decode cX3_nextNamedDay 3 = .ok (.iload_n 1, 1) := by decide +kernel
theorem dX3_nextNamedDay_4 : decode cX3_nextNamedDay 4 = .ok (.invokevirtual 72, 3) := by decide +kernel
theorem dX3_nextNamedDay_7 : decode cX3_nextNamedDay 7 = .ok (.istore 4, 2) := by decide +kernel
theorem dX3_nextNamedDay_9 : decode cX3_nextNamedDay 9 = .ok (.iload 4, 2) := by decide +kernel
theorem dX3_nextNamedDay_11 : decode cX3_nextNamedDay 11 = .ok (.aload_n 0, 1) := by decide +kernel
theorem dX3_nextNamedDay_12 : decode cX3_nextNamedDay 12 = .ok (.getfield 41, 3) := by decide +kernel
theorem dX3_nextNamedDay_15 : decode cX3_nextNamedDay 15 = .ok (.iload_n 1, 1) := by decide +kernel
theorem dX3_nextNamedDay_16 : decode cX3_nextNamedDay 16 = .ok (.iaload, 1) := by decide +kernel
theorem dX3_nextNamedDay_17 : decode cX3_nextNamedDay 17 = .ok (.if_icmp .ge 50, 3) := by decide +kernel
theorem dX3_nextNamedDay_20 : decode cX3_nextNamedDay 20 = .ok (.aload_n 0, 1) := by decide +kernel
theorem dX3_nextNamedDay_21 : decode cX3_nextNamedDay 21 = .ok (.getfield 38, 3) := by decide +kernel
theorem dX3_nextNamedDay_24 : decode cX3_nextNamedDay 24 = .ok (.iload 4, 2) := by decide +kernel
theorem dX3_nextNamedDay_26 : decode cX3_nextNamedDay 26 = .ok (.iaload, 1) := by decide +kernel
theorem dX3_nextNamedDay_27 : decode cX3_nextNamedDay 27 = .ok (.istore 5, 2) := by decide +kernel
theorem dX3_nextNamedDay_29 : decode cX3_nextNamedDay 29 = .ok (.aload_n 0, 1) := by decide +kernel
theorem dX3_nextNamedDay_30 : decode cX3_nextNamedDay 30 = .ok (.getfield 35, 3) := by decide +kernel
theorem dX3_nextNamedDay_33 : decode cX3_nextNamedDay 33 = .ok (.iload 4, 2) := by decide +kernel
theorem dX3_nextNamedDay_35 : decode cX3_nextNamedDay 35 = .ok (.iaload, 1) := by decide +kernel
theorem dX3_nextNamedDay_36 : decode cX3_nextNamedDay 36 = .ok (.bipush 17, 2) := by decide +kernel
theorem dX3_nextNamedDay_38 : decode cX3_nextNamedDay 38 = .ok (.if_icmp .ne 23, 3) := by decide +kernel
theorem dX3_nextNamedDay_41 : decode cX3_nextNamedDay 41 = .ok (.iload 5, 2) := by decide +kernel
theorem dX3_nextNamedDay_43 : decode cX3_nextNamedDay 43 = .ok (.iload_n 2, 1) := by decide +kernel
theorem dX3_nextNamedDay_44 : decode cX3_nextNamedDay 44 = .ok (.if_icmp .le 17, 3) := by decide +kernel
theorem dX3_nextNamedDay_47 : decode cX3_nextNamedDay 47 = .ok (.iload_n 3, 1) := by decide +kernel
theorem dX3_nextNamedDay_48 : decode cX3_nextNamedDay 48 = .ok (.iconst (-1), 1) := by decide +kernel
theorem dX3_nextNamedDay_49 : decode cX3_nextNamedDay 49 = .ok (.if_icmp .eq 9, 3) := by decide +kernel
theorem dX3_nextNamedDay_52 : decode cX3_nextNamedDay 52 = .ok (.iload 5, 2) := by decide +kernel
theorem dX3_nextNamedDay_54 : decode cX3_nextNamedDay 54 = .ok (.iload_n 3, 1) := by decide +kernel
theorem dX3_nextNamedDay_55 : decode cX3_nextNamedDay 55 = .ok (.if_icmp .ge 6, 3) := by decide +kernel
theorem dX3_nextNamedDay_58 : decode cX3_nextNamedDay 58 = .ok (.iload 5, 2) := by decide +kernel
theorem dX3_nextNamedDay_60 : decode cX3_nextNamedDay 60 = .ok (.istore_n 3, 1) := by decide +kernel
theorem dX3_nextNamedDay_61 : decode cX3_nextNamedDay 61 = .ok (.iinc 4 1, 3) := by decide +kernel
theorem dX3_nextNamedDay_64 : decode cX3_nextNamedDay 64 = .ok (.goto (-55), 3) := by decide +kernel
theorem dX3_nextNamedDay_67 : decode cX3_nextNamedDay 67 = .ok (.iload_n 3, 1) := by decide +kernel
theorem dX3_nextNamedDay_68 : decode cX3_nextNamedDay 68 = .ok (.ireturn, 1) := by decide +kernel
theorem dX3_withAnswer_0 : decode cX3_withAnswer 0 = .ok (.iload_n 0, 1) := by decide +kernel
theorem dX3_withAnswer_1 : decode cX3_withAnswer 1 = .ok (.iconst 1, 1) := by decide +kernel
theorem dX3_withAnswer_2 : decode cX3_withAnswer 2 = .ok (.ishl, 1) := by decide +kernel
theorem dX3_withAnswer_3 : decode cX3_withAnswer 3 = .ok (.iload_n 1, 1) := by decide +kernel
theorem dX3_withAnswer_4 : decode cX3_withAnswer 4 = .ok (.ifCond .eq 7, 3) := by decide +kernel
theorem dX3_withAnswer_7 : decode cX3_withAnswer 7 = .ok (.iconst 1, 1) := by decide +kernel
theorem dX3_withAnswer_8 : decode cX3_withAnswer 8 = .ok (.goto 4, 3) := by decide +kernel
theorem dX3_withAnswer_11 : decode cX3_withAnswer 11 = .ok (.iconst 0, 1) := by decide +kernel
theorem dX3_withAnswer_12 : decode cX3_withAnswer 12 = .ok (.ior, 1) := by decide +kernel
theorem dX3_withAnswer_13 : decode cX3_withAnswer 13 = .ok (.ireturn, 1) := by decide +kernel
theorem dX9_needDispute_0 : decode cX9_needDispute 0 = .ok (.aload_n 0, 1) := by decide +kernel
theorem dX9_needDispute_1 : decode cX9_needDispute 1 = .ok (.getfield 35, 3) := by decide +kernel
theorem dX9_needDispute_4 : decode cX9_needDispute 4 = .ok (.getfield 122, 3) := by decide +kernel
theorem dX9_needDispute_7 : decode cX9_needDispute 7 = .ok (.iload_n 1, 1) := by decide +kernel
theorem dX9_needDispute_8 : decode cX9_needDispute 8 = .ok (.iaload, 1) := by decide +kernel
theorem dX9_needDispute_9 : decode cX9_needDispute 9 = .ok (.iconst 2, 1) := by decide +kernel
theorem dX9_needDispute_10 : decode cX9_needDispute 10 = .ok (.if_icmp .ne 7, 3) := by decide +kernel
theorem dX9_needDispute_13 : decode cX9_needDispute 13 = .ok (.iconst 1, 1) := by decide +kernel
theorem dX9_needDispute_14 : decode cX9_needDispute 14 = .ok (.goto 4, 3) := by decide +kernel
theorem dX9_needDispute_17 : decode cX9_needDispute 17 = .ok (.iconst 0, 1) := by decide +kernel
theorem dX9_needDispute_18 : decode cX9_needDispute 18 = .ok (.invokestatic 251, 3) := by decide +kernel
theorem dX9_needDispute_21 : decode cX9_needDispute 21 = .ok (.return_, 1) := by decide +kernel
