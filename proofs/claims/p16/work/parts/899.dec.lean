set_option maxRecDepth 20000 in
theorem ggX0_copyFrom_X2_copyFrom : GoodIn wsX0_copyFrom wsX2_copyFrom := goodIn_r _ [29, 30, 31, 5, 6, 7, 32, 33, 54, 55, 56] rfl (by decide +kernel)
set_option maxRecDepth 20000 in
theorem gX0_copyFrom_X2_copyFrom : GoodIn wsX0_copyFrom (wsV RX0 99 RX2 yX2_copyFrom wsX2_copyFrom) := goodIn_app (goodIn_r _ [25, 26, 27, 28] rfl (by decide +kernel)) ggX0_copyFrom_X2_copyFrom
set_option maxRecDepth 20000 in
theorem ggX0_creditInterest_X2_enter : GoodIn wsX0_creditInterest wsX2_enter := goodIn_r _ [12, 13, 14, 15, 16, 17, 18, 19, 40, 41, 42] rfl (by decide +kernel)
set_option maxRecDepth 20000 in
theorem gX0_creditInterest_X2_enter : GoodIn wsX0_creditInterest (wsV RX0 151 RX2 yX2_enter wsX2_enter) := goodIn_app (goodIn_r _ [8, 9, 10, 11] rfl (by decide +kernel)) ggX0_creditInterest_X2_enter
set_option maxRecDepth 20000 in
theorem ggX0_freeze_X0_availableMoney : GoodIn wsX0_freeze wsX0_availableMoney := goodIn_r _ [21, 22, 12, 6, 23, 24, 25, 26, 27, 28, 29, 30, 31, 32, 33, 34, 35, 36, 37, 38, 39, 40, 41, 42, 43, 44, 45, 46, 47, 48, 49, 50, 51, 52, 53, 54, 55, 56, 57, 58, 59] rfl (by decide +kernel)
set_option maxRecDepth 20000 in
theorem gX0_freeze_X0_availableMoney : GoodIn wsX0_freeze (wsV RX0 158 RX0 yX0_availableMoney wsX0_availableMoney) := goodIn_app (goodIn_r _ [18, 19, 20, 10] rfl (by decide +kernel)) ggX0_freeze_X0_availableMoney
set_option maxRecDepth 20000 in
theorem ggX0_freeze_X0_remainingOf : GoodIn wsX0_freeze wsX0_remainingOf := goodIn_r _ [11, 12, 13, 14, 15, 16, 10, 17, 5, 23, 24, 25, 26, 27, 28, 29, 30, 31, 32, 33, 34, 35, 36, 37, 38, 39, 40, 41, 42, 43, 44, 45, 46, 47, 48, 49, 50, 51, 52, 53, 54, 55, 56, 57, 58, 59] rfl (by decide +kernel)
set_option maxRecDepth 20000 in
theorem gX0_freeze_X0_remainingOf : GoodIn wsX0_freeze (wsV RX0 144 RX0 yX0_remainingOf wsX0_remainingOf) := goodIn_app (goodIn_r _ [7, 8, 9, 10] rfl (by decide +kernel)) ggX0_freeze_X0_remainingOf
set_option maxRecDepth 20000 in
theorem ggX0_holdsOn_X0_doneSet : GoodIn wsX0_holdsOn wsX0_doneSet := goodIn_r _ [6, 7, 8, 39, 40, 41, 42, 43, 44, 45, 46, 47, 48, 49, 50, 51, 52, 53, 54, 55, 56, 57, 58, 59, 60, 61, 62, 63, 64, 65, 66, 67, 68, 69, 70, 71, 72, 73, 74, 75] rfl (by decide +kernel)
set_option maxRecDepth 20000 in
theorem gX0_holdsOn_X0_doneSet : GoodIn wsX0_holdsOn (wsV RX0 123 RX0 yX0_doneSet wsX0_doneSet) := goodIn_app (goodIn_r _ [2, 3, 4, 5] rfl (by decide +kernel)) ggX0_holdsOn_X0_doneSet
set_option maxRecDepth 20000 in
theorem ggX0_holdsOn_X0_judged : GoodIn wsX0_holdsOn wsX0_judged := goodIn_r _ [12, 13, 7, 14, 15, 16, 17, 18, 19, 20, 5, 21, 22, 23, 24, 25, 26, 27, 28, 29, 30, 31, 32, 33, 34, 35, 36, 37, 38, 39, 40, 41, 42, 43, 44, 45, 46, 47, 48, 49, 50, 51, 52, 53, 54, 55, 56, 57, 58, 59, 60, 61, 62, 63, 64, 65, 66, 67, 68, 69, 70, 71, 72, 73, 74, 75] rfl (by decide +kernel)
set_option maxRecDepth 20000 in
theorem gX0_holdsOn_X0_judged : GoodIn wsX0_holdsOn (wsV RX0 127 RX0 yX0_judged wsX0_judged) := goodIn_app (goodIn_r _ [9, 10, 11, 5] rfl (by decide +kernel)) ggX0_holdsOn_X0_judged
set_option maxRecDepth 20000 in
theorem ggX0_judged_X0_payments : GoodIn wsX0_judged wsX0_payments := goodIn_r _ [11, 12, 13, 29, 30, 31, 32, 33, 34, 35, 36, 37, 38, 39, 40, 41, 42, 43, 44, 45, 46, 47, 48] rfl (by decide +kernel)
set_option maxRecDepth 20000 in
theorem gX0_judged_X0_payments : GoodIn wsX0_judged (wsV RX0 131 RX0 yX0_payments wsX0_payments) := goodIn_app (goodIn_r _ [7, 8, 9, 10] rfl (by decide +kernel)) ggX0_judged_X0_payments
set_option maxRecDepth 20000 in
theorem ggX0_judged_X3_conditionHolds : GoodIn wsX0_judged wsX3_conditionHolds := goodIn_r _ [17, 18, 19, 20, 21, 22, 23, 5, 24, 25, 26, 27, 28, 4, 6, 49, 50, 51, 52, 53, 54, 55, 56, 57, 58, 59, 60, 61, 62, 63, 64, 65] rfl (by decide +kernel)
set_option maxRecDepth 20000 in
theorem gX0_judged_X3_conditionHolds : GoodIn wsX0_judged (wsV RX0 134 RX3 yX3_conditionHolds wsX3_conditionHolds) := goodIn_app (goodIn_r _ [14, 15, 16, 5] rfl (by decide +kernel)) ggX0_judged_X3_conditionHolds
set_option maxRecDepth 20000 in
theorem ggX0_judged_X3_contains : GoodIn wsX0_judged wsX3_contains := goodIn_r _ [6] rfl (by decide +kernel)
set_option maxRecDepth 20000 in
theorem gX0_judged_X3_contains : GoodIn wsX0_judged (va_wsS RX0 119 yX3_contains wsX3_contains) := goodIn_app (goodIn_r _ [3, 4, 5] rfl (by decide +kernel)) ggX0_judged_X3_contains
set_option maxRecDepth 20000 in
theorem ggX0_liveDay_X0_creditInterest : GoodIn wsX0_liveDay wsX0_creditInterest := goodIn_r _ [10, 11, 12, 1, 3, 13, 14, 5, 15, 16, 17, 18, 19, 20, 21, 22, 23, 24, 25, 26, 106, 107, 108, 109, 110, 111, 112, 113, 114, 115, 116, 117, 118, 119, 120, 121, 122, 123, 124, 125, 126, 127, 128] rfl (by decide +kernel)
set_option maxRecDepth 20000 in
theorem gX0_liveDay_X0_creditInterest : GoodIn wsX0_liveDay (wsV RX0 186 RX0 yX0_creditInterest wsX0_creditInterest) := goodIn_app (goodIn_r _ [6, 7, 8, 9] rfl (by decide +kernel)) ggX0_liveDay_X0_creditInterest
set_option maxRecDepth 20000 in
theorem ggX0_liveDay_X0_makeDue : GoodIn wsX0_liveDay wsX0_makeDue := goodIn_r _ [30, 31, 32, 5, 33, 34, 35, 36, 37, 9, 38, 39, 40, 41, 42, 43, 44, 45, 46, 47, 48, 49, 50, 51, 52, 53, 54, 55, 56, 57, 58, 59, 60, 61, 62, 63, 64, 65, 66, 67, 68, 106, 107, 108, 109, 110, 111, 112, 113, 114, 115, 116, 117, 118, 119, 120, 121, 122, 123, 124, 125, 129, 130, 131, 132, 133, 134, 135, 136, 137, 138, 139, 140, 141, 142, 143, 144, 145] rfl (by decide +kernel)
set_option maxRecDepth 20000 in
theorem gX0_liveDay_X0_makeDue : GoodIn wsX0_liveDay (wsV RX0 189 RX0 yX0_makeDue wsX0_makeDue) := goodIn_app (goodIn_r _ [27, 28, 29, 9] rfl (by decide +kernel)) ggX0_liveDay_X0_makeDue
set_option maxRecDepth 20000 in
theorem ggX0_liveDay_X0_payDue : GoodIn wsX0_liveDay wsX0_payDue := goodIn_r _ [72, 31, 73, 24, 25, 26, 74, 75, 76, 9, 77, 78, 79, 80, 81, 82, 32, 83, 84, 85, 86, 2, 87, 88, 89, 90, 91, 5, 92, 93, 94, 95, 34, 96, 97, 98, 99, 100, 53, 52, 14, 101, 102, 103, 46, 104, 105, 15, 16, 17, 18, 19, 20, 21, 22, 23, 106, 107, 108, 109, 110, 111, 112, 113, 114, 115, 116, 117, 118, 119, 120, 121, 122, 123, 124, 125, 129, 130, 131, 132, 133, 134, 135, 136, 137, 138, 139, 140, 141, 142, 143, 144, 145, 126, 127, 128] rfl (by decide +kernel)
set_option maxRecDepth 20000 in
theorem gX0_liveDay_X0_payDue : GoodIn wsX0_liveDay (wsV RX0 192 RX0 yX0_payDue wsX0_payDue) := goodIn_app (goodIn_r _ [69, 70, 71, 9] rfl (by decide +kernel)) ggX0_liveDay_X0_payDue
set_option maxRecDepth 20000 in
theorem ggX0_liveDays_X0_liveDay : GoodIn wsX0_liveDays wsX0_liveDay := goodIn_r _ [5, 6, 7, 8, 9, 10, 11, 12, 13, 4, 14, 15, 16, 17, 18, 19, 20, 21, 22, 23, 24, 25, 26, 27, 28, 29, 30, 31, 32, 33, 34, 35, 36, 37, 38, 39, 40, 41, 42, 43, 44, 45, 46, 47, 48, 49, 50, 51, 52, 53, 54, 55, 56, 57, 58, 59, 60, 61, 62, 63, 64, 65, 66, 67, 68, 69, 70, 71, 72, 73, 74, 75, 76, 77, 78, 79, 80, 81, 82, 83, 84, 85, 86, 87, 88, 89, 90, 91, 92, 93, 94, 95, 96, 97, 98, 99, 100, 101, 102, 103, 104, 105, 106, 107, 108, 109, 110, 111, 112, 113, 114, 115, 116, 117, 118, 119, 120, 121, 122, 123, 124, 125, 126, 127, 128, 129, 130, 131, 132, 133, 134, 135, 136, 137, 138, 139, 140, 141, 142, 143, 144, 145, 146, 147, 148, 149] rfl (by decide +kernel)
set_option maxRecDepth 20000 in
theorem gX0_liveDays_X0_liveDay : GoodIn wsX0_liveDays (wsV RX0 183 RX0 yX0_liveDay wsX0_liveDay) := goodIn_app (goodIn_r _ [1, 2, 3, 4] rfl (by decide +kernel)) ggX0_liveDays_X0_liveDay
set_option maxRecDepth 20000 in
theorem ggX0_makeDue_X0_doneSet : GoodIn wsX0_makeDue wsX0_doneSet := goodIn_r _ [10, 1, 2, 41, 42, 43, 44, 45, 46, 47, 48, 49, 50, 51, 52, 53, 54, 55, 56, 57, 58, 59, 60, 61, 62, 63, 64, 65, 66, 67, 68, 69, 70, 71, 72, 73, 74, 75, 76, 77] rfl (by decide +kernel)
set_option maxRecDepth 20000 in
theorem gX0_makeDue_X0_doneSet : GoodIn wsX0_makeDue (wsV RX0 123 RX0 yX0_doneSet wsX0_doneSet) := goodIn_app (goodIn_r _ [6, 7, 8, 9] rfl (by decide +kernel)) ggX0_makeDue_X0_doneSet
set_option maxRecDepth 20000 in
theorem ggX0_makeDue_X0_judged : GoodIn wsX0_makeDue wsX0_judged := goodIn_r _ [14, 15, 1, 16, 17, 18, 19, 20, 21, 22, 9, 23, 24, 25, 26, 27, 28, 29, 30, 31, 32, 33, 34, 35, 36, 37, 38, 39, 40, 41, 42, 43, 44, 45, 46, 47, 48, 49, 50, 51, 52, 53, 54, 55, 56, 57, 58, 59, 60, 61, 62, 63, 64, 65, 66, 67, 68, 69, 70, 71, 72, 73, 74, 75, 76, 77] rfl (by decide +kernel)
set_option maxRecDepth 20000 in
theorem gX0_makeDue_X0_judged : GoodIn wsX0_makeDue (wsV RX0 127 RX0 yX0_judged wsX0_judged) := goodIn_app (goodIn_r _ [11, 12, 13, 9] rfl (by decide +kernel)) ggX0_makeDue_X0_judged
set_option maxRecDepth 20000 in
theorem ggX0_makePayment_X0_isClosed : GoodIn wsX0_makePayment wsX0_isClosed := goodIn_r _ [31, 8, 36, 37, 38, 39, 40, 41, 42, 43, 44, 45, 46, 47, 48, 49, 50, 51, 52, 53, 54, 55] rfl (by decide +kernel)
set_option maxRecDepth 20000 in
theorem gX0_makePayment_X0_isClosed : GoodIn wsX0_makePayment (wsV RX0 112 RX0 yX0_isClosed wsX0_isClosed) := goodIn_app (goodIn_r _ [27, 28, 29, 30] rfl (by decide +kernel)) ggX0_makePayment_X0_isClosed
set_option maxRecDepth 20000 in
theorem ggX0_makePayment_X0_remainingOf : GoodIn wsX0_makePayment wsX0_remainingOf := goodIn_r _ [35, 1, 3, 27, 28, 29, 30, 31, 8, 36, 37, 38, 39, 40, 41, 42, 43, 44, 45, 46, 47, 48, 49, 50, 51, 52, 53, 54, 55, 56, 57, 58, 59, 60, 61, 62, 63, 64, 65, 66, 67, 68, 69, 70, 71, 72] rfl (by decide +kernel)
set_option maxRecDepth 20000 in
theorem gX0_makePayment_X0_remainingOf : GoodIn wsX0_makePayment (wsV RX0 144 RX0 yX0_remainingOf wsX0_remainingOf) := goodIn_app (goodIn_r _ [32, 33, 34, 30] rfl (by decide +kernel)) ggX0_makePayment_X0_remainingOf
set_option maxRecDepth 20000 in
theorem ggX0_makePayment_X2_enter : GoodIn wsX0_makePayment wsX2_enter := goodIn_r _ [19, 20, 21, 22, 23, 24, 25, 26, 73, 74, 75] rfl (by decide +kernel)
set_option maxRecDepth 20000 in
theorem gX0_makePayment_X2_enter : GoodIn wsX0_makePayment (wsV RX0 151 RX2 yX2_enter wsX2_enter) := goodIn_app (goodIn_r _ [15, 16, 17, 18] rfl (by decide +kernel)) ggX0_makePayment_X2_enter
set_option maxRecDepth 20000 in
theorem ggX0_makePayment_X3_feeOf : GoodIn wsX0_makePayment wsX3_feeOf := goodIn_r _ [13, 14, 56, 57, 58, 59, 60, 61, 62, 63, 64, 65, 66, 67, 68, 69, 70, 71, 72] rfl (by decide +kernel)
set_option maxRecDepth 20000 in
theorem gX0_makePayment_X3_feeOf : GoodIn wsX0_makePayment (wsV RX0 155 RX3 yX3_feeOf wsX3_feeOf) := goodIn_app (goodIn_r _ [9, 10, 11, 12] rfl (by decide +kernel)) ggX0_makePayment_X3_feeOf
set_option maxRecDepth 20000 in
theorem ggX0_moneyToSplit_X0_availableMoney : GoodIn wsX0_moneyToSplit wsX0_availableMoney := goodIn_r _ [21, 22, 11, 1, 23, 24, 25, 26, 27, 28, 29, 30, 31, 32, 33, 34, 35, 36, 37, 38, 39, 40, 41, 42, 43, 44, 45, 46, 47, 48, 49, 50, 51, 52, 53, 54, 55, 56, 57, 58, 59] rfl (by decide +kernel)
set_option maxRecDepth 20000 in
theorem gX0_moneyToSplit_X0_availableMoney : GoodIn wsX0_moneyToSplit (wsV RX0 158 RX0 yX0_availableMoney wsX0_availableMoney) := goodIn_app (goodIn_r _ [18, 19, 20, 9] rfl (by decide +kernel)) ggX0_moneyToSplit_X0_availableMoney
set_option maxRecDepth 20000 in
theorem ggX0_moneyToSplit_X0_remainingOf : GoodIn wsX0_moneyToSplit wsX0_remainingOf := goodIn_r _ [10, 11, 12, 13, 14, 15, 9, 16, 17, 23, 24, 25, 26, 27, 28, 29, 30, 31, 32, 33, 34, 35, 36, 37, 38, 39, 40, 41, 42, 43, 44, 45, 46, 47, 48, 49, 50, 51, 52, 53, 54, 55, 56, 57, 58, 59] rfl (by decide +kernel)
set_option maxRecDepth 20000 in
theorem gX0_moneyToSplit_X0_remainingOf : GoodIn wsX0_moneyToSplit (wsV RX0 144 RX0 yX0_remainingOf wsX0_remainingOf) := goodIn_app (goodIn_r _ [6, 7, 8, 9] rfl (by decide +kernel)) ggX0_moneyToSplit_X0_remainingOf
set_option maxRecDepth 20000 in
theorem ggX0_mustBePaid_X0_payDay : GoodIn wsX0_mustBePaid wsX0_payDay := goodIn_r _ [7, 8, 9, 10, 11, 12, 13, 14, 15, 16, 17, 18, 19, 20, 21, 22, 23, 24, 25, 26, 27, 28, 29] rfl (by decide +kernel)
set_option maxRecDepth 20000 in
theorem gX0_mustBePaid_X0_payDay : GoodIn wsX0_mustBePaid (wsV RX0 148 RX0 yX0_payDay wsX0_payDay) := goodIn_app (goodIn_r _ [3, 4, 5, 6] rfl (by decide +kernel)) ggX0_mustBePaid_X0_payDay
set_option maxRecDepth 20000 in
theorem ggX0_payDue_X0_availableMoney : GoodIn wsX0_payDue wsX0_availableMoney := goodIn_r _ [20, 21, 1, 22, 56, 57, 58, 59, 60, 61, 62, 63, 64, 65, 66, 67, 68, 69, 70, 71, 72, 73, 74, 75, 76, 77, 78, 79, 80, 81, 82, 83, 84, 85, 86, 87, 88, 89, 90, 91, 92] rfl (by decide +kernel)
set_option maxRecDepth 20000 in
theorem gX0_payDue_X0_availableMoney : GoodIn wsX0_payDue (wsV RX0 158 RX0 yX0_availableMoney wsX0_availableMoney) := goodIn_app (goodIn_r _ [17, 18, 19, 9] rfl (by decide +kernel)) ggX0_payDue_X0_availableMoney
set_option maxRecDepth 20000 in
theorem ggX0_payDue_X0_makePayment : GoodIn wsX0_payDue wsX0_makePayment := goodIn_r _ [37, 1, 21, 11, 38, 39, 40, 27, 16, 41, 42, 43, 44, 45, 46, 47, 48, 49, 50, 51, 52, 53, 54, 55, 3, 4, 5, 12, 13, 14, 9, 15, 6, 7, 8, 10, 56, 57, 58, 59, 60, 61, 62, 63, 64, 65, 66, 67, 68, 69, 70, 71, 72, 73, 74, 75, 76, 77, 78, 79, 80, 81, 82, 83, 84, 85, 86, 87, 88, 89, 90, 91, 92, 93, 94, 95] rfl (by decide +kernel)
set_option maxRecDepth 20000 in
theorem gX0_payDue_X0_makePayment : GoodIn wsX0_payDue (wsV RX0 177 RX0 yX0_makePayment wsX0_makePayment) := goodIn_app (goodIn_r _ [34, 35, 36, 9] rfl (by decide +kernel)) ggX0_payDue_X0_makePayment
set_option maxRecDepth 20000 in
theorem ggX0_payDue_X0_mustBePaid : GoodIn wsX0_payDue wsX0_mustBePaid := goodIn_r _ [26, 16, 27, 28, 29, 30, 9, 31, 32, 33, 56, 57, 58, 59, 60, 61, 62, 63, 64, 65, 66, 67, 68, 69, 70, 71, 72, 73, 74, 75] rfl (by decide +kernel)
set_option maxRecDepth 20000 in
theorem gX0_payDue_X0_mustBePaid : GoodIn wsX0_payDue (wsV RX0 141 RX0 yX0_mustBePaid wsX0_mustBePaid) := goodIn_app (goodIn_r _ [23, 24, 25, 9] rfl (by decide +kernel)) ggX0_payDue_X0_mustBePaid
set_option maxRecDepth 20000 in
theorem ggX0_payDue_X0_remainingOf : GoodIn wsX0_payDue wsX0_remainingOf := goodIn_r _ [10, 1, 11, 12, 13, 14, 9, 15, 16, 56, 57, 58, 59, 60, 61, 62, 63, 64, 65, 66, 67, 68, 69, 70, 71, 72, 73, 74, 75, 76, 77, 78, 79, 80, 81, 82, 83, 84, 85, 86, 87, 88, 89, 90, 91, 92] rfl (by decide +kernel)
set_option maxRecDepth 20000 in
theorem gX0_payDue_X0_remainingOf : GoodIn wsX0_payDue (wsV RX0 144 RX0 yX0_remainingOf wsX0_remainingOf) := goodIn_app (goodIn_r _ [6, 7, 8, 9] rfl (by decide +kernel)) ggX0_payDue_X0_remainingOf
set_option maxRecDepth 20000 in
theorem ggX0_payOutInterest_X2_enter : GoodIn wsX0_payOutInterest wsX2_enter := goodIn_r _ [8, 9, 10, 11, 12, 13, 14, 15, 36, 37, 38] rfl (by decide +kernel)
set_option maxRecDepth 20000 in
theorem gX0_payOutInterest_X2_enter : GoodIn wsX0_payOutInterest (wsV RX0 151 RX2 yX2_enter wsX2_enter) := goodIn_app (goodIn_r _ [4, 5, 6, 7] rfl (by decide +kernel)) ggX0_payOutInterest_X2_enter
set_option maxRecDepth 20000 in
theorem ggX0_refund_X2_enter : GoodIn wsX0_refund wsX2_enter := goodIn_r _ [9, 10, 11, 12, 13, 14, 15, 16, 37, 38, 39] rfl (by decide +kernel)
set_option maxRecDepth 20000 in
theorem gX0_refund_X2_enter : GoodIn wsX0_refund (wsV RX0 151 RX2 yX2_enter wsX2_enter) := goodIn_app (goodIn_r _ [5, 6, 7, 8] rfl (by decide +kernel)) ggX0_refund_X2_enter
set_option maxRecDepth 20000 in
theorem ggX0_remainingOf_X0_isClosed : GoodIn wsX0_remainingOf wsX0_isClosed := goodIn_r _ [7, 8, 9, 10, 11, 12, 13, 14, 15, 16, 17, 18, 19, 20, 21, 22, 23, 24, 25, 26, 27, 28] rfl (by decide +kernel)
set_option maxRecDepth 20000 in
theorem gX0_remainingOf_X0_isClosed : GoodIn wsX0_remainingOf (wsV RX0 112 RX0 yX0_isClosed wsX0_isClosed) := goodIn_app (goodIn_r _ [3, 4, 5, 6] rfl (by decide +kernel)) ggX0_remainingOf_X0_isClosed
set_option maxRecDepth 20000 in
theorem ggX0_takeDeposit_X2_enter : GoodIn wsX0_takeDeposit wsX2_enter := goodIn_r _ [9, 10, 11, 12, 13, 14, 15, 16, 37, 38, 39] rfl (by decide +kernel)
set_option maxRecDepth 20000 in
theorem gX0_takeDeposit_X2_enter : GoodIn wsX0_takeDeposit (wsV RX0 151 RX2 yX2_enter wsX2_enter) := goodIn_app (goodIn_r _ [5, 6, 7, 8] rfl (by decide +kernel)) ggX0_takeDeposit_X2_enter
set_option maxRecDepth 20000 in
theorem ggX10_depositStatement_X10_advance : GoodIn wsX10_depositStatement wsX10_advance := goodIn_r _ [17, 18, 12, 19, 20, 10, 21, 22, 23, 24, 25, 26, 8, 27, 28, 29, 30, 31, 32, 33, 34, 35, 36, 37, 38, 39, 40, 51, 52, 53, 54, 55, 56, 57, 58, 59, 60, 61, 62, 63, 64, 65, 66, 67, 68, 69, 70, 71, 72, 73, 74, 75, 76, 77, 78, 79, 80, 81, 82, 83, 84, 85, 86, 87, 88, 89] rfl (by decide +kernel)
set_option maxRecDepth 20000 in
theorem gX10_depositStatement_X10_advance : GoodIn wsX10_depositStatement (wsV RX10 159 RX10 yX10_advance wsX10_advance) := goodIn_app (goodIn_r _ [14, 15, 16, 8] rfl (by decide +kernel)) ggX10_depositStatement_X10_advance
set_option maxRecDepth 20000 in
theorem ggX10_depositStatement_X10_enter : GoodIn wsX10_depositStatement wsX10_enter := goodIn_r _ [50] rfl (by decide +kernel)
set_option maxRecDepth 20000 in
theorem gX10_depositStatement_X10_enter : GoodIn wsX10_depositStatement (va_wsS RX10 229 yX10_enter wsX10_enter) := goodIn_app (goodIn_r _ [48, 49, 8] rfl (by decide +kernel)) ggX10_depositStatement_X10_enter
set_option maxRecDepth 20000 in
theorem ggX10_depositStatement_X10_fail : GoodIn wsX10_depositStatement wsX10_fail := goodIn_r _ [9, 10, 11, 12, 13, 51, 52, 53, 54, 55, 56, 57, 58, 59, 60, 61, 62, 63, 64, 65, 66, 67, 68, 69, 70, 71, 72, 73, 74, 75, 76, 77, 78, 79, 80, 81, 82, 83, 84, 85, 86, 87, 88, 89] rfl (by decide +kernel)
set_option maxRecDepth 20000 in
theorem gX10_depositStatement_X10_fail : GoodIn wsX10_depositStatement (wsV RX10 149 RX10 yX10_fail wsX10_fail) := goodIn_app (goodIn_r _ [5, 6, 7, 8] rfl (by decide +kernel)) ggX10_depositStatement_X10_fail
set_option maxRecDepth 20000 in
theorem ggX10_depositStatement_X10_number : GoodIn wsX10_depositStatement wsX10_number := goodIn_r _ [44, 10, 23, 4, 5, 6, 7, 8, 9, 11, 12, 13, 45, 46, 47, 14, 15, 16, 17, 18, 19, 20, 21, 22, 24, 25, 26, 27, 28, 29, 30, 31, 32, 33, 34, 35, 36, 37, 38, 39, 40, 51, 52, 53, 54, 55, 56, 57, 58, 59, 60, 61, 62, 63, 64, 65, 66, 67, 68, 69, 70, 71, 72, 73, 74, 75, 76, 77, 78, 79, 80, 81, 82, 83, 84, 85, 86, 87, 88, 89] rfl (by decide +kernel)
set_option maxRecDepth 20000 in
theorem gX10_depositStatement_X10_number : GoodIn wsX10_depositStatement (wsV RX10 163 RX10 yX10_number wsX10_number) := goodIn_app (goodIn_r _ [41, 42, 43, 8] rfl (by decide +kernel)) ggX10_depositStatement_X10_number
set_option maxRecDepth 20000 in
theorem ggX10_resolve_X10_canSplit : GoodIn wsX10_resolve wsX10_canSplit := goodIn_r _ [12, 13, 14, 15, 16, 3, 17, 18, 6, 7, 8, 19, 20, 21, 22, 23, 24, 25, 26, 79, 80, 81, 82, 83, 84, 85, 86, 87, 88, 89, 90, 91, 92, 93, 94, 95, 96, 97, 98, 99, 100, 101, 102, 103, 104, 105, 106, 107, 108, 109, 110, 111, 112, 113, 114, 115, 116, 117] rfl (by decide +kernel)
set_option maxRecDepth 20000 in
theorem gX10_resolve_X10_canSplit : GoodIn wsX10_resolve (wsV RX10 381 RX10 yX10_canSplit wsX10_canSplit) := goodIn_app (goodIn_r _ [9, 10, 11, 3] rfl (by decide +kernel)) ggX10_resolve_X10_canSplit
set_option maxRecDepth 20000 in
theorem ggX10_resolve_X10_isShare : GoodIn wsX10_resolve wsX10_isShare := goodIn_r _ [4, 5, 6, 7, 3, 8] rfl (by decide +kernel)
set_option maxRecDepth 20000 in
theorem gX10_resolve_X10_isShare : GoodIn wsX10_resolve (va_wsS RX10 378 yX10_isShare wsX10_isShare) := goodIn_app (goodIn_r _ [1, 2, 3] rfl (by decide +kernel)) ggX10_resolve_X10_isShare
set_option maxRecDepth 20000 in
theorem ggX10_resolve_X10_makePayment : GoodIn wsX10_resolve wsX10_makePayment := goodIn_r _ [66, 18, 67, 68, 69, 3, 70, 71, 23, 24, 25, 26, 59, 60, 61, 62, 72, 73, 74, 79, 80, 81, 82, 83, 84, 85, 86, 87, 88, 89, 90, 91, 92, 93, 94, 95, 96, 97, 98, 99, 100, 101, 102, 103, 104, 105, 106, 107, 108, 109, 110, 111, 112, 113, 114, 115, 116, 117] rfl (by decide +kernel)
set_option maxRecDepth 20000 in
theorem gX10_resolve_X10_makePayment : GoodIn wsX10_resolve (wsV RX10 309 RX10 yX10_makePayment wsX10_makePayment) := goodIn_app (goodIn_r _ [63, 64, 65, 3] rfl (by decide +kernel)) ggX10_resolve_X10_makePayment
set_option maxRecDepth 20000 in
theorem ggX10_resolve_X10_refund : GoodIn wsX10_resolve wsX10_refund := goodIn_r _ [78, 18, 72, 73, 3, 74, 79, 80, 81, 82, 83, 84, 85, 86, 87, 88, 89, 90, 91, 92, 93, 94, 95, 96, 97, 98, 99, 100, 101, 102, 103, 104, 105, 106, 107, 108, 109, 110, 111, 112, 113, 114, 115, 116, 117] rfl (by decide +kernel)
set_option maxRecDepth 20000 in
theorem gX10_resolve_X10_refund : GoodIn wsX10_resolve (wsV RX10 401 RX10 yX10_refund wsX10_refund) := goodIn_app (goodIn_r _ [75, 76, 77, 3] rfl (by decide +kernel)) ggX10_resolve_X10_refund
set_option maxRecDepth 20000 in
theorem ggX10_resolve_X10_remember : GoodIn wsX10_resolve wsX10_remember := goodIn_r _ [30, 31, 32, 33, 18, 34, 79, 80, 81, 82, 83, 84, 85, 86, 87, 88, 89, 90, 91, 92, 93, 94, 95, 96, 97, 98, 99, 100, 101, 102, 103, 104, 105, 106, 107, 108, 109, 110, 111, 112, 113, 114, 115, 116, 117] rfl (by decide +kernel)
set_option maxRecDepth 20000 in
theorem gX10_resolve_X10_remember : GoodIn wsX10_resolve (wsV RX10 395 RX10 yX10_remember wsX10_remember) := goodIn_app (goodIn_r _ [27, 28, 29, 3] rfl (by decide +kernel)) ggX10_resolve_X10_remember
set_option maxRecDepth 20000 in
theorem ggX10_resolve_X10_set : GoodIn wsX10_resolve wsX10_set := goodIn_r _ [62, 18, 79, 80, 81, 82, 83, 84, 85, 86, 87, 88, 89, 90, 91, 92, 93, 94, 95, 96, 97, 98, 99, 100, 101, 102, 103, 104, 105, 106, 107, 108, 109, 110, 111, 112, 113, 114, 115, 116, 117] rfl (by decide +kernel)
set_option maxRecDepth 20000 in
theorem gX10_resolve_X10_set : GoodIn wsX10_resolve (wsV RX10 273 RX10 yX10_set wsX10_set) := goodIn_app (goodIn_r _ [59, 60, 61, 3] rfl (by decide +kernel)) ggX10_resolve_X10_set
set_option maxRecDepth 20000 in
theorem ggX10_resolve_X10_splitBy : GoodIn wsX10_resolve wsX10_splitBy := goodIn_r _ [58, 5, 35, 36, 37, 3, 38, 39, 40, 41, 42, 43, 44, 45, 46, 47, 48, 49, 50, 23, 24, 25, 26, 18, 51, 52, 53, 54, 79, 80, 81, 82, 83, 84, 85, 86, 87, 88, 89, 90, 91, 92, 93, 94, 95, 96, 97, 98, 99, 100, 101, 102, 103, 104, 105, 106, 107, 108, 109, 110, 111, 112, 113, 114, 115, 116, 117] rfl (by decide +kernel)
set_option maxRecDepth 20000 in
theorem gX10_resolve_X10_splitBy : GoodIn wsX10_resolve (wsV RX10 385 RX10 yX10_splitBy wsX10_splitBy) := goodIn_app (goodIn_r _ [55, 56, 57, 3] rfl (by decide +kernel)) ggX10_resolve_X10_splitBy
set_option maxRecDepth 20000 in
theorem ggX10_resolve_X10_splitSum : GoodIn wsX10_resolve wsX10_splitSum := goodIn_r _ [38, 39, 40, 41, 42, 43, 44, 45, 3, 46, 47, 48, 49, 50, 23, 24, 25, 26, 18, 51, 52, 53, 54, 79, 80, 81, 82, 83, 84, 85, 86, 87, 88, 89, 90, 91, 92, 93, 94, 95, 96, 97, 98, 99, 100, 101, 102, 103, 104, 105, 106, 107, 108, 109, 110, 111, 112, 113, 114, 115, 116, 117] rfl (by decide +kernel)
set_option maxRecDepth 20000 in
theorem gX10_resolve_X10_splitSum : GoodIn wsX10_resolve (wsV RX10 375 RX10 yX10_splitSum wsX10_splitSum) := goodIn_app (goodIn_r _ [35, 36, 37, 3] rfl (by decide +kernel)) ggX10_resolve_X10_splitSum
set_option maxRecDepth 20000 in
theorem ggX1_remember_X0_copyFrom : GoodIn wsX1_remember wsX0_copyFrom := goodIn_r _ [12, 13, 14, 15, 16, 17, 18, 19, 20, 21, 22, 23, 24, 25, 26, 27, 28, 29, 30, 31, 32, 33, 34, 35, 36, 37, 38, 39, 40, 41, 42, 43, 44, 45, 49, 50, 51, 52, 53, 54, 55, 56, 57, 58, 59, 60, 61, 62, 63, 64, 65, 66, 67, 68, 69, 70, 71] rfl (by decide +kernel)
set_option maxRecDepth 20000 in
theorem gX1_remember_X0_copyFrom : GoodIn wsX1_remember (wsV RX1 24 RX0 yX0_copyFrom wsX0_copyFrom) := goodIn_app (goodIn_r _ [8, 9, 10, 11] rfl (by decide +kernel)) ggX1_remember_X0_copyFrom
set_option maxRecDepth 20000 in
theorem ggX3_conditionHolds_X3_contains : GoodIn wsX3_conditionHolds wsX3_contains := goodIn_r _ [14] rfl (by decide +kernel)
set_option maxRecDepth 20000 in
theorem gX3_conditionHolds_X3_contains : GoodIn wsX3_conditionHolds (va_wsS RX3 82 yX3_contains wsX3_contains) := goodIn_app (goodIn_r _ [12, 13, 7] rfl (by decide +kernel)) ggX3_conditionHolds_X3_contains
set_option maxRecDepth 20000 in
theorem ggX3_conditionHolds_X3_firstStep : GoodIn wsX3_conditionHolds wsX3_firstStep := goodIn_r _ [8, 1, 15, 16, 17, 18, 19, 20, 21, 22, 23, 24, 25, 26, 27, 28, 29, 30, 31] rfl (by decide +kernel)
set_option maxRecDepth 20000 in
theorem gX3_conditionHolds_X3_firstStep : GoodIn wsX3_conditionHolds (wsV RX3 72 RX3 yX3_firstStep wsX3_firstStep) := goodIn_app (goodIn_r _ [4, 5, 6, 7] rfl (by decide +kernel)) ggX3_conditionHolds_X3_firstStep
set_option maxRecDepth 20000 in
theorem ggX3_conditionHolds_X3_withAnswer : GoodIn wsX3_conditionHolds wsX3_withAnswer := goodIn_r _ [11] rfl (by decide +kernel)
set_option maxRecDepth 20000 in
theorem gX3_conditionHolds_X3_withAnswer : GoodIn wsX3_conditionHolds (va_wsS RX3 78 yX3_withAnswer wsX3_withAnswer) := goodIn_app (goodIn_r _ [9, 10, 7] rfl (by decide +kernel)) ggX3_conditionHolds_X3_withAnswer
theorem dX0_availableMoney_0 : decode cX0_availableMoney 0 = .ok (.aload_n 0, 1) := by decide +kernel
theorem dX0_availableMoney_1 : decode cX0_availableMoney 1 = .ok (.getfield 47, 3) := by decide +kernel
theorem dX0_availableMoney_4 : decode cX0_availableMoney 4 = .ok (.istore_n 1, 1) := by decide +kernel
theorem dX0_availableMoney_5 : decode cX0_availableMoney 5 = .ok (.iconst 0, 1) := by decide +kernel
theorem dX0_availableMoney_6 : decode cX0_availableMoney 6 = .ok (.istore_n 2, 1) := by decide +kernel
theorem dX0_availableMoney_7 : decode cX0_availableMoney 7 = .ok (.iload_n 2, 1) := by decide +kernel
theorem dX0_availableMoney_8 : decode cX0_availableMoney 8 = .ok (.aload_n 0, 1) := by decide +kernel
theorem dX0_availableMoney_9 : decode cX0_availableMoney 9 = .ok (.getfield 31, 3) := by decide +kernel
theorem dX0_availableMoney_12 : decode cX0_availableMoney 12 = .ok (.getfield 109, 3) := by decide +kernel
theorem dX0_availableMoney_15 : decode cX0_availableMoney 15 = .ok (.if_icmp .ge 18, 3) := by decide +kernel
theorem dX0_availableMoney_18 : decode cX0_availableMoney 18 = .ok (.iload_n 1, 1) := by decide +kernel
theorem dX0_availableMoney_19 : decode cX0_availableMoney 19 = .ok (.aload_n 0, 1) := by decide +kernel
theorem dX0_availableMoney_20 : decode cX0_availableMoney 20 = .ok (.getfield 25, 3) := by decide +kernel
theorem dX0_availableMoney_23 : decode cX0_availableMoney 23 = .ok (.iload_n 2, 1) := by decide +kernel
theorem dX0_availableMoney_24 : decode cX0_availableMoney 24 = .ok (.iaload, 1) := by decide +kernel
theorem dX0_availableMoney_25 : decode cX0_availableMoney 25 = .ok (.isub, 1) := by decide +kernel
theorem dX0_availableMoney_26 : decode cX0_availableMoney 26 = .ok (.istore_n 1, 1) := by decide +kernel
theorem dX0_availableMoney_27 : decode cX0_availableMoney 27 = .ok (.iinc 2 1, 3) := by decide +kernel
theorem dX0_availableMoney_30 : decode cX0_availableMoney 30 = .ok (.goto (-23), 3) := by decide +kernel
theorem dX0_availableMoney_33 : decode cX0_availableMoney 33 = .ok (.iload_n 1, 1) := by decide +kernel
theorem dX0_availableMoney_34 : decode cX0_availableMoney 34 = .ok (.ireturn, 1) := by decide +kernel
theorem dX0_copyFrom_0 : decode cX0_copyFrom 0 = .ok (.aload_n 0, 1) := by decide +kernel
theorem dX0_copyFrom_1 : decode cX0_copyFrom 1 = .ok (.aload_n 1, 1) := by decide +kernel
theorem dX0_copyFrom_2 : decode cX0_copyFrom 2 = .ok (.getfield 31, 3) := by decide +kernel
theorem dX0_copyFrom_5 : decode cX0_copyFrom 5 = .ok (.putfield 31, 3) := by decide +kernel
theorem dX0_copyFrom_8 : decode cX0_copyFrom 8 = .ok (.aload_n 0, 1) := by decide +kernel
theorem dX0_copyFrom_9 : decode cX0_copyFrom 9 = .ok (.getfield 12, 3) := by decide +kernel
theorem dX0_copyFrom_12 : decode cX0_copyFrom 12 = .ok (.aload_n 1, 1) := by decide +kernel
theorem dX0_copyFrom_13 : decode cX0_copyFrom 13 = .ok (.getfield 12, 3) := by decide +kernel
theorem dX0_copyFrom_16 : decode cX0_copyFrom 16 = .ok (.invokevirtual 99, 3) := by decide +kernel
theorem dX0_copyFrom_19 : decode cX0_copyFrom 19 = .ok (.aload_n 1, 1) := by decide +kernel
theorem dX0_copyFrom_20 : decode cX0_copyFrom 20 = .ok (.getfield 18, 3) := by decide +kernel
theorem dX0_copyFrom_23 : decode cX0_copyFrom 23 = .ok (.iconst 0, 1) := by decide +kernel
theorem dX0_copyFrom_24 : decode cX0_copyFrom 24 = .ok (.aload_n 0, 1) := by decide +kernel
theorem dX0_copyFrom_25 : decode cX0_copyFrom 25 = .ok (.getfield 18, 3) := by decide +kernel
theorem dX0_copyFrom_28 : decode cX0_copyFrom 28 = .ok (.iconst 0, 1) := by decide +kernel
theorem dX0_copyFrom_29 : decode cX0_copyFrom 29 = .ok (.bipush 10, 2) := by decide +kernel
theorem dX0_copyFrom_31 : decode cX0_copyFrom 31 = .ok (.invokestatic 103, 3) := by decide +kernel
theorem dX0_copyFrom_34 : decode cX0_copyFrom 34 = .ok (.aload_n 1, 1) := by decide +kernel
theorem dX0_copyFrom_35 : decode cX0_copyFrom 35 = .ok (.getfield 22, 3) := by decide +kernel
theorem dX0_copyFrom_38 : decode cX0_copyFrom 38 = .ok (.iconst 0, 1) := by decide +kernel
theorem dX0_copyFrom_39 : decode cX0_copyFrom 39 = .ok (.aload_n 0, 1) := by decide +kernel
theorem dX0_copyFrom_40 : decode cX0_copyFrom 40 = .ok (.getfield 22, 3) := by decide +kernel
theorem dX0_copyFrom_43 : decode cX0_copyFrom 43 = .ok (.iconst 0, 1) := by decide +kernel
theorem dX0_copyFrom_44 : decode cX0_copyFrom 44 = .ok (.bipush 10, 2) := by decide +kernel
theorem dX0_copyFrom_46 : decode cX0_copyFrom 46 = .ok (.invokestatic 103, 3) := by decide +kernel
theorem dX0_copyFrom_49 : decode cX0_copyFrom 49 = .ok (.aload_n 1, 1) := by decide +kernel
theorem dX0_copyFrom_50 : decode cX0_copyFrom 50 = .ok (.getfield 25, 3) := by decide +kernel
theorem dX0_copyFrom_53 : decode cX0_copyFrom 53 = .ok (.iconst 0, 1) := by decide +kernel
theorem dX0_copyFrom_54 : decode cX0_copyFrom 54 = .ok (.aload_n 0, 1) := by decide +kernel
theorem dX0_copyFrom_55 : decode cX0_copyFrom 55 = .ok (.getfield 25, 3) := by decide +kernel
theorem dX0_copyFrom_58 : decode cX0_copyFrom 58 = .ok (.iconst 0, 1) := by decide +kernel
theorem dX0_copyFrom_59 : decode cX0_copyFrom 59 = .ok (.bipush 10, 2) := by decide +kernel
theorem dX0_copyFrom_61 : decode cX0_copyFrom 61 = .ok (.invokestatic 103, 3) := by decide +kernel
theorem dX0_copyFrom_64 : decode cX0_copyFrom 64 = .ok (.aload_n 1, 1) := by decide +kernel
theorem dX0_copyFrom_65 : decode cX0_copyFrom 65 = .ok (.getfield 28, 3) := by decide +kernel
theorem dX0_copyFrom_68 : decode cX0_copyFrom 68 = .ok (.iconst 0, 1) := by decide +kernel
theorem dX0_copyFrom_69 : decode cX0_copyFrom 69 = .ok (.aload_n 0, 1) := by decide +kernel
theorem dX0_copyFrom_70 : decode cX0_copyFrom 70 = .ok (.getfield 28, 3) := by decide +kernel
theorem dX0_copyFrom_73 : decode cX0_copyFrom 73 = .ok (.iconst 0, 1) := by decide +kernel
theorem dX0_copyFrom_74 : decode cX0_copyFrom 74 = .ok (.bipush 10, 2) := by decide +kernel
theorem dX0_copyFrom_76 : decode cX0_copyFrom 76 = .ok (.invokestatic 103, 3) := by decide +kernel
theorem dX0_copyFrom_79 : decode cX0_copyFrom 79 = .ok (.aload_n 0, 1) := by decide +kernel
theorem dX0_copyFrom_80 : decode cX0_copyFrom 80 = .ok (.aload_n 1, 1) := by decide +kernel
theorem dX0_copyFrom_81 : decode cX0_copyFrom 81 = .ok (.getfield 40, 3) := by decide +kernel
theorem dX0_copyFrom_84 : decode cX0_copyFrom 84 = .ok (.putfield 40, 3) := by decide +kernel
theorem dX0_copyFrom_87 : decode cX0_copyFrom 87 = .ok (.aload_n 0, 1) := by decide +kernel
theorem dX0_copyFrom_88 : decode cX0_copyFrom 88 = .ok (.aload_n 1, 1) := by decide +kernel
theorem dX0_copyFrom_89 : decode cX0_copyFrom 89 = .ok (.getfield 44, 3) := by decide +kernel
theorem dX0_copyFrom_92 : decode cX0_copyFrom 92 = .ok (.putfield 44, 3) := by decide +kernel
theorem dX0_copyFrom_95 : decode cX0_copyFrom 95 = .ok (.aload_n 0, 1) := by decide +kernel
theorem dX0_copyFrom_96 : decode cX0_copyFrom 96 = .ok (.aload_n 1, 1) := by decide +kernel
theorem dX0_copyFrom_97 : decode cX0_copyFrom 97 = .ok (.getfield 47, 3) := by decide +kernel
theorem dX0_copyFrom_100 : decode cX0_copyFrom 100 = .ok (.putfield 47, 3) := by decide +kernel
theorem dX0_copyFrom_103 : decode cX0_copyFrom 103 = .ok (.aload_n 0, 1) := by decide +kernel
theorem dX0_copyFrom_104 : decode cX0_copyFrom 104 = .ok (.aload_n 1, 1) := by decide +kernel
theorem dX0_copyFrom_105 : decode cX0_copyFrom 105 = .ok (.getfield 50, 3) := by decide +kernel
theorem dX0_copyFrom_108 : decode cX0_copyFrom 108 = .ok (.putfield 50, 3) := by decide +kernel
theorem dX0_copyFrom_111 : decode cX0_copyFrom 111 = .ok (.aload_n 0, 1) := by decide +kernel
theorem dX0_copyFrom_112 : decode cX0_copyFrom 112 = .ok (.aload_n 1, 1) := by decide +kernel
theorem dX0_copyFrom_113 : decode cX0_copyFrom 113 = .ok (.getfield 54, 3) := by decide +kernel
theorem dX0_copyFrom_116 : decode cX0_copyFrom 116 = .ok (.putfield 54, 3) := by decide +kernel
theorem dX0_copyFrom_119 : decode cX0_copyFrom 119 = .ok (.aload_n 0, 1) := by decide +kernel
theorem dX0_copyFrom_120 : decode cX0_copyFrom 120 = .ok (.aload_n 1, 1) := by decide +kernel
theorem dX0_copyFrom_121 : decode cX0_copyFrom 121 = .ok (.getfield 57, 3) := by decide +kernel
theorem dX0_copyFrom_124 : decode cX0_copyFrom 124 = .ok (.putfield 57, 3) := by decide +kernel
theorem dX0_copyFrom_127 : decode cX0_copyFrom 127 = .ok (.aload_n 0, 1) := by decide +kernel
theorem dX0_copyFrom_128 : decode cX0_copyFrom 128 = .ok (.aload_n 1, 1) := by decide +kernel
theorem dX0_copyFrom_129 : decode cX0_copyFrom 129 = .ok (.getfield 60, 3) := by decide +kernel
theorem dX0_copyFrom_132 : decode cX0_copyFrom 132 = .ok (.putfield 60, 3) := by decide +kernel
theorem dX0_copyFrom_135 : decode cX0_copyFrom 135 = .ok (.aload_n 0, 1) := by decide +kernel
theorem dX0_copyFrom_136 : decode cX0_copyFrom 136 = .ok (.aload_n 1, 1) := by decide +kernel
theorem dX0_copyFrom_137 : decode cX0_copyFrom 137 = .ok (.getfield 63, 3) := by decide +kernel
theorem dX0_copyFrom_140 : decode cX0_copyFrom 140 = .ok (.putfield 63, 3) := by decide +kernel
theorem dX0_copyFrom_143 : decode cX0_copyFrom 143 = .ok (.aload_n 0, 1) := by decide +kernel
theorem dX0_copyFrom_144 : decode cX0_copyFrom 144 = .ok (.aload_n 1, 1) := by decide +kernel
theorem dX0_copyFrom_145 : decode cX0_copyFrom 145 = .ok (.getfield 66, 3) := by decide +kernel
theorem dX0_copyFrom_148 : decode cX0_copyFrom 148 = .ok (.putfield 66, 3) := by decide +kernel
theorem dX0_copyFrom_151 : decode cX0_copyFrom 151 = .ok (.aload_n 0, 1) := by decide +kernel
theorem dX0_copyFrom_152 : decode cX0_copyFrom 152 = .ok (.aload_n 1, 1) := by decide +kernel
theorem dX0_copyFrom_153 : decode cX0_copyFrom 153 = .ok (.getfield 74, 3) := by decide +kernel
theorem dX0_copyFrom_156 : decode cX0_copyFrom 156 = .ok (.putfield 74, 3) := by decide +kernel
theorem dX0_copyFrom_159 : decode cX0_copyFrom 159 = .ok (.aload_n 0, 1) := by decide +kernel
theorem dX0_copyFrom_160 : decode cX0_copyFrom 160 = .ok (.aload_n 1, 1) := by decide +kernel
theorem dX0_copyFrom_161 : decode cX0_copyFrom 161 = .ok (.getfield 78, 3) := by decide +kernel
theorem dX0_copyFrom_164 : decode cX0_copyFrom 164 = .ok (.putfield 78, 3) := by decide +kernel
theorem dX0_copyFrom_167 : decode cX0_copyFrom 167 = .ok (.aload_n 0, 1) := by decide +kernel
theorem dX0_copyFrom_168 : decode cX0_copyFrom 168 = .ok (.aload_n 1, 1) := by decide +kernel
theorem dX0_copyFrom_169 : decode cX0_copyFrom 169 = .ok (.getfield 82, 3) := by decide +kernel
theorem dX0_copyFrom_172 : decode cX0_copyFrom 172 = .ok (.putfield 82, 3) := by decide +kernel
theorem dX0_copyFrom_175 : decode cX0_copyFrom 175 = .ok (.aload_n 0, 1) := by decide +kernel
theorem dX0_copyFrom_176 : decode cX0_copyFrom 176 = .ok (.aload_n 1, 1) := by decide +kernel
theorem dX0_copyFrom_177 : decode cX0_copyFrom 177 = .ok (.getfield 83, 3) := by decide +kernel
theorem dX0_copyFrom_180 : decode cX0_copyFrom 180 = .ok (.putfield 83, 3) := by decide +kernel
theorem dX0_copyFrom_183 : decode cX0_copyFrom 183 = .ok (.aload_n 0, 1) := by decide +kernel
theorem dX0_copyFrom_184 : decode cX0_copyFrom 184 = .ok (.aload_n 1, 1) := by decide +kernel
theorem dX0_copyFrom_185 : decode cX0_copyFrom 185 = .ok (.getfield 86, 3) := by decide +kernel
theorem dX0_copyFrom_188 : decode cX0_copyFrom 188 = .ok (.putfield 86, 3) := by decide +kernel
theorem dX0_copyFrom_191 : decode cX0_copyFrom 191 = .ok (.return_, 1) := by decide +kernel
theorem dX0_creditInterest_0 : decode cX0_creditInterest 0 = .ok (.ldc2_w 195, 3) := by decide +kernel
theorem dX0_creditInterest_3 : decode cX0_creditInterest 3 = .ok (.aload_n 0, 1) := by decide +kernel
theorem dX0_creditInterest_4 : decode cX0_creditInterest 4 = .ok (.getfield 78, 3) := by decide +kernel
theorem dX0_creditInterest_7 : decode cX0_creditInterest 7 = .ok (.i2l, 1) := by decide +kernel
theorem dX0_creditInterest_8 : decode cX0_creditInterest 8 = .ok (.lmul, 1) := by decide +kernel
theorem dX0_creditInterest_9 : decode cX0_creditInterest 9 = .ok (.lstore_n 1, 1) := by decide +kernel
theorem dX0_creditInterest_10 : decode cX0_creditInterest 10 = .ok (.lload_n 1, 1) := by decide +kernel
theorem dX0_creditInterest_11 : decode cX0_creditInterest 11 = .ok (.lconst 0, 1) := by decide +kernel
theorem dX0_creditInterest_12 : decode cX0_creditInterest 12 = .ok (.lcmp, 1) := by decide +kernel
theorem dX0_creditInterest_13 : decode cX0_creditInterest 13 = .ok (.ifCond .gt 4, 3) := by decide +kernel
theorem dX0_creditInterest_16 : decode cX0_creditInterest 16 = .ok (.return_, 1) := by decide +kernel
theorem dX0_creditInterest_17 : decode cX0_creditInterest 17 = .ok (.aload_n 0, 1) := by decide +kernel
theorem dX0_creditInterest_18 : decode cX0_creditInterest 18 = .ok (.getfield 57, 3) := by decide +kernel
theorem dX0_creditInterest_21 : decode cX0_creditInterest 21 = .ok (.lload_n 1, 1) := by decide +kernel
theorem dX0_creditInterest_22 : decode cX0_creditInterest 22 = .ok (.ldiv, 1) := by decide +kernel
theorem dX0_creditInterest_23 : decode cX0_creditInterest 23 = .ok (.lstore_n 3, 1) := by decide +kernel
theorem dX0_creditInterest_24 : decode cX0_creditInterest 24 = .ok (.aload_n 0, 1) := by decide +kernel
theorem dX0_creditInterest_25 : decode cX0_creditInterest 25 = .ok (.dup, 1) := by decide +kernel
theorem dX0_creditInterest_26 : decode cX0_creditInterest 26 = .ok (.getfield 57, 3) := by decide +kernel
theorem dX0_creditInterest_29 : decode cX0_creditInterest 29 = .ok (.lload_n 3, 1) := by decide +kernel
theorem dX0_creditInterest_30 : decode cX0_creditInterest 30 = .ok (.lload_n 1, 1) := by decide +kernel
theorem dX0_creditInterest_31 : decode cX0_creditInterest 31 = .ok (.lmul, 1) := by decide +kernel
theorem dX0_creditInterest_32 : decode cX0_creditInterest 32 = .ok (.lsub, 1) := by decide +kernel
theorem dX0_creditInterest_33 : decode cX0_creditInterest 33 = .ok (.putfield 57, 3) := by decide +kernel
theorem dX0_creditInterest_36 : decode cX0_creditInterest 36 = .ok (.aload_n 0, 1) := by decide +kernel
theorem dX0_creditInterest_37 : decode cX0_creditInterest 37 = .ok (.dup, 1) := by decide +kernel
theorem dX0_creditInterest_38 : decode cX0_creditInterest 38 = .ok (.getfield 50, 3) := by decide +kernel
theorem dX0_creditInterest_41 : decode cX0_creditInterest 41 = .ok (.lload_n 3, 1) := by decide +kernel
theorem dX0_creditInterest_42 : decode cX0_creditInterest 42 = .ok (.ladd, 1) := by decide +kernel
theorem dX0_creditInterest_43 : decode cX0_creditInterest 43 = .ok (.putfield 50, 3) := by decide +kernel
theorem dX0_creditInterest_46 : decode cX0_creditInterest 46 = .ok (.aload_n 0, 1) := by decide +kernel
theorem dX0_creditInterest_47 : decode cX0_creditInterest 47 = .ok (.dup, 1) := by decide +kernel
theorem dX0_creditInterest_48 : decode cX0_creditInterest 48 = .ok (.getfield 54, 3) := by decide +kernel
theorem dX0_creditInterest_51 : decode cX0_creditInterest 51 = .ok (.lload_n 3, 1) := by decide +kernel
theorem dX0_creditInterest_52 : decode cX0_creditInterest 52 = .ok (.ladd, 1) := by decide +kernel
theorem dX0_creditInterest_53 : decode cX0_creditInterest 53 = .ok (.putfield 54, 3) := by decide +kernel
theorem dX0_creditInterest_56 : decode cX0_creditInterest 56 = .ok (.aload_n 0, 1) := by decide +kernel
theorem dX0_creditInterest_57 : decode cX0_creditInterest 57 = .ok (.getfield 12, 3) := by decide +kernel
theorem dX0_creditInterest_60 : decode cX0_creditInterest 60 = .ok (.iconst 3, 1) := by decide +kernel
theorem dX0_creditInterest_61 : decode cX0_creditInterest 61 = .ok (.aload_n 0, 1) := by decide +kernel
theorem dX0_creditInterest_62 : decode cX0_creditInterest 62 = .ok (.getfield 40, 3) := by decide +kernel
theorem dX0_creditInterest_65 : decode cX0_creditInterest 65 = .ok (.lload_n 3, 1) := by decide +kernel
theorem dX0_creditInterest_66 : decode cX0_creditInterest 66 = .ok (.l2i, 1) := by decide +kernel
theorem dX0_creditInterest_67 : decode cX0_creditInterest 67 = .ok (.iconst (-1), 1) := by decide +kernel
theorem dX0_creditInterest_68 : decode cX0_creditInterest 68 = .ok (.invokevirtual 151, 3) := by decide +kernel
theorem dX0_creditInterest_71 : decode cX0_creditInterest 71 = .ok (.return_, 1) := by decide +kernel
theorem dX0_doneSet_0 : decode cX0_doneSet 0 = .ok (.iconst 0, 1) := by decide +kernel
theorem dX0_doneSet_1 : decode cX0_doneSet 1 = .ok (.istore_n 1, 1) := by decide +kernel
theorem dX0_doneSet_2 : decode cX0_doneSet 2 = .ok (.iconst 0, 1) := by decide +kernel
theorem dX0_doneSet_3 : decode cX0_doneSet 3 = .ok (.istore_n 2, 1) := by decide +kernel
theorem dX0_doneSet_4 : decode cX0_doneSet 4 = .ok (.iload_n 2, 1) := by decide +kernel
theorem dX0_doneSet_5 : decode cX0_doneSet 5 = .ok (.aload_n 0, 1) := by decide +kernel
theorem dX0_doneSet_6 : decode cX0_doneSet 6 = .ok (.getfield 31, 3) := by decide +kernel
theorem dX0_doneSet_9 : decode cX0_doneSet 9 = .ok (.getfield 109, 3) := by decide +kernel
theorem dX0_doneSet_12 : decode cX0_doneSet 12 = .ok (.if_icmp .ge 35, 3) := by decide +kernel
theorem dX0_doneSet_15 : decode cX0_doneSet 15 = .ok (.aload_n 0, 1) := by decide +kernel
theorem dX0_doneSet_16 : decode cX0_doneSet 16 = .ok (.getfield 18, 3) := by decide +kernel
theorem dX0_doneSet_19 : decode cX0_doneSet 19 = .ok (.iload_n 2, 1) := by decide +kernel
theorem dX0_doneSet_20 : decode cX0_doneSet 20 = .ok (.iaload, 1) := by decide +kernel
theorem dX0_doneSet_21 : decode cX0_doneSet 21 = .ok (.iconst 3, 1) := by decide +kernel
theorem dX0_doneSet_22 : decode cX0_doneSet 22 = .ok (.if_icmp .eq 13, 3) := by decide +kernel
theorem dX0_doneSet_25 : decode cX0_doneSet 25 = .ok (.aload_n 0, 1) := by decide +kernel
theorem dX0_doneSet_26 : decode cX0_doneSet 26 = .ok (.getfield 18, 3) := by decide +kernel
theorem dX0_doneSet_29 : decode cX0_doneSet 29 = .ok (.iload_n 2, 1) := by decide +kernel
theorem dX0_doneSet_30 : decode cX0_doneSet 30 = .ok (.iaload, 1) := by decide +kernel
theorem dX0_doneSet_31 : decode cX0_doneSet 31 = .ok (.iconst 4, 1) := by decide +kernel
theorem dX0_doneSet_32 : decode cX0_doneSet 32 = .ok (.if_icmp .ne 9, 3) := by decide +kernel
theorem dX0_doneSet_35 : decode cX0_doneSet 35 = .ok (.iload_n 1, 1) := by decide +kernel
theorem dX0_doneSet_36 : decode cX0_doneSet 36 = .ok (.iconst 1, 1) := by decide +kernel
theorem dX0_doneSet_37 : decode cX0_doneSet 37 = .ok (.iload_n 2, 1) := by decide +kernel
theorem dX0_doneSet_38 : decode cX0_doneSet 38 = .ok (.ishl, 1) := by decide +kernel
theorem dX0_doneSet_39 : decode cX0_doneSet 39 = .ok (.ior, 1) := by decide +kernel
theorem dX0_doneSet_40 : decode cX0_doneSet 40 = .ok (.istore_n 1, 1) := by decide +kernel
theorem dX0_doneSet_41 : decode cX0_doneSet 41 = .ok (.iinc 2 1, 3) := by decide +kernel
theorem dX0_doneSet_44 : decode cX0_doneSet 44 = .ok (.goto (-40), 3) := by decide +kernel
theorem dX0_doneSet_47 : decode cX0_doneSet 47 = .ok (.iload_n 1, 1) := by decide +kernel
theorem dX0_doneSet_48 : decode cX0_doneSet 48 = .ok (.ireturn, 1) := by decide +kernel
theorem dX0_freeze_0 : decode cX0_freeze 0 = .ok (.aload_n 0, 1) := by decide +kernel
theorem dX0_freeze_1 : decode cX0_freeze 1 = .ok (.iload_n 1, 1) := by decide +kernel
theorem dX0_freeze_2 : decode cX0_freeze 2 = .ok (.invokevirtual 144, 3) := by decide +kernel
theorem dX0_freeze_5 : decode cX0_freeze 5 = .ok (.aload_n 0, 1) := by decide +kernel
theorem dX0_freeze_6 : decode cX0_freeze 6 = .ok (.invokevirtual 158, 3) := by decide +kernel
theorem dX0_freeze_9 : decode cX0_freeze 9 = .ok (.invokestatic 161, 3) := by decide +kernel
theorem dX0_freeze_12 : decode cX0_freeze 12 = .ok (.istore_n 2, 1) := by decide +kernel
theorem dX0_freeze_13 : decode cX0_freeze 13 = .ok (.aload_n 0, 1) := by decide +kernel
theorem dX0_freeze_14 : decode cX0_freeze 14 = .ok (.getfield 18, 3) := by decide +kernel
theorem dX0_freeze_17 : decode cX0_freeze 17 = .ok (.iload_n 1, 1) := by decide +kernel
theorem dX0_freeze_18 : decode cX0_freeze 18 = .ok (.iconst 2, 1) := by decide +kernel
theorem dX0_freeze_19 : decode cX0_freeze 19 = .ok (.iastore, 1) := by decide +kernel
theorem dX0_freeze_20 : decode cX0_freeze 20 = .ok (.aload_n 0, 1) := by decide +kernel
theorem dX0_freeze_21 : decode cX0_freeze 21 = .ok (.getfield 25, 3) := by decide +kernel
theorem dX0_freeze_24 : decode cX0_freeze 24 = .ok (.iload_n 1, 1) := by decide +kernel
theorem dX0_freeze_25 : decode cX0_freeze 25 = .ok (.iload_n 2, 1) := by decide +kernel
theorem dX0_freeze_26 : decode cX0_freeze 26 = .ok (.iastore, 1) := by decide +kernel
theorem dX0_freeze_27 : decode cX0_freeze 27 = .ok (.iload_n 2, 1) := by decide +kernel
theorem dX0_freeze_28 : decode cX0_freeze 28 = .ok (.ireturn, 1) := by decide +kernel
theorem dX0_holdsOn_0 : decode cX0_holdsOn 0 = .ok (.aload_n 0, 1) := by decide +kernel
theorem dX0_holdsOn_1 : decode cX0_holdsOn 1 = .ok (.iload_n 1, 1) := by decide +kernel
theorem dX0_holdsOn_2 : decode cX0_holdsOn 2 = .ok (.iload_n 2, 1) := by decide +kernel
theorem dX0_holdsOn_3 : decode cX0_holdsOn 3 = .ok (.aload_n 0, 1) := by decide +kernel
theorem dX0_holdsOn_4 : decode cX0_holdsOn 4 = .ok (.getfield 83, 3) := by decide +kernel
theorem dX0_holdsOn_7 : decode cX0_holdsOn 7 = .ok (.aload_n 0, 1) := by decide +kernel
theorem dX0_holdsOn_8 : decode cX0_holdsOn 8 = .ok (.invokevirtual 123, 3) := by decide +kernel
theorem dX0_holdsOn_11 : decode cX0_holdsOn 11 = .ok (.invokevirtual 127, 3) := by decide +kernel
theorem dX0_holdsOn_14 : decode cX0_holdsOn 14 = .ok (.ireturn, 1) := by decide +kernel
theorem dX0_isClosed_0 : decode cX0_isClosed 0 = .ok (.aload_n 0, 1) := by decide +kernel
theorem dX0_isClosed_1 : decode cX0_isClosed 1 = .ok (.getfield 18, 3) := by decide +kernel
theorem dX0_isClosed_4 : decode cX0_isClosed 4 = .ok (.iload_n 1, 1) := by decide +kernel
theorem dX0_isClosed_5 : decode cX0_isClosed 5 = .ok (.iaload, 1) := by decide +kernel
theorem dX0_isClosed_6 : decode cX0_isClosed 6 = .ok (.iconst 3, 1) := by decide +kernel
theorem dX0_isClosed_7 : decode cX0_isClosed 7 = .ok (.if_icmp .lt 7, 3) := by decide +kernel
theorem dX0_isClosed_10 : decode cX0_isClosed 10 = .ok (.iconst 1, 1) := by decide +kernel
theorem dX0_isClosed_11 : decode cX0_isClosed 11 = .ok (.goto 4, 3) := by decide +kernel
theorem dX0_isClosed_14 : decode cX0_isClosed 14 = .ok (.iconst 0, 1) := by decide +kernel
theorem dX0_isClosed_15 : decode cX0_isClosed 15 = .ok (.ireturn, 1) := by decide +kernel
theorem dX0_isOpenOrDue_0 : decode cX0_isOpenOrDue 0 = .ok (.aload_n 0, 1) := by decide +kernel
theorem dX0_isOpenOrDue_1 : decode cX0_isOpenOrDue 1 = .ok (.getfield 18, 3) := by decide +kernel
theorem dX0_isOpenOrDue_4 : decode cX0_isOpenOrDue 4 = .ok (.iload_n 1, 1) := by decide +kernel
theorem dX0_isOpenOrDue_5 : decode cX0_isOpenOrDue 5 = .ok (.iaload, 1) := by decide +kernel
theorem dX0_isOpenOrDue_6 : decode cX0_isOpenOrDue 6 = .ok (.ifCond .eq 13, 3) := by decide +kernel
theorem dX0_isOpenOrDue_9 : decode cX0_isOpenOrDue 9 = .ok (.aload_n 0, 1) := by decide +kernel
theorem dX0_isOpenOrDue_10 : decode cX0_isOpenOrDue 10 = .ok (.getfield 18, 3) := by decide +kernel
theorem dX0_isOpenOrDue_13 : decode cX0_isOpenOrDue 13 = .ok (.iload_n 1, 1) := by decide +kernel
theorem dX0_isOpenOrDue_14 : decode cX0_isOpenOrDue 14 = .ok (.iaload, 1) := by decide +kernel
theorem dX0_isOpenOrDue_15 : decode cX0_isOpenOrDue 15 = .ok (.iconst 1, 1) := by decide +kernel
theorem dX0_isOpenOrDue_16 : decode cX0_isOpenOrDue 16 = .ok (.if_icmp .ne 7, 3) := by decide +kernel
theorem dX0_isOpenOrDue_19 : decode cX0_isOpenOrDue 19 = .ok (.iconst 1, 1) := by decide +kernel
theorem dX0_isOpenOrDue_20 : decode cX0_isOpenOrDue 20 = .ok (.goto 4, 3) := by decide +kernel
theorem dX0_isOpenOrDue_23 : decode cX0_isOpenOrDue 23 = .ok (.iconst 0, 1) := by decide +kernel
theorem dX0_isOpenOrDue_24 : decode cX0_isOpenOrDue 24 = .ok (.ireturn, 1) := by decide +kernel
theorem dX0_judged_0 : decode cX0_judged 0 = .ok (.aload_n 0, 1) := by decide +kernel
theorem dX0_judged_1 : decode cX0_judged 1 = .ok (.getfield 86, 3) := by decide +kernel
theorem dX0_judged_4 : decode cX0_judged 4 = .ok (.iload_n 1, 1) := by decide +kernel
theorem dX0_judged_5 : decode cX0_judged 5 = .ok (.invokestatic 119, 3) := by decide +kernel
theorem dX0_judged_8 : decode cX0_judged 8 = .ok (.istore 5, 2) := by decide +kernel
theorem dX0_judged_10 : decode cX0_judged 10 = .ok (.aload_n 0, 1) := by decide +kernel
theorem dX0_judged_11 : decode cX0_judged 11 = .ok (.getfield 31, 3) := by decide +kernel
theorem dX0_judged_14 : decode cX0_judged 14 = .ok (.iload_n 1, 1) := by decide +kernel
theorem dX0_judged_15 : decode cX0_judged 15 = .ok (.iload_n 2, 1) := by decide +kernel
theorem dX0_judged_16 : decode cX0_judged 16 = .ok (.iload_n 3, 1) := by decide +kernel
theorem dX0_judged_17 : decode cX0_judged 17 = .ok (.iload 4, 2) := by decide +kernel
theorem dX0_judged_19 : decode cX0_judged 19 = .ok (.aload_n 0, 1) := by decide +kernel
theorem dX0_judged_20 : decode cX0_judged 20 = .ok (.invokevirtual 131, 3) := by decide +kernel
theorem dX0_judged_23 : decode cX0_judged 23 = .ok (.iload 5, 2) := by decide +kernel
theorem dX0_judged_25 : decode cX0_judged 25 = .ok (.invokevirtual 134, 3) := by decide +kernel
theorem dX0_judged_28 : decode cX0_judged 28 = .ok (.ireturn, 1) := by decide +kernel
theorem dX0_leaveDispute_0 : decode cX0_leaveDispute 0 = .ok (.aload_n 0, 1) := by decide +kernel
theorem dX0_leaveDispute_1 : decode cX0_leaveDispute 1 = .ok (.getfield 18, 3) := by decide +kernel
theorem dX0_leaveDispute_4 : decode cX0_leaveDispute 4 = .ok (.iload_n 1, 1) := by decide +kernel
theorem dX0_leaveDispute_5 : decode cX0_leaveDispute 5 = .ok (.iload_n 2, 1) := by decide +kernel
theorem dX0_leaveDispute_6 : decode cX0_leaveDispute 6 = .ok (.iastore, 1) := by decide +kernel
theorem dX0_leaveDispute_7 : decode cX0_leaveDispute 7 = .ok (.aload_n 0, 1) := by decide +kernel
theorem dX0_leaveDispute_8 : decode cX0_leaveDispute 8 = .ok (.getfield 25, 3) := by decide +kernel
theorem dX0_leaveDispute_11 : decode cX0_leaveDispute 11 = .ok (.iload_n 1, 1) := by decide +kernel
theorem dX0_leaveDispute_12 : decode cX0_leaveDispute 12 = .ok (.iconst 0, 1) := by decide +kernel
theorem dX0_leaveDispute_13 : decode cX0_leaveDispute 13 = .ok (.iastore, 1) := by decide +kernel
theorem dX0_leaveDispute_14 : decode cX0_leaveDispute 14 = .ok (.return_, 1) := by decide +kernel
theorem dX0_liveDay_0 : decode cX0_liveDay 0 = .ok (.aload_n 0, 1) := by decide +kernel
theorem dX0_liveDay_1 : decode cX0_liveDay 1 = .ok (.dup, 1) := by decide +kernel
theorem dX0_liveDay_2 : decode cX0_liveDay 2 = .ok (.getfield 57, 3) := by decide +kernel
theorem dX0_liveDay_5 : decode cX0_liveDay 5 = .ok (.aload_n 0, 1) := by decide +kernel
theorem dX0_liveDay_6 : decode cX0_liveDay 6 = .ok (.getfield 47, 3) := by decide +kernel
theorem dX0_liveDay_9 : decode cX0_liveDay 9 = .ok (.i2l, 1) := by decide +kernel
theorem dX0_liveDay_10 : decode cX0_liveDay 10 = .ok (.aload_n 0, 1) := by decide +kernel
theorem dX0_liveDay_11 : decode cX0_liveDay 11 = .ok (.getfield 50, 3) := by decide +kernel
theorem dX0_liveDay_14 : decode cX0_liveDay 14 = .ok (.ladd, 1) := by decide +kernel
theorem dX0_liveDay_15 : decode cX0_liveDay 15 = .ok (.aload_n 0, 1) := by decide +kernel
theorem dX0_liveDay_16 : decode cX0_liveDay 16 = .ok (.getfield 74, 3) := by decide +kernel
theorem dX0_liveDay_19 : decode cX0_liveDay 19 = .ok (.i2l, 1) := by decide +kernel
theorem dX0_liveDay_20 : decode cX0_liveDay 20 = .ok (.lmul, 1) := by decide +kernel
theorem dX0_liveDay_21 : decode cX0_liveDay 21 = .ok (.ladd, 1) := by decide +kernel
theorem dX0_liveDay_22 : decode cX0_liveDay 22 = .ok (.putfield 57, 3) := by decide +kernel
theorem dX0_liveDay_25 : decode cX0_liveDay 25 = .ok (.aload_n 0, 1) := by decide +kernel
theorem dX0_liveDay_26 : decode cX0_liveDay 26 = .ok (.dup, 1) := by decide +kernel
theorem dX0_liveDay_27 : decode cX0_liveDay 27 = .ok (.getfield 40, 3) := by decide +kernel
theorem dX0_liveDay_30 : decode cX0_liveDay 30 = .ok (.iconst 1, 1) := by decide +kernel
theorem dX0_liveDay_31 : decode cX0_liveDay 31 = .ok (.iadd, 1) := by decide +kernel
theorem dX0_liveDay_32 : decode cX0_liveDay 32 = .ok (.putfield 40, 3) := by decide +kernel
theorem dX0_liveDay_35 : decode cX0_liveDay 35 = .ok (.aload_n 0, 1) := by decide +kernel
theorem dX0_liveDay_36 : decode cX0_liveDay 36 = .ok (.getfield 40, 3) := by decide +kernel
theorem dX0_liveDay_39 : decode cX0_liveDay 39 = .ok (.bipush 30, 2) := by decide +kernel
theorem dX0_liveDay_41 : decode cX0_liveDay 41 = .ok (.irem, 1) := by decide +kernel
theorem dX0_liveDay_42 : decode cX0_liveDay 42 = .ok (.ifCond .ne 7, 3) := by decide +kernel
theorem dX0_liveDay_45 : decode cX0_liveDay 45 = .ok (.aload_n 0, 1) := by decide +kernel
theorem dX0_liveDay_46 : decode cX0_liveDay 46 = .ok (.invokevirtual 186, 3) := by decide +kernel
theorem dX0_liveDay_49 : decode cX0_liveDay 49 = .ok (.aload_n 0, 1) := by decide +kernel
theorem dX0_liveDay_50 : decode cX0_liveDay 50 = .ok (.invokevirtual 189, 3) := by decide +kernel
theorem dX0_liveDay_53 : decode cX0_liveDay 53 = .ok (.aload_n 0, 1) := by decide +kernel
theorem dX0_liveDay_54 : decode cX0_liveDay 54 = .ok (.invokevirtual 192, 3) := by decide +kernel
theorem dX0_liveDay_57 : decode cX0_liveDay 57 = .ok (.return_, 1) := by decide +kernel
theorem dX0_liveDays_0 : decode cX0_liveDays 0 = .ok (.iconst 0, 1) := by decide +kernel
theorem dX0_liveDays_1 : decode cX0_liveDays 1 = .ok (.istore_n 2, 1) := by decide +kernel
theorem dX0_liveDays_2 : decode cX0_liveDays 2 = .ok (.iload_n 2, 1) := by decide +kernel
theorem dX0_liveDays_3 : decode cX0_liveDays 3 = .ok (.iload_n 1, 1) := by decide +kernel
theorem dX0_liveDays_4 : decode cX0_liveDays 4 = .ok (.if_icmp .ge 13, 3) := by decide +kernel
theorem dX0_liveDays_7 : decode cX0_liveDays 7 = .ok (.aload_n 0, 1) := by decide +kernel
theorem dX0_liveDays_8 : decode cX0_liveDays 8 = .ok (.invokevirtual 183, 3) := by decide +kernel
theorem dX0_liveDays_11 : decode cX0_liveDays 11 = .ok (.iinc 2 1, 3) := by decide +kernel
theorem dX0_liveDays_14 : decode cX0_liveDays 14 = .ok (.goto (-12), 3) := by decide +kernel
theorem dX0_liveDays_17 : decode cX0_liveDays 17 = .ok (.return_, 1) := by decide +kernel
theorem dX0_makeDue_0 : decode cX0_makeDue 0 = .ok (.aload_n 0, 1) := by decide +kernel
theorem dX0_makeDue_1 : decode cX0_makeDue 1 = .ok (.invokevirtual 123, 3) := by decide +kernel
theorem dX0_makeDue_4 : decode cX0_makeDue 4 = .ok (.istore_n 1, 1) := by decide +kernel
theorem dX0_makeDue_5 : decode cX0_makeDue 5 = .ok (.iconst 0, 1) := by decide +kernel
theorem dX0_makeDue_6 : decode cX0_makeDue 6 = .ok (.istore_n 2, 1) := by decide +kernel
theorem dX0_makeDue_7 : decode cX0_makeDue 7 = .ok (.iload_n 2, 1) := by decide +kernel
theorem dX0_makeDue_8 : decode cX0_makeDue 8 = .ok (.aload_n 0, 1) := by decide +kernel
theorem dX0_makeDue_9 : decode cX0_makeDue 9 = .ok (.getfield 31, 3) := by decide +kernel
theorem dX0_makeDue_12 : decode cX0_makeDue 12 = .ok (.getfield 109, 3) := by decide +kernel
theorem dX0_makeDue_15 : decode cX0_makeDue 15 = .ok (.if_icmp .ge 52, 3) := by decide +kernel
theorem dX0_makeDue_18 : decode cX0_makeDue 18 = .ok (.aload_n 0, 1) := by decide +kernel
theorem dX0_makeDue_19 : decode cX0_makeDue 19 = .ok (.getfield 18, 3) := by decide +kernel
theorem dX0_makeDue_22 : decode cX0_makeDue 22 = .ok (.iload_n 2, 1) := by decide +kernel
theorem dX0_makeDue_23 : decode cX0_makeDue 23 = .ok (.iaload, 1) := by decide +kernel
theorem dX0_makeDue_24 : decode cX0_makeDue 24 = .ok (.ifCond .ne 37, 3) := by decide +kernel
theorem dX0_makeDue_27 : decode cX0_makeDue 27 = .ok (.aload_n 0, 1) := by decide +kernel
theorem dX0_makeDue_28 : decode cX0_makeDue 28 = .ok (.iload_n 2, 1) := by decide +kernel
theorem dX0_makeDue_29 : decode cX0_makeDue 29 = .ok (.aload_n 0, 1) := by decide +kernel
theorem dX0_makeDue_30 : decode cX0_makeDue 30 = .ok (.getfield 40, 3) := by decide +kernel
theorem dX0_makeDue_33 : decode cX0_makeDue 33 = .ok (.aload_n 0, 1) := by decide +kernel
theorem dX0_makeDue_34 : decode cX0_makeDue 34 = .ok (.getfield 83, 3) := by decide +kernel
theorem dX0_makeDue_37 : decode cX0_makeDue 37 = .ok (.iload_n 1, 1) := by decide +kernel
theorem dX0_makeDue_38 : decode cX0_makeDue 38 = .ok (.invokevirtual 127, 3) := by decide +kernel
theorem dX0_makeDue_41 : decode cX0_makeDue 41 = .ok (.ifCond .eq 20, 3) := by decide +kernel
theorem dX0_makeDue_44 : decode cX0_makeDue 44 = .ok (.aload_n 0, 1) := by decide +kernel
theorem dX0_makeDue_45 : decode cX0_makeDue 45 = .ok (.getfield 18, 3) := by decide +kernel
theorem dX0_makeDue_48 : decode cX0_makeDue 48 = .ok (.iload_n 2, 1) := by decide +kernel
theorem dX0_makeDue_49 : decode cX0_makeDue 49 = .ok (.iconst 1, 1) := by decide +kernel
theorem dX0_makeDue_50 : decode cX0_makeDue 50 = .ok (.iastore, 1) := by decide +kernel
theorem dX0_makeDue_51 : decode cX0_makeDue 51 = .ok (.aload_n 0, 1) := by decide +kernel
theorem dX0_makeDue_52 : decode cX0_makeDue 52 = .ok (.getfield 28, 3) := by decide +kernel
theorem dX0_makeDue_55 : decode cX0_makeDue 55 = .ok (.iload_n 2, 1) := by decide +kernel
theorem dX0_makeDue_56 : decode cX0_makeDue 56 = .ok (.aload_n 0, 1) := by decide +kernel
theorem dX0_makeDue_57 : decode cX0_makeDue 57 = .ok (.getfield 40, 3) := by decide +kernel
theorem dX0_makeDue_60 : decode cX0_makeDue 60 = .ok (.iastore, 1) := by decide +kernel
theorem dX0_makeDue_61 : decode cX0_makeDue 61 = .ok (.iinc 2 1, 3) := by decide +kernel
theorem dX0_makeDue_64 : decode cX0_makeDue 64 = .ok (.goto (-57), 3) := by decide +kernel
theorem dX0_makeDue_67 : decode cX0_makeDue 67 = .ok (.return_, 1) := by decide +kernel
theorem dX0_makePayment_0 : decode cX0_makePayment 0 = .ok (.aload_n 0, 1) := by decide +kernel
theorem dX0_makePayment_1 : decode cX0_makePayment 1 = .ok (.getfield 31, 3) := by decide +kernel
theorem dX0_makePayment_4 : decode cX0_makePayment 4 = .ok (.iload_n 2, 1) := by decide +kernel
theorem dX0_makePayment_5 : decode cX0_makePayment 5 = .ok (.invokevirtual 155, 3) := by decide +kernel
theorem dX0_makePayment_8 : decode cX0_makePayment 8 = .ok (.istore_n 3, 1) := by decide +kernel
theorem dX0_makePayment_9 : decode cX0_makePayment 9 = .ok (.aload_n 0, 1) := by decide +kernel
theorem dX0_makePayment_10 : decode cX0_makePayment 10 = .ok (.dup, 1) := by decide +kernel
theorem dX0_makePayment_11 : decode cX0_makePayment 11 = .ok (.getfield 47, 3) := by decide +kernel
theorem dX0_makePayment_14 : decode cX0_makePayment 14 = .ok (.iload_n 2, 1) := by decide +kernel
theorem dX0_makePayment_15 : decode cX0_makePayment 15 = .ok (.isub, 1) := by decide +kernel
theorem dX0_makePayment_16 : decode cX0_makePayment 16 = .ok (.putfield 47, 3) := by decide +kernel
theorem dX0_makePayment_19 : decode cX0_makePayment 19 = .ok (.aload_n 0, 1) := by decide +kernel
theorem dX0_makePayment_20 : decode cX0_makePayment 20 = .ok (.getfield 22, 3) := by decide +kernel
theorem dX0_makePayment_23 : decode cX0_makePayment 23 = .ok (.iload_n 1, 1) := by decide +kernel
theorem dX0_makePayment_24 : decode cX0_makePayment 24 = .ok (.dup2, 1) := by decide +kernel
theorem dX0_makePayment_25 : decode cX0_makePayment 25 = .ok (.iaload, 1) := by decide +kernel
theorem dX0_makePayment_26 : decode cX0_makePayment 26 = .ok (.iload_n 2, 1) := by decide +kernel
theorem dX0_makePayment_27 : decode cX0_makePayment 27 = .ok (.iadd, 1) := by decide +kernel
theorem dX0_makePayment_28 : decode cX0_makePayment 28 = .ok (.iastore, 1) := by decide +kernel
theorem dX0_makePayment_29 : decode cX0_makePayment 29 = .ok (.aload_n 0, 1) := by decide +kernel
theorem dX0_makePayment_30 : decode cX0_makePayment 30 = .ok (.dup, 1) := by decide +kernel
theorem dX0_makePayment_31 : decode cX0_makePayment 31 = .ok (.getfield 63, 3) := by decide +kernel
theorem dX0_makePayment_34 : decode cX0_makePayment 34 = .ok (.iload_n 3, 1) := by decide +kernel
theorem dX0_makePayment_35 : decode cX0_makePayment 35 = .ok (.iadd, 1) := by decide +kernel
theorem dX0_makePayment_36 : decode cX0_makePayment 36 = .ok (.putfield 63, 3) := by decide +kernel
theorem dX0_makePayment_39 : decode cX0_makePayment 39 = .ok (.aload_n 0, 1) := by decide +kernel
theorem dX0_makePayment_40 : decode cX0_makePayment 40 = .ok (.dup, 1) := by decide +kernel
theorem dX0_makePayment_41 : decode cX0_makePayment 41 = .ok (.getfield 60, 3) := by decide +kernel
theorem dX0_makePayment_44 : decode cX0_makePayment 44 = .ok (.iload_n 2, 1) := by decide +kernel
theorem dX0_makePayment_45 : decode cX0_makePayment 45 = .ok (.iload_n 3, 1) := by decide +kernel
theorem dX0_makePayment_46 : decode cX0_makePayment 46 = .ok (.isub, 1) := by decide +kernel
theorem dX0_makePayment_47 : decode cX0_makePayment 47 = .ok (.iadd, 1) := by decide +kernel
theorem dX0_makePayment_48 : decode cX0_makePayment 48 = .ok (.putfield 60, 3) := by decide +kernel
theorem dX0_makePayment_51 : decode cX0_makePayment 51 = .ok (.aload_n 0, 1) := by decide +kernel
theorem dX0_makePayment_52 : decode cX0_makePayment 52 = .ok (.getfield 12, 3) := by decide +kernel
theorem dX0_makePayment_55 : decode cX0_makePayment 55 = .ok (.iconst 1, 1) := by decide +kernel
theorem dX0_makePayment_56 : decode cX0_makePayment 56 = .ok (.aload_n 0, 1) := by decide +kernel
theorem dX0_makePayment_57 : decode cX0_makePayment 57 = .ok (.getfield 40, 3) := by decide +kernel
theorem dX0_makePayment_60 : decode cX0_makePayment 60 = .ok (.iload_n 2, 1) := by decide +kernel
theorem dX0_makePayment_61 : decode cX0_makePayment 61 = .ok (.iload_n 1, 1) := by decide +kernel
theorem dX0_makePayment_62 : decode cX0_makePayment 62 = .ok (.invokevirtual 151, 3) := by decide +kernel
theorem dX0_makePayment_65 : decode cX0_makePayment 65 = .ok (.aload_n 0, 1) := by decide +kernel
theorem dX0_makePayment_66 : decode cX0_makePayment 66 = .ok (.iload_n 1, 1) := by decide +kernel
theorem dX0_makePayment_67 : decode cX0_makePayment 67 = .ok (.invokevirtual 112, 3) := by decide +kernel
theorem dX0_makePayment_70 : decode cX0_makePayment 70 = .ok (.ifCond .ne 18, 3) := by decide +kernel
theorem dX0_makePayment_73 : decode cX0_makePayment 73 = .ok (.aload_n 0, 1) := by decide +kernel
theorem dX0_makePayment_74 : decode cX0_makePayment 74 = .ok (.iload_n 1, 1) := by decide +kernel
theorem dX0_makePayment_75 : decode cX0_makePayment 75 = .ok (.invokevirtual 144, 3) := by decide +kernel
theorem dX0_makePayment_78 : decode cX0_makePayment 78 = .ok (.ifCond .ne 10, 3) := by decide +kernel
theorem dX0_makePayment_81 : decode cX0_makePayment 81 = .ok (.aload_n 0, 1) := by decide +kernel
theorem dX0_makePayment_82 : decode cX0_makePayment 82 = .ok (.getfield 18, 3) := by decide +kernel
theorem dX0_makePayment_85 : decode cX0_makePayment 85 = .ok (.iload_n 1, 1) := by decide +kernel
theorem dX0_makePayment_86 : decode cX0_makePayment 86 = .ok (.iconst 3, 1) := by decide +kernel
theorem dX0_makePayment_87 : decode cX0_makePayment 87 = .ok (.iastore, 1) := by decide +kernel
theorem dX0_makePayment_88 : decode cX0_makePayment 88 = .ok (.iload_n 3, 1) := by decide +kernel
theorem dX0_makePayment_89 : decode cX0_makePayment 89 = .ok (.ireturn, 1) := by decide +kernel
theorem dX0_moneyToSplit_0 : decode cX0_moneyToSplit 0 = .ok (.aload_n 0, 1) := by decide +kernel
theorem dX0_moneyToSplit_1 : decode cX0_moneyToSplit 1 = .ok (.iload_n 1, 1) := by decide +kernel
theorem dX0_moneyToSplit_2 : decode cX0_moneyToSplit 2 = .ok (.invokevirtual 144, 3) := by decide +kernel
theorem dX0_moneyToSplit_5 : decode cX0_moneyToSplit 5 = .ok (.aload_n 0, 1) := by decide +kernel
theorem dX0_moneyToSplit_6 : decode cX0_moneyToSplit 6 = .ok (.invokevirtual 158, 3) := by decide +kernel
theorem dX0_moneyToSplit_9 : decode cX0_moneyToSplit 9 = .ok (.aload_n 0, 1) := by decide +kernel
theorem dX0_moneyToSplit_10 : decode cX0_moneyToSplit 10 = .ok (.getfield 25, 3) := by decide +kernel
theorem dX0_moneyToSplit_13 : decode cX0_moneyToSplit 13 = .ok (.iload_n 1, 1) := by decide +kernel
theorem dX0_moneyToSplit_14 : decode cX0_moneyToSplit 14 = .ok (.iaload, 1) := by decide +kernel
theorem dX0_moneyToSplit_15 : decode cX0_moneyToSplit 15 = .ok (.iadd, 1) := by decide +kernel
theorem dX0_moneyToSplit_16 : decode cX0_moneyToSplit 16 = .ok (.invokestatic 161, 3) := by decide +kernel
theorem dX0_moneyToSplit_19 : decode cX0_moneyToSplit 19 = .ok (.ireturn, 1) := by decide +kernel
theorem dX0_mustBePaid_0 : decode cX0_mustBePaid 0 = .ok (.aload_n 0, 1) := by decide +kernel
theorem dX0_mustBePaid_1 : decode cX0_mustBePaid 1 = .ok (.getfield 18, 3) := by decide +kernel
theorem dX0_mustBePaid_4 : decode cX0_mustBePaid 4 = .ok (.iload_n 1, 1) := by decide +kernel
theorem dX0_mustBePaid_5 : decode cX0_mustBePaid 5 = .ok (.iaload, 1) := by decide +kernel
theorem dX0_mustBePaid_6 : decode cX0_mustBePaid 6 = .ok (.iconst 1, 1) := by decide +kernel
theorem dX0_mustBePaid_7 : decode cX0_mustBePaid 7 = .ok (.if_icmp .ne 19, 3) := by decide +kernel
theorem dX0_mustBePaid_10 : decode cX0_mustBePaid 10 = .ok (.aload_n 0, 1) := by decide +kernel
theorem dX0_mustBePaid_11 : decode cX0_mustBePaid 11 = .ok (.iload_n 1, 1) := by decide +kernel
theorem dX0_mustBePaid_12 : decode cX0_mustBePaid 12 = .ok (.invokevirtual 148, 3) := by decide +kernel
theorem dX0_mustBePaid_15 : decode cX0_mustBePaid 15 = .ok (.aload_n 0, 1) := by decide +kernel
theorem dX0_mustBePaid_16 : decode cX0_mustBePaid 16 = .ok (.getfield 40, 3) := by decide +kernel
theorem dX0_mustBePaid_19 : decode cX0_mustBePaid 19 = .ok (.if_icmp .gt 7, 3) := by decide +kernel
theorem dX0_mustBePaid_22 : decode cX0_mustBePaid 22 = .ok (.iconst 1, 1) := by decide +kernel
theorem dX0_mustBePaid_23 : decode cX0_mustBePaid 23 = .ok (.goto 4, 3) := by decide +kernel
theorem dX0_mustBePaid_26 : decode cX0_mustBePaid 26 = .ok (.iconst 0, 1) := by decide +kernel
theorem dX0_mustBePaid_27 : decode cX0_mustBePaid 27 = .ok (.ireturn, 1) := by decide +kernel
theorem dX0_partOf_0 : decode cX0_partOf 0 = .ok (.iload_n 0, 1) := by decide +kernel
theorem dX0_partOf_1 : decode cX0_partOf 1 = .ok (.iload_n 1, 1) := by decide +kernel
theorem dX0_partOf_2 : decode cX0_partOf 2 = .ok (.imul, 1) := by decide +kernel
theorem dX0_partOf_3 : decode cX0_partOf 3 = .ok (.sipush 1000, 3) := by decide +kernel
theorem dX0_partOf_6 : decode cX0_partOf 6 = .ok (.idiv, 1) := by decide +kernel
theorem dX0_partOf_7 : decode cX0_partOf 7 = .ok (.ireturn, 1) := by decide +kernel
theorem dX0_payDay_0 : decode cX0_payDay 0 = .ok (.aload_n 0, 1) := by decide +kernel
theorem dX0_payDay_1 : decode cX0_payDay 1 = .ok (.getfield 28, 3) := by decide +kernel
theorem dX0_payDay_4 : decode cX0_payDay 4 = .ok (.iload_n 1, 1) := by decide +kernel
theorem dX0_payDay_5 : decode cX0_payDay 5 = .ok (.iaload, 1) := by decide +kernel
theorem dX0_payDay_6 : decode cX0_payDay 6 = .ok (.aload_n 0, 1) := by decide +kernel
theorem dX0_payDay_7 : decode cX0_payDay 7 = .ok (.getfield 82, 3) := by decide +kernel
theorem dX0_payDay_10 : decode cX0_payDay 10 = .ok (.iadd, 1) := by decide +kernel
theorem dX0_payDay_11 : decode cX0_payDay 11 = .ok (.ireturn, 1) := by decide +kernel
theorem dX0_payDue_0 : decode cX0_payDue 0 = .ok (.iconst 0, 1) := by decide +kernel
theorem dX0_payDue_1 : decode cX0_payDue 1 = .ok (.istore_n 1, 1) := by decide +kernel
theorem dX0_payDue_2 : decode cX0_payDue 2 = .ok (.iload_n 1, 1) := by decide +kernel
theorem dX0_payDue_3 : decode cX0_payDue 3 = .ok (.aload_n 0, 1) := by decide +kernel
theorem dX0_payDue_4 : decode cX0_payDue 4 = .ok (.getfield 31, 3) := by decide +kernel
theorem dX0_payDue_7 : decode cX0_payDue 7 = .ok (.getfield 109, 3) := by decide +kernel
theorem dX0_payDue_10 : decode cX0_payDue 10 = .ok (.if_icmp .ge 51, 3) := by decide +kernel
theorem dX0_payDue_13 : decode cX0_payDue 13 = .ok (.aload_n 0, 1) := by decide +kernel
theorem dX0_payDue_14 : decode cX0_payDue 14 = .ok (.getfield 31, 3) := by decide +kernel
theorem dX0_payDue_17 : decode cX0_payDue 17 = .ok (.getfield 138, 3) := by decide +kernel
theorem dX0_payDue_20 : decode cX0_payDue 20 = .ok (.iload_n 1, 1) := by decide +kernel
theorem dX0_payDue_21 : decode cX0_payDue 21 = .ok (.iaload, 1) := by decide +kernel
theorem dX0_payDue_22 : decode cX0_payDue 22 = .ok (.istore_n 2, 1) := by decide +kernel
theorem dX0_payDue_23 : decode cX0_payDue 23 = .ok (.aload_n 0, 1) := by decide +kernel
theorem dX0_payDue_24 : decode cX0_payDue 24 = .ok (.iload_n 2, 1) := by decide +kernel
theorem dX0_payDue_25 : decode cX0_payDue 25 = .ok (.invokevirtual 144, 3) := by decide +kernel
theorem dX0_payDue_28 : decode cX0_payDue 28 = .ok (.aload_n 0, 1) := by decide +kernel
theorem dX0_payDue_29 : decode cX0_payDue 29 = .ok (.invokevirtual 158, 3) := by decide +kernel
theorem dX0_payDue_32 : decode cX0_payDue 32 = .ok (.invokestatic 161, 3) := by decide +kernel
theorem dX0_payDue_35 : decode cX0_payDue 35 = .ok (.istore_n 3, 1) := by decide +kernel
theorem dX0_payDue_36 : decode cX0_payDue 36 = .ok (.aload_n 0, 1) := by decide +kernel
theorem dX0_payDue_37 : decode cX0_payDue 37 = .ok (.iload_n 2, 1) := by decide +kernel
theorem dX0_payDue_38 : decode cX0_payDue 38 = .ok (.invokevirtual 141, 3) := by decide +kernel
theorem dX0_payDue_41 : decode cX0_payDue 41 = .ok (.ifCond .eq 14, 3) := by decide +kernel
theorem dX0_payDue_44 : decode cX0_payDue 44 = .ok (.iload_n 3, 1) := by decide +kernel
theorem dX0_payDue_45 : decode cX0_payDue 45 = .ok (.ifCond .le 10, 3) := by decide +kernel
theorem dX0_payDue_48 : decode cX0_payDue 48 = .ok (.aload_n 0, 1) := by decide +kernel
theorem dX0_payDue_49 : decode cX0_payDue 49 = .ok (.iload_n 2, 1) := by decide +kernel
theorem dX0_payDue_50 : decode cX0_payDue 50 = .ok (.iload_n 3, 1) := by decide +kernel
theorem dX0_payDue_51 : decode cX0_payDue 51 = .ok (.invokevirtual 177, 3) := by decide +kernel
theorem dX0_payDue_54 : decode cX0_payDue 54 = .ok (.pop, 1) := by decide +kernel
theorem dX0_payDue_55 : decode cX0_payDue 55 = .ok (.iinc 1 1, 3) := by decide +kernel
theorem dX0_payDue_58 : decode cX0_payDue 58 = .ok (.goto (-56), 3) := by decide +kernel
theorem dX0_payDue_61 : decode cX0_payDue 61 = .ok (.return_, 1) := by decide +kernel
theorem dX0_payOutInterest_0 : decode cX0_payOutInterest 0 = .ok (.aload_n 0, 1) := by decide +kernel
theorem dX0_payOutInterest_1 : decode cX0_payOutInterest 1 = .ok (.dup, 1) := by decide +kernel
theorem dX0_payOutInterest_2 : decode cX0_payOutInterest 2 = .ok (.getfield 50, 3) := by decide +kernel
theorem dX0_payOutInterest_5 : decode cX0_payOutInterest 5 = .ok (.iload_n 1, 1) := by decide +kernel
theorem dX0_payOutInterest_6 : decode cX0_payOutInterest 6 = .ok (.i2l, 1) := by decide +kernel
theorem dX0_payOutInterest_7 : decode cX0_payOutInterest 7 = .ok (.lsub, 1) := by decide +kernel
theorem dX0_payOutInterest_8 : decode cX0_payOutInterest 8 = .ok (.putfield 50, 3) := by decide +kernel
theorem dX0_payOutInterest_11 : decode cX0_payOutInterest 11 = .ok (.aload_n 0, 1) := by decide +kernel
theorem dX0_payOutInterest_12 : decode cX0_payOutInterest 12 = .ok (.getfield 12, 3) := by decide +kernel
theorem dX0_payOutInterest_15 : decode cX0_payOutInterest 15 = .ok (.iconst 4, 1) := by decide +kernel
theorem dX0_payOutInterest_16 : decode cX0_payOutInterest 16 = .ok (.aload_n 0, 1) := by decide +kernel
theorem dX0_payOutInterest_17 : decode cX0_payOutInterest 17 = .ok (.getfield 40, 3) := by decide +kernel
theorem dX0_payOutInterest_20 : decode cX0_payOutInterest 20 = .ok (.iload_n 1, 1) := by decide +kernel
theorem dX0_payOutInterest_21 : decode cX0_payOutInterest 21 = .ok (.iconst (-1), 1) := by decide +kernel
theorem dX0_payOutInterest_22 : decode cX0_payOutInterest 22 = .ok (.invokevirtual 151, 3) := by decide +kernel
theorem dX0_payOutInterest_25 : decode cX0_payOutInterest 25 = .ok (.return_, 1) := by decide +kernel
theorem dX0_payments_0 : decode cX0_payments 0 = .ok (.aload_n 0, 1) := by decide +kernel
theorem dX0_payments_1 : decode cX0_payments 1 = .ok (.getfield 60, 3) := by decide +kernel
theorem dX0_payments_4 : decode cX0_payments 4 = .ok (.aload_n 0, 1) := by decide +kernel
theorem dX0_payments_5 : decode cX0_payments 5 = .ok (.getfield 63, 3) := by decide +kernel
theorem dX0_payments_8 : decode cX0_payments 8 = .ok (.iadd, 1) := by decide +kernel
theorem dX0_payments_9 : decode cX0_payments 9 = .ok (.ireturn, 1) := by decide +kernel
theorem dX0_refund_0 : decode cX0_refund 0 = .ok (.aload_n 0, 1) := by decide +kernel
theorem dX0_refund_1 : decode cX0_refund 1 = .ok (.dup, 1) := by decide +kernel
theorem dX0_refund_2 : decode cX0_refund 2 = .ok (.getfield 47, 3) := by decide +kernel
theorem dX0_refund_5 : decode cX0_refund 5 = .ok (.iload_n 1, 1) := by decide +kernel
theorem dX0_refund_6 : decode cX0_refund 6 = .ok (.isub, 1) := by decide +kernel
theorem dX0_refund_7 : decode cX0_refund 7 = .ok (.putfield 47, 3) := by decide +kernel
theorem dX0_refund_10 : decode cX0_refund 10 = .ok (.aload_n 0, 1) := by decide +kernel
theorem dX0_refund_11 : decode cX0_refund 11 = .ok (.dup, 1) := by decide +kernel
theorem dX0_refund_12 : decode cX0_refund 12 = .ok (.getfield 66, 3) := by decide +kernel
theorem dX0_refund_15 : decode cX0_refund 15 = .ok (.iload_n 1, 1) := by decide +kernel
theorem dX0_refund_16 : decode cX0_refund 16 = .ok (.iadd, 1) := by decide +kernel
theorem dX0_refund_17 : decode cX0_refund 17 = .ok (.putfield 66, 3) := by decide +kernel
theorem dX0_refund_20 : decode cX0_refund 20 = .ok (.aload_n 0, 1) := by decide +kernel
theorem dX0_refund_21 : decode cX0_refund 21 = .ok (.getfield 12, 3) := by decide +kernel
theorem dX0_refund_24 : decode cX0_refund 24 = .ok (.iconst 2, 1) := by decide +kernel
theorem dX0_refund_25 : decode cX0_refund 25 = .ok (.aload_n 0, 1) := by decide +kernel
theorem dX0_refund_26 : decode cX0_refund 26 = .ok (.getfield 40, 3) := by decide +kernel
theorem dX0_refund_29 : decode cX0_refund 29 = .ok (.iload_n 1, 1) := by decide +kernel
theorem dX0_refund_30 : decode cX0_refund 30 = .ok (.iload_n 2, 1) := by decide +kernel
theorem dX0_refund_31 : decode cX0_refund 31 = .ok (.invokevirtual 151, 3) := by decide +kernel
theorem dX0_refund_34 : decode cX0_refund 34 = .ok (.return_, 1) := by decide +kernel
theorem dX0_remainingOf_0 : decode cX0_remainingOf 0 = .ok (.aload_n 0, 1) := by decide +kernel
theorem dX0_remainingOf_1 : decode cX0_remainingOf 1 = .ok (.iload_n 1, 1) := by decide +kernel
theorem dX0_remainingOf_2 : decode cX0_remainingOf 2 = .ok (.invokevirtual 112, 3) := by decide +kernel
theorem dX0_remainingOf_5 : decode cX0_remainingOf 5 = .ok (.ifCond .eq 7, 3) := by decide +kernel
theorem dX0_remainingOf_8 : decode cX0_remainingOf 8 = .ok (.iconst 0, 1) := by decide +kernel
theorem dX0_remainingOf_9 : decode cX0_remainingOf 9 = .ok (.goto 19, 3) := by decide +kernel
theorem dX0_remainingOf_12 : decode cX0_remainingOf 12 = .ok (.aload_n 0, 1) := by decide +kernel
theorem dX0_remainingOf_13 : decode cX0_remainingOf 13 = .ok (.getfield 31, 3) := by decide +kernel
theorem dX0_remainingOf_16 : decode cX0_remainingOf 16 = .ok (.getfield 116, 3) := by decide +kernel
theorem dX0_remainingOf_19 : decode cX0_remainingOf 19 = .ok (.iload_n 1, 1) := by decide +kernel
theorem dX0_remainingOf_20 : decode cX0_remainingOf 20 = .ok (.iaload, 1) := by decide +kernel
theorem dX0_remainingOf_21 : decode cX0_remainingOf 21 = .ok (.aload_n 0, 1) := by decide +kernel
theorem dX0_remainingOf_22 : decode cX0_remainingOf 22 = .ok (.getfield 22, 3) := by decide +kernel
theorem dX0_remainingOf_25 : decode cX0_remainingOf 25 = .ok (.iload_n 1, 1) := by decide +kernel
theorem dX0_remainingOf_26 : decode cX0_remainingOf 26 = .ok (.iaload, 1) := by decide +kernel
theorem dX0_remainingOf_27 : decode cX0_remainingOf 27 = .ok (.isub, 1) := by decide +kernel
theorem dX0_remainingOf_28 : decode cX0_remainingOf 28 = .ok (.ireturn, 1) := by decide +kernel
theorem dX0_takeDeposit_0 : decode cX0_takeDeposit 0 = .ok (.aload_n 0, 1) := by decide +kernel
theorem dX0_takeDeposit_1 : decode cX0_takeDeposit 1 = .ok (.dup, 1) := by decide +kernel
theorem dX0_takeDeposit_2 : decode cX0_takeDeposit 2 = .ok (.getfield 44, 3) := by decide +kernel
theorem dX0_takeDeposit_5 : decode cX0_takeDeposit 5 = .ok (.iload_n 1, 1) := by decide +kernel
theorem dX0_takeDeposit_6 : decode cX0_takeDeposit 6 = .ok (.iadd, 1) := by decide +kernel
theorem dX0_takeDeposit_7 : decode cX0_takeDeposit 7 = .ok (.putfield 44, 3) := by decide +kernel
theorem dX0_takeDeposit_10 : decode cX0_takeDeposit 10 = .ok (.aload_n 0, 1) := by decide +kernel
theorem dX0_takeDeposit_11 : decode cX0_takeDeposit 11 = .ok (.dup, 1) := by decide +kernel
theorem dX0_takeDeposit_12 : decode cX0_takeDeposit 12 = .ok (.getfield 47, 3) := by decide +kernel
theorem dX0_takeDeposit_15 : decode cX0_takeDeposit 15 = .ok (.iload_n 1, 1) := by decide +kernel
theorem dX0_takeDeposit_16 : decode cX0_takeDeposit 16 = .ok (.iadd, 1) := by decide +kernel
theorem dX0_takeDeposit_17 : decode cX0_takeDeposit 17 = .ok (.putfield 47, 3) := by decide +kernel
theorem dX0_takeDeposit_20 : decode cX0_takeDeposit 20 = .ok (.aload_n 0, 1) := by decide +kernel
theorem dX0_takeDeposit_21 : decode cX0_takeDeposit 21 = .ok (.getfield 12, 3) := by decide +kernel
theorem dX0_takeDeposit_24 : decode cX0_takeDeposit 24 = .ok (.iconst 0, 1) := by decide +kernel
theorem dX0_takeDeposit_25 : decode cX0_takeDeposit 25 = .ok (.aload_n 0, 1) := by decide +kernel
theorem dX0_takeDeposit_26 : decode cX0_takeDeposit 26 = .ok (.getfield 40, 3) := by decide +kernel
theorem dX0_takeDeposit_29 : decode cX0_takeDeposit 29 = .ok (.iload_n 1, 1) := by decide +kernel
theorem dX0_takeDeposit_30 : decode cX0_takeDeposit 30 = .ok (.iconst (-1), 1) := by decide +kernel
theorem dX0_takeDeposit_31 : decode cX0_takeDeposit 31 = .ok (.invokevirtual 151, 3) := by decide +kernel
theorem dX0_takeDeposit_34 : decode cX0_takeDeposit 34 = .ok (.return_, 1) := by decide +kernel
theorem dX10_depositStatement_0 : decode cX10_depositStatement 0 = .ok (.aload_n 0, 1) := by decide +kernel
theorem dX10_depositStatement_1 : decode cX10_depositStatement 1 = .ok (.getfield 226, 3) := by decide +kernel
theorem dX10_depositStatement_4 : decode cX10_depositStatement 4 = .ok (.bipush 6, 2) := by decide +kernel
theorem dX10_depositStatement_6 : decode cX10_depositStatement 6 = .ok (.if_icmp .ne 9, 3) := by decide +kernel
theorem dX10_depositStatement_9 : decode cX10_depositStatement 9 = .ok (.aload_n 0, 1) := by decide +kernel
theorem dX10_depositStatement_10 : decode cX10_depositStatement 10 = .ok (.iconst 5, 1) := by decide +kernel
theorem dX10_depositStatement_11 : decode cX10_depositStatement 11 = .ok (.invokevirtual 149, 3) := by decide +kernel
theorem dX10_depositStatement_14 : decode cX10_depositStatement 14 = .ok (.ireturn, 1) := by decide +kernel
theorem dX10_depositStatement_15 : decode cX10_depositStatement 15 = .ok (.aload_n 0, 1) := by decide +kernel
theorem dX10_depositStatement_16 : decode cX10_depositStatement 16 = .ok (.invokevirtual 159, 3) := by decide +kernel
theorem dX10_depositStatement_19 : decode cX10_depositStatement 19 = .ok (.pop, 1) := by decide +kernel
theorem dX10_depositStatement_20 : decode cX10_depositStatement 20 = .ok (.aload_n 0, 1) := by decide +kernel
theorem dX10_depositStatement_21 : decode cX10_depositStatement 21 = .ok (.iconst 1, 1) := by decide +kernel
theorem dX10_depositStatement_22 : decode cX10_depositStatement 22 = .ok (.ldc 218, 2) := by decide +kernel
theorem dX10_depositStatement_24 : decode cX10_depositStatement 24 = .ok (.invokevirtual 163, 3) := by decide +kernel
theorem dX10_depositStatement_27 : decode cX10_depositStatement 27 = .ok (.ifCond .ne 5, 3) := by decide +kernel
theorem dX10_depositStatement_30 : decode cX10_depositStatement 30 = .ok (.iconst 0, 1) := by decide +kernel
theorem dX10_depositStatement_31 : decode cX10_depositStatement 31 = .ok (.ireturn, 1) := by decide +kernel
theorem dX10_depositStatement_32 : decode cX10_depositStatement 32 = .ok (.aload_n 0, 1) := by decide +kernel
theorem dX10_depositStatement_33 : decode cX10_depositStatement 33 = .ok (.dup, 1) := by decide +kernel
theorem dX10_depositStatement_34 : decode cX10_depositStatement 34 = .ok (.getfield 226, 3) := by decide +kernel
theorem dX10_depositStatement_37 : decode cX10_depositStatement 37 = .ok (.iconst 1, 1) := by decide +kernel
theorem dX10_depositStatement_38 : decode cX10_depositStatement 38 = .ok (.iadd, 1) := by decide +kernel
theorem dX10_depositStatement_39 : decode cX10_depositStatement 39 = .ok (.putfield 226, 3) := by decide +kernel
theorem dX10_depositStatement_42 : decode cX10_depositStatement 42 = .ok (.aload_n 0, 1) := by decide +kernel
theorem dX10_depositStatement_43 : decode cX10_depositStatement 43 = .ok (.getfield 13, 3) := by decide +kernel
theorem dX10_depositStatement_46 : decode cX10_depositStatement 46 = .ok (.iconst 5, 1) := by decide +kernel
theorem dX10_depositStatement_47 : decode cX10_depositStatement 47 = .ok (.dup2, 1) := by decide +kernel
theorem dX10_depositStatement_48 : decode cX10_depositStatement 48 = .ok (.iaload, 1) := by decide +kernel
theorem dX10_depositStatement_49 : decode cX10_depositStatement 49 = .ok (.aload_n 0, 1) := by decide +kernel
theorem dX10_depositStatement_50 : decode cX10_depositStatement 50 = .ok (.getfield 156, 3) := by decide +kernel
theorem dX10_depositStatement_53 : decode cX10_depositStatement 53 = .ok (.iadd, 1) := by decide +kernel
theorem dX10_depositStatement_54 : decode cX10_depositStatement 54 = .ok (.iastore, 1) := by decide +kernel
theorem dX10_depositStatement_55 : decode cX10_depositStatement 55 = .ok (.aload_n 0, 1) := by decide +kernel
theorem dX10_depositStatement_56 : decode cX10_depositStatement 56 = .ok (.getfield 13, 3) := by decide +kernel
theorem dX10_depositStatement_59 : decode cX10_depositStatement 59 = .ok (.bipush 6, 2) := by decide +kernel
theorem dX10_depositStatement_61 : decode cX10_depositStatement 61 = .ok (.dup2, 1) := by decide +kernel
theorem dX10_depositStatement_62 : decode cX10_depositStatement 62 = .ok (.iaload, 1) := by decide +kernel
theorem dX10_depositStatement_63 : decode cX10_depositStatement 63 = .ok (.aload_n 0, 1) := by decide +kernel
theorem dX10_depositStatement_64 : decode cX10_depositStatement 64 = .ok (.getfield 156, 3) := by decide +kernel
theorem dX10_depositStatement_67 : decode cX10_depositStatement 67 = .ok (.iadd, 1) := by decide +kernel
theorem dX10_depositStatement_68 : decode cX10_depositStatement 68 = .ok (.iastore, 1) := by decide +kernel
theorem dX10_depositStatement_69 : decode cX10_depositStatement 69 = .ok (.aload_n 0, 1) := by decide +kernel
theorem dX10_depositStatement_70 : decode cX10_depositStatement 70 = .ok (.getfield 13, 3) := by decide +kernel
theorem dX10_depositStatement_73 : decode cX10_depositStatement 73 = .ok (.iconst 0, 1) := by decide +kernel
theorem dX10_depositStatement_74 : decode cX10_depositStatement 74 = .ok (.aload_n 0, 1) := by decide +kernel
theorem dX10_depositStatement_75 : decode cX10_depositStatement 75 = .ok (.getfield 156, 3) := by decide +kernel
theorem dX10_depositStatement_78 : decode cX10_depositStatement 78 = .ok (.iconst (-1), 1) := by decide +kernel
theorem dX10_depositStatement_79 : decode cX10_depositStatement 79 = .ok (.invokestatic 229, 3) := by decide +kernel
theorem dX10_depositStatement_82 : decode cX10_depositStatement 82 = .ok (.iconst 1, 1) := by decide +kernel
theorem dX10_depositStatement_83 : decode cX10_depositStatement 83 = .ok (.ireturn, 1) := by decide +kernel
theorem dX10_resolve_0 : decode cX10_resolve 0 = .ok (.aload_n 0, 1) := by decide +kernel
theorem dX10_resolve_1 : decode cX10_resolve 1 = .ok (.iload_n 1, 1) := by decide +kernel
theorem dX10_resolve_2 : decode cX10_resolve 2 = .ok (.iload_n 2, 1) := by decide +kernel
theorem dX10_resolve_3 : decode cX10_resolve 3 = .ok (.invokestatic 378, 3) := by decide +kernel
theorem dX10_resolve_6 : decode cX10_resolve 6 = .ok (.invokevirtual 381, 3) := by decide +kernel
theorem dX10_resolve_9 : decode cX10_resolve 9 = .ok (.ifCond .ne 5, 3) := by decide +kernel
theorem dX10_resolve_12 : decode cX10_resolve 12 = .ok (.iconst 0, 1) := by decide +kernel
theorem dX10_resolve_13 : decode cX10_resolve 13 = .ok (.ireturn, 1) := by decide +kernel
theorem dX10_resolve_14 : decode cX10_resolve 14 = .ok (.aload_n 0, 1) := by decide +kernel
theorem dX10_resolve_15 : decode cX10_resolve 15 = .ok (.invokevirtual 395, 3) := by decide +kernel
theorem dX10_resolve_18 : decode cX10_resolve 18 = .ok (.aload_n 0, 1) := by decide +kernel
theorem dX10_resolve_19 : decode cX10_resolve 19 = .ok (.iload_n 1, 1) := by decide +kernel
theorem dX10_resolve_20 : decode cX10_resolve 20 = .ok (.invokevirtual 375, 3) := by decide +kernel
theorem dX10_resolve_23 : decode cX10_resolve 23 = .ok (.istore_n 3, 1) := by decide +kernel
theorem dX10_resolve_24 : decode cX10_resolve 24 = .ok (.aload_n 0, 1) := by decide +kernel
theorem dX10_resolve_25 : decode cX10_resolve 25 = .ok (.iload_n 1, 1) := by decide +kernel
theorem dX10_resolve_26 : decode cX10_resolve 26 = .ok (.iload_n 2, 1) := by decide +kernel
theorem dX10_resolve_27 : decode cX10_resolve 27 = .ok (.invokevirtual 385, 3) := by decide +kernel
theorem dX10_resolve_30 : decode cX10_resolve 30 = .ok (.istore 4, 2) := by decide +kernel
theorem dX10_resolve_32 : decode cX10_resolve 32 = .ok (.aload_n 0, 1) := by decide +kernel
theorem dX10_resolve_33 : decode cX10_resolve 33 = .ok (.iload_n 1, 1) := by decide +kernel
theorem dX10_resolve_34 : decode cX10_resolve 34 = .ok (.iconst 3, 1) := by decide +kernel
theorem dX10_resolve_35 : decode cX10_resolve 35 = .ok (.iconst 0, 1) := by decide +kernel
theorem dX10_resolve_36 : decode cX10_resolve 36 = .ok (.invokevirtual 273, 3) := by decide +kernel
theorem dX10_resolve_39 : decode cX10_resolve 39 = .ok (.aload_n 0, 1) := by decide +kernel
theorem dX10_resolve_40 : decode cX10_resolve 40 = .ok (.iload_n 1, 1) := by decide +kernel
theorem dX10_resolve_41 : decode cX10_resolve 41 = .ok (.iload 4, 2) := by decide +kernel
theorem dX10_resolve_43 : decode cX10_resolve 43 = .ok (.invokevirtual 309, 3) := by decide +kernel
theorem dX10_resolve_46 : decode cX10_resolve 46 = .ok (.pop, 1) := by decide +kernel
theorem dX10_resolve_47 : decode cX10_resolve 47 = .ok (.aload_n 0, 1) := by decide +kernel
theorem dX10_resolve_48 : decode cX10_resolve 48 = .ok (.iload_n 3, 1) := by decide +kernel
theorem dX10_resolve_49 : decode cX10_resolve 49 = .ok (.iload 4, 2) := by decide +kernel
theorem dX10_resolve_51 : decode cX10_resolve 51 = .ok (.isub, 1) := by decide +kernel
theorem dX10_resolve_52 : decode cX10_resolve 52 = .ok (.iload_n 1, 1) := by decide +kernel
theorem dX10_resolve_53 : decode cX10_resolve 53 = .ok (.invokevirtual 401, 3) := by decide +kernel
theorem dX10_resolve_56 : decode cX10_resolve 56 = .ok (.aload_n 0, 1) := by decide +kernel
theorem dX10_resolve_57 : decode cX10_resolve 57 = .ok (.iload_n 1, 1) := by decide +kernel
theorem dX10_resolve_58 : decode cX10_resolve 58 = .ok (.iconst 2, 1) := by decide +kernel
theorem dX10_resolve_59 : decode cX10_resolve 59 = .ok (.iconst 4, 1) := by decide +kernel
theorem dX10_resolve_60 : decode cX10_resolve 60 = .ok (.invokevirtual 273, 3) := by decide +kernel
theorem dX10_resolve_63 : decode cX10_resolve 63 = .ok (.iload 4, 2) := by decide +kernel
theorem dX10_resolve_65 : decode cX10_resolve 65 = .ok (.ireturn, 1) := by decide +kernel
theorem dX1_remember_0 : decode cX1_remember 0 = .ok (.aload_n 0, 1) := by decide +kernel
theorem dX1_remember_1 : decode cX1_remember 1 = .ok (.getfield 13, 3) := by decide +kernel
theorem dX1_remember_4 : decode cX1_remember 4 = .ok (.aload_n 0, 1) := by decide +kernel
theorem dX1_remember_5 : decode cX1_remember 5 = .ok (.getfield 20, 3) := by decide +kernel
theorem dX1_remember_8 : decode cX1_remember 8 = .ok (.aaload, 1) := by decide +kernel
theorem dX1_remember_9 : decode cX1_remember 9 = .ok (.aload_n 1, 1) := by decide +kernel
theorem dX1_remember_10 : decode cX1_remember 10 = .ok (.invokevirtual 24, 3) := by decide +kernel
theorem dX1_remember_13 : decode cX1_remember 13 = .ok (.aload_n 0, 1) := by decide +kernel
theorem dX1_remember_14 : decode cX1_remember 14 = .ok (.aload_n 0, 1) := by decide +kernel
theorem dX1_remember_15 : decode cX1_remember 15 = .ok (.getfield 20, 3) := by decide +kernel
theorem dX1_remember_18 : decode cX1_remember 18 = .ok (.iconst 1, 1) := by decide +kernel
theorem dX1_remember_19 : decode cX1_remember 19 = .ok (.iadd, 1) := by decide +kernel
theorem dX1_remember_20 : decode cX1_remember 20 = .ok (.bipush 10, 2) := by decide +kernel
theorem dX1_remember_22 : decode cX1_remember 22 = .ok (.irem, 1) := by decide +kernel
theorem dX1_remember_23 : decode cX1_remember 23 = .ok (.putfield 20, 3) := by decide +kernel
theorem dX1_remember_26 : decode cX1_remember 26 = .ok (.aload_n 0, 1) := by decide +kernel
theorem dX1_remember_27 : decode cX1_remember 27 = .ok (.aload_n 0, 1) := by decide +kernel
theorem dX1_remember_28 : decode cX1_remember 28 = .ok (.getfield 28, 3) := by decide +kernel
theorem dX1_remember_31 : decode cX1_remember 31 = .ok (.iconst 1, 1) := by decide +kernel
theorem dX1_remember_32 : decode cX1_remember 32 = .ok (.iadd, 1) := by decide +kernel
theorem dX1_remember_33 : decode cX1_remember 33 = .ok (.bipush 10, 2) := by decide +kernel
theorem dX1_remember_35 : decode cX1_remember 35 = .ok (.invokestatic 31, 3) := by decide +kernel
theorem dX1_remember_38 : decode cX1_remember 38 = .ok (.putfield 28, 3) := by decide +kernel
theorem dX1_remember_41 : decode cX1_remember 41 = .ok (.return_, 1) := by decide +kernel
theorem dX2_copyFrom_0 : decode cX2_copyFrom 0 = .ok (.aload_n 1, 1) := by decide +kernel
theorem dX2_copyFrom_1 : decode cX2_copyFrom 1 = .ok (.getfield 11, 3) := by decide +kernel
theorem dX2_copyFrom_4 : decode cX2_copyFrom 4 = .ok (.iconst 0, 1) := by decide +kernel
theorem dX2_copyFrom_5 : decode cX2_copyFrom 5 = .ok (.aload_n 0, 1) := by decide +kernel
theorem dX2_copyFrom_6 : decode cX2_copyFrom 6 = .ok (.getfield 11, 3) := by decide +kernel
theorem dX2_copyFrom_9 : decode cX2_copyFrom 9 = .ok (.iconst 0, 1) := by decide +kernel
theorem dX2_copyFrom_10 : decode cX2_copyFrom 10 = .ok (.aload_n 0, 1) := by decide +kernel
theorem dX2_copyFrom_11 : decode cX2_copyFrom 11 = .ok (.getfield 11, 3) := by decide +kernel
theorem dX2_copyFrom_14 : decode cX2_copyFrom 14 = .ok (.arraylength, 1) := by decide +kernel
theorem dX2_copyFrom_15 : decode cX2_copyFrom 15 = .ok (.invokestatic 22, 3) := by decide +kernel
theorem dX2_copyFrom_18 : decode cX2_copyFrom 18 = .ok (.aload_n 0, 1) := by decide +kernel
theorem dX2_copyFrom_19 : decode cX2_copyFrom 19 = .ok (.aload_n 1, 1) := by decide +kernel
theorem dX2_copyFrom_20 : decode cX2_copyFrom 20 = .ok (.getfield 15, 3) := by decide +kernel
theorem dX2_copyFrom_23 : decode cX2_copyFrom 23 = .ok (.putfield 15, 3) := by decide +kernel
theorem dX2_copyFrom_26 : decode cX2_copyFrom 26 = .ok (.aload_n 0, 1) := by decide +kernel
theorem dX2_copyFrom_27 : decode cX2_copyFrom 27 = .ok (.aload_n 1, 1) := by decide +kernel
theorem dX2_copyFrom_28 : decode cX2_copyFrom 28 = .ok (.getfield 19, 3) := by decide +kernel
theorem dX2_copyFrom_31 : decode cX2_copyFrom 31 = .ok (.putfield 19, 3) := by decide +kernel
theorem dX2_copyFrom_34 : decode cX2_copyFrom 34 = .ok (.return_, 1) := by decide +kernel
theorem dX2_enter_0 : decode cX2_enter 0 = .ok (.iload_n 3, 1) := by decide +kernel
theorem dX2_enter_1 : decode cX2_enter 1 = .ok (.ifCond .gt 4, 3) := by decide +kernel
theorem dX2_enter_4 : decode cX2_enter 4 = .ok (.return_, 1) := by decide +kernel
theorem dX2_enter_5 : decode cX2_enter 5 = .ok (.aload_n 0, 1) := by decide +kernel
theorem dX2_enter_6 : decode cX2_enter 6 = .ok (.getfield 15, 3) := by decide +kernel
theorem dX2_enter_9 : decode cX2_enter 9 = .ok (.iconst 4, 1) := by decide +kernel
theorem dX2_enter_10 : decode cX2_enter 10 = .ok (.imul, 1) := by decide +kernel
theorem dX2_enter_11 : decode cX2_enter 11 = .ok (.istore 5, 2) := by decide +kernel
theorem dX2_enter_13 : decode cX2_enter 13 = .ok (.aload_n 0, 1) := by decide +kernel
theorem dX2_enter_14 : decode cX2_enter 14 = .ok (.getfield 11, 3) := by decide +kernel
theorem dX2_enter_17 : decode cX2_enter 17 = .ok (.iload 5, 2) := by decide +kernel
theorem dX2_enter_19 : decode cX2_enter 19 = .ok (.iconst 0, 1) := by decide +kernel
theorem dX2_enter_20 : decode cX2_enter 20 = .ok (.iadd, 1) := by decide +kernel
theorem dX2_enter_21 : decode cX2_enter 21 = .ok (.iload_n 1, 1) := by decide +kernel
theorem dX2_enter_22 : decode cX2_enter 22 = .ok (.iastore, 1) := by decide +kernel
theorem dX2_enter_23 : decode cX2_enter 23 = .ok (.aload_n 0, 1) := by decide +kernel
theorem dX2_enter_24 : decode cX2_enter 24 = .ok (.getfield 11, 3) := by decide +kernel
theorem dX2_enter_27 : decode cX2_enter 27 = .ok (.iload 5, 2) := by decide +kernel
theorem dX2_enter_29 : decode cX2_enter 29 = .ok (.iconst 1, 1) := by decide +kernel
theorem dX2_enter_30 : decode cX2_enter 30 = .ok (.iadd, 1) := by decide +kernel
theorem dX2_enter_31 : decode cX2_enter 31 = .ok (.iload_n 2, 1) := by decide +kernel
theorem dX2_enter_32 : decode cX2_enter 32 = .ok (.iastore, 1) := by decide +kernel
theorem dX2_enter_33 : decode cX2_enter 33 = .ok (.aload_n 0, 1) := by decide +kernel
theorem dX2_enter_34 : decode cX2_enter 34 = .ok (.getfield 11, 3) := by decide +kernel
theorem dX2_enter_37 : decode cX2_enter 37 = .ok (.iload 5, 2) := by decide +kernel
theorem dX2_enter_39 : decode cX2_enter 39 = .ok (.iconst 2, 1) := by decide +kernel
theorem dX2_enter_40 : decode cX2_enter 40 = .ok (.iadd, 1) := by decide +kernel
theorem dX2_enter_41 : decode cX2_enter 41 = .ok (.iload_n 3, 1) := by decide +kernel
theorem dX2_enter_42 : decode cX2_enter 42 = .ok (.iastore, 1) := by decide +kernel
theorem dX2_enter_43 : decode cX2_enter 43 = .ok (.aload_n 0, 1) := by decide +kernel
theorem dX2_enter_44 : decode cX2_enter 44 = .ok (.getfield 11, 3) := by decide +kernel
theorem dX2_enter_47 : decode cX2_enter 47 = .ok (.iload 5, 2) := by decide +kernel
theorem dX2_enter_49 : decode cX2_enter 49 = .ok (.iconst 3, 1) := by decide +kernel
theorem dX2_enter_50 : decode cX2_enter 50 = .ok (.iadd, 1) := by decide +kernel
theorem dX2_enter_51 : decode cX2_enter 51 = .ok (.iload 4, 2) := by decide +kernel
theorem dX2_enter_53 : decode cX2_enter 53 = .ok (.iastore, 1) := by decide +kernel
theorem dX2_enter_54 : decode cX2_enter 54 = .ok (.aload_n 0, 1) := by decide +kernel
theorem dX2_enter_55 : decode cX2_enter 55 = .ok (.aload_n 0, 1) := by decide +kernel
theorem dX2_enter_56 : decode cX2_enter 56 = .ok (.getfield 15, 3) := by decide +kernel
theorem dX2_enter_59 : decode cX2_enter 59 = .ok (.iconst 1, 1) := by decide +kernel
theorem dX2_enter_60 : decode cX2_enter 60 = .ok (.iadd, 1) := by decide +kernel
theorem dX2_enter_61 : decode cX2_enter 61 = .ok (.bipush 60, 2) := by decide +kernel
theorem dX2_enter_63 : decode cX2_enter 63 = .ok (.irem, 1) := by decide +kernel
theorem dX2_enter_64 : decode cX2_enter 64 = .ok (.putfield 15, 3) := by decide +kernel
theorem dX2_enter_67 : decode cX2_enter 67 = .ok (.aload_n 0, 1) := by decide +kernel
theorem dX2_enter_68 : decode cX2_enter 68 = .ok (.aload_n 0, 1) := by decide +kernel
theorem dX2_enter_69 : decode cX2_enter 69 = .ok (.getfield 19, 3) := by decide +kernel
theorem dX2_enter_72 : decode cX2_enter 72 = .ok (.iconst 1, 1) := by decide +kernel
theorem dX2_enter_73 : decode cX2_enter 73 = .ok (.iadd, 1) := by decide +kernel
theorem dX2_enter_74 : decode cX2_enter 74 = .ok (.bipush 60, 2) := by decide +kernel
theorem dX2_enter_76 : decode cX2_enter 76 = .ok (.invokestatic 28, 3) := by decide +kernel
theorem dX2_enter_79 : decode cX2_enter 79 = .ok (.putfield 19, 3) := by decide +kernel
theorem dX2_enter_82 : decode cX2_enter 82 = .ok (.return_, 1) := by decide +kernel
theorem dX3_conditionHolds_0 : decode cX3_conditionHolds 0 = .ok (.iconst 0, 1) := by decide +kernel
theorem dX3_conditionHolds_1 : decode cX3_conditionHolds 1 = .ok (.istore 7, 2) := by decide +kernel
theorem dX3_conditionHolds_3 : decode cX3_conditionHolds 3 = .ok (.aload_n 0, 1) := by decide +kernel
theorem dX3_conditionHolds_4 : decode cX3_conditionHolds 4 = .ok (.iload_n 1, 1) := by decide +kernel
theorem dX3_conditionHolds_5 : decode cX3_conditionHolds 5 = .ok (.invokevirtual 72, 3) := by decide +kernel
theorem dX3_conditionHolds_8 : decode cX3_conditionHolds 8 = .ok (.istore 8, 2) := by decide +kernel
theorem dX3_conditionHolds_10 : decode cX3_conditionHolds 10 = .ok (.iload 8, 2) := by decide +kernel
theorem dX3_conditionHolds_12 : decode cX3_conditionHolds 12 = .ok (.aload_n 0, 1) := by decide +kernel
theorem dX3_conditionHolds_13 : decode cX3_conditionHolds 13 = .ok (.getfield 41, 3) := by decide +kernel
theorem dX3_conditionHolds_16 : decode cX3_conditionHolds 16 = .ok (.iload_n 1, 1) := by decide +kernel
theorem dX3_conditionHolds_17 : decode cX3_conditionHolds 17 = .ok (.iaload, 1) := by decide +kernel
theorem dX3_conditionHolds_18 : decode cX3_conditionHolds 18 = .ok (.if_icmp .ge 208, 3) := by decide +kernel
theorem dX3_conditionHolds_21 : decode cX3_conditionHolds 21 = .ok (.iload 7, 2) := by decide +kernel
theorem dX3_conditionHolds_23 : decode cX3_conditionHolds 23 = .ok (.iconst 1, 1) := by decide +kernel
theorem dX3_conditionHolds_24 : decode cX3_conditionHolds 24 = .ok (.iand, 1) := by decide +kernel
theorem dX3_conditionHolds_25 : decode cX3_conditionHolds 25 = .ok (.istore 9, 2) := by decide +kernel
theorem dX3_conditionHolds_27 : decode cX3_conditionHolds 27 = .ok (.aload_n 0, 1) := by decide +kernel
theorem dX3_conditionHolds_28 : decode cX3_conditionHolds 28 = .ok (.getfield 38, 3) := by decide +kernel
theorem dX3_conditionHolds_31 : decode cX3_conditionHolds 31 = .ok (.iload 8, 2) := by decide +kernel
theorem dX3_conditionHolds_33 : decode cX3_conditionHolds 33 = .ok (.iaload, 1) := by decide +kernel
theorem dX3_conditionHolds_34 : decode cX3_conditionHolds 34 = .ok (.istore 10, 2) := by decide +kernel
theorem dX3_conditionHolds_36 : decode cX3_conditionHolds 36 = .ok (.aload_n 0, 1) := by decide +kernel
theorem dX3_conditionHolds_37 : decode cX3_conditionHolds 37 = .ok (.getfield 35, 3) := by decide +kernel
theorem dX3_conditionHolds_40 : decode cX3_conditionHolds 40 = .ok (.iload 8, 2) := by decide +kernel
theorem dX3_conditionHolds_42 : decode cX3_conditionHolds 42 = .ok (.iaload, 1) := by decide +kernel
theorem dX3_conditionHolds_43 : decode cX3_conditionHolds 43 = .ok (.tableswitch 169 14 21 #[69, 54, 45, 81, 102, 118, 135, 157], 45) := by decide +kernel
theorem dX3_conditionHolds_88 : decode cX3_conditionHolds 88 = .ok (.iload 7, 2) := by decide +kernel
theorem dX3_conditionHolds_90 : decode cX3_conditionHolds 90 = .ok (.iconst 1, 1) := by decide +kernel
theorem dX3_conditionHolds_91 : decode cX3_conditionHolds 91 = .ok (.ixor, 1) := by decide +kernel
theorem dX3_conditionHolds_92 : decode cX3_conditionHolds 92 = .ok (.istore 7, 2) := by decide +kernel
theorem dX3_conditionHolds_94 : decode cX3_conditionHolds 94 = .ok (.goto 126, 3) := by decide +kernel
theorem dX3_conditionHolds_97 : decode cX3_conditionHolds 97 = .ok (.iload 7, 2) := by decide +kernel
theorem dX3_conditionHolds_99 : decode cX3_conditionHolds 99 = .ok (.iconst 1, 1) := by decide +kernel
theorem dX3_conditionHolds_100 : decode cX3_conditionHolds 100 = .ok (.iushr, 1) := by decide +kernel
theorem dX3_conditionHolds_101 : decode cX3_conditionHolds 101 = .ok (.iload 9, 2) := by decide +kernel
theorem dX3_conditionHolds_103 : decode cX3_conditionHolds 103 = .ok (.bipush (-2), 2) := by decide +kernel
theorem dX3_conditionHolds_105 : decode cX3_conditionHolds 105 = .ok (.ior, 1) := by decide +kernel
theorem dX3_conditionHolds_106 : decode cX3_conditionHolds 106 = .ok (.iand, 1) := by decide +kernel
theorem dX3_conditionHolds_107 : decode cX3_conditionHolds 107 = .ok (.istore 7, 2) := by decide +kernel
theorem dX3_conditionHolds_109 : decode cX3_conditionHolds 109 = .ok (.goto 111, 3) := by decide +kernel
theorem dX3_conditionHolds_112 : decode cX3_conditionHolds 112 = .ok (.iload 7, 2) := by decide +kernel
theorem dX3_conditionHolds_114 : decode cX3_conditionHolds 114 = .ok (.iconst 1, 1) := by decide +kernel
theorem dX3_conditionHolds_115 : decode cX3_conditionHolds 115 = .ok (.iushr, 1) := by decide +kernel
theorem dX3_conditionHolds_116 : decode cX3_conditionHolds 116 = .ok (.iload 9, 2) := by decide +kernel
theorem dX3_conditionHolds_118 : decode cX3_conditionHolds 118 = .ok (.ior, 1) := by decide +kernel
theorem dX3_conditionHolds_119 : decode cX3_conditionHolds 119 = .ok (.istore 7, 2) := by decide +kernel
theorem dX3_conditionHolds_121 : decode cX3_conditionHolds 121 = .ok (.goto 99, 3) := by decide +kernel
theorem dX3_conditionHolds_124 : decode cX3_conditionHolds 124 = .ok (.iload 7, 2) := by decide +kernel
theorem dX3_conditionHolds_126 : decode cX3_conditionHolds 126 = .ok (.iload_n 2, 1) := by decide +kernel
theorem dX3_conditionHolds_127 : decode cX3_conditionHolds 127 = .ok (.iload 10, 2) := by decide +kernel
theorem dX3_conditionHolds_129 : decode cX3_conditionHolds 129 = .ok (.if_icmp .lt 7, 3) := by decide +kernel
theorem dX3_conditionHolds_132 : decode cX3_conditionHolds 132 = .ok (.iconst 1, 1) := by decide +kernel
theorem dX3_conditionHolds_133 : decode cX3_conditionHolds 133 = .ok (.goto 4, 3) := by decide +kernel
theorem dX3_conditionHolds_136 : decode cX3_conditionHolds 136 = .ok (.iconst 0, 1) := by decide +kernel
theorem dX3_conditionHolds_137 : decode cX3_conditionHolds 137 = .ok (.invokestatic 78, 3) := by decide +kernel
theorem dX3_conditionHolds_140 : decode cX3_conditionHolds 140 = .ok (.istore 7, 2) := by decide +kernel
theorem dX3_conditionHolds_142 : decode cX3_conditionHolds 142 = .ok (.goto 78, 3) := by decide +kernel
theorem dX3_conditionHolds_145 : decode cX3_conditionHolds 145 = .ok (.iload 7, 2) := by decide +kernel
theorem dX3_conditionHolds_147 : decode cX3_conditionHolds 147 = .ok (.iload_n 3, 1) := by decide +kernel
theorem dX3_conditionHolds_148 : decode cX3_conditionHolds 148 = .ok (.iload 10, 2) := by decide +kernel
theorem dX3_conditionHolds_150 : decode cX3_conditionHolds 150 = .ok (.invokestatic 82, 3) := by decide +kernel
theorem dX3_conditionHolds_153 : decode cX3_conditionHolds 153 = .ok (.invokestatic 78, 3) := by decide +kernel
theorem dX3_conditionHolds_156 : decode cX3_conditionHolds 156 = .ok (.istore 7, 2) := by decide +kernel
theorem dX3_conditionHolds_158 : decode cX3_conditionHolds 158 = .ok (.goto 62, 3) := by decide +kernel
theorem dX3_conditionHolds_161 : decode cX3_conditionHolds 161 = .ok (.iload 7, 2) := by decide +kernel
theorem dX3_conditionHolds_163 : decode cX3_conditionHolds 163 = .ok (.iload 4, 2) := by decide +kernel
theorem dX3_conditionHolds_165 : decode cX3_conditionHolds 165 = .ok (.iload 10, 2) := by decide +kernel
theorem dX3_conditionHolds_167 : decode cX3_conditionHolds 167 = .ok (.invokestatic 82, 3) := by decide +kernel
theorem dX3_conditionHolds_170 : decode cX3_conditionHolds 170 = .ok (.invokestatic 78, 3) := by decide +kernel
theorem dX3_conditionHolds_173 : decode cX3_conditionHolds 173 = .ok (.istore 7, 2) := by decide +kernel
theorem dX3_conditionHolds_175 : decode cX3_conditionHolds 175 = .ok (.goto 45, 3) := by decide +kernel
theorem dX3_conditionHolds_178 : decode cX3_conditionHolds 178 = .ok (.iload 7, 2) := by decide +kernel
theorem dX3_conditionHolds_180 : decode cX3_conditionHolds 180 = .ok (.iload 5, 2) := by decide +kernel
theorem dX3_conditionHolds_182 : decode cX3_conditionHolds 182 = .ok (.iload 10, 2) := by decide +kernel
theorem dX3_conditionHolds_184 : decode cX3_conditionHolds 184 = .ok (.if_icmp .lt 7, 3) := by decide +kernel
theorem dX3_conditionHolds_187 : decode cX3_conditionHolds 187 = .ok (.iconst 1, 1) := by decide +kernel
theorem dX3_conditionHolds_188 : decode cX3_conditionHolds 188 = .ok (.goto 4, 3) := by decide +kernel
theorem dX3_conditionHolds_191 : decode cX3_conditionHolds 191 = .ok (.iconst 0, 1) := by decide +kernel
theorem dX3_conditionHolds_192 : decode cX3_conditionHolds 192 = .ok (.invokestatic 78, 3) := by decide +kernel
theorem dX3_conditionHolds_195 : decode cX3_conditionHolds 195 = .ok (.istore 7, 2) := by decide +kernel
theorem dX3_conditionHolds_197 : decode cX3_conditionHolds 197 = .ok (.goto 23, 3) := by decide +kernel
theorem dX3_conditionHolds_200 : decode cX3_conditionHolds 200 = .ok (.iload 7, 2) := by decide +kernel
theorem dX3_conditionHolds_202 : decode cX3_conditionHolds 202 = .ok (.iload 6, 2) := by decide +kernel
theorem dX3_conditionHolds_204 : decode cX3_conditionHolds 204 = .ok (.invokestatic 78, 3) := by decide +kernel
theorem dX3_conditionHolds_207 : decode cX3_conditionHolds 207 = .ok (.istore 7, 2) := by decide +kernel
theorem dX3_conditionHolds_209 : decode cX3_conditionHolds 209 = .ok (.goto 11, 3) := by decide +kernel
theorem dX3_conditionHolds_212 : decode cX3_conditionHolds 212 = .ok (.iload 7, 2) := by decide +kernel
theorem dX3_conditionHolds_214 : decode cX3_conditionHolds 214 = .ok (.iconst 1, 1) := by decide +kernel
theorem dX3_conditionHolds_215 : decode cX3_conditionHolds 215 = .ok (.invokestatic 78, 3) := by decide +kernel
theorem dX3_conditionHolds_218 : decode cX3_conditionHolds 218 = .ok (.istore 7, 2) := by decide +kernel
theorem dX3_conditionHolds_220 : decode cX3_conditionHolds 220 = .ok (.iinc 8 1, 3) := by decide +kernel
theorem dX3_conditionHolds_223 : decode cX3_conditionHolds 223 = .ok (.goto (-213), 3) := by decide +kernel
theorem dX3_conditionHolds_226 : decode cX3_conditionHolds 226 = .ok (.iload 7, 2) := by decide +kernel
theorem dX3_conditionHolds_228 : decode cX3_conditionHolds 228 = .ok (.iconst 1, 1) := by decide +kernel
theorem dX3_conditionHolds_229 : decode cX3_conditionHolds 229 = .ok (.iand, 1) := by decide +kernel
theorem dX3_conditionHolds_230 : decode cX3_conditionHolds 230 = .ok (.iconst 1, 1) := by decide +kernel
theorem dX3_conditionHolds_231 : decode cX3_conditionHolds 231 = .ok (.if_icmp .ne 7, 3) := by decide +kernel
theorem dX3_conditionHolds_234 : decode cX3_conditionHolds 234 = .ok (.iconst 1, 1) := by decide +kernel
theorem dX3_conditionHolds_235 : decode cX3_conditionHolds 235 = .ok (.goto 4, 3) := by decide +kernel
theorem dX3_conditionHolds_238 : decode cX3_conditionHolds 238 = .ok (.iconst 0, 1) := by decide +kernel
theorem dX3_conditionHolds_239 : decode cX3_conditionHolds 239 = .ok (.ireturn, 1) := by decide +kernel
theorem dX3_contains_0 : decode cX3_contains 0 = .ok (.iload_n 0, 1) := by decide +kernel
theorem dX3_contains_1 : decode cX3_contains 1 = .ok (.iload_n 1, 1) := by decide +kernel
theorem dX3_contains_2 : decode cX3_contains 2 = .ok (.iushr, 1) := by decide +kernel
theorem dX3_contains_3 : decode cX3_contains 3 = .ok (.iconst 1, 1) := by decide +kernel
theorem dX3_contains_4 : decode cX3_contains 4 = .ok (.iand, 1) := by decide +kernel
theorem dX3_contains_5 : decode cX3_contains 5 = .ok (.iconst 1, 1) := by decide +kernel
theorem dX3_contains_6 : decode cX3_contains 6 = .ok (.if_icmp .ne 7, 3) := by decide +kernel
theorem dX3_contains_9 : decode cX3_contains 9 = .ok (.iconst 1, 1) := by decide +kernel
theorem dX3_contains_10 : decode cX3_contains 10 = .ok (.goto 4, 3) := by decide +kernel
theorem dX3_contains_13 : decode cX3_contains 13 = .ok (.iconst 0, 1) := by decide +kernel
theorem dX3_contains_14 : decode cX3_contains 14 = .ok (.ireturn, 1) := by decide +kernel
theorem dX3_firstStep_0 : decode cX3_firstStep 0 = .ok (.iload_n 1, 1) := by decide +kernel
theorem dX3_firstStep_1 : decode cX3_firstStep 1 = .ok (.ifCond .le 14, 3) := by decide +kernel
theorem dX3_firstStep_4 : decode cX3_firstStep 4 = .ok (.aload_n 0, 1) := by decide +kernel
theorem dX3_firstStep_5 : decode cX3_firstStep 5 = .ok (.getfield 41, 3) := by decide +kernel
theorem dX3_firstStep_8 : decode cX3_firstStep 8 = .ok (.iload_n 1, 1) := by decide +kernel
theorem dX3_firstStep_9 : decode cX3_firstStep 9 = .ok (.iconst 1, 1) := by decide +kernel
theorem dX3_firstStep_10 : decode cX3_firstStep 10 = .ok (.isub, 1) := by decide +kernel
theorem dX3_firstStep_11 : decode cX3_firstStep 11 = .ok (.iaload, 1) := by decide +kernel
theorem dX3_firstStep_12 : decode cX3_firstStep 12 = .ok (.goto 4, 3) := by decide +kernel
theorem dX3_firstStep_15 : decode cX3_firstStep 15 = .ok (.iconst 0, 1) := by decide +kernel
theorem dX3_firstStep_16 : decode cX3_firstStep 16 = .ok (.ireturn, 1) := by decide +kernel
theorem dX3_withAnswer_0 : decode cX3_withAnswer 0 = .ok (.iload_n 0, 1) := by decide +kernel
theorem dX3_withAnswer_1 : decode cX3_withAnswer 1 = .ok (.iconst 1, 1) := by decide +kernel
theorem dX3_withAnswer_2 : decode cX3_withAnswer 2 = .ok (.ishl, 1) := by decide +kernel
theorem dX3_withAnswer_3 : decode cX3_withAnswer 3 = .ok (.iload_n 1, 1) := by decide +kernel
theorem dX3_withAnswer_4 : decode cX3_withAnswer 4 = .ok (.ifCond .eq 7, 3) := by decide +kernel
theorem dX3_withAnswer_7 : decode cX3_withAnswer 7 = .ok (.iconst 1, 1) := by decide +kernel
theorem dX3_withAnswer_8 : decode cX3_withAnswer 8 = .ok (.goto 4, 3) := by decide +kernel
theorem dX3_withAnswer_11 : decode cX3_withAnswer 11 = .ok (.iconst 0, 1) := by decide +kernel
theorem dX3_withAnswer_12 : decode cX3_withAnswer 12 = .ok (.ior, 1) := by decide +kernel
theorem dX3_withAnswer_13 : decode cX3_withAnswer 13 = .ok (.ireturn, 1) := by decide +kernel
