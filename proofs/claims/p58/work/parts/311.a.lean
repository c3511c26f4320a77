set_option maxRecDepth 20000 in
theorem ggX0_openWith_X0_takeDeposit : GoodIn wsX0_openWith wsX0_takeDeposit := goodIn_r _ [32, 8, 9, 2, 7, 33, 34, 35, 24, 36, 26, 37, 27, 38, 39, 40, 41, 42, 43, 44, 45, 46, 47, 48, 49, 50, 51, 52, 53, 54, 55, 56, 57, 58, 59, 60, 61, 79, 80, 81] rfl (by decide +kernel)
set_option maxRecDepth 20000 in
theorem gX0_openWith_X0_takeDeposit : GoodIn wsX0_openWith (wsV RX0 95 RX0 yX0_takeDeposit wsX0_takeDeposit) := goodIn_app (goodIn_r _ [28, 29, 30, 31] rfl (by decide +kernel)) ggX0_openWith_X0_takeDeposit
set_option maxRecDepth 20000 in
theorem ggX0_settle_X0_leaveDispute : GoodIn wsX0_settle wsX0_leaveDispute := goodIn_r _ [33, 21, 6, 62, 63, 64, 65, 66, 67, 68, 69, 70, 71, 72, 73, 74, 75, 76, 77, 78, 79, 80, 81] rfl (by decide +kernel)
set_option maxRecDepth 20000 in
theorem gX0_settle_X0_leaveDispute : GoodIn wsX0_settle (wsV RX0 173 RX0 yX0_leaveDispute wsX0_leaveDispute) := goodIn_app (goodIn_r _ [30, 31, 32, 4] rfl (by decide +kernel)) ggX0_settle_X0_leaveDispute
set_option maxRecDepth 20000 in
theorem ggX0_settle_X0_makePayment : GoodIn wsX0_settle wsX0_makePayment := goodIn_r _ [37, 15, 26, 16, 38, 39, 40, 41, 21, 42, 43, 44, 45, 46, 47, 48, 49, 50, 51, 52, 53, 54, 55, 56, 8, 9, 10, 17, 18, 19, 4, 20, 11, 12, 13, 14, 62, 63, 64, 65, 66, 67, 68, 69, 70, 71, 72, 73, 74, 75, 76, 77, 78, 79, 80, 81, 82, 83, 84, 85, 86, 87, 88, 89, 90, 91, 92, 93, 94, 95, 96, 97, 98, 99, 100, 101] rfl (by decide +kernel)
set_option maxRecDepth 20000 in
theorem gX0_settle_X0_makePayment : GoodIn wsX0_settle (wsV RX0 177 RX0 yX0_makePayment wsX0_makePayment) := goodIn_app (goodIn_r _ [34, 35, 36, 4] rfl (by decide +kernel)) ggX0_settle_X0_makePayment
set_option maxRecDepth 20000 in
theorem ggX0_settle_X0_moneyToSplit : GoodIn wsX0_settle wsX0_moneyToSplit := goodIn_r _ [5, 6, 7, 8, 9, 10, 11, 12, 13, 4, 14, 15, 16, 17, 18, 19, 20, 21, 22, 23, 24, 25, 26, 62, 63, 64, 65, 66, 67, 68, 69, 70, 71, 72, 73, 74, 75, 76, 77, 78, 79, 80, 81, 82, 83, 84, 85, 86, 87, 88, 89, 90, 91, 92, 93, 94, 95, 96, 97, 98] rfl (by decide +kernel)
set_option maxRecDepth 20000 in
theorem gX0_settle_X0_moneyToSplit : GoodIn wsX0_settle (wsV RX0 167 RX0 yX0_moneyToSplit wsX0_moneyToSplit) := goodIn_app (goodIn_r _ [1, 2, 3, 4] rfl (by decide +kernel)) ggX0_settle_X0_moneyToSplit
set_option maxRecDepth 20000 in
theorem ggX0_settle_X0_partOf : GoodIn wsX0_settle wsX0_partOf := goodIn_r _ [29] rfl (by decide +kernel)
set_option maxRecDepth 20000 in
theorem gX0_settle_X0_partOf : GoodIn wsX0_settle (va_wsS RX0 170 yX0_partOf wsX0_partOf) := goodIn_app (goodIn_r _ [27, 28, 4] rfl (by decide +kernel)) ggX0_settle_X0_partOf
set_option maxRecDepth 20000 in
theorem ggX0_settle_X0_refund : GoodIn wsX0_settle wsX0_refund := goodIn_r _ [60, 26, 61, 40, 41, 48, 49, 50, 51, 52, 53, 54, 55, 56, 8, 9, 10, 62, 63, 64, 65, 66, 67, 68, 69, 70, 71, 72, 73, 74, 75, 76, 77, 78, 79, 80, 81, 99, 100, 101] rfl (by decide +kernel)
set_option maxRecDepth 20000 in
theorem gX0_settle_X0_refund : GoodIn wsX0_settle (wsV RX0 180 RX0 yX0_refund wsX0_refund) := goodIn_app (goodIn_r _ [57, 58, 59, 4] rfl (by decide +kernel)) ggX0_settle_X0_refund
set_option maxRecDepth 20000 in
theorem ggX10_rate_X10_advance : GoodIn wsX10_rate wsX10_advance := goodIn_r _ [7, 8, 9, 10, 11, 1, 12, 13, 2, 14, 15, 16, 6, 17, 18, 19, 20, 21, 22, 23, 24, 25, 26, 27, 28, 29, 30, 50, 51, 52, 53, 54, 55, 56, 57, 58, 59, 60, 61, 62, 63, 64, 65, 66, 67, 68, 69, 70, 71, 72, 73, 74, 75, 76, 77, 78, 79, 80, 81, 82, 83, 84, 85, 86, 87, 88] rfl (by decide +kernel)
set_option maxRecDepth 20000 in
theorem gX10_rate_X10_advance : GoodIn wsX10_rate (wsV RX10 159 RX10 yX10_advance wsX10_advance) := goodIn_app (goodIn_r _ [3, 4, 5, 6] rfl (by decide +kernel)) ggX10_rate_X10_advance
set_option maxRecDepth 20000 in
theorem ggX10_rate_X10_fail : GoodIn wsX10_rate wsX10_fail := goodIn_r _ [44, 1, 45, 9, 46, 50, 51, 52, 53, 54, 55, 56, 57, 58, 59, 60, 61, 62, 63, 64, 65, 66, 67, 68, 69, 70, 71, 72, 73, 74, 75, 76, 77, 78, 79, 80, 81, 82, 83, 84, 85, 86, 87, 88] rfl (by decide +kernel)
set_option maxRecDepth 20000 in
theorem gX10_rate_X10_fail : GoodIn wsX10_rate (wsV RX10 149 RX10 yX10_fail wsX10_fail) := goodIn_app (goodIn_r _ [41, 42, 43, 6] rfl (by decide +kernel)) ggX10_rate_X10_fail
set_option maxRecDepth 20000 in
theorem ggX10_rate_X10_numberTo : GoodIn wsX10_rate wsX10_numberTo := goodIn_r _ [34, 35, 36, 37, 38, 39, 6, 40, 1, 2, 41, 42, 43, 44, 45, 9, 46, 47, 48, 49, 3, 4, 5, 7, 8, 10, 11, 12, 13, 14, 15, 16, 17, 18, 19, 20, 21, 22, 23, 24, 25, 26, 27, 28, 29, 30, 50, 51, 52, 53, 54, 55, 56, 57, 58, 59, 60, 61, 62, 63, 64, 65, 66, 67, 68, 69, 70, 71, 72, 73, 74, 75, 76, 77, 78, 79, 80, 81, 82, 83, 84, 85, 86, 87, 88] rfl (by decide +kernel)
set_option maxRecDepth 20000 in
theorem gX10_rate_X10_numberTo : GoodIn wsX10_rate (wsV RX10 222 RX10 yX10_numberTo wsX10_numberTo) := goodIn_app (goodIn_r _ [31, 32, 33, 6] rfl (by decide +kernel)) ggX10_rate_X10_numberTo
set_option maxRecDepth 20000 in
theorem ggX9_approve_X0_holdsOn : GoodIn wsX9_approve wsX0_holdsOn := goodIn_r _ [76, 62, 77, 78, 79, 17, 80, 41, 19, 81, 82, 83, 84, 63, 85, 86, 87, 88, 89, 90, 91, 92, 56, 57, 93, 94, 95, 96, 97, 98, 99, 100, 101, 102, 103, 104, 105, 106, 107, 117, 118, 119, 120, 121, 122, 123, 124, 125, 126, 127, 128, 129, 130, 131, 132, 133, 134, 135, 136, 137, 138, 139, 140, 141, 142, 143, 144, 145, 146, 147, 148, 149, 150, 151, 152, 153] rfl (by decide +kernel)
set_option maxRecDepth 20000 in
theorem gX9_approve_X0_holdsOn : GoodIn wsX9_approve (wsV RX9 139 RX0 yX0_holdsOn wsX0_holdsOn) := goodIn_app (goodIn_r _ [73, 74, 75, 17] rfl (by decide +kernel)) ggX9_approve_X0_holdsOn
set_option maxRecDepth 20000 in
theorem ggX9_approve_X0_isClosed : GoodIn wsX9_approve wsX0_isClosed := goodIn_r _ [18, 19, 117, 118, 119, 120, 121, 122, 123, 124, 125, 126, 127, 128, 129, 130, 131, 132, 133, 134, 135, 136] rfl (by decide +kernel)
set_option maxRecDepth 20000 in
theorem gX9_approve_X0_isClosed : GoodIn wsX9_approve (wsV RX9 161 RX0 yX0_isClosed wsX0_isClosed) := goodIn_app (goodIn_r _ [14, 15, 16, 17] rfl (by decide +kernel)) ggX9_approve_X0_isClosed
set_option maxRecDepth 20000 in
theorem ggX9_approve_X1_remember : GoodIn wsX9_approve wsX1_remember := goodIn_r _ [29, 30, 31, 32, 33, 34, 35, 36, 37, 38, 39, 17, 40, 41, 42, 19, 43, 44, 45, 46, 47, 48, 49, 50, 51, 52, 53, 54, 55, 56, 57, 58, 59, 60, 61, 62, 63, 64, 65, 66, 67, 68, 69, 70, 71, 72, 154, 155, 156, 117, 118, 119, 120, 121, 122, 123, 124, 125, 126, 127, 128, 129, 130, 131, 132, 133, 134, 135, 136, 157, 158, 159] rfl (by decide +kernel)
set_option maxRecDepth 20000 in
theorem gX9_approve_X1_remember : GoodIn wsX9_approve (wsV RX9 255 RX1 yX1_remember wsX1_remember) := goodIn_app (goodIn_r _ [25, 26, 27, 28] rfl (by decide +kernel)) ggX9_approve_X1_remember
set_option maxRecDepth 20000 in
theorem ggX9_approve_X9_needPossible : GoodIn wsX9_approve wsX9_needPossible := goodIn_ca (goodIn_r _ [22, 23, 24] rfl (by decide +kernel)) (goodIn_sub (fun _ h => List.mem_cons_of_mem _ (List.mem_append_right _ h)) (by decide +kernel))
set_option maxRecDepth 20000 in
theorem gX9_approve_X9_needPossible : GoodIn wsX9_approve (va_wsS RX9 251 yX9_needPossible wsX9_needPossible) := goodIn_app (goodIn_r _ [20, 21, 6] rfl (by decide +kernel)) ggX9_approve_X9_needPossible
set_option maxRecDepth 20000 in
theorem ggX9_cancel_X0_isOpenOrDue : GoodIn wsX9_cancel wsX0_isOpenOrDue := goodIn_r _ [18, 19, 90, 91, 92, 93, 94, 95, 96, 97, 98, 99, 100, 101, 102, 103, 104, 105, 106, 107, 108, 109] rfl (by decide +kernel)
set_option maxRecDepth 20000 in
theorem gX9_cancel_X0_isOpenOrDue : GoodIn wsX9_cancel (wsV RX9 264 RX0 yX0_isOpenOrDue wsX0_isOpenOrDue) := goodIn_app (goodIn_r _ [14, 15, 16, 17] rfl (by decide +kernel)) ggX9_cancel_X0_isOpenOrDue
set_option maxRecDepth 20000 in
theorem ggX9_cancel_X0_remainingOf : GoodIn wsX9_cancel wsX0_remainingOf := goodIn_r _ [76, 41, 47, 77, 78, 79, 17, 80, 19, 90, 91, 92, 93, 94, 95, 96, 97, 98, 99, 100, 101, 102, 103, 104, 105, 106, 107, 108, 109, 110, 111, 112, 113, 114, 115, 116, 117, 118, 119, 120, 121, 122, 123, 124, 125, 126] rfl (by decide +kernel)
set_option maxRecDepth 20000 in
theorem gX9_cancel_X0_remainingOf : GoodIn wsX9_cancel (wsV RX9 129 RX0 yX0_remainingOf wsX0_remainingOf) := goodIn_app (goodIn_r _ [73, 74, 75, 17] rfl (by decide +kernel)) ggX9_cancel_X0_remainingOf
set_option maxRecDepth 20000 in
theorem ggX9_cancel_X1_remember : GoodIn wsX9_cancel wsX1_remember := goodIn_r _ [29, 30, 31, 32, 33, 34, 35, 36, 37, 38, 39, 17, 40, 41, 42, 19, 43, 44, 45, 46, 47, 48, 49, 50, 51, 52, 53, 54, 55, 56, 57, 58, 59, 60, 61, 62, 63, 64, 65, 66, 67, 68, 69, 70, 71, 72, 127, 128, 129, 90, 91, 92, 93, 94, 95, 96, 97, 98, 99, 100, 101, 102, 103, 104, 105, 106, 107, 108, 109, 130, 131, 132] rfl (by decide +kernel)
set_option maxRecDepth 20000 in
theorem gX9_cancel_X1_remember : GoodIn wsX9_cancel (wsV RX9 255 RX1 yX1_remember wsX1_remember) := goodIn_app (goodIn_r _ [25, 26, 27, 28] rfl (by decide +kernel)) ggX9_cancel_X1_remember
set_option maxRecDepth 20000 in
theorem ggX9_cancel_X9_needPossible : GoodIn wsX9_cancel wsX9_needPossible := goodIn_ca (goodIn_r _ [22, 23, 24] rfl (by decide +kernel)) (goodIn_sub (fun _ h => List.mem_cons_of_mem _ (List.mem_append_right _ h)) (by decide +kernel))
set_option maxRecDepth 20000 in
theorem gX9_cancel_X9_needPossible : GoodIn wsX9_cancel (va_wsS RX9 251 yX9_needPossible wsX9_needPossible) := goodIn_app (goodIn_r _ [20, 21, 6] rfl (by decide +kernel)) ggX9_cancel_X9_needPossible
set_option maxRecDepth 20000 in
theorem ggX9_dispute_X0_freeze : GoodIn wsX9_dispute wsX0_freeze := goodIn_r _ [76, 77, 34, 35, 36, 19, 48, 78, 79, 80, 17, 81, 41, 47, 82, 83, 84, 85, 86, 87, 88, 89, 52, 116, 117, 118, 119, 120, 121, 122, 123, 124, 125, 126, 127, 128, 129, 130, 131, 132, 133, 134, 135, 99, 100, 101, 102, 103, 104, 105, 106, 107, 108, 109, 110, 111, 112, 113, 114, 115] rfl (by decide +kernel)
set_option maxRecDepth 20000 in
theorem gX9_dispute_X0_freeze : GoodIn wsX9_dispute (wsV RX9 270 RX0 yX0_freeze wsX0_freeze) := goodIn_app (goodIn_r _ [73, 74, 75, 17] rfl (by decide +kernel)) ggX9_dispute_X0_freeze
set_option maxRecDepth 20000 in
theorem ggX9_dispute_X0_isOpenOrDue : GoodIn wsX9_dispute wsX0_isOpenOrDue := goodIn_r _ [18, 19, 116, 117, 118, 119, 120, 121, 122, 123, 124, 125, 126, 127, 128, 129, 130, 131, 132, 133, 134, 135] rfl (by decide +kernel)
set_option maxRecDepth 20000 in
theorem gX9_dispute_X0_isOpenOrDue : GoodIn wsX9_dispute (wsV RX9 264 RX0 yX0_isOpenOrDue wsX0_isOpenOrDue) := goodIn_app (goodIn_r _ [14, 15, 16, 17] rfl (by decide +kernel)) ggX9_dispute_X0_isOpenOrDue
set_option maxRecDepth 20000 in
theorem ggX9_dispute_X1_remember : GoodIn wsX9_dispute wsX1_remember := goodIn_r _ [29, 30, 31, 32, 33, 34, 35, 36, 37, 38, 39, 17, 40, 41, 42, 19, 43, 44, 45, 46, 47, 48, 49, 50, 51, 52, 53, 54, 55, 56, 57, 58, 59, 60, 61, 62, 63, 64, 65, 66, 67, 68, 69, 70, 71, 72, 136, 137, 138, 116, 117, 118, 119, 120, 121, 122, 123, 124, 125, 126, 127, 128, 129, 130, 131, 132, 133, 134, 135, 139, 140, 141] rfl (by decide +kernel)
set_option maxRecDepth 20000 in
theorem gX9_dispute_X1_remember : GoodIn wsX9_dispute (wsV RX9 255 RX1 yX1_remember wsX1_remember) := goodIn_app (goodIn_r _ [25, 26, 27, 28] rfl (by decide +kernel)) ggX9_dispute_X1_remember
set_option maxRecDepth 20000 in
theorem ggX9_dispute_X9_needPossible : GoodIn wsX9_dispute wsX9_needPossible := goodIn_ca (goodIn_r _ [22, 23, 24] rfl (by decide +kernel)) (goodIn_sub (fun _ h => List.mem_cons_of_mem _ (List.mem_append_right _ h)) (by decide +kernel))
set_option maxRecDepth 20000 in
theorem gX9_dispute_X9_needPossible : GoodIn wsX9_dispute (va_wsS RX9 251 yX9_needPossible wsX9_needPossible) := goodIn_app (goodIn_r _ [20, 21, 6] rfl (by decide +kernel)) ggX9_dispute_X9_needPossible
set_option maxRecDepth 20000 in
theorem ggX9_payInterest_X0_payOutInterest : GoodIn wsX9_payInterest wsX0_payOutInterest := goodIn_r _ [58, 35, 23, 32, 59, 60, 61, 49, 62, 53, 51, 54, 63, 14, 15, 16, 73, 74, 75, 76, 77, 78, 79, 80, 81, 82, 83, 84, 85, 86, 87, 88, 89, 90, 91, 92, 96, 97, 98] rfl (by decide +kernel)
set_option maxRecDepth 20000 in
theorem gX9_payInterest_X0_payOutInterest : GoodIn wsX9_payInterest (wsV RX9 284 RX0 yX0_payOutInterest wsX0_payOutInterest) := goodIn_app (goodIn_r _ [55, 56, 57, 20] rfl (by decide +kernel)) ggX9_payInterest_X0_payOutInterest
set_option maxRecDepth 20000 in
theorem ggX9_payInterest_X1_remember : GoodIn wsX9_payInterest wsX1_remember := goodIn_r _ [9, 10, 11, 12, 13, 14, 15, 16, 17, 18, 19, 20, 21, 22, 23, 24, 25, 26, 27, 28, 29, 30, 31, 32, 33, 34, 35, 36, 37, 38, 39, 40, 41, 42, 43, 44, 45, 46, 47, 48, 49, 50, 51, 52, 53, 54, 93, 94, 95, 73, 74, 75, 76, 77, 78, 79, 80, 81, 82, 83, 84, 85, 86, 87, 88, 89, 90, 91, 92, 96, 97, 98] rfl (by decide +kernel)
set_option maxRecDepth 20000 in
theorem gX9_payInterest_X1_remember : GoodIn wsX9_payInterest (wsV RX9 255 RX1 yX1_remember wsX1_remember) := goodIn_app (goodIn_r _ [5, 6, 7, 8] rfl (by decide +kernel)) ggX9_payInterest_X1_remember
set_option maxRecDepth 20000 in
theorem ggX9_pay_X0_availableMoney : GoodIn wsX9_pay wsX0_availableMoney := goodIn_r _ [38, 39, 19, 40, 132, 133, 134, 135, 136, 137, 138, 139, 140, 141, 142, 143, 144, 145, 146, 147, 148, 149, 150, 151, 115, 116, 117, 118, 119, 120, 121, 122, 123, 124, 125, 126, 127, 128, 129, 130, 131] rfl (by decide +kernel)
set_option maxRecDepth 20000 in
theorem gX9_pay_X0_availableMoney : GoodIn wsX9_pay (wsV RX9 96 RX0 yX0_availableMoney wsX0_availableMoney) := goodIn_app (goodIn_r _ [35, 36, 37, 17] rfl (by decide +kernel)) ggX9_pay_X0_availableMoney
set_option maxRecDepth 20000 in
theorem ggX9_pay_X0_isOpenOrDue : GoodIn wsX9_pay wsX0_isOpenOrDue := goodIn_r _ [34, 25, 132, 133, 134, 135, 136, 137, 138, 139, 140, 141, 142, 143, 144, 145, 146, 147, 148, 149, 150, 151] rfl (by decide +kernel)
set_option maxRecDepth 20000 in
theorem gX9_pay_X0_isOpenOrDue : GoodIn wsX9_pay (wsV RX9 264 RX0 yX0_isOpenOrDue wsX0_isOpenOrDue) := goodIn_app (goodIn_r _ [31, 32, 33, 17] rfl (by decide +kernel)) ggX9_pay_X0_isOpenOrDue
set_option maxRecDepth 20000 in
theorem ggX9_pay_X0_makePayment : GoodIn wsX9_pay wsX0_makePayment := goodIn_r _ [93, 19, 39, 20, 74, 73, 62, 68, 25, 94, 95, 96, 97, 98, 99, 100, 101, 102, 84, 103, 88, 86, 89, 104, 55, 56, 57, 21, 22, 23, 17, 24, 105, 15, 16, 18, 132, 133, 134, 135, 136, 137, 138, 139, 140, 141, 142, 143, 144, 145, 146, 147, 148, 149, 150, 151, 115, 116, 117, 118, 119, 120, 121, 122, 123, 124, 125, 126, 127, 128, 129, 130, 131, 155, 156, 157] rfl (by decide +kernel)
set_option maxRecDepth 20000 in
theorem gX9_pay_X0_makePayment : GoodIn wsX9_pay (wsV RX9 267 RX0 yX0_makePayment wsX0_makePayment) := goodIn_app (goodIn_r _ [90, 91, 92, 17] rfl (by decide +kernel)) ggX9_pay_X0_makePayment
set_option maxRecDepth 20000 in
theorem ggX9_pay_X0_remainingOf : GoodIn wsX9_pay wsX0_remainingOf := goodIn_r _ [18, 19, 20, 21, 22, 23, 17, 24, 25, 132, 133, 134, 135, 136, 137, 138, 139, 140, 141, 142, 143, 144, 145, 146, 147, 148, 149, 150, 151, 115, 116, 117, 118, 119, 120, 121, 122, 123, 124, 125, 126, 127, 128, 129, 130, 131] rfl (by decide +kernel)
set_option maxRecDepth 20000 in
theorem gX9_pay_X0_remainingOf : GoodIn wsX9_pay (wsV RX9 129 RX0 yX0_remainingOf wsX0_remainingOf) := goodIn_app (goodIn_r _ [14, 15, 16, 17] rfl (by decide +kernel)) ggX9_pay_X0_remainingOf
set_option maxRecDepth 20000 in
theorem ggX9_pay_X1_remember : GoodIn wsX9_pay wsX1_remember := goodIn_r _ [50, 51, 52, 53, 54, 55, 56, 57, 58, 59, 60, 17, 61, 19, 62, 25, 63, 64, 65, 66, 20, 40, 67, 68, 69, 39, 70, 71, 72, 73, 74, 75, 76, 77, 78, 79, 80, 81, 82, 83, 84, 85, 86, 87, 88, 89, 152, 153, 154, 132, 133, 134, 135, 136, 137, 138, 139, 140, 141, 142, 143, 144, 145, 146, 147, 148, 149, 150, 151, 155, 156, 157] rfl (by decide +kernel)
set_option maxRecDepth 20000 in
theorem gX9_pay_X1_remember : GoodIn wsX9_pay (wsV RX9 255 RX1 yX1_remember wsX1_remember) := goodIn_app (goodIn_r _ [46, 47, 48, 49] rfl (by decide +kernel)) ggX9_pay_X1_remember
set_option maxRecDepth 20000 in
theorem ggX9_pay_X9_needPossible : GoodIn wsX9_pay wsX9_needPossible := goodIn_ca (goodIn_r _ [43, 44, 45] rfl (by decide +kernel)) (goodIn_sub (fun _ h => List.mem_cons_of_mem _ (List.mem_append_right _ h)) (by decide +kernel))
set_option maxRecDepth 20000 in
theorem gX9_pay_X9_needPossible : GoodIn wsX9_pay (va_wsS RX9 251 yX9_needPossible wsX9_needPossible) := goodIn_app (goodIn_r _ [41, 42, 6] rfl (by decide +kernel)) ggX9_pay_X9_needPossible
set_option maxRecDepth 20000 in
theorem ggX9_pay_X9_needRange : GoodIn wsX9_pay wsX9_needRange := goodIn_ca (goodIn_r _ [28, 29, 30] rfl (by decide +kernel)) (goodIn_sub (fun _ h => List.mem_cons_of_mem _ (List.mem_append_left _ (List.mem_append_right _ h))) (by decide +kernel))
set_option maxRecDepth 20000 in
theorem gX9_pay_X9_needRange : GoodIn wsX9_pay (va_wsS RX9 67 yX9_needRange wsX9_needRange) := goodIn_app (goodIn_r _ [26, 27, 6] rfl (by decide +kernel)) ggX9_pay_X9_needRange
set_option maxRecDepth 20000 in
theorem ggX9_resolve_X0_settle : GoodIn wsX9_resolve wsX0_settle := goodIn_r _ [81, 82, 83, 84, 43, 85, 53, 86, 37, 38, 39, 87, 88, 89, 90, 45, 52, 91, 92, 93, 94, 47, 95, 96, 97, 98, 57, 99, 100, 101, 102, 103, 104, 105, 106, 107, 108, 109, 62, 61, 46, 55, 110, 111, 112, 113, 114, 115, 116, 117, 118, 72, 119, 76, 74, 77, 120, 121, 122, 123, 124, 63, 151, 152, 153, 154, 155, 156, 157, 158, 159, 160, 161, 162, 163, 164, 165, 166, 167, 168, 169, 170, 134, 135, 136, 137, 138, 139, 140, 141, 142, 143, 144, 145, 146, 147, 148, 149, 150, 174, 175, 176] rfl (by decide +kernel)
set_option maxRecDepth 20000 in
theorem gX9_resolve_X0_settle : GoodIn wsX9_resolve (wsV RX9 276 RX0 yX0_settle wsX0_settle) := goodIn_app (goodIn_r _ [78, 79, 80, 43] rfl (by decide +kernel)) ggX9_resolve_X0_settle
set_option maxRecDepth 20000 in
theorem ggX9_resolve_X1_remember : GoodIn wsX9_resolve wsX1_remember := goodIn_r _ [32, 33, 34, 35, 36, 37, 38, 39, 40, 41, 42, 43, 44, 45, 46, 47, 48, 49, 50, 51, 52, 53, 54, 55, 56, 57, 58, 59, 60, 61, 62, 63, 64, 65, 66, 67, 68, 69, 70, 71, 72, 73, 74, 75, 76, 77, 171, 172, 173, 151, 152, 153, 154, 155, 156, 157, 158, 159, 160, 161, 162, 163, 164, 165, 166, 167, 168, 169, 170, 174, 175, 176] rfl (by decide +kernel)
set_option maxRecDepth 20000 in
theorem gX9_resolve_X1_remember : GoodIn wsX9_resolve (wsV RX9 255 RX1 yX1_remember wsX1_remember) := goodIn_app (goodIn_r _ [28, 29, 30, 31] rfl (by decide +kernel)) ggX9_resolve_X1_remember
set_option maxRecDepth 20000 in
theorem ggX9_resolve_X9_needDispute : GoodIn wsX9_resolve wsX9_needDispute := goodIn_ca (goodIn_r _ [22, 2, 23, 24, 6, 25, 26, 27, 125, 126, 127, 128, 129, 130, 131, 132, 133, 151, 152, 153, 154, 155, 156, 157, 158, 159, 160, 161, 162, 163, 164, 165, 166, 167, 168, 169, 170] rfl (by decide +kernel)) (goodIn_sub (fun _ h => List.mem_cons_of_mem _ (List.mem_append_right _ h)) (by decide +kernel))
set_option maxRecDepth 20000 in
theorem gX9_resolve_X9_needDispute : GoodIn wsX9_resolve (wsV RX9 230 RX9 yX9_needDispute wsX9_needDispute) := goodIn_app (goodIn_r _ [19, 20, 21, 6] rfl (by decide +kernel)) ggX9_resolve_X9_needDispute
set_option maxRecDepth 20000 in
theorem ggX9_resolve_X9_needRange : GoodIn wsX9_resolve wsX9_needRange := goodIn_ca (goodIn_r _ [16, 17, 18] rfl (by decide +kernel)) (goodIn_sub (fun _ h => List.mem_cons_of_mem _ (List.mem_append_left _ (List.mem_append_right _ h))) (by decide +kernel))
set_option maxRecDepth 20000 in
theorem gX9_resolve_X9_needRange : GoodIn wsX9_resolve (va_wsS RX9 67 yX9_needRange wsX9_needRange) := goodIn_app (goodIn_r _ [14, 15, 6] rfl (by decide +kernel)) ggX9_resolve_X9_needRange
set_option maxRecDepth 20000 in
theorem ggX9_submit_X0_hasProof : GoodIn wsX9_submit wsX0_hasProof := goodIn_r _ [18, 19, 20, 21, 22, 23, 81, 82, 83, 84, 85, 86, 87, 88, 89, 90, 91, 92, 93, 94, 95, 96, 97, 98, 99, 100] rfl (by decide +kernel)
set_option maxRecDepth 20000 in
theorem gX9_submit_X0_hasProof : GoodIn wsX9_submit (wsV RX9 183 RX0 yX0_hasProof wsX0_hasProof) := goodIn_app (goodIn_r _ [14, 15, 16, 17] rfl (by decide +kernel)) ggX9_submit_X0_hasProof
set_option maxRecDepth 20000 in
theorem ggX9_submit_X1_remember : GoodIn wsX9_submit wsX1_remember := goodIn_r _ [28, 29, 30, 31, 32, 33, 34, 35, 36, 37, 38, 17, 39, 40, 41, 42, 43, 44, 45, 46, 47, 48, 49, 50, 51, 52, 53, 54, 55, 56, 57, 58, 59, 60, 61, 19, 62, 63, 64, 65, 66, 67, 68, 69, 70, 71, 118, 119, 120, 81, 82, 83, 84, 85, 86, 87, 88, 89, 90, 91, 92, 93, 94, 95, 96, 97, 98, 99, 100, 121, 122, 123] rfl (by decide +kernel)
set_option maxRecDepth 20000 in
theorem gX9_submit_X1_remember : GoodIn wsX9_submit (wsV RX9 255 RX1 yX1_remember wsX1_remember) := goodIn_app (goodIn_r _ [24, 25, 26, 27] rfl (by decide +kernel)) ggX9_submit_X1_remember
set_option maxRecDepth 20000 in
theorem ggX9_withdraw_X0_availableMoney : GoodIn wsX9_withdraw wsX0_availableMoney := goodIn_r _ [80, 52, 40, 48, 107, 108, 109, 110, 111, 112, 113, 114, 115, 116, 117, 118, 119, 120, 121, 122, 123, 124, 125, 126, 90, 91, 92, 93, 94, 95, 96, 97, 98, 99, 100, 101, 102, 103, 104, 105, 106] rfl (by decide +kernel)
set_option maxRecDepth 20000 in
theorem gX9_withdraw_X0_availableMoney : GoodIn wsX9_withdraw (wsV RX9 96 RX0 yX0_availableMoney wsX0_availableMoney) := goodIn_app (goodIn_r _ [77, 78, 79, 38] rfl (by decide +kernel)) ggX9_withdraw_X0_availableMoney
set_option maxRecDepth 20000 in
theorem ggX9_withdraw_X0_leaveDispute : GoodIn wsX9_withdraw wsX0_leaveDispute := goodIn_r _ [76, 42, 48, 107, 108, 109, 110, 111, 112, 113, 114, 115, 116, 117, 118, 119, 120, 121, 122, 123, 124, 125, 126] rfl (by decide +kernel)
set_option maxRecDepth 20000 in
theorem gX9_withdraw_X0_leaveDispute : GoodIn wsX9_withdraw (wsV RX9 273 RX0 yX0_leaveDispute wsX0_leaveDispute) := goodIn_app (goodIn_r _ [73, 74, 75, 38] rfl (by decide +kernel)) ggX9_withdraw_X0_leaveDispute
set_option maxRecDepth 20000 in
theorem ggX9_withdraw_X1_remember : GoodIn wsX9_withdraw wsX1_remember := goodIn_r _ [27, 28, 29, 30, 31, 32, 33, 34, 35, 36, 37, 38, 39, 40, 41, 42, 43, 44, 45, 46, 47, 48, 49, 50, 51, 52, 53, 54, 55, 56, 57, 58, 59, 60, 61, 62, 63, 64, 65, 66, 67, 68, 69, 70, 71, 72, 127, 128, 129, 107, 108, 109, 110, 111, 112, 113, 114, 115, 116, 117, 118, 119, 120, 121, 122, 123, 124, 125, 126, 130, 131, 132] rfl (by decide +kernel)
set_option maxRecDepth 20000 in
theorem gX9_withdraw_X1_remember : GoodIn wsX9_withdraw (wsV RX9 255 RX1 yX1_remember wsX1_remember) := goodIn_app (goodIn_r _ [23, 24, 25, 26] rfl (by decide +kernel)) ggX9_withdraw_X1_remember
set_option maxRecDepth 20000 in
theorem ggX9_withdraw_X9_needDispute : GoodIn wsX9_withdraw wsX9_needDispute := goodIn_ca (goodIn_r _ [17, 2, 18, 19, 6, 20, 21, 22, 81, 82, 83, 84, 85, 86, 87, 88, 89, 107, 108, 109, 110, 111, 112, 113, 114, 115, 116, 117, 118, 119, 120, 121, 122, 123, 124, 125, 126] rfl (by decide +kernel)) (goodIn_sub (fun _ h => List.mem_cons_of_mem _ (List.mem_append_right _ h)) (by decide +kernel))
set_option maxRecDepth 20000 in
theorem gX9_withdraw_X9_needDispute : GoodIn wsX9_withdraw (wsV RX9 230 RX9 yX9_needDispute wsX9_needDispute) := goodIn_app (goodIn_r _ [14, 15, 16, 6] rfl (by decide +kernel)) ggX9_withdraw_X9_needDispute
theorem dX0_settle_0 : decode cX0_settle 0 = .ok (.aload_n 0, 1) := by decide +kernel
theorem dX0_settle_1 : decode cX0_settle 1 = .ok (.iload_n 1, 1) := by decide +kernel
theorem dX0_settle_2 : decode cX0_settle 2 = .ok (.invokevirtual 167, 3) := by decide +kernel
theorem dX0_settle_5 : decode cX0_settle 5 = .ok (.istore_n 3, 1) := by decide +kernel
theorem dX0_settle_6 : decode cX0_settle 6 = .ok (.iload_n 3, 1) := by decide +kernel
theorem dX0_settle_7 : decode cX0_settle 7 = .ok (.iload_n 2, 1) := by decide +kernel
theorem dX0_settle_8 : decode cX0_settle 8 = .ok (.invokestatic 170, 3) := by decide +kernel
theorem dX0_settle_11 : decode cX0_settle 11 = .ok (.istore 4, 2) := by decide +kernel
theorem dX0_settle_13 : decode cX0_settle 13 = .ok (.aload_n 0, 1) := by decide +kernel
theorem dX0_settle_14 : decode cX0_settle 14 = .ok (.iload_n 1, 1) := by decide +kernel
theorem dX0_settle_15 : decode cX0_settle 15 = .ok (.iconst 4, 1) := by decide +kernel
theorem dX0_settle_16 : decode cX0_settle 16 = .ok (.invokevirtual 173, 3) := by decide +kernel
theorem dX0_settle_19 : decode cX0_settle 19 = .ok (.aload_n 0, 1) := by decide +kernel
theorem dX0_settle_20 : decode cX0_settle 20 = .ok (.iload_n 1, 1) := by decide +kernel
theorem dX0_settle_21 : decode cX0_settle 21 = .ok (.iload 4, 2) := by decide +kernel
theorem dX0_settle_23 : decode cX0_settle 23 = .ok (.invokevirtual 177, 3) := by decide +kernel
theorem dX0_settle_26 : decode cX0_settle 26 = .ok (.pop, 1) := by decide +kernel
theorem dX0_settle_27 : decode cX0_settle 27 = .ok (.aload_n 0, 1) := by decide +kernel
theorem dX0_settle_28 : decode cX0_settle 28 = .ok (.iload_n 3, 1) := by decide +kernel
theorem dX0_settle_29 : decode cX0_settle 29 = .ok (.iload 4, 2) := by decide +kernel
theorem dX0_settle_31 : decode cX0_settle 31 = .ok (.isub, 1) := by decide +kernel
theorem dX0_settle_32 : decode cX0_settle 32 = .ok (.iload_n 1, 1) := by decide +kernel
theorem dX0_settle_33 : decode cX0_settle 33 = .ok (.invokevirtual 180, 3) := by decide +kernel
theorem dX0_settle_36 : decode cX0_settle 36 = .ok (.iload 4, 2) := by decide +kernel
theorem dX0_settle_38 : decode cX0_settle 38 = .ok (.ireturn, 1) := by decide +kernel
theorem dX10_rate_0 : decode cX10_rate 0 = .ok (.aload_n 0, 1) := by decide +kernel
theorem dX10_rate_1 : decode cX10_rate 1 = .ok (.invokevirtual 159, 3) := by decide +kernel
theorem dX10_rate_4 : decode cX10_rate 4 = .ok (.pop, 1) := by decide +kernel
theorem dX10_rate_5 : decode cX10_rate 5 = .ok (.aload_n 0, 1) := by decide +kernel
theorem dX10_rate_6 : decode cX10_rate 6 = .ok (.iconst 0, 1) := by decide +kernel
theorem dX10_rate_7 : decode cX10_rate 7 = .ok (.iconst 0, 1) := by decide +kernel
theorem dX10_rate_8 : decode cX10_rate 8 = .ok (.sipush 3000, 3) := by decide +kernel
theorem dX10_rate_11 : decode cX10_rate 11 = .ok (.invokevirtual 222, 3) := by decide +kernel
theorem dX10_rate_14 : decode cX10_rate 14 = .ok (.ifCond .ne 5, 3) := by decide +kernel
theorem dX10_rate_17 : decode cX10_rate 17 = .ok (.iconst 0, 1) := by decide +kernel
theorem dX10_rate_18 : decode cX10_rate 18 = .ok (.ireturn, 1) := by decide +kernel
theorem dX10_rate_19 : decode cX10_rate 19 = .ok (.aload_n 0, 1) := by decide +kernel
theorem dX10_rate_20 : decode cX10_rate 20 = .ok (.getfield 126, 3) := by decide +kernel
theorem dX10_rate_23 : decode cX10_rate 23 = .ok (.iconst 3, 1) := by decide +kernel
theorem dX10_rate_24 : decode cX10_rate 24 = .ok (.if_icmp .ne 29, 3) := by decide +kernel
theorem dX10_rate_27 : decode cX10_rate 27 = .ok (.aload_n 0, 1) := by decide +kernel
theorem dX10_rate_28 : decode cX10_rate 28 = .ok (.getfield 140, 3) := by decide +kernel
theorem dX10_rate_31 : decode cX10_rate 31 = .ok (.sipush 360, 3) := by decide +kernel
theorem dX10_rate_34 : decode cX10_rate 34 = .ok (.if_icmp .eq 19, 3) := by decide +kernel
theorem dX10_rate_37 : decode cX10_rate 37 = .ok (.aload_n 0, 1) := by decide +kernel
theorem dX10_rate_38 : decode cX10_rate 38 = .ok (.getfield 140, 3) := by decide +kernel
theorem dX10_rate_41 : decode cX10_rate 41 = .ok (.sipush 365, 3) := by decide +kernel
theorem dX10_rate_44 : decode cX10_rate 44 = .ok (.if_icmp .eq 9, 3) := by decide +kernel
theorem dX10_rate_47 : decode cX10_rate 47 = .ok (.aload_n 0, 1) := by decide +kernel
theorem dX10_rate_48 : decode cX10_rate 48 = .ok (.iconst 3, 1) := by decide +kernel
theorem dX10_rate_49 : decode cX10_rate 49 = .ok (.invokevirtual 149, 3) := by decide +kernel
theorem dX10_rate_52 : decode cX10_rate 52 = .ok (.ireturn, 1) := by decide +kernel
theorem dX10_rate_53 : decode cX10_rate 53 = .ok (.aload_n 0, 1) := by decide +kernel
theorem dX10_rate_54 : decode cX10_rate 54 = .ok (.iconst 1, 1) := by decide +kernel
theorem dX10_rate_55 : decode cX10_rate 55 = .ok (.sipush 360, 3) := by decide +kernel
theorem dX10_rate_58 : decode cX10_rate 58 = .ok (.sipush 365, 3) := by decide +kernel
theorem dX10_rate_61 : decode cX10_rate 61 = .ok (.invokevirtual 222, 3) := by decide +kernel
theorem dX10_rate_64 : decode cX10_rate 64 = .ok (.ireturn, 1) := by decide +kernel
