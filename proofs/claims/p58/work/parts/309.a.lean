set_option maxRecDepth 20000 in
theorem ggX0_freeze_X0_availableMoney : GoodIn wsX0_freeze wsX0_availableMoney := goodIn_r _ [21, 22, 12, 6, 23, 24, 25, 26, 27, 28, 29, 30, 31, 32, 33, 34, 35, 36, 37, 38, 39, 40, 41, 42, 43, 44, 45, 46, 47, 48, 49, 50, 51, 52, 53, 54, 55, 56, 57, 58, 59] rfl (by decide +kernel)
set_option maxRecDepth 20000 in
theorem gX0_freeze_X0_availableMoney : GoodIn wsX0_freeze (wsV RX0 158 RX0 yX0_availableMoney wsX0_availableMoney) := goodIn_app (goodIn_r _ [18, 19, 20, 10] rfl (by decide +kernel)) ggX0_freeze_X0_availableMoney
set_option maxRecDepth 20000 in
theorem ggX0_freeze_X0_remainingOf : GoodIn wsX0_freeze wsX0_remainingOf := goodIn_r _ [11, 12, 13, 14, 15, 16, 10, 17, 5, 23, 24, 25, 26, 27, 28, 29, 30, 31, 32, 33, 34, 35, 36, 37, 38, 39, 40, 41, 42, 43, 44, 45, 46, 47, 48, 49, 50, 51, 52, 53, 54, 55, 56, 57, 58, 59] rfl (by decide +kernel)
set_option maxRecDepth 20000 in
theorem gX0_freeze_X0_remainingOf : GoodIn wsX0_freeze (wsV RX0 144 RX0 yX0_remainingOf wsX0_remainingOf) := goodIn_app (goodIn_r _ [7, 8, 9, 10] rfl (by decide +kernel)) ggX0_freeze_X0_remainingOf
set_option maxRecDepth 20000 in
theorem ggX0_payOutInterest_X2_enter : GoodIn wsX0_payOutInterest wsX2_enter := goodIn_r _ [8, 9, 10, 11, 12, 13, 14, 15, 36, 37, 38] rfl (by decide +kernel)
set_option maxRecDepth 20000 in
theorem gX0_payOutInterest_X2_enter : GoodIn wsX0_payOutInterest (wsV RX0 151 RX2 yX2_enter wsX2_enter) := goodIn_app (goodIn_r _ [4, 5, 6, 7] rfl (by decide +kernel)) ggX0_payOutInterest_X2_enter
set_option maxRecDepth 20000 in
theorem ggX10_areAllClosed_X10_isClosed : GoodIn wsX10_areAllClosed wsX10_isClosed := goodIn_r _ [6, 7, 8, 9, 5, 10, 1, 11, 12, 13, 14, 15, 16, 17, 18, 19, 20, 21, 22, 23, 24, 25, 26, 27, 28, 29, 30, 31, 32, 33, 34, 35, 36, 37, 38, 39, 40, 41, 42, 43, 44, 45, 46, 47, 48, 49] rfl (by decide +kernel)
set_option maxRecDepth 20000 in
theorem gX10_areAllClosed_X10_isClosed : GoodIn wsX10_areAllClosed (wsV RX10 265 RX10 yX10_isClosed wsX10_isClosed) := goodIn_app (goodIn_r _ [2, 3, 4, 5] rfl (by decide +kernel)) ggX10_areAllClosed_X10_isClosed
set_option maxRecDepth 20000 in
theorem ggX10_daysUntilClosed_X10_beginTrial : GoodIn wsX10_daysUntilClosed wsX10_beginTrial := goodIn_r _ [18, 6, 19, 20, 21, 22, 23, 4, 24, 114, 115, 116, 117, 118, 119, 120, 121, 122, 123, 124, 125, 126, 127, 128, 129, 130, 131, 132, 133, 134, 135, 136, 137, 138, 139, 140, 141, 142, 143, 144, 145, 146, 147, 148, 149, 150, 151, 152] rfl (by decide +kernel)
set_option maxRecDepth 20000 in
theorem gX10_daysUntilClosed_X10_beginTrial : GoodIn wsX10_daysUntilClosed (wsV RX10 366 RX10 yX10_beginTrial wsX10_beginTrial) := goodIn_app (goodIn_r _ [15, 16, 17, 4] rfl (by decide +kernel)) ggX10_daysUntilClosed_X10_beginTrial
set_option maxRecDepth 20000 in
theorem ggX10_daysUntilClosed_X10_endTrial : GoodIn wsX10_daysUntilClosed wsX10_endTrial := goodIn_r _ [113, 19, 6, 21, 20, 22, 23, 4, 24, 114, 115, 116, 117, 118, 119, 120, 121, 122, 123, 124, 125, 126, 127, 128, 129, 130, 131, 132, 133, 134, 135, 136, 137, 138, 139, 140, 141, 142, 143, 144, 145, 146, 147, 148, 149, 150, 151, 152] rfl (by decide +kernel)
set_option maxRecDepth 20000 in
theorem gX10_daysUntilClosed_X10_endTrial : GoodIn wsX10_daysUntilClosed (wsV RX10 372 RX10 yX10_endTrial wsX10_endTrial) := goodIn_app (goodIn_r _ [110, 111, 112, 4] rfl (by decide +kernel)) ggX10_daysUntilClosed_X10_endTrial
set_option maxRecDepth 20000 in
theorem ggX10_daysUntilClosed_X10_isClosed : GoodIn wsX10_daysUntilClosed wsX10_isClosed := goodIn_r _ [28, 29, 30, 31, 4, 32, 6, 114, 115, 116, 117, 118, 119, 120, 121, 122, 123, 124, 125, 126, 127, 128, 129, 130, 131, 132, 133, 134, 135, 136, 137, 138, 139, 140, 141, 142, 143, 144, 145, 146, 147, 148, 149, 150, 151, 152] rfl (by decide +kernel)
set_option maxRecDepth 20000 in
theorem gX10_daysUntilClosed_X10_isClosed : GoodIn wsX10_daysUntilClosed (wsV RX10 265 RX10 yX10_isClosed wsX10_isClosed) := goodIn_app (goodIn_r _ [25, 26, 27, 4] rfl (by decide +kernel)) ggX10_daysUntilClosed_X10_isClosed
set_option maxRecDepth 20000 in
theorem ggX10_daysUntilClosed_X10_passDay : GoodIn wsX10_daysUntilClosed wsX10_passDay := goodIn_r _ [36, 20, 6, 37, 38, 39, 4, 40, 41, 42, 43, 44, 45, 46, 47, 48, 49, 50, 51, 52, 29, 30, 31, 32, 53, 54, 55, 56, 57, 58, 59, 60, 61, 62, 63, 64, 65, 66, 67, 68, 69, 70, 71, 72, 73, 74, 75, 76, 77, 78, 79, 80, 81, 82, 83, 84, 85, 86, 87, 88, 89, 25, 26, 27, 28, 90, 91, 92, 93, 94, 95, 96, 97, 98, 99, 100, 101, 102, 103, 104, 105, 106, 107, 108, 109, 114, 115, 116, 117, 118, 119, 120, 121, 122, 123, 124, 125, 126, 127, 128, 129, 130, 131, 132, 133, 134, 135, 136, 137, 138, 139, 140, 141, 142, 143, 144, 145, 146, 147, 148, 149, 150, 151, 152] rfl (by decide +kernel)
set_option maxRecDepth 20000 in
theorem gX10_daysUntilClosed_X10_passDay : GoodIn wsX10_daysUntilClosed (wsV RX10 324 RX10 yX10_passDay wsX10_passDay) := goodIn_app (goodIn_r _ [33, 34, 35, 4] rfl (by decide +kernel)) ggX10_daysUntilClosed_X10_passDay
set_option maxRecDepth 20000 in
theorem ggX10_paidAfter_X10_beginTrial : GoodIn wsX10_paidAfter wsX10_beginTrial := goodIn_r _ [22, 6, 23, 24, 25, 26, 27, 4, 28, 122, 123, 124, 125, 126, 127, 128, 129, 130, 131, 132, 133, 134, 135, 136, 137, 138, 139, 140, 141, 142, 143, 144, 145, 146, 147, 148, 149, 150, 151, 152, 153, 154, 155, 156, 157, 158, 159, 160] rfl (by decide +kernel)
set_option maxRecDepth 20000 in
theorem gX10_paidAfter_X10_beginTrial : GoodIn wsX10_paidAfter (wsV RX10 366 RX10 yX10_beginTrial wsX10_beginTrial) := goodIn_app (goodIn_r _ [19, 20, 21, 4] rfl (by decide +kernel)) ggX10_paidAfter_X10_beginTrial
set_option maxRecDepth 20000 in
theorem ggX10_paidAfter_X10_endTrial : GoodIn wsX10_paidAfter wsX10_endTrial := goodIn_r _ [121, 23, 6, 25, 24, 26, 27, 4, 28, 122, 123, 124, 125, 126, 127, 128, 129, 130, 131, 132, 133, 134, 135, 136, 137, 138, 139, 140, 141, 142, 143, 144, 145, 146, 147, 148, 149, 150, 151, 152, 153, 154, 155, 156, 157, 158, 159, 160] rfl (by decide +kernel)
set_option maxRecDepth 20000 in
theorem gX10_paidAfter_X10_endTrial : GoodIn wsX10_paidAfter (wsV RX10 372 RX10 yX10_endTrial wsX10_endTrial) := goodIn_app (goodIn_r _ [118, 119, 120, 4] rfl (by decide +kernel)) ggX10_paidAfter_X10_endTrial
set_option maxRecDepth 20000 in
theorem ggX10_paidAfter_X10_of : GoodIn wsX10_paidAfter wsX10_of := goodIn_r _ [56, 6, 122, 123, 124, 125, 126, 127, 128, 129, 130, 131, 132, 133, 134, 135, 136, 137, 138, 139, 140, 141, 142, 143, 144, 145, 146, 147, 148, 149, 150, 151, 152, 153, 154, 155, 156, 157, 158, 159, 160] rfl (by decide +kernel)
set_option maxRecDepth 20000 in
theorem gX10_paidAfter_X10_of : GoodIn wsX10_paidAfter (wsV RX10 261 RX10 yX10_of wsX10_of) := goodIn_app (goodIn_r _ [53, 54, 55, 4] rfl (by decide +kernel)) ggX10_paidAfter_X10_of
set_option maxRecDepth 20000 in
theorem ggX10_paidAfter_X10_passDays : GoodIn wsX10_paidAfter wsX10_passDays := goodIn_r _ [32, 33, 34, 35, 4, 36, 24, 6, 37, 38, 39, 40, 41, 42, 43, 44, 45, 46, 47, 48, 49, 50, 51, 52, 53, 54, 55, 56, 57, 58, 59, 60, 61, 62, 63, 64, 65, 66, 67, 68, 69, 70, 71, 72, 73, 74, 75, 76, 77, 78, 79, 80, 81, 82, 83, 84, 85, 86, 87, 88, 89, 90, 91, 92, 93, 94, 95, 96, 97, 98, 99, 100, 101, 102, 103, 104, 105, 106, 107, 108, 109, 110, 111, 112, 113, 114, 115, 116, 117, 122, 123, 124, 125, 126, 127, 128, 129, 130, 131, 132, 133, 134, 135, 136, 137, 138, 139, 140, 141, 142, 143, 144, 145, 146, 147, 148, 149, 150, 151, 152, 153, 154, 155, 156, 157, 158, 159, 160] rfl (by decide +kernel)
set_option maxRecDepth 20000 in
theorem gX10_paidAfter_X10_passDays : GoodIn wsX10_paidAfter (wsV RX10 369 RX10 yX10_passDays wsX10_passDays) := goodIn_app (goodIn_r _ [29, 30, 31, 4] rfl (by decide +kernel)) ggX10_paidAfter_X10_passDays
set_option maxRecDepth 20000 in
theorem ggX10_pay_X10_availableNow : GoodIn wsX10_pay wsX10_availableNow := goodIn_r _ [34, 7, 19, 20, 21, 5, 22, 63, 64, 65, 66, 67, 68, 69, 70, 71, 72, 73, 74, 75, 76, 77, 78, 79, 80, 81, 82, 83, 84, 85, 86, 87, 88, 89, 90, 91, 92, 93, 94, 95, 96, 97, 98, 99, 100, 101] rfl (by decide +kernel)
set_option maxRecDepth 20000 in
theorem gX10_pay_X10_availableNow : GoodIn wsX10_pay (wsV RX10 298 RX10 yX10_availableNow wsX10_availableNow) := goodIn_app (goodIn_r _ [31, 32, 33, 5] rfl (by decide +kernel)) ggX10_pay_X10_availableNow
set_option maxRecDepth 20000 in
theorem ggX10_pay_X10_between : GoodIn wsX10_pay wsX10_between := goodIn_r _ [10] rfl (by decide +kernel)
set_option maxRecDepth 20000 in
theorem gX10_pay_X10_between : GoodIn wsX10_pay (va_wsS RX10 152 yX10_between wsX10_between) := goodIn_app (goodIn_r _ [8, 9, 5] rfl (by decide +kernel)) ggX10_pay_X10_between
set_option maxRecDepth 20000 in
theorem ggX10_pay_X10_closeIfPaid : GoodIn wsX10_pay wsX10_closeIfPaid := goodIn_r _ [62, 11, 12, 13, 5, 14, 15, 16, 17, 18, 19, 20, 21, 22, 7, 52, 53, 54, 55, 63, 64, 65, 66, 67, 68, 69, 70, 71, 72, 73, 74, 75, 76, 77, 78, 79, 80, 81, 82, 83, 84, 85, 86, 87, 88, 89, 90, 91, 92, 93, 94, 95, 96, 97, 98, 99, 100, 101] rfl (by decide +kernel)
set_option maxRecDepth 20000 in
theorem gX10_pay_X10_closeIfPaid : GoodIn wsX10_pay (wsV RX10 312 RX10 yX10_closeIfPaid wsX10_closeIfPaid) := goodIn_app (goodIn_r _ [59, 60, 61, 5] rfl (by decide +kernel)) ggX10_pay_X10_closeIfPaid
set_option maxRecDepth 20000 in
theorem ggX10_pay_X10_isOpenOrDue : GoodIn wsX10_pay wsX10_isOpenOrDue := goodIn_r _ [30, 19, 20, 21, 5, 22, 7, 63, 64, 65, 66, 67, 68, 69, 70, 71, 72, 73, 74, 75, 76, 77, 78, 79, 80, 81, 82, 83, 84, 85, 86, 87, 88, 89, 90, 91, 92, 93, 94, 95, 96, 97, 98, 99, 100, 101] rfl (by decide +kernel)
set_option maxRecDepth 20000 in
theorem gX10_pay_X10_isOpenOrDue : GoodIn wsX10_pay (wsV RX10 398 RX10 yX10_isOpenOrDue wsX10_isOpenOrDue) := goodIn_app (goodIn_r _ [27, 28, 29, 5] rfl (by decide +kernel)) ggX10_pay_X10_isOpenOrDue
set_option maxRecDepth 20000 in
theorem ggX10_pay_X10_makePayment : GoodIn wsX10_pay wsX10_makePayment := goodIn_r _ [46, 7, 47, 48, 49, 5, 50, 51, 19, 20, 21, 22, 52, 53, 54, 55, 56, 57, 58, 63, 64, 65, 66, 67, 68, 69, 70, 71, 72, 73, 74, 75, 76, 77, 78, 79, 80, 81, 82, 83, 84, 85, 86, 87, 88, 89, 90, 91, 92, 93, 94, 95, 96, 97, 98, 99, 100, 101] rfl (by decide +kernel)
set_option maxRecDepth 20000 in
theorem gX10_pay_X10_makePayment : GoodIn wsX10_pay (wsV RX10 309 RX10 yX10_makePayment wsX10_makePayment) := goodIn_app (goodIn_r _ [43, 44, 45, 5] rfl (by decide +kernel)) ggX10_pay_X10_makePayment
set_option maxRecDepth 20000 in
theorem ggX10_pay_X10_remainingOf : GoodIn wsX10_pay wsX10_remainingOf := goodIn_r _ [14, 15, 16, 17, 5, 18, 19, 20, 21, 22, 7, 63, 64, 65, 66, 67, 68, 69, 70, 71, 72, 73, 74, 75, 76, 77, 78, 79, 80, 81, 82, 83, 84, 85, 86, 87, 88, 89, 90, 91, 92, 93, 94, 95, 96, 97, 98, 99, 100, 101] rfl (by decide +kernel)
set_option maxRecDepth 20000 in
theorem gX10_pay_X10_remainingOf : GoodIn wsX10_pay (wsV RX10 277 RX10 yX10_remainingOf wsX10_remainingOf) := goodIn_app (goodIn_r _ [11, 12, 13, 5] rfl (by decide +kernel)) ggX10_pay_X10_remainingOf
set_option maxRecDepth 20000 in
theorem ggX10_pay_X10_remember : GoodIn wsX10_pay wsX10_remember := goodIn_r _ [38, 39, 40, 41, 7, 42, 63, 64, 65, 66, 67, 68, 69, 70, 71, 72, 73, 74, 75, 76, 77, 78, 79, 80, 81, 82, 83, 84, 85, 86, 87, 88, 89, 90, 91, 92, 93, 94, 95, 96, 97, 98, 99, 100, 101] rfl (by decide +kernel)
set_option maxRecDepth 20000 in
theorem gX10_pay_X10_remember : GoodIn wsX10_pay (wsV RX10 395 RX10 yX10_remember wsX10_remember) := goodIn_app (goodIn_r _ [35, 36, 37, 5] rfl (by decide +kernel)) ggX10_pay_X10_remember
set_option maxRecDepth 20000 in
theorem ggX10_resolve_X10_makePayment : GoodIn wsX10_resolve wsX10_makePayment := goodIn_r _ [66, 18, 67, 68, 69, 3, 70, 71, 23, 24, 25, 26, 59, 60, 61, 62, 72, 73, 74, 79, 80, 81, 82, 83, 84, 85, 86, 87, 88, 89, 90, 91, 92, 93, 94, 95, 96, 97, 98, 99, 100, 101, 102, 103, 104, 105, 106, 107, 108, 109, 110, 111, 112, 113, 114, 115, 116, 117] rfl (by decide +kernel)
set_option maxRecDepth 20000 in
theorem gX10_resolve_X10_makePayment : GoodIn wsX10_resolve (wsV RX10 309 RX10 yX10_makePayment wsX10_makePayment) := goodIn_app (goodIn_r _ [63, 64, 65, 3] rfl (by decide +kernel)) ggX10_resolve_X10_makePayment
set_option maxRecDepth 20000 in
theorem ggX10_resolve_X10_refund : GoodIn wsX10_resolve wsX10_refund := goodIn_r _ [78, 18, 72, 73, 3, 74, 79, 80, 81, 82, 83, 84, 85, 86, 87, 88, 89, 90, 91, 92, 93, 94, 95, 96, 97, 98, 99, 100, 101, 102, 103, 104, 105, 106, 107, 108, 109, 110, 111, 112, 113, 114, 115, 116, 117] rfl (by decide +kernel)
set_option maxRecDepth 20000 in
theorem gX10_resolve_X10_refund : GoodIn wsX10_resolve (wsV RX10 401 RX10 yX10_refund wsX10_refund) := goodIn_app (goodIn_r _ [75, 76, 77, 3] rfl (by decide +kernel)) ggX10_resolve_X10_refund
set_option maxRecDepth 20000 in
theorem ggX10_resolve_X10_remember : GoodIn wsX10_resolve wsX10_remember := goodIn_r _ [30, 31, 32, 33, 18, 34, 79, 80, 81, 82, 83, 84, 85, 86, 87, 88, 89, 90, 91, 92, 93, 94, 95, 96, 97, 98, 99, 100, 101, 102, 103, 104, 105, 106, 107, 108, 109, 110, 111, 112, 113, 114, 115, 116, 117] rfl (by decide +kernel)
set_option maxRecDepth 20000 in
theorem gX10_resolve_X10_remember : GoodIn wsX10_resolve (wsV RX10 395 RX10 yX10_remember wsX10_remember) := goodIn_app (goodIn_r _ [27, 28, 29, 3] rfl (by decide +kernel)) ggX10_resolve_X10_remember
set_option maxRecDepth 20000 in
theorem ggX10_resolve_X10_set : GoodIn wsX10_resolve wsX10_set := goodIn_r _ [62, 18, 79, 80, 81, 82, 83, 84, 85, 86, 87, 88, 89, 90, 91, 92, 93, 94, 95, 96, 97, 98, 99, 100, 101, 102, 103, 104, 105, 106, 107, 108, 109, 110, 111, 112, 113, 114, 115, 116, 117] rfl (by decide +kernel)
set_option maxRecDepth 20000 in
theorem gX10_resolve_X10_set : GoodIn wsX10_resolve (wsV RX10 273 RX10 yX10_set wsX10_set) := goodIn_app (goodIn_r _ [59, 60, 61, 3] rfl (by decide +kernel)) ggX10_resolve_X10_set
set_option maxRecDepth 20000 in
theorem ggX10_resolve_X10_splitBy : GoodIn wsX10_resolve wsX10_splitBy := goodIn_r _ [58, 5, 35, 36, 37, 3, 38, 39, 40, 41, 42, 43, 44, 45, 46, 47, 48, 49, 50, 23, 24, 25, 26, 18, 51, 52, 53, 54, 79, 80, 81, 82, 83, 84, 85, 86, 87, 88, 89, 90, 91, 92, 93, 94, 95, 96, 97, 98, 99, 100, 101, 102, 103, 104, 105, 106, 107, 108, 109, 110, 111, 112, 113, 114, 115, 116, 117] rfl (by decide +kernel)
set_option maxRecDepth 20000 in
theorem gX10_resolve_X10_splitBy : GoodIn wsX10_resolve (wsV RX10 385 RX10 yX10_splitBy wsX10_splitBy) := goodIn_app (goodIn_r _ [55, 56, 57, 3] rfl (by decide +kernel)) ggX10_resolve_X10_splitBy
set_option maxRecDepth 20000 in
theorem ggX10_resolve_X10_splitSum : GoodIn wsX10_resolve wsX10_splitSum := goodIn_r _ [38, 39, 40, 41, 42, 43, 44, 45, 3, 46, 47, 48, 49, 50, 23, 24, 25, 26, 18, 51, 52, 53, 54, 79, 80, 81, 82, 83, 84, 85, 86, 87, 88, 89, 90, 91, 92, 93, 94, 95, 96, 97, 98, 99, 100, 101, 102, 103, 104, 105, 106, 107, 108, 109, 110, 111, 112, 113, 114, 115, 116, 117] rfl (by decide +kernel)
set_option maxRecDepth 20000 in
theorem gX10_resolve_X10_splitSum : GoodIn wsX10_resolve (wsV RX10 375 RX10 yX10_splitSum wsX10_splitSum) := goodIn_app (goodIn_r _ [35, 36, 37, 3] rfl (by decide +kernel)) ggX10_resolve_X10_splitSum
theorem dX0_freeze_0 : decode cX0_freeze 0 = .ok (.aload_n 0, 1) := by decide +kernel
theorem dX0_freeze_1 : decode cX0_freeze 1 = .ok (.iload_n 1, 1) := by decide +kernel
theorem dX0_freeze_2 : decode cX0_freeze 2 = .ok (.invokevirtual 144, 3) := by decide +kernel
theorem dX0_freeze_5 : decode cX0_freeze 5 = .ok (.aload_n 0, 1) := by decide +kernel
theorem dX0_freeze_6 : decode cX0_freeze 6 = .ok (.invokevirtual 158, 3) := by decide +kernel
theorem dX0_freeze_9 : decode cX0_freeze 9 = .ok (.invokestatic 161, 3) := by decide +kernel
theorem dX0_freeze_12 : decode cX0_freeze 12 = .ok (.istore_n 2, 1) := by decide +kernel
theorem dX0_freeze_13 : decode cX0_freeze 13 = .ok (.aload_n 0, 1) := by decide +kernel
theorem dX0_freeze_14 : decode cX0_freeze 14 = .ok (.getfield 18, 3) := by decide +kernel
theorem dX0_freeze_17 : decode cX0_freeze 17 = .ok (.iload_n 1, 1) := by decide +kernel
theorem dX0_freeze_18 : decode cX0_freeze 18 = .ok (.iconst 2, 1) := by decide +kernel
theorem dX0_freeze_19 : decode cX0_freeze 19 = .ok (.iastore, 1) := by decide +kernel
theorem dX0_freeze_20 : decode cX0_freeze 20 = .ok (.aload_n 0, 1) := by decide +kernel
theorem dX0_freeze_21 : decode cX0_freeze 21 = .ok (.getfield 25, 3) := by decide +kernel
theorem dX0_freeze_24 : decode cX0_freeze 24 = .ok (.iload_n 1, 1) := by decide +kernel
theorem dX0_freeze_25 : decode cX0_freeze 25 = .ok (.iload_n 2, 1) := by decide +kernel
theorem dX0_freeze_26 : decode cX0_freeze 26 = .ok (.iastore, 1) := by decide +kernel
theorem dX0_freeze_27 : decode cX0_freeze 27 = .ok (.iload_n 2, 1) := by decide +kernel
theorem dX0_freeze_28 : decode cX0_freeze 28 = .ok (.ireturn, 1) := by decide +kernel
theorem dX0_isOpenOrDue_0 : decode cX0_isOpenOrDue 0 = .ok (.aload_n 0, 1) := by decide +kernel
theorem dX0_isOpenOrDue_1 : decode cX0_isOpenOrDue 1 = .ok (.getfield 18, 3) := by decide +kernel
theorem dX0_isOpenOrDue_4 : decode cX0_isOpenOrDue 4 = .ok (.iload_n 1, 1) := by decide +kernel
theorem dX0_isOpenOrDue_5 : decode cX0_isOpenOrDue 5 = .ok (.iaload, 1) := by decide +kernel
theorem dX0_isOpenOrDue_6 : decode cX0_isOpenOrDue 6 = .ok (.ifCond .eq 13, 3) := by decide +kernel
theorem dX0_isOpenOrDue_9 : decode cX0_isOpenOrDue 9 = .ok (.aload_n 0, 1) := by decide +kernel
theorem dX0_isOpenOrDue_10 : decode cX0_isOpenOrDue 10 = .ok (.getfield 18, 3) := by decide +kernel
theorem dX0_isOpenOrDue_13 : decode cX0_isOpenOrDue 13 = .ok (.iload_n 1, 1) := by decide +kernel
theorem dX0_isOpenOrDue_14 : decode cX0_isOpenOrDue 14 = .ok (.iaload, 1) := by decide +kernel
theorem dX0_isOpenOrDue_15 : decode cX0_isOpenOrDue 15 = .ok (.iconst 1, 1) := by decide +kernel
theorem dX0_isOpenOrDue_16 : decode cX0_isOpenOrDue 16 = .ok (.if_icmp .ne 7, 3) := by decide +kernel
theorem dX0_isOpenOrDue_19 : decode cX0_isOpenOrDue 19 = .ok (.iconst 1, 1) := by decide +kernel
theorem dX0_isOpenOrDue_20 : decode cX0_isOpenOrDue 20 = .ok (.goto 4, 3) := by decide +kernel
theorem dX0_isOpenOrDue_23 : decode cX0_isOpenOrDue 23 = .ok (.iconst 0, 1) := by decide +kernel
theorem dX0_isOpenOrDue_24 : decode cX0_isOpenOrDue 24 = .ok (.ireturn, 1) := by decide +kernel
theorem dX0_leaveDispute_0 : decode cX0_leaveDispute 0 = .ok (.aload_n 0, 1) := by decide +kernel
theorem dX0_leaveDispute_1 : decode cX0_leaveDispute 1 = .ok (.getfield 18, 3) := by decide +kernel
theorem dX0_leaveDispute_4 : decode cX0_leaveDispute 4 = .ok (.iload_n 1, 1) := by decide +kernel
theorem dX0_leaveDispute_5 : decode cX0_leaveDispute 5 = .ok (.iload_n 2, 1) := by decide +kernel
theorem dX0_leaveDispute_6 : decode cX0_leaveDispute 6 = .ok (.iastore, 1) := by decide +kernel
theorem dX0_leaveDispute_7 : decode cX0_leaveDispute 7 = .ok (.aload_n 0, 1) := by decide +kernel
theorem dX0_leaveDispute_8 : decode cX0_leaveDispute 8 = .ok (.getfield 25, 3) := by decide +kernel
theorem dX0_leaveDispute_11 : decode cX0_leaveDispute 11 = .ok (.iload_n 1, 1) := by decide +kernel
theorem dX0_leaveDispute_12 : decode cX0_leaveDispute 12 = .ok (.iconst 0, 1) := by decide +kernel
theorem dX0_leaveDispute_13 : decode cX0_leaveDispute 13 = .ok (.iastore, 1) := by decide +kernel
theorem dX0_leaveDispute_14 : decode cX0_leaveDispute 14 = .ok (.return_, 1) := by decide +kernel
theorem dX0_payOutInterest_0 : decode cX0_payOutInterest 0 = .ok (.aload_n 0, 1) := by decide +kernel
theorem dX0_payOutInterest_1 : decode cX0_payOutInterest 1 = .ok (.dup, 1) := by decide +kernel
theorem dX0_payOutInterest_2 : decode cX0_payOutInterest 2 = .ok (.getfield 50, 3) := by decide +kernel
theorem dX0_payOutInterest_5 : decode cX0_payOutInterest 5 = .ok (.iload_n 1, 1) := by decide +kernel
theorem dX0_payOutInterest_6 : decode cX0_payOutInterest 6 = .ok (.i2l, 1) := by decide +kernel
theorem dX0_payOutInterest_7 : decode cX0_payOutInterest 7 = .ok (.lsub, 1) := by decide +kernel
theorem dX0_payOutInterest_8 : decode cX0_payOutInterest 8 = .ok (.putfield 50, 3) := by decide +kernel
theorem dX0_payOutInterest_11 : decode cX0_payOutInterest 11 = .ok (.aload_n 0, 1) := by decide +kernel
theorem dX0_payOutInterest_12 : decode cX0_payOutInterest 12 = .ok (.getfield 12, 3) := by decide +kernel
theorem dX0_payOutInterest_15 : decode cX0_payOutInterest 15 = .ok (.iconst 4, 1) := by decide +kernel
theorem dX0_payOutInterest_16 : decode cX0_payOutInterest 16 = .ok (.aload_n 0, 1) := by decide +kernel
theorem dX0_payOutInterest_17 : decode cX0_payOutInterest 17 = .ok (.getfield 40, 3) := by decide +kernel
theorem dX0_payOutInterest_20 : decode cX0_payOutInterest 20 = .ok (.iload_n 1, 1) := by decide +kernel
theorem dX0_payOutInterest_21 : decode cX0_payOutInterest 21 = .ok (.iconst (-1), 1) := by decide +kernel
theorem dX0_payOutInterest_22 : decode cX0_payOutInterest 22 = .ok (.invokevirtual 151, 3) := by decide +kernel
theorem dX0_payOutInterest_25 : decode cX0_payOutInterest 25 = .ok (.return_, 1) := by decide +kernel
