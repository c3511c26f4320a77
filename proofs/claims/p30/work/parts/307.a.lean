set_option maxRecDepth 20000 in
theorem ggX10_approve_X10_holdsNow : GoodIn wsX10_approve wsX10_holdsNow := goodIn_r _ [38, 6, 39, 40, 41, 4, 42, 14, 15, 16, 17, 43, 44, 45, 46, 47, 48, 49, 50, 51, 52, 53, 54, 55, 56, 57, 58, 59, 60, 61, 62, 63, 64, 65, 66, 67, 68, 69, 70, 71, 72, 73, 74, 75, 76, 77, 78, 79, 80, 81, 82, 83, 84, 85, 86, 87, 88, 89, 90, 91, 92, 93] rfl (by decide +kernel)
set_option maxRecDepth 20000 in
theorem gX10_approve_X10_holdsNow : GoodIn wsX10_approve (wsV RX10 337 RX10 yX10_holdsNow wsX10_holdsNow) := goodIn_app (goodIn_r _ [35, 36, 37, 4] rfl (by decide +kernel)) ggX10_approve_X10_holdsNow
set_option maxRecDepth 20000 in
theorem ggX10_approve_X10_isClosed : GoodIn wsX10_approve wsX10_isClosed := goodIn_r _ [13, 14, 15, 16, 4, 17, 6, 55, 56, 57, 58, 59, 60, 61, 62, 63, 64, 65, 66, 67, 68, 69, 70, 71, 72, 73, 74, 75, 76, 77, 78, 79, 80, 81, 82, 83, 84, 85, 86, 87, 88, 89, 90, 91, 92, 93] rfl (by decide +kernel)
set_option maxRecDepth 20000 in
theorem gX10_approve_X10_isClosed : GoodIn wsX10_approve (wsV RX10 265 RX10 yX10_isClosed wsX10_isClosed) := goodIn_app (goodIn_r _ [10, 11, 12, 4] rfl (by decide +kernel)) ggX10_approve_X10_isClosed
set_option maxRecDepth 20000 in
theorem ggX10_approve_X10_remember : GoodIn wsX10_approve wsX10_remember := goodIn_r _ [26, 27, 28, 29, 6, 30, 55, 56, 57, 58, 59, 60, 61, 62, 63, 64, 65, 66, 67, 68, 69, 70, 71, 72, 73, 74, 75, 76, 77, 78, 79, 80, 81, 82, 83, 84, 85, 86, 87, 88, 89, 90, 91, 92, 93] rfl (by decide +kernel)
set_option maxRecDepth 20000 in
theorem gX10_approve_X10_remember : GoodIn wsX10_approve (wsV RX10 395 RX10 yX10_remember wsX10_remember) := goodIn_app (goodIn_r _ [23, 24, 25, 4] rfl (by decide +kernel)) ggX10_approve_X10_remember
set_option maxRecDepth 20000 in
theorem ggX10_approve_X10_set : GoodIn wsX10_approve wsX10_set := goodIn_r _ [34, 6, 55, 56, 57, 58, 59, 60, 61, 62, 63, 64, 65, 66, 67, 68, 69, 70, 71, 72, 73, 74, 75, 76, 77, 78, 79, 80, 81, 82, 83, 84, 85, 86, 87, 88, 89, 90, 91, 92, 93] rfl (by decide +kernel)
set_option maxRecDepth 20000 in
theorem gX10_approve_X10_set : GoodIn wsX10_approve (wsV RX10 273 RX10 yX10_set wsX10_set) := goodIn_app (goodIn_r _ [31, 32, 33, 4] rfl (by decide +kernel)) ggX10_approve_X10_set
set_option maxRecDepth 20000 in
theorem ggX10_canSplit_X10_of : GoodIn wsX10_canSplit wsX10_of := goodIn_r _ [18, 7, 19, 20, 21, 22, 23, 24, 25, 26, 27, 28, 29, 30, 31, 32, 33, 34, 35, 36, 37, 38, 39, 40, 41, 42, 43, 44, 45, 46, 47, 48, 49, 50, 51, 52, 53, 54, 55, 56, 57] rfl (by decide +kernel)
set_option maxRecDepth 20000 in
theorem gX10_canSplit_X10_of : GoodIn wsX10_canSplit (wsV RX10 261 RX10 yX10_of wsX10_of) := goodIn_app (goodIn_r _ [15, 16, 17, 5] rfl (by decide +kernel)) ggX10_canSplit_X10_of
set_option maxRecDepth 20000 in
theorem ggX10_cancel_X10_isOpenOrDue : GoodIn wsX10_cancel wsX10_isOpenOrDue := goodIn_r _ [13, 14, 15, 16, 4, 17, 6, 43, 44, 45, 46, 47, 48, 49, 50, 51, 52, 53, 54, 55, 56, 57, 58, 59, 60, 61, 62, 63, 64, 65, 66, 67, 68, 69, 70, 71, 72, 73, 74, 75, 76, 77, 78, 79, 80, 81] rfl (by decide +kernel)
set_option maxRecDepth 20000 in
theorem gX10_cancel_X10_isOpenOrDue : GoodIn wsX10_cancel (wsV RX10 398 RX10 yX10_isOpenOrDue wsX10_isOpenOrDue) := goodIn_app (goodIn_r _ [10, 11, 12, 4] rfl (by decide +kernel)) ggX10_cancel_X10_isOpenOrDue
set_option maxRecDepth 20000 in
theorem ggX10_cancel_X10_remainingOf : GoodIn wsX10_cancel wsX10_remainingOf := goodIn_r _ [34, 35, 36, 37, 4, 38, 14, 15, 16, 17, 6, 43, 44, 45, 46, 47, 48, 49, 50, 51, 52, 53, 54, 55, 56, 57, 58, 59, 60, 61, 62, 63, 64, 65, 66, 67, 68, 69, 70, 71, 72, 73, 74, 75, 76, 77, 78, 79, 80, 81] rfl (by decide +kernel)
set_option maxRecDepth 20000 in
theorem gX10_cancel_X10_remainingOf : GoodIn wsX10_cancel (wsV RX10 277 RX10 yX10_remainingOf wsX10_remainingOf) := goodIn_app (goodIn_r _ [31, 32, 33, 4] rfl (by decide +kernel)) ggX10_cancel_X10_remainingOf
set_option maxRecDepth 20000 in
theorem ggX10_cancel_X10_remember : GoodIn wsX10_cancel wsX10_remember := goodIn_r _ [26, 27, 28, 29, 6, 30, 43, 44, 45, 46, 47, 48, 49, 50, 51, 52, 53, 54, 55, 56, 57, 58, 59, 60, 61, 62, 63, 64, 65, 66, 67, 68, 69, 70, 71, 72, 73, 74, 75, 76, 77, 78, 79, 80, 81] rfl (by decide +kernel)
set_option maxRecDepth 20000 in
theorem gX10_cancel_X10_remember : GoodIn wsX10_cancel (wsV RX10 395 RX10 yX10_remember wsX10_remember) := goodIn_app (goodIn_r _ [23, 24, 25, 4] rfl (by decide +kernel)) ggX10_cancel_X10_remember
set_option maxRecDepth 20000 in
theorem ggX10_cancel_X10_set : GoodIn wsX10_cancel wsX10_set := goodIn_r _ [42, 6, 43, 44, 45, 46, 47, 48, 49, 50, 51, 52, 53, 54, 55, 56, 57, 58, 59, 60, 61, 62, 63, 64, 65, 66, 67, 68, 69, 70, 71, 72, 73, 74, 75, 76, 77, 78, 79, 80, 81] rfl (by decide +kernel)
set_option maxRecDepth 20000 in
theorem gX10_cancel_X10_set : GoodIn wsX10_cancel (wsV RX10 273 RX10 yX10_set wsX10_set) := goodIn_app (goodIn_r _ [39, 40, 41, 4] rfl (by decide +kernel)) ggX10_cancel_X10_set
set_option maxRecDepth 20000 in
theorem ggX10_dispute_X10_availableNow : GoodIn wsX10_dispute wsX10_availableNow := goodIn_r _ [46, 10, 18, 19, 20, 8, 21, 51, 52, 53, 54, 55, 56, 57, 58, 59, 60, 61, 62, 63, 64, 65, 66, 67, 68, 69, 70, 71, 72, 73, 74, 75, 76, 77, 78, 79, 80, 81, 82, 83, 84, 85, 86, 87, 88, 89] rfl (by decide +kernel)
set_option maxRecDepth 20000 in
theorem gX10_dispute_X10_availableNow : GoodIn wsX10_dispute (wsV RX10 298 RX10 yX10_availableNow wsX10_availableNow) := goodIn_app (goodIn_r _ [43, 44, 45, 8] rfl (by decide +kernel)) ggX10_dispute_X10_availableNow
set_option maxRecDepth 20000 in
theorem ggX10_dispute_X10_isOpenOrDue : GoodIn wsX10_dispute wsX10_isOpenOrDue := goodIn_r _ [17, 18, 19, 20, 8, 21, 10, 51, 52, 53, 54, 55, 56, 57, 58, 59, 60, 61, 62, 63, 64, 65, 66, 67, 68, 69, 70, 71, 72, 73, 74, 75, 76, 77, 78, 79, 80, 81, 82, 83, 84, 85, 86, 87, 88, 89] rfl (by decide +kernel)
set_option maxRecDepth 20000 in
theorem gX10_dispute_X10_isOpenOrDue : GoodIn wsX10_dispute (wsV RX10 398 RX10 yX10_isOpenOrDue wsX10_isOpenOrDue) := goodIn_app (goodIn_r _ [14, 15, 16, 8] rfl (by decide +kernel)) ggX10_dispute_X10_isOpenOrDue
set_option maxRecDepth 20000 in
theorem ggX10_dispute_X10_remainingOf : GoodIn wsX10_dispute wsX10_remainingOf := goodIn_r _ [38, 39, 40, 41, 8, 42, 18, 19, 20, 21, 10, 51, 52, 53, 54, 55, 56, 57, 58, 59, 60, 61, 62, 63, 64, 65, 66, 67, 68, 69, 70, 71, 72, 73, 74, 75, 76, 77, 78, 79, 80, 81, 82, 83, 84, 85, 86, 87, 88, 89] rfl (by decide +kernel)
set_option maxRecDepth 20000 in
theorem gX10_dispute_X10_remainingOf : GoodIn wsX10_dispute (wsV RX10 277 RX10 yX10_remainingOf wsX10_remainingOf) := goodIn_app (goodIn_r _ [35, 36, 37, 8] rfl (by decide +kernel)) ggX10_dispute_X10_remainingOf
set_option maxRecDepth 20000 in
theorem ggX10_dispute_X10_remember : GoodIn wsX10_dispute wsX10_remember := goodIn_r _ [30, 31, 32, 33, 10, 34, 51, 52, 53, 54, 55, 56, 57, 58, 59, 60, 61, 62, 63, 64, 65, 66, 67, 68, 69, 70, 71, 72, 73, 74, 75, 76, 77, 78, 79, 80, 81, 82, 83, 84, 85, 86, 87, 88, 89] rfl (by decide +kernel)
set_option maxRecDepth 20000 in
theorem gX10_dispute_X10_remember : GoodIn wsX10_dispute (wsV RX10 395 RX10 yX10_remember wsX10_remember) := goodIn_app (goodIn_r _ [27, 28, 29, 8] rfl (by decide +kernel)) ggX10_dispute_X10_remember
set_option maxRecDepth 20000 in
theorem ggX10_dispute_X10_set : GoodIn wsX10_dispute wsX10_set := goodIn_r _ [50, 10, 51, 52, 53, 54, 55, 56, 57, 58, 59, 60, 61, 62, 63, 64, 65, 66, 67, 68, 69, 70, 71, 72, 73, 74, 75, 76, 77, 78, 79, 80, 81, 82, 83, 84, 85, 86, 87, 88, 89] rfl (by decide +kernel)
set_option maxRecDepth 20000 in
theorem gX10_dispute_X10_set : GoodIn wsX10_dispute (wsV RX10 273 RX10 yX10_set wsX10_set) := goodIn_app (goodIn_r _ [47, 48, 49, 8] rfl (by decide +kernel)) ggX10_dispute_X10_set
set_option maxRecDepth 20000 in
theorem ggX10_letterOf_X10_lettersOf : GoodIn wsX10_letterOf wsX10_lettersOf := goodIn_r _ [5, 1] rfl (by decide +kernel)
set_option maxRecDepth 20000 in
theorem gX10_letterOf_X10_lettersOf : GoodIn wsX10_letterOf (va_wsS RX10 351 yX10_lettersOf wsX10_lettersOf) := goodIn_app (goodIn_r _ [2, 3, 4] rfl (by decide +kernel)) ggX10_letterOf_X10_lettersOf
set_option maxRecDepth 20000 in
theorem ggX10_missingProofs_X10_countBits : GoodIn wsX10_missingProofs wsX10_countBits := goodIn_r _ [25] rfl (by decide +kernel)
set_option maxRecDepth 20000 in
theorem gX10_missingProofs_X10_countBits : GoodIn wsX10_missingProofs (va_wsS RX10 340 yX10_countBits wsX10_countBits) := goodIn_app (goodIn_r _ [23, 24, 5] rfl (by decide +kernel)) ggX10_missingProofs_X10_countBits
set_option maxRecDepth 20000 in
theorem ggX10_missingProofs_X10_doneSet : GoodIn wsX10_missingProofs wsX10_doneSet := goodIn_r _ [18, 1, 19, 20, 21, 5, 22, 38, 39, 40, 41, 42, 43, 44, 45, 46, 47, 48, 49, 50, 51, 52, 53, 54, 55, 56, 57, 58, 59, 60, 61, 62, 63, 64, 65, 66, 67, 68, 69, 70, 71, 72, 73, 74, 75, 76] rfl (by decide +kernel)
set_option maxRecDepth 20000 in
theorem gX10_missingProofs_X10_doneSet : GoodIn wsX10_missingProofs (wsV RX10 284 RX10 yX10_doneSet wsX10_doneSet) := goodIn_app (goodIn_r _ [15, 16, 17, 5] rfl (by decide +kernel)) ggX10_missingProofs_X10_doneSet
set_option maxRecDepth 20000 in
theorem ggX10_missingProofs_X10_holdsBy : GoodIn wsX10_missingProofs wsX10_holdsBy := goodIn_r _ [29, 30, 31, 32, 33, 34, 35, 36, 5, 37, 1, 19, 20, 21, 22, 38, 39, 40, 41, 42, 43, 44, 45, 46, 47, 48, 49, 50, 51, 52, 53, 54, 55, 56, 57, 58, 59, 60, 61, 62, 63, 64, 65, 66, 67, 68, 69, 70, 71, 72, 73, 74, 75, 76] rfl (by decide +kernel)
set_option maxRecDepth 20000 in
theorem gX10_missingProofs_X10_holdsBy : GoodIn wsX10_missingProofs (wsV RX10 288 RX10 yX10_holdsBy wsX10_holdsBy) := goodIn_app (goodIn_r _ [26, 27, 28, 5] rfl (by decide +kernel)) ggX10_missingProofs_X10_holdsBy
set_option maxRecDepth 20000 in
theorem ggX10_payInterest_X10_enter : GoodIn wsX10_payInterest wsX10_enter := goodIn_r _ [21] rfl (by decide +kernel)
set_option maxRecDepth 20000 in
theorem gX10_payInterest_X10_enter : GoodIn wsX10_payInterest (va_wsS RX10 229 yX10_enter wsX10_enter) := goodIn_app (goodIn_r _ [19, 20, 4] rfl (by decide +kernel)) ggX10_payInterest_X10_enter
set_option maxRecDepth 20000 in
theorem ggX10_payInterest_X10_remember : GoodIn wsX10_payInterest wsX10_remember := goodIn_r _ [14, 15, 16, 17, 1, 18, 22, 23, 24, 25, 26, 27, 28, 29, 30, 31, 32, 33, 34, 35, 36, 37, 38, 39, 40, 41, 42, 43, 44, 45, 46, 47, 48, 49, 50, 51, 52, 53, 54, 55, 56, 57, 58, 59, 60] rfl (by decide +kernel)
set_option maxRecDepth 20000 in
theorem gX10_payInterest_X10_remember : GoodIn wsX10_payInterest (wsV RX10 395 RX10 yX10_remember wsX10_remember) := goodIn_app (goodIn_r _ [11, 12, 13, 4] rfl (by decide +kernel)) ggX10_payInterest_X10_remember
set_option maxRecDepth 20000 in
theorem ggX10_pay_X10_availableNow : GoodIn wsX10_pay wsX10_availableNow := goodIn_r _ [34, 7, 19, 20, 21, 5, 22, 63, 64, 65, 66, 67, 68, 69, 70, 71, 72, 73, 74, 75, 76, 77, 78, 79, 80, 81, 82, 83, 84, 85, 86, 87, 88, 89, 90, 91, 92, 93, 94, 95, 96, 97, 98, 99, 100, 101] rfl (by decide +kernel)
set_option maxRecDepth 20000 in
theorem gX10_pay_X10_availableNow : GoodIn wsX10_pay (wsV RX10 298 RX10 yX10_availableNow wsX10_availableNow) := goodIn_app (goodIn_r _ [31, 32, 33, 5] rfl (by decide +kernel)) ggX10_pay_X10_availableNow
set_option maxRecDepth 20000 in
theorem ggX10_pay_X10_between : GoodIn wsX10_pay wsX10_between := goodIn_r _ [10] rfl (by decide +kernel)
set_option maxRecDepth 20000 in
theorem gX10_pay_X10_between : GoodIn wsX10_pay (va_wsS RX10 152 yX10_between wsX10_between) := goodIn_app (goodIn_r _ [8, 9, 5] rfl (by decide +kernel)) ggX10_pay_X10_between
set_option maxRecDepth 20000 in
theorem ggX10_pay_X10_closeIfPaid : GoodIn wsX10_pay wsX10_closeIfPaid := goodIn_r _ [62, 11, 12, 13, 5, 14, 15, 16, 17, 18, 19, 20, 21, 22, 7, 52, 53, 54, 55, 63, 64, 65, 66, 67, 68, 69, 70, 71, 72, 73, 74, 75, 76, 77, 78, 79, 80, 81, 82, 83, 84, 85, 86, 87, 88, 89, 90, 91, 92, 93, 94, 95, 96, 97, 98, 99, 100, 101] rfl (by decide +kernel)
set_option maxRecDepth 20000 in
theorem gX10_pay_X10_closeIfPaid : GoodIn wsX10_pay (wsV RX10 312 RX10 yX10_closeIfPaid wsX10_closeIfPaid) := goodIn_app (goodIn_r _ [59, 60, 61, 5] rfl (by decide +kernel)) ggX10_pay_X10_closeIfPaid
set_option maxRecDepth 20000 in
theorem ggX10_pay_X10_isOpenOrDue : GoodIn wsX10_pay wsX10_isOpenOrDue := goodIn_r _ [30, 19, 20, 21, 5, 22, 7, 63, 64, 65, 66, 67, 68, 69, 70, 71, 72, 73, 74, 75, 76, 77, 78, 79, 80, 81, 82, 83, 84, 85, 86, 87, 88, 89, 90, 91, 92, 93, 94, 95, 96, 97, 98, 99, 100, 101] rfl (by decide +kernel)
set_option maxRecDepth 20000 in
theorem gX10_pay_X10_isOpenOrDue : GoodIn wsX10_pay (wsV RX10 398 RX10 yX10_isOpenOrDue wsX10_isOpenOrDue) := goodIn_app (goodIn_r _ [27, 28, 29, 5] rfl (by decide +kernel)) ggX10_pay_X10_isOpenOrDue
set_option maxRecDepth 20000 in
theorem ggX10_pay_X10_makePayment : GoodIn wsX10_pay wsX10_makePayment := goodIn_r _ [46, 7, 47, 48, 49, 5, 50, 51, 19, 20, 21, 22, 52, 53, 54, 55, 56, 57, 58, 63, 64, 65, 66, 67, 68, 69, 70, 71, 72, 73, 74, 75, 76, 77, 78, 79, 80, 81, 82, 83, 84, 85, 86, 87, 88, 89, 90, 91, 92, 93, 94, 95, 96, 97, 98, 99, 100, 101] rfl (by decide +kernel)
set_option maxRecDepth 20000 in
theorem gX10_pay_X10_makePayment : GoodIn wsX10_pay (wsV RX10 309 RX10 yX10_makePayment wsX10_makePayment) := goodIn_app (goodIn_r _ [43, 44, 45, 5] rfl (by decide +kernel)) ggX10_pay_X10_makePayment
set_option maxRecDepth 20000 in
theorem ggX10_pay_X10_remainingOf : GoodIn wsX10_pay wsX10_remainingOf := goodIn_r _ [14, 15, 16, 17, 5, 18, 19, 20, 21, 22, 7, 63, 64, 65, 66, 67, 68, 69, 70, 71, 72, 73, 74, 75, 76, 77, 78, 79, 80, 81, 82, 83, 84, 85, 86, 87, 88, 89, 90, 91, 92, 93, 94, 95, 96, 97, 98, 99, 100, 101] rfl (by decide +kernel)
set_option maxRecDepth 20000 in
theorem gX10_pay_X10_remainingOf : GoodIn wsX10_pay (wsV RX10 277 RX10 yX10_remainingOf wsX10_remainingOf) := goodIn_app (goodIn_r _ [11, 12, 13, 5] rfl (by decide +kernel)) ggX10_pay_X10_remainingOf
set_option maxRecDepth 20000 in
theorem ggX10_pay_X10_remember : GoodIn wsX10_pay wsX10_remember := goodIn_r _ [38, 39, 40, 41, 7, 42, 63, 64, 65, 66, 67, 68, 69, 70, 71, 72, 73, 74, 75, 76, 77, 78, 79, 80, 81, 82, 83, 84, 85, 86, 87, 88, 89, 90, 91, 92, 93, 94, 95, 96, 97, 98, 99, 100, 101] rfl (by decide +kernel)
set_option maxRecDepth 20000 in
theorem gX10_pay_X10_remember : GoodIn wsX10_pay (wsV RX10 395 RX10 yX10_remember wsX10_remember) := goodIn_app (goodIn_r _ [35, 36, 37, 5] rfl (by decide +kernel)) ggX10_pay_X10_remember
set_option maxRecDepth 20000 in
theorem ggX10_putNumber_X10_put : GoodIn wsX10_putNumber wsX10_put := goodIn_r _ [5, 6, 7, 8, 9, 10, 11, 12, 13, 14, 15, 16, 17, 18, 19, 20, 21, 22, 23, 24, 25, 26, 27, 28, 29, 30, 31, 32, 33, 34, 35, 36, 37, 38, 39, 40, 41, 42, 43, 44, 45, 46] rfl (by decide +kernel)
set_option maxRecDepth 20000 in
theorem gX10_putNumber_X10_put : GoodIn wsX10_putNumber (wsV RX10 417 RX10 yX10_put wsX10_put) := goodIn_app (goodIn_r _ [1, 2, 3, 4] rfl (by decide +kernel)) ggX10_putNumber_X10_put
set_option maxRecDepth 20000 in
theorem ggX10_resolve_X10_makePayment : GoodIn wsX10_resolve wsX10_makePayment := goodIn_r _ [66, 18, 67, 68, 69, 3, 70, 71, 23, 24, 25, 26, 59, 60, 61, 62, 72, 73, 74, 79, 80, 81, 82, 83, 84, 85, 86, 87, 88, 89, 90, 91, 92, 93, 94, 95, 96, 97, 98, 99, 100, 101, 102, 103, 104, 105, 106, 107, 108, 109, 110, 111, 112, 113, 114, 115, 116, 117] rfl (by decide +kernel)
set_option maxRecDepth 20000 in
theorem gX10_resolve_X10_makePayment : GoodIn wsX10_resolve (wsV RX10 309 RX10 yX10_makePayment wsX10_makePayment) := goodIn_app (goodIn_r _ [63, 64, 65, 3] rfl (by decide +kernel)) ggX10_resolve_X10_makePayment
set_option maxRecDepth 20000 in
theorem ggX10_resolve_X10_refund : GoodIn wsX10_resolve wsX10_refund := goodIn_r _ [78, 18, 72, 73, 3, 74, 79, 80, 81, 82, 83, 84, 85, 86, 87, 88, 89, 90, 91, 92, 93, 94, 95, 96, 97, 98, 99, 100, 101, 102, 103, 104, 105, 106, 107, 108, 109, 110, 111, 112, 113, 114, 115, 116, 117] rfl (by decide +kernel)
set_option maxRecDepth 20000 in
theorem gX10_resolve_X10_refund : GoodIn wsX10_resolve (wsV RX10 401 RX10 yX10_refund wsX10_refund) := goodIn_app (goodIn_r _ [75, 76, 77, 3] rfl (by decide +kernel)) ggX10_resolve_X10_refund
set_option maxRecDepth 20000 in
theorem ggX10_resolve_X10_remember : GoodIn wsX10_resolve wsX10_remember := goodIn_r _ [30, 31, 32, 33, 18, 34, 79, 80, 81, 82, 83, 84, 85, 86, 87, 88, 89, 90, 91, 92, 93, 94, 95, 96, 97, 98, 99, 100, 101, 102, 103, 104, 105, 106, 107, 108, 109, 110, 111, 112, 113, 114, 115, 116, 117] rfl (by decide +kernel)
set_option maxRecDepth 20000 in
theorem gX10_resolve_X10_remember : GoodIn wsX10_resolve (wsV RX10 395 RX10 yX10_remember wsX10_remember) := goodIn_app (goodIn_r _ [27, 28, 29, 3] rfl (by decide +kernel)) ggX10_resolve_X10_remember
set_option maxRecDepth 20000 in
theorem ggX10_resolve_X10_set : GoodIn wsX10_resolve wsX10_set := goodIn_r _ [62, 18, 79, 80, 81, 82, 83, 84, 85, 86, 87, 88, 89, 90, 91, 92, 93, 94, 95, 96, 97, 98, 99, 100, 101, 102, 103, 104, 105, 106, 107, 108, 109, 110, 111, 112, 113, 114, 115, 116, 117] rfl (by decide +kernel)
set_option maxRecDepth 20000 in
theorem gX10_resolve_X10_set : GoodIn wsX10_resolve (wsV RX10 273 RX10 yX10_set wsX10_set) := goodIn_app (goodIn_r _ [59, 60, 61, 3] rfl (by decide +kernel)) ggX10_resolve_X10_set
set_option maxRecDepth 20000 in
theorem ggX10_resolve_X10_splitBy : GoodIn wsX10_resolve wsX10_splitBy := goodIn_r _ [58, 5, 35, 36, 37, 3, 38, 39, 40, 41, 42, 43, 44, 45, 46, 47, 48, 49, 50, 23, 24, 25, 26, 18, 51, 52, 53, 54, 79, 80, 81, 82, 83, 84, 85, 86, 87, 88, 89, 90, 91, 92, 93, 94, 95, 96, 97, 98, 99, 100, 101, 102, 103, 104, 105, 106, 107, 108, 109, 110, 111, 112, 113, 114, 115, 116, 117] rfl (by decide +kernel)
set_option maxRecDepth 20000 in
theorem gX10_resolve_X10_splitBy : GoodIn wsX10_resolve (wsV RX10 385 RX10 yX10_splitBy wsX10_splitBy) := goodIn_app (goodIn_r _ [55, 56, 57, 3] rfl (by decide +kernel)) ggX10_resolve_X10_splitBy
set_option maxRecDepth 20000 in
theorem ggX10_resolve_X10_splitSum : GoodIn wsX10_resolve wsX10_splitSum := goodIn_r _ [38, 39, 40, 41, 42, 43, 44, 45, 3, 46, 47, 48, 49, 50, 23, 24, 25, 26, 18, 51, 52, 53, 54, 79, 80, 81, 82, 83, 84, 85, 86, 87, 88, 89, 90, 91, 92, 93, 94, 95, 96, 97, 98, 99, 100, 101, 102, 103, 104, 105, 106, 107, 108, 109, 110, 111, 112, 113, 114, 115, 116, 117] rfl (by decide +kernel)
set_option maxRecDepth 20000 in
theorem gX10_resolve_X10_splitSum : GoodIn wsX10_resolve (wsV RX10 375 RX10 yX10_splitSum wsX10_splitSum) := goodIn_app (goodIn_r _ [35, 36, 37, 3] rfl (by decide +kernel)) ggX10_resolve_X10_splitSum
set_option maxRecDepth 20000 in
theorem ggX10_shareFor_X10_feeOf : GoodIn wsX10_shareFor wsX10_feeOf := goodIn_r _ [52, 15, 53, 54, 55, 56, 57, 58, 59, 60, 61, 62, 63, 64, 65, 66, 67, 68, 69, 70, 71, 72, 73, 74, 75, 76, 77, 78, 79, 80, 81, 82, 83, 84, 85, 86, 87, 88, 89, 90, 91, 92] rfl (by decide +kernel)
set_option maxRecDepth 20000 in
theorem gX10_shareFor_X10_feeOf : GoodIn wsX10_shareFor (wsV RX10 270 RX10 yX10_feeOf wsX10_feeOf) := goodIn_app (goodIn_r _ [49, 50, 51, 4] rfl (by decide +kernel)) ggX10_shareFor_X10_feeOf
set_option maxRecDepth 20000 in
theorem ggX10_shareFor_X10_splitBy : GoodIn wsX10_shareFor wsX10_splitBy := goodIn_r _ [27, 28, 29, 30, 31, 4, 32, 33, 34, 35, 36, 37, 38, 39, 40, 41, 42, 43, 44, 20, 21, 22, 23, 15, 45, 46, 47, 48, 54, 55, 56, 57, 58, 59, 60, 61, 62, 63, 64, 65, 66, 67, 68, 69, 70, 71, 72, 73, 74, 75, 76, 77, 78, 79, 80, 81, 82, 83, 84, 85, 86, 87, 88, 89, 90, 91, 92] rfl (by decide +kernel)
set_option maxRecDepth 20000 in
theorem gX10_shareFor_X10_splitBy : GoodIn wsX10_shareFor (wsV RX10 385 RX10 yX10_splitBy wsX10_splitBy) := goodIn_app (goodIn_r _ [24, 25, 26, 4] rfl (by decide +kernel)) ggX10_shareFor_X10_splitBy
set_option maxRecDepth 20000 in
theorem ggX10_splitPayment_X10_splitBy : GoodIn wsX10_splitPayment wsX10_splitBy := goodIn_r _ [30, 5, 31, 32, 33, 3, 34, 35, 36, 37, 38, 39, 40, 41, 42, 43, 44, 45, 46, 23, 24, 25, 26, 18, 47, 48, 49, 50, 51, 52, 53, 54, 55, 56, 57, 58, 59, 60, 61, 62, 63, 64, 65, 66, 67, 68, 69, 70, 71, 72, 73, 74, 75, 76, 77, 78, 79, 80, 81, 82, 83, 84, 85, 86, 87, 88, 89] rfl (by decide +kernel)
set_option maxRecDepth 20000 in
theorem gX10_splitPayment_X10_splitBy : GoodIn wsX10_splitPayment (wsV RX10 385 RX10 yX10_splitBy wsX10_splitBy) := goodIn_app (goodIn_r _ [27, 28, 29, 3] rfl (by decide +kernel)) ggX10_splitPayment_X10_splitBy
set_option maxRecDepth 20000 in
theorem ggX10_submit_X10_remember : GoodIn wsX10_submit wsX10_remember := goodIn_r _ [18, 19, 20, 21, 1, 22, 23, 24, 25, 26, 27, 28, 29, 30, 31, 32, 33, 34, 35, 36, 37, 38, 39, 40, 41, 42, 43, 44, 45, 46, 47, 48, 49, 50, 51, 52, 53, 54, 55, 56, 57, 58, 59, 60, 61] rfl (by decide +kernel)
set_option maxRecDepth 20000 in
theorem gX10_submit_X10_remember : GoodIn wsX10_submit (wsV RX10 395 RX10 yX10_remember wsX10_remember) := goodIn_app (goodIn_r _ [15, 16, 17, 5] rfl (by decide +kernel)) ggX10_submit_X10_remember
set_option maxRecDepth 20000 in
theorem ggX10_withdraw_X10_availableNow : GoodIn wsX10_withdraw wsX10_availableNow := goodIn_r _ [34, 6, 10, 11, 12, 4, 13, 35, 36, 37, 38, 39, 40, 41, 42, 43, 44, 45, 46, 47, 48, 49, 50, 51, 52, 53, 54, 55, 56, 57, 58, 59, 60, 61, 62, 63, 64, 65, 66, 67, 68, 69, 70, 71, 72, 73] rfl (by decide +kernel)
set_option maxRecDepth 20000 in
theorem gX10_withdraw_X10_availableNow : GoodIn wsX10_withdraw (wsV RX10 298 RX10 yX10_availableNow wsX10_availableNow) := goodIn_app (goodIn_r _ [31, 32, 33, 4] rfl (by decide +kernel)) ggX10_withdraw_X10_availableNow
set_option maxRecDepth 20000 in
theorem ggX10_withdraw_X10_of : GoodIn wsX10_withdraw wsX10_of := goodIn_r _ [13, 6, 35, 36, 37, 38, 39, 40, 41, 42, 43, 44, 45, 46, 47, 48, 49, 50, 51, 52, 53, 54, 55, 56, 57, 58, 59, 60, 61, 62, 63, 64, 65, 66, 67, 68, 69, 70, 71, 72, 73] rfl (by decide +kernel)
set_option maxRecDepth 20000 in
theorem gX10_withdraw_X10_of : GoodIn wsX10_withdraw (wsV RX10 261 RX10 yX10_of wsX10_of) := goodIn_app (goodIn_r _ [10, 11, 12, 4] rfl (by decide +kernel)) ggX10_withdraw_X10_of
set_option maxRecDepth 20000 in
theorem ggX10_withdraw_X10_remember : GoodIn wsX10_withdraw wsX10_remember := goodIn_r _ [22, 23, 24, 25, 6, 26, 35, 36, 37, 38, 39, 40, 41, 42, 43, 44, 45, 46, 47, 48, 49, 50, 51, 52, 53, 54, 55, 56, 57, 58, 59, 60, 61, 62, 63, 64, 65, 66, 67, 68, 69, 70, 71, 72, 73] rfl (by decide +kernel)
set_option maxRecDepth 20000 in
theorem gX10_withdraw_X10_remember : GoodIn wsX10_withdraw (wsV RX10 395 RX10 yX10_remember wsX10_remember) := goodIn_app (goodIn_r _ [19, 20, 21, 4] rfl (by decide +kernel)) ggX10_withdraw_X10_remember
set_option maxRecDepth 20000 in
theorem ggX10_withdraw_X10_set : GoodIn wsX10_withdraw wsX10_set := goodIn_r _ [30, 6, 35, 36, 37, 38, 39, 40, 41, 42, 43, 44, 45, 46, 47, 48, 49, 50, 51, 52, 53, 54, 55, 56, 57, 58, 59, 60, 61, 62, 63, 64, 65, 66, 67, 68, 69, 70, 71, 72, 73] rfl (by decide +kernel)
set_option maxRecDepth 20000 in
theorem gX10_withdraw_X10_set : GoodIn wsX10_withdraw (wsV RX10 273 RX10 yX10_set wsX10_set) := goodIn_app (goodIn_r _ [27, 28, 29, 4] rfl (by decide +kernel)) ggX10_withdraw_X10_set
theorem dX10_countBits_0 : decode cX10_countBits 0 = .ok (.iconst 0, 1) := by decide +kernel
theorem dX10_countBits_1 : decode cX10_countBits 1 = .ok (.istore_n 1, 1) := by decide +kernel
theorem dX10_countBits_2 : decode cX10_countBits 2 = .ok (.iload_n 0, 1) := by decide +kernel
theorem dX10_countBits_3 : decode cX10_countBits 3 = .ok (.istore_n 2, 1) := by decide +kernel
theorem dX10_countBits_4 : decode cX10_countBits 4 = .ok (.iload_n 2, 1) := by decide +kernel
theorem dX10_countBits_5 : decode cX10_countBits 5 = .ok (.ifCond .eq 15, 3) := by decide +kernel
theorem dX10_countBits_8 : decode cX10_countBits 8 = .ok (.iinc 1 1, 3) := by decide +kernel
theorem dX10_countBits_11 : decode cX10_countBits 11 = .ok (.iload_n 2, 1) := by decide +kernel
theorem dX10_countBits_12 : decode cX10_countBits 12 = .ok (.iload_n 2, 1) := by decide +kernel
theorem dX10_countBits_13 : decode cX10_countBits 13 = .ok (.iconst 1, 1) := by decide +kernel
theorem dX10_countBits_14 : decode cX10_countBits 14 = .ok (.isub, 1) := by decide +kernel
theorem dX10_countBits_15 : decode cX10_countBits 15 = .ok (.iand, 1) := by decide +kernel
theorem dX10_countBits_16 : decode cX10_countBits 16 = .ok (.istore_n 2, 1) := by decide +kernel
theorem dX10_countBits_17 : decode cX10_countBits 17 = .ok (.goto (-13), 3) := by decide +kernel
theorem dX10_countBits_20 : decode cX10_countBits 20 = .ok (.iload_n 1, 1) := by decide +kernel
theorem dX10_countBits_21 : decode cX10_countBits 21 = .ok (.ireturn, 1) := by decide +kernel
theorem dX10_letterOf_0 : decode cX10_letterOf 0 = .ok (.lload_n 0, 1) := by decide +kernel
theorem dX10_letterOf_1 : decode cX10_letterOf 1 = .ok (.lstore_n 3, 1) := by decide +kernel
theorem dX10_letterOf_2 : decode cX10_letterOf 2 = .ok (.lload_n 0, 1) := by decide +kernel
theorem dX10_letterOf_3 : decode cX10_letterOf 3 = .ok (.invokestatic 351, 3) := by decide +kernel
theorem dX10_letterOf_6 : decode cX10_letterOf 6 = .ok (.iconst 1, 1) := by decide +kernel
theorem dX10_letterOf_7 : decode cX10_letterOf 7 = .ok (.isub, 1) := by decide +kernel
theorem dX10_letterOf_8 : decode cX10_letterOf 8 = .ok (.istore 5, 2) := by decide +kernel
theorem dX10_letterOf_10 : decode cX10_letterOf 10 = .ok (.iload 5, 2) := by decide +kernel
theorem dX10_letterOf_12 : decode cX10_letterOf 12 = .ok (.iload_n 2, 1) := by decide +kernel
theorem dX10_letterOf_13 : decode cX10_letterOf 13 = .ok (.if_icmp .le 15, 3) := by decide +kernel
theorem dX10_letterOf_16 : decode cX10_letterOf 16 = .ok (.lload_n 3, 1) := by decide +kernel
theorem dX10_letterOf_17 : decode cX10_letterOf 17 = .ok (.ldc2_w 103, 3) := by decide +kernel
theorem dX10_letterOf_20 : decode cX10_letterOf 20 = .ok (.ldiv, 1) := by decide +kernel
theorem dX10_letterOf_21 : decode cX10_letterOf 21 = .ok (.lstore_n 3, 1) := by decide +kernel
theorem dX10_letterOf_22 : decode cX10_letterOf 22 = .ok (.iinc 5 (-1), 3) := by decide +kernel
theorem dX10_letterOf_25 : decode cX10_letterOf 25 = .ok (.goto (-15), 3) := by decide +kernel
theorem dX10_letterOf_28 : decode cX10_letterOf 28 = .ok (.lload_n 3, 1) := by decide +kernel
theorem dX10_letterOf_29 : decode cX10_letterOf 29 = .ok (.ldc2_w 103, 3) := by decide +kernel
theorem dX10_letterOf_32 : decode cX10_letterOf 32 = .ok (.lrem, 1) := by decide +kernel
theorem dX10_letterOf_33 : decode cX10_letterOf 33 = .ok (.l2i, 1) := by decide +kernel
theorem dX10_letterOf_34 : decode cX10_letterOf 34 = .ok (.bipush 96, 2) := by decide +kernel
theorem dX10_letterOf_36 : decode cX10_letterOf 36 = .ok (.iadd, 1) := by decide +kernel
theorem dX10_letterOf_37 : decode cX10_letterOf 37 = .ok (.ireturn, 1) := by decide +kernel
theorem dX10_lettersOf_0 : decode cX10_lettersOf 0 = .ok (.iconst 0, 1) := by decide +kernel
theorem dX10_lettersOf_1 : decode cX10_lettersOf 1 = .ok (.istore_n 2, 1) := by decide +kernel
theorem dX10_lettersOf_2 : decode cX10_lettersOf 2 = .ok (.lload_n 0, 1) := by decide +kernel
theorem dX10_lettersOf_3 : decode cX10_lettersOf 3 = .ok (.lstore_n 3, 1) := by decide +kernel
theorem dX10_lettersOf_4 : decode cX10_lettersOf 4 = .ok (.lload_n 3, 1) := by decide +kernel
theorem dX10_lettersOf_5 : decode cX10_lettersOf 5 = .ok (.lconst 0, 1) := by decide +kernel
theorem dX10_lettersOf_6 : decode cX10_lettersOf 6 = .ok (.lcmp, 1) := by decide +kernel
theorem dX10_lettersOf_7 : decode cX10_lettersOf 7 = .ok (.ifCond .le 15, 3) := by decide +kernel
theorem dX10_lettersOf_10 : decode cX10_lettersOf 10 = .ok (.iinc 2 1, 3) := by decide +kernel
theorem dX10_lettersOf_13 : decode cX10_lettersOf 13 = .ok (.lload_n 3, 1) := by decide +kernel
theorem dX10_lettersOf_14 : decode cX10_lettersOf 14 = .ok (.ldc2_w 103, 3) := by decide +kernel
theorem dX10_lettersOf_17 : decode cX10_lettersOf 17 = .ok (.ldiv, 1) := by decide +kernel
theorem dX10_lettersOf_18 : decode cX10_lettersOf 18 = .ok (.lstore_n 3, 1) := by decide +kernel
theorem dX10_lettersOf_19 : decode cX10_lettersOf 19 = .ok (.goto (-15), 3) := by decide +kernel
theorem dX10_lettersOf_22 : decode cX10_lettersOf 22 = .ok (.iload_n 2, 1) := by decide +kernel
theorem dX10_lettersOf_23 : decode cX10_lettersOf 23 = .ok (.ireturn, 1) := by decide +kernel
theorem dX10_put_0 : decode cX10_put 0 = .ok (.aload_n 0, 1) := by decide +kernel
theorem dX10_put_1 : decode cX10_put 1 = .ok (.getfield 67, 3) := by decide +kernel
theorem dX10_put_4 : decode cX10_put 4 = .ok (.aload_n 0, 1) := by decide +kernel
theorem dX10_put_5 : decode cX10_put 5 = .ok (.getfield 412, 3) := by decide +kernel
theorem dX10_put_8 : decode cX10_put 8 = .ok (.iload_n 1, 1) := by decide +kernel
theorem dX10_put_9 : decode cX10_put 9 = .ok (.iastore, 1) := by decide +kernel
theorem dX10_put_10 : decode cX10_put 10 = .ok (.aload_n 0, 1) := by decide +kernel
theorem dX10_put_11 : decode cX10_put 11 = .ok (.dup, 1) := by decide +kernel
theorem dX10_put_12 : decode cX10_put 12 = .ok (.getfield 412, 3) := by decide +kernel
theorem dX10_put_15 : decode cX10_put 15 = .ok (.iconst 1, 1) := by decide +kernel
theorem dX10_put_16 : decode cX10_put 16 = .ok (.iadd, 1) := by decide +kernel
theorem dX10_put_17 : decode cX10_put 17 = .ok (.putfield 412, 3) := by decide +kernel
theorem dX10_put_20 : decode cX10_put 20 = .ok (.return_, 1) := by decide +kernel
theorem dX10_putNumber_0 : decode cX10_putNumber 0 = .ok (.iconst 1, 1) := by decide +kernel
theorem dX10_putNumber_1 : decode cX10_putNumber 1 = .ok (.istore_n 2, 1) := by decide +kernel
theorem dX10_putNumber_2 : decode cX10_putNumber 2 = .ok (.iload_n 1, 1) := by decide +kernel
theorem dX10_putNumber_3 : decode cX10_putNumber 3 = .ok (.iload_n 2, 1) := by decide +kernel
theorem dX10_putNumber_4 : decode cX10_putNumber 4 = .ok (.idiv, 1) := by decide +kernel
theorem dX10_putNumber_5 : decode cX10_putNumber 5 = .ok (.bipush 9, 2) := by decide +kernel
theorem dX10_putNumber_7 : decode cX10_putNumber 7 = .ok (.if_icmp .le 11, 3) := by decide +kernel
theorem dX10_putNumber_10 : decode cX10_putNumber 10 = .ok (.bipush 10, 2) := by decide +kernel
theorem dX10_putNumber_12 : decode cX10_putNumber 12 = .ok (.iload_n 2, 1) := by decide +kernel
theorem dX10_putNumber_13 : decode cX10_putNumber 13 = .ok (.imul, 1) := by decide +kernel
theorem dX10_putNumber_14 : decode cX10_putNumber 14 = .ok (.istore_n 2, 1) := by decide +kernel
theorem dX10_putNumber_15 : decode cX10_putNumber 15 = .ok (.goto (-13), 3) := by decide +kernel
theorem dX10_putNumber_18 : decode cX10_putNumber 18 = .ok (.iload_n 2, 1) := by decide +kernel
theorem dX10_putNumber_19 : decode cX10_putNumber 19 = .ok (.ifCond .le 24, 3) := by decide +kernel
theorem dX10_putNumber_22 : decode cX10_putNumber 22 = .ok (.aload_n 0, 1) := by decide +kernel
theorem dX10_putNumber_23 : decode cX10_putNumber 23 = .ok (.bipush 48, 2) := by decide +kernel
theorem dX10_putNumber_25 : decode cX10_putNumber 25 = .ok (.iload_n 1, 1) := by decide +kernel
theorem dX10_putNumber_26 : decode cX10_putNumber 26 = .ok (.iload_n 2, 1) := by decide +kernel
theorem dX10_putNumber_27 : decode cX10_putNumber 27 = .ok (.idiv, 1) := by decide +kernel
theorem dX10_putNumber_28 : decode cX10_putNumber 28 = .ok (.bipush 10, 2) := by decide +kernel
theorem dX10_putNumber_30 : decode cX10_putNumber 30 = .ok (.irem, 1) := by decide +kernel
theorem dX10_putNumber_31 : decode cX10_putNumber 31 = .ok (.iadd, 1) := by decide +kernel
theorem dX10_putNumber_32 : decode cX10_putNumber 32 = .ok (.invokevirtual 417, 3) := by decide +kernel
theorem dX10_putNumber_35 : decode cX10_putNumber 35 = .ok (.iload_n 2, 1) := by decide +kernel
theorem dX10_putNumber_36 : decode cX10_putNumber 36 = .ok (.bipush 10, 2) := by decide +kernel
theorem dX10_putNumber_38 : decode cX10_putNumber 38 = .ok (.idiv, 1) := by decide +kernel
theorem dX10_putNumber_39 : decode cX10_putNumber 39 = .ok (.istore_n 2, 1) := by decide +kernel
theorem dX10_putNumber_40 : decode cX10_putNumber 40 = .ok (.goto (-22), 3) := by decide +kernel
theorem dX10_putNumber_43 : decode cX10_putNumber 43 = .ok (.return_, 1) := by decide +kernel
