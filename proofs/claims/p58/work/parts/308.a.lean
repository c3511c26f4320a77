set_option maxRecDepth 20000 in
theorem ggX10_approve_X10_holdsNow : GoodIn wsX10_approve wsX10_holdsNow := goodIn_r _ [38, 6, 39, 40, 41, 4, 42, 14, 15, 16, 17, 43, 44, 45, 46, 47, 48, 49, 50, 51, 52, 53, 54, 55, 56, 57, 58, 59, 60, 61, 62, 63, 64, 65, 66, 67, 68, 69, 70, 71, 72, 73, 74, 75, 76, 77, 78, 79, 80, 81, 82, 83, 84, 85, 86, 87, 88, 89, 90, 91, 92, 93] rfl (by decide +kernel)
set_option maxRecDepth 20000 in
theorem gX10_approve_X10_holdsNow : GoodIn wsX10_approve (wsV RX10 337 RX10 yX10_holdsNow wsX10_holdsNow) := goodIn_app (goodIn_r _ [35, 36, 37, 4] rfl (by decide +kernel)) ggX10_approve_X10_holdsNow
set_option maxRecDepth 20000 in
theorem ggX10_approve_X10_isClosed : GoodIn wsX10_approve wsX10_isClosed := goodIn_r _ [13, 14, 15, 16, 4, 17, 6, 55, 56, 57, 58, 59, 60, 61, 62, 63, 64, 65, 66, 67, 68, 69, 70, 71, 72, 73, 74, 75, 76, 77, 78, 79, 80, 81, 82, 83, 84, 85, 86, 87, 88, 89, 90, 91, 92, 93] rfl (by decide +kernel)
set_option maxRecDepth 20000 in
theorem gX10_approve_X10_isClosed : GoodIn wsX10_approve (wsV RX10 265 RX10 yX10_isClosed wsX10_isClosed) := goodIn_app (goodIn_r _ [10, 11, 12, 4] rfl (by decide +kernel)) ggX10_approve_X10_isClosed
set_option maxRecDepth 20000 in
theorem ggX10_approve_X10_remember : GoodIn wsX10_approve wsX10_remember := goodIn_r _ [26, 27, 28, 29, 6, 30, 55, 56, 57, 58, 59, 60, 61, 62, 63, 64, 65, 66, 67, 68, 69, 70, 71, 72, 73, 74, 75, 76, 77, 78, 79, 80, 81, 82, 83, 84, 85, 86, 87, 88, 89, 90, 91, 92, 93] rfl (by decide +kernel)
set_option maxRecDepth 20000 in
theorem gX10_approve_X10_remember : GoodIn wsX10_approve (wsV RX10 395 RX10 yX10_remember wsX10_remember) := goodIn_app (goodIn_r _ [23, 24, 25, 4] rfl (by decide +kernel)) ggX10_approve_X10_remember
set_option maxRecDepth 20000 in
theorem ggX10_approve_X10_set : GoodIn wsX10_approve wsX10_set := goodIn_r _ [34, 6, 55, 56, 57, 58, 59, 60, 61, 62, 63, 64, 65, 66, 67, 68, 69, 70, 71, 72, 73, 74, 75, 76, 77, 78, 79, 80, 81, 82, 83, 84, 85, 86, 87, 88, 89, 90, 91, 92, 93] rfl (by decide +kernel)
set_option maxRecDepth 20000 in
theorem gX10_approve_X10_set : GoodIn wsX10_approve (wsV RX10 273 RX10 yX10_set wsX10_set) := goodIn_app (goodIn_r _ [31, 32, 33, 4] rfl (by decide +kernel)) ggX10_approve_X10_set
set_option maxRecDepth 20000 in
theorem ggX10_becomeDue_X10_holdsBy : GoodIn wsX10_becomeDue wsX10_holdsBy := goodIn_r _ [14, 15, 16, 17, 18, 19, 20, 21, 5, 22, 1, 7, 8, 9, 10, 27, 28, 29, 30, 31, 32, 33, 34, 35, 36, 37, 38, 39, 40, 41, 42, 43, 44, 45, 46, 47, 48, 49, 50, 51, 52, 53, 54, 55, 56, 57, 58, 59, 60, 61, 62, 63, 64, 65] rfl (by decide +kernel)
set_option maxRecDepth 20000 in
theorem gX10_becomeDue_X10_holdsBy : GoodIn wsX10_becomeDue (wsV RX10 288 RX10 yX10_holdsBy wsX10_holdsBy) := goodIn_app (goodIn_r _ [11, 12, 13, 5] rfl (by decide +kernel)) ggX10_becomeDue_X10_holdsBy
set_option maxRecDepth 20000 in
theorem ggX10_becomeDue_X10_of : GoodIn wsX10_becomeDue wsX10_of := goodIn_r _ [10, 1, 27, 28, 29, 30, 31, 32, 33, 34, 35, 36, 37, 38, 39, 40, 41, 42, 43, 44, 45, 46, 47, 48, 49, 50, 51, 52, 53, 54, 55, 56, 57, 58, 59, 60, 61, 62, 63, 64, 65] rfl (by decide +kernel)
set_option maxRecDepth 20000 in
theorem gX10_becomeDue_X10_of : GoodIn wsX10_becomeDue (wsV RX10 261 RX10 yX10_of wsX10_of) := goodIn_app (goodIn_r _ [7, 8, 9, 5] rfl (by decide +kernel)) ggX10_becomeDue_X10_of
set_option maxRecDepth 20000 in
theorem ggX10_becomeDue_X10_set : GoodIn wsX10_becomeDue wsX10_set := goodIn_r _ [26, 1, 27, 28, 29, 30, 31, 32, 33, 34, 35, 36, 37, 38, 39, 40, 41, 42, 43, 44, 45, 46, 47, 48, 49, 50, 51, 52, 53, 54, 55, 56, 57, 58, 59, 60, 61, 62, 63, 64, 65] rfl (by decide +kernel)
set_option maxRecDepth 20000 in
theorem gX10_becomeDue_X10_set : GoodIn wsX10_becomeDue (wsV RX10 273 RX10 yX10_set wsX10_set) := goodIn_app (goodIn_r _ [23, 24, 25, 5] rfl (by decide +kernel)) ggX10_becomeDue_X10_set
set_option maxRecDepth 20000 in
theorem ggX10_cancel_X10_isOpenOrDue : GoodIn wsX10_cancel wsX10_isOpenOrDue := goodIn_r _ [13, 14, 15, 16, 4, 17, 6, 43, 44, 45, 46, 47, 48, 49, 50, 51, 52, 53, 54, 55, 56, 57, 58, 59, 60, 61, 62, 63, 64, 65, 66, 67, 68, 69, 70, 71, 72, 73, 74, 75, 76, 77, 78, 79, 80, 81] rfl (by decide +kernel)
set_option maxRecDepth 20000 in
theorem gX10_cancel_X10_isOpenOrDue : GoodIn wsX10_cancel (wsV RX10 398 RX10 yX10_isOpenOrDue wsX10_isOpenOrDue) := goodIn_app (goodIn_r _ [10, 11, 12, 4] rfl (by decide +kernel)) ggX10_cancel_X10_isOpenOrDue
set_option maxRecDepth 20000 in
theorem ggX10_cancel_X10_remainingOf : GoodIn wsX10_cancel wsX10_remainingOf := goodIn_r _ [34, 35, 36, 37, 4, 38, 14, 15, 16, 17, 6, 43, 44, 45, 46, 47, 48, 49, 50, 51, 52, 53, 54, 55, 56, 57, 58, 59, 60, 61, 62, 63, 64, 65, 66, 67, 68, 69, 70, 71, 72, 73, 74, 75, 76, 77, 78, 79, 80, 81] rfl (by decide +kernel)
set_option maxRecDepth 20000 in
theorem gX10_cancel_X10_remainingOf : GoodIn wsX10_cancel (wsV RX10 277 RX10 yX10_remainingOf wsX10_remainingOf) := goodIn_app (goodIn_r _ [31, 32, 33, 4] rfl (by decide +kernel)) ggX10_cancel_X10_remainingOf
set_option maxRecDepth 20000 in
theorem ggX10_cancel_X10_remember : GoodIn wsX10_cancel wsX10_remember := goodIn_r _ [26, 27, 28, 29, 6, 30, 43, 44, 45, 46, 47, 48, 49, 50, 51, 52, 53, 54, 55, 56, 57, 58, 59, 60, 61, 62, 63, 64, 65, 66, 67, 68, 69, 70, 71, 72, 73, 74, 75, 76, 77, 78, 79, 80, 81] rfl (by decide +kernel)
set_option maxRecDepth 20000 in
theorem gX10_cancel_X10_remember : GoodIn wsX10_cancel (wsV RX10 395 RX10 yX10_remember wsX10_remember) := goodIn_app (goodIn_r _ [23, 24, 25, 4] rfl (by decide +kernel)) ggX10_cancel_X10_remember
set_option maxRecDepth 20000 in
theorem ggX10_cancel_X10_set : GoodIn wsX10_cancel wsX10_set := goodIn_r _ [42, 6, 43, 44, 45, 46, 47, 48, 49, 50, 51, 52, 53, 54, 55, 56, 57, 58, 59, 60, 61, 62, 63, 64, 65, 66, 67, 68, 69, 70, 71, 72, 73, 74, 75, 76, 77, 78, 79, 80, 81] rfl (by decide +kernel)
set_option maxRecDepth 20000 in
theorem gX10_cancel_X10_set : GoodIn wsX10_cancel (wsV RX10 273 RX10 yX10_set wsX10_set) := goodIn_app (goodIn_r _ [39, 40, 41, 4] rfl (by decide +kernel)) ggX10_cancel_X10_set
set_option maxRecDepth 20000 in
theorem ggX10_closeIfPaid_X10_remainingOf : GoodIn wsX10_closeIfPaid wsX10_remainingOf := goodIn_r _ [5, 6, 7, 8, 4, 9, 10, 11, 12, 13, 14, 19, 20, 21, 22, 23, 24, 25, 26, 27, 28, 29, 30, 31, 32, 33, 34, 35, 36, 37, 38, 39, 40, 41, 42, 43, 44, 45, 46, 47, 48, 49, 50, 51, 52, 53, 54, 55, 56, 57] rfl (by decide +kernel)
set_option maxRecDepth 20000 in
theorem gX10_closeIfPaid_X10_remainingOf : GoodIn wsX10_closeIfPaid (wsV RX10 277 RX10 yX10_remainingOf wsX10_remainingOf) := goodIn_app (goodIn_r _ [1, 2, 3, 4] rfl (by decide +kernel)) ggX10_closeIfPaid_X10_remainingOf
set_option maxRecDepth 20000 in
theorem ggX10_closeIfPaid_X10_set : GoodIn wsX10_closeIfPaid wsX10_set := goodIn_r _ [18, 14, 19, 20, 21, 22, 23, 24, 25, 26, 27, 28, 29, 30, 31, 32, 33, 34, 35, 36, 37, 38, 39, 40, 41, 42, 43, 44, 45, 46, 47, 48, 49, 50, 51, 52, 53, 54, 55, 56, 57] rfl (by decide +kernel)
set_option maxRecDepth 20000 in
theorem gX10_closeIfPaid_X10_set : GoodIn wsX10_closeIfPaid (wsV RX10 273 RX10 yX10_set wsX10_set) := goodIn_app (goodIn_r _ [15, 16, 17, 4] rfl (by decide +kernel)) ggX10_closeIfPaid_X10_set
set_option maxRecDepth 20000 in
theorem ggX10_dispute_X10_availableNow : GoodIn wsX10_dispute wsX10_availableNow := goodIn_r _ [46, 10, 18, 19, 20, 8, 21, 51, 52, 53, 54, 55, 56, 57, 58, 59, 60, 61, 62, 63, 64, 65, 66, 67, 68, 69, 70, 71, 72, 73, 74, 75, 76, 77, 78, 79, 80, 81, 82, 83, 84, 85, 86, 87, 88, 89] rfl (by decide +kernel)
set_option maxRecDepth 20000 in
theorem gX10_dispute_X10_availableNow : GoodIn wsX10_dispute (wsV RX10 298 RX10 yX10_availableNow wsX10_availableNow) := goodIn_app (goodIn_r _ [43, 44, 45, 8] rfl (by decide +kernel)) ggX10_dispute_X10_availableNow
set_option maxRecDepth 20000 in
theorem ggX10_dispute_X10_isOpenOrDue : GoodIn wsX10_dispute wsX10_isOpenOrDue := goodIn_r _ [17, 18, 19, 20, 8, 21, 10, 51, 52, 53, 54, 55, 56, 57, 58, 59, 60, 61, 62, 63, 64, 65, 66, 67, 68, 69, 70, 71, 72, 73, 74, 75, 76, 77, 78, 79, 80, 81, 82, 83, 84, 85, 86, 87, 88, 89] rfl (by decide +kernel)
set_option maxRecDepth 20000 in
theorem gX10_dispute_X10_isOpenOrDue : GoodIn wsX10_dispute (wsV RX10 398 RX10 yX10_isOpenOrDue wsX10_isOpenOrDue) := goodIn_app (goodIn_r _ [14, 15, 16, 8] rfl (by decide +kernel)) ggX10_dispute_X10_isOpenOrDue
set_option maxRecDepth 20000 in
theorem ggX10_dispute_X10_remainingOf : GoodIn wsX10_dispute wsX10_remainingOf := goodIn_r _ [38, 39, 40, 41, 8, 42, 18, 19, 20, 21, 10, 51, 52, 53, 54, 55, 56, 57, 58, 59, 60, 61, 62, 63, 64, 65, 66, 67, 68, 69, 70, 71, 72, 73, 74, 75, 76, 77, 78, 79, 80, 81, 82, 83, 84, 85, 86, 87, 88, 89] rfl (by decide +kernel)
set_option maxRecDepth 20000 in
theorem gX10_dispute_X10_remainingOf : GoodIn wsX10_dispute (wsV RX10 277 RX10 yX10_remainingOf wsX10_remainingOf) := goodIn_app (goodIn_r _ [35, 36, 37, 8] rfl (by decide +kernel)) ggX10_dispute_X10_remainingOf
set_option maxRecDepth 20000 in
theorem ggX10_dispute_X10_remember : GoodIn wsX10_dispute wsX10_remember := goodIn_r _ [30, 31, 32, 33, 10, 34, 51, 52, 53, 54, 55, 56, 57, 58, 59, 60, 61, 62, 63, 64, 65, 66, 67, 68, 69, 70, 71, 72, 73, 74, 75, 76, 77, 78, 79, 80, 81, 82, 83, 84, 85, 86, 87, 88, 89] rfl (by decide +kernel)
set_option maxRecDepth 20000 in
theorem gX10_dispute_X10_remember : GoodIn wsX10_dispute (wsV RX10 395 RX10 yX10_remember wsX10_remember) := goodIn_app (goodIn_r _ [27, 28, 29, 8] rfl (by decide +kernel)) ggX10_dispute_X10_remember
set_option maxRecDepth 20000 in
theorem ggX10_dispute_X10_set : GoodIn wsX10_dispute wsX10_set := goodIn_r _ [50, 10, 51, 52, 53, 54, 55, 56, 57, 58, 59, 60, 61, 62, 63, 64, 65, 66, 67, 68, 69, 70, 71, 72, 73, 74, 75, 76, 77, 78, 79, 80, 81, 82, 83, 84, 85, 86, 87, 88, 89] rfl (by decide +kernel)
set_option maxRecDepth 20000 in
theorem gX10_dispute_X10_set : GoodIn wsX10_dispute (wsV RX10 273 RX10 yX10_set wsX10_set) := goodIn_app (goodIn_r _ [47, 48, 49, 8] rfl (by decide +kernel)) ggX10_dispute_X10_set
set_option maxRecDepth 20000 in
theorem ggX10_makePayment_X10_enter : GoodIn wsX10_makePayment wsX10_enter := goodIn_r _ [18] rfl (by decide +kernel)
set_option maxRecDepth 20000 in
theorem gX10_makePayment_X10_enter : GoodIn wsX10_makePayment (va_wsS RX10 229 yX10_enter wsX10_enter) := goodIn_app (goodIn_r _ [16, 17, 5] rfl (by decide +kernel)) ggX10_makePayment_X10_enter
set_option maxRecDepth 20000 in
theorem ggX10_makePayment_X10_feeOf : GoodIn wsX10_makePayment wsX10_feeOf := goodIn_r _ [6, 1, 7, 19, 20, 21, 22, 23, 24, 25, 26, 27, 28, 29, 30, 31, 32, 33, 34, 35, 36, 37, 38, 39, 40, 41, 42, 43, 44, 45, 46, 47, 48, 49, 50, 51, 52, 53, 54, 55, 56, 57] rfl (by decide +kernel)
set_option maxRecDepth 20000 in
theorem gX10_makePayment_X10_feeOf : GoodIn wsX10_makePayment (wsV RX10 270 RX10 yX10_feeOf wsX10_feeOf) := goodIn_app (goodIn_r _ [2, 3, 4, 5] rfl (by decide +kernel)) ggX10_makePayment_X10_feeOf
set_option maxRecDepth 20000 in
theorem ggX10_makePayment_X10_of : GoodIn wsX10_makePayment wsX10_of := goodIn_r _ [11, 1, 19, 20, 21, 22, 23, 24, 25, 26, 27, 28, 29, 30, 31, 32, 33, 34, 35, 36, 37, 38, 39, 40, 41, 42, 43, 44, 45, 46, 47, 48, 49, 50, 51, 52, 53, 54, 55, 56, 57] rfl (by decide +kernel)
set_option maxRecDepth 20000 in
theorem gX10_makePayment_X10_of : GoodIn wsX10_makePayment (wsV RX10 261 RX10 yX10_of wsX10_of) := goodIn_app (goodIn_r _ [8, 9, 10, 5] rfl (by decide +kernel)) ggX10_makePayment_X10_of
set_option maxRecDepth 20000 in
theorem ggX10_makePayment_X10_set : GoodIn wsX10_makePayment wsX10_set := goodIn_r _ [15, 1, 19, 20, 21, 22, 23, 24, 25, 26, 27, 28, 29, 30, 31, 32, 33, 34, 35, 36, 37, 38, 39, 40, 41, 42, 43, 44, 45, 46, 47, 48, 49, 50, 51, 52, 53, 54, 55, 56, 57] rfl (by decide +kernel)
set_option maxRecDepth 20000 in
theorem gX10_makePayment_X10_set : GoodIn wsX10_makePayment (wsV RX10 273 RX10 yX10_set wsX10_set) := goodIn_app (goodIn_r _ [12, 13, 14, 5] rfl (by decide +kernel)) ggX10_makePayment_X10_set
set_option maxRecDepth 20000 in
theorem ggX10_payDue_X10_availableNow : GoodIn wsX10_payDue wsX10_availableNow := goodIn_r _ [31, 11, 12, 13, 14, 9, 15, 56, 57, 58, 59, 60, 61, 62, 63, 64, 65, 66, 67, 68, 69, 70, 71, 72, 73, 74, 75, 76, 77, 78, 79, 80, 81, 82, 83, 84, 85, 86, 87, 88, 89, 90, 91, 92, 93, 94] rfl (by decide +kernel)
set_option maxRecDepth 20000 in
theorem gX10_payDue_X10_availableNow : GoodIn wsX10_payDue (wsV RX10 298 RX10 yX10_availableNow wsX10_availableNow) := goodIn_app (goodIn_r _ [28, 29, 30, 9] rfl (by decide +kernel)) ggX10_payDue_X10_availableNow
set_option maxRecDepth 20000 in
theorem ggX10_payDue_X10_closeIfPaid : GoodIn wsX10_payDue wsX10_closeIfPaid := goodIn_r _ [55, 20, 21, 22, 9, 23, 24, 25, 26, 27, 12, 13, 14, 15, 11, 45, 46, 47, 48, 56, 57, 58, 59, 60, 61, 62, 63, 64, 65, 66, 67, 68, 69, 70, 71, 72, 73, 74, 75, 76, 77, 78, 79, 80, 81, 82, 83, 84, 85, 86, 87, 88, 89, 90, 91, 92, 93, 94] rfl (by decide +kernel)
set_option maxRecDepth 20000 in
theorem gX10_payDue_X10_closeIfPaid : GoodIn wsX10_payDue (wsV RX10 312 RX10 yX10_closeIfPaid wsX10_closeIfPaid) := goodIn_app (goodIn_r _ [52, 53, 54, 9] rfl (by decide +kernel)) ggX10_payDue_X10_closeIfPaid
set_option maxRecDepth 20000 in
theorem ggX10_payDue_X10_isRipe : GoodIn wsX10_payDue wsX10_isRipe := goodIn_r _ [35, 11, 12, 13, 14, 9, 15, 56, 57, 58, 59, 60, 61, 62, 63, 64, 65, 66, 67, 68, 69, 70, 71, 72, 73, 74, 75, 76, 77, 78, 79, 80, 81, 82, 83, 84, 85, 86, 87, 88, 89, 90, 91, 92, 93, 94] rfl (by decide +kernel)
set_option maxRecDepth 20000 in
theorem gX10_payDue_X10_isRipe : GoodIn wsX10_payDue (wsV RX10 306 RX10 yX10_isRipe wsX10_isRipe) := goodIn_app (goodIn_r _ [32, 33, 34, 9] rfl (by decide +kernel)) ggX10_payDue_X10_isRipe
set_option maxRecDepth 20000 in
theorem ggX10_payDue_X10_makePayment : GoodIn wsX10_payDue wsX10_makePayment := goodIn_r _ [39, 11, 40, 41, 42, 9, 43, 44, 12, 13, 14, 15, 45, 46, 47, 48, 49, 50, 51, 56, 57, 58, 59, 60, 61, 62, 63, 64, 65, 66, 67, 68, 69, 70, 71, 72, 73, 74, 75, 76, 77, 78, 79, 80, 81, 82, 83, 84, 85, 86, 87, 88, 89, 90, 91, 92, 93, 94] rfl (by decide +kernel)
set_option maxRecDepth 20000 in
theorem gX10_payDue_X10_makePayment : GoodIn wsX10_payDue (wsV RX10 309 RX10 yX10_makePayment wsX10_makePayment) := goodIn_app (goodIn_r _ [36, 37, 38, 9] rfl (by decide +kernel)) ggX10_payDue_X10_makePayment
set_option maxRecDepth 20000 in
theorem ggX10_payDue_X10_remainingOf : GoodIn wsX10_payDue wsX10_remainingOf := goodIn_r _ [23, 24, 25, 26, 9, 27, 12, 13, 14, 15, 11, 56, 57, 58, 59, 60, 61, 62, 63, 64, 65, 66, 67, 68, 69, 70, 71, 72, 73, 74, 75, 76, 77, 78, 79, 80, 81, 82, 83, 84, 85, 86, 87, 88, 89, 90, 91, 92, 93, 94] rfl (by decide +kernel)
set_option maxRecDepth 20000 in
theorem gX10_payDue_X10_remainingOf : GoodIn wsX10_payDue (wsV RX10 277 RX10 yX10_remainingOf wsX10_remainingOf) := goodIn_app (goodIn_r _ [20, 21, 22, 9] rfl (by decide +kernel)) ggX10_payDue_X10_remainingOf
set_option maxRecDepth 20000 in
theorem ggX10_payInterest_X10_enter : GoodIn wsX10_payInterest wsX10_enter := goodIn_r _ [21] rfl (by decide +kernel)
set_option maxRecDepth 20000 in
theorem gX10_payInterest_X10_enter : GoodIn wsX10_payInterest (va_wsS RX10 229 yX10_enter wsX10_enter) := goodIn_app (goodIn_r _ [19, 20, 4] rfl (by decide +kernel)) ggX10_payInterest_X10_enter
set_option maxRecDepth 20000 in
theorem ggX10_payInterest_X10_remember : GoodIn wsX10_payInterest wsX10_remember := goodIn_r _ [14, 15, 16, 17, 1, 18, 22, 23, 24, 25, 26, 27, 28, 29, 30, 31, 32, 33, 34, 35, 36, 37, 38, 39, 40, 41, 42, 43, 44, 45, 46, 47, 48, 49, 50, 51, 52, 53, 54, 55, 56, 57, 58, 59, 60] rfl (by decide +kernel)
set_option maxRecDepth 20000 in
theorem gX10_payInterest_X10_remember : GoodIn wsX10_payInterest (wsV RX10 395 RX10 yX10_remember wsX10_remember) := goodIn_app (goodIn_r _ [11, 12, 13, 4] rfl (by decide +kernel)) ggX10_payInterest_X10_remember
set_option maxRecDepth 20000 in
theorem ggX10_submit_X10_remember : GoodIn wsX10_submit wsX10_remember := goodIn_r _ [18, 19, 20, 21, 1, 22, 23, 24, 25, 26, 27, 28, 29, 30, 31, 32, 33, 34, 35, 36, 37, 38, 39, 40, 41, 42, 43, 44, 45, 46, 47, 48, 49, 50, 51, 52, 53, 54, 55, 56, 57, 58, 59, 60, 61] rfl (by decide +kernel)
set_option maxRecDepth 20000 in
theorem gX10_submit_X10_remember : GoodIn wsX10_submit (wsV RX10 395 RX10 yX10_remember wsX10_remember) := goodIn_app (goodIn_r _ [15, 16, 17, 5] rfl (by decide +kernel)) ggX10_submit_X10_remember
set_option maxRecDepth 20000 in
theorem ggX10_withdraw_X10_availableNow : GoodIn wsX10_withdraw wsX10_availableNow := goodIn_r _ [34, 6, 10, 11, 12, 4, 13, 35, 36, 37, 38, 39, 40, 41, 42, 43, 44, 45, 46, 47, 48, 49, 50, 51, 52, 53, 54, 55, 56, 57, 58, 59, 60, 61, 62, 63, 64, 65, 66, 67, 68, 69, 70, 71, 72, 73] rfl (by decide +kernel)
set_option maxRecDepth 20000 in
theorem gX10_withdraw_X10_availableNow : GoodIn wsX10_withdraw (wsV RX10 298 RX10 yX10_availableNow wsX10_availableNow) := goodIn_app (goodIn_r _ [31, 32, 33, 4] rfl (by decide +kernel)) ggX10_withdraw_X10_availableNow
set_option maxRecDepth 20000 in
theorem ggX10_withdraw_X10_of : GoodIn wsX10_withdraw wsX10_of := goodIn_r _ [13, 6, 35, 36, 37, 38, 39, 40, 41, 42, 43, 44, 45, 46, 47, 48, 49, 50, 51, 52, 53, 54, 55, 56, 57, 58, 59, 60, 61, 62, 63, 64, 65, 66, 67, 68, 69, 70, 71, 72, 73] rfl (by decide +kernel)
set_option maxRecDepth 20000 in
theorem gX10_withdraw_X10_of : GoodIn wsX10_withdraw (wsV RX10 261 RX10 yX10_of wsX10_of) := goodIn_app (goodIn_r _ [10, 11, 12, 4] rfl (by decide +kernel)) ggX10_withdraw_X10_of
set_option maxRecDepth 20000 in
theorem ggX10_withdraw_X10_remember : GoodIn wsX10_withdraw wsX10_remember := goodIn_r _ [22, 23, 24, 25, 6, 26, 35, 36, 37, 38, 39, 40, 41, 42, 43, 44, 45, 46, 47, 48, 49, 50, 51, 52, 53, 54, 55, 56, 57, 58, 59, 60, 61, 62, 63, 64, 65, 66, 67, 68, 69, 70, 71, 72, 73] rfl (by decide +kernel)
set_option maxRecDepth 20000 in
theorem gX10_withdraw_X10_remember : GoodIn wsX10_withdraw (wsV RX10 395 RX10 yX10_remember wsX10_remember) := goodIn_app (goodIn_r _ [19, 20, 21, 4] rfl (by decide +kernel)) ggX10_withdraw_X10_remember
set_option maxRecDepth 20000 in
theorem ggX10_withdraw_X10_set : GoodIn wsX10_withdraw wsX10_set := goodIn_r _ [30, 6, 35, 36, 37, 38, 39, 40, 41, 42, 43, 44, 45, 46, 47, 48, 49, 50, 51, 52, 53, 54, 55, 56, 57, 58, 59, 60, 61, 62, 63, 64, 65, 66, 67, 68, 69, 70, 71, 72, 73] rfl (by decide +kernel)
set_option maxRecDepth 20000 in
theorem gX10_withdraw_X10_set : GoodIn wsX10_withdraw (wsV RX10 273 RX10 yX10_set wsX10_set) := goodIn_app (goodIn_r _ [27, 28, 29, 4] rfl (by decide +kernel)) ggX10_withdraw_X10_set
theorem dX10_closeIfPaid_0 : decode cX10_closeIfPaid 0 = .ok (.aload_n 0, 1) := by decide +kernel
theorem dX10_closeIfPaid_1 : decode cX10_closeIfPaid 1 = .ok (.iload_n 1, 1) := by decide +kernel
theorem dX10_closeIfPaid_2 : decode cX10_closeIfPaid 2 = .ok (.invokevirtual 277, 3) := by decide +kernel
theorem dX10_closeIfPaid_5 : decode cX10_closeIfPaid 5 = .ok (.ifCond .ne 10, 3) := by decide +kernel
theorem dX10_closeIfPaid_8 : decode cX10_closeIfPaid 8 = .ok (.aload_n 0, 1) := by decide +kernel
theorem dX10_closeIfPaid_9 : decode cX10_closeIfPaid 9 = .ok (.iload_n 1, 1) := by decide +kernel
theorem dX10_closeIfPaid_10 : decode cX10_closeIfPaid 10 = .ok (.iconst 2, 1) := by decide +kernel
theorem dX10_closeIfPaid_11 : decode cX10_closeIfPaid 11 = .ok (.iconst 3, 1) := by decide +kernel
theorem dX10_closeIfPaid_12 : decode cX10_closeIfPaid 12 = .ok (.invokevirtual 273, 3) := by decide +kernel
theorem dX10_closeIfPaid_15 : decode cX10_closeIfPaid 15 = .ok (.return_, 1) := by decide +kernel
theorem dX10_makePayment_0 : decode cX10_makePayment 0 = .ok (.aload_n 0, 1) := by decide +kernel
theorem dX10_makePayment_1 : decode cX10_makePayment 1 = .ok (.iload_n 2, 1) := by decide +kernel
theorem dX10_makePayment_2 : decode cX10_makePayment 2 = .ok (.invokevirtual 270, 3) := by decide +kernel
theorem dX10_makePayment_5 : decode cX10_makePayment 5 = .ok (.istore_n 3, 1) := by decide +kernel
theorem dX10_makePayment_6 : decode cX10_makePayment 6 = .ok (.aload_n 0, 1) := by decide +kernel
theorem dX10_makePayment_7 : decode cX10_makePayment 7 = .ok (.getfield 7, 3) := by decide +kernel
theorem dX10_makePayment_10 : decode cX10_makePayment 10 = .ok (.bipush 6, 2) := by decide +kernel
theorem dX10_makePayment_12 : decode cX10_makePayment 12 = .ok (.dup2, 1) := by decide +kernel
theorem dX10_makePayment_13 : decode cX10_makePayment 13 = .ok (.iaload, 1) := by decide +kernel
theorem dX10_makePayment_14 : decode cX10_makePayment 14 = .ok (.iload_n 2, 1) := by decide +kernel
theorem dX10_makePayment_15 : decode cX10_makePayment 15 = .ok (.isub, 1) := by decide +kernel
theorem dX10_makePayment_16 : decode cX10_makePayment 16 = .ok (.iastore, 1) := by decide +kernel
theorem dX10_makePayment_17 : decode cX10_makePayment 17 = .ok (.aload_n 0, 1) := by decide +kernel
theorem dX10_makePayment_18 : decode cX10_makePayment 18 = .ok (.getfield 7, 3) := by decide +kernel
theorem dX10_makePayment_21 : decode cX10_makePayment 21 = .ok (.bipush 10, 2) := by decide +kernel
theorem dX10_makePayment_23 : decode cX10_makePayment 23 = .ok (.dup2, 1) := by decide +kernel
theorem dX10_makePayment_24 : decode cX10_makePayment 24 = .ok (.iaload, 1) := by decide +kernel
theorem dX10_makePayment_25 : decode cX10_makePayment 25 = .ok (.iload_n 2, 1) := by decide +kernel
theorem dX10_makePayment_26 : decode cX10_makePayment 26 = .ok (.iadd, 1) := by decide +kernel
theorem dX10_makePayment_27 : decode cX10_makePayment 27 = .ok (.iastore, 1) := by decide +kernel
theorem dX10_makePayment_28 : decode cX10_makePayment 28 = .ok (.aload_n 0, 1) := by decide +kernel
theorem dX10_makePayment_29 : decode cX10_makePayment 29 = .ok (.getfield 7, 3) := by decide +kernel
theorem dX10_makePayment_32 : decode cX10_makePayment 32 = .ok (.bipush 9, 2) := by decide +kernel
theorem dX10_makePayment_34 : decode cX10_makePayment 34 = .ok (.dup2, 1) := by decide +kernel
theorem dX10_makePayment_35 : decode cX10_makePayment 35 = .ok (.iaload, 1) := by decide +kernel
theorem dX10_makePayment_36 : decode cX10_makePayment 36 = .ok (.iload_n 3, 1) := by decide +kernel
theorem dX10_makePayment_37 : decode cX10_makePayment 37 = .ok (.iadd, 1) := by decide +kernel
theorem dX10_makePayment_38 : decode cX10_makePayment 38 = .ok (.iastore, 1) := by decide +kernel
theorem dX10_makePayment_39 : decode cX10_makePayment 39 = .ok (.aload_n 0, 1) := by decide +kernel
theorem dX10_makePayment_40 : decode cX10_makePayment 40 = .ok (.iload_n 1, 1) := by decide +kernel
theorem dX10_makePayment_41 : decode cX10_makePayment 41 = .ok (.iconst 1, 1) := by decide +kernel
theorem dX10_makePayment_42 : decode cX10_makePayment 42 = .ok (.aload_n 0, 1) := by decide +kernel
theorem dX10_makePayment_43 : decode cX10_makePayment 43 = .ok (.iload_n 1, 1) := by decide +kernel
theorem dX10_makePayment_44 : decode cX10_makePayment 44 = .ok (.iconst 1, 1) := by decide +kernel
theorem dX10_makePayment_45 : decode cX10_makePayment 45 = .ok (.invokevirtual 261, 3) := by decide +kernel
theorem dX10_makePayment_48 : decode cX10_makePayment 48 = .ok (.iload_n 2, 1) := by decide +kernel
theorem dX10_makePayment_49 : decode cX10_makePayment 49 = .ok (.iadd, 1) := by decide +kernel
theorem dX10_makePayment_50 : decode cX10_makePayment 50 = .ok (.invokevirtual 273, 3) := by decide +kernel
theorem dX10_makePayment_53 : decode cX10_makePayment 53 = .ok (.aload_n 0, 1) := by decide +kernel
theorem dX10_makePayment_54 : decode cX10_makePayment 54 = .ok (.getfield 7, 3) := by decide +kernel
theorem dX10_makePayment_57 : decode cX10_makePayment 57 = .ok (.iconst 1, 1) := by decide +kernel
theorem dX10_makePayment_58 : decode cX10_makePayment 58 = .ok (.iload_n 2, 1) := by decide +kernel
theorem dX10_makePayment_59 : decode cX10_makePayment 59 = .ok (.iload_n 1, 1) := by decide +kernel
theorem dX10_makePayment_60 : decode cX10_makePayment 60 = .ok (.invokestatic 229, 3) := by decide +kernel
theorem dX10_makePayment_63 : decode cX10_makePayment 63 = .ok (.iload_n 3, 1) := by decide +kernel
theorem dX10_makePayment_64 : decode cX10_makePayment 64 = .ok (.ireturn, 1) := by decide +kernel
