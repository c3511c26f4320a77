set_option maxRecDepth 20000 in
theorem ggX10_areAllClosed_X10_isClosed : GoodIn wsX10_areAllClosed wsX10_isClosed := goodIn_r _ [6, 7, 8, 9, 5, 10, 1, 11, 12, 13, 14, 15, 16, 17, 18, 19, 20, 21, 22, 23, 24, 25, 26, 27, 28, 29, 30, 31, 32, 33, 34, 35, 36, 37, 38, 39, 40, 41, 42, 43, 44, 45, 46, 47, 48, 49] rfl (by decide +kernel)
set_option maxRecDepth 20000 in
theorem gX10_areAllClosed_X10_isClosed : GoodIn wsX10_areAllClosed (wsV RX10 265 RX10 yX10_isClosed wsX10_isClosed) := goodIn_app (goodIn_r _ [2, 3, 4, 5] rfl (by decide +kernel)) ggX10_areAllClosed_X10_isClosed
set_option maxRecDepth 20000 in
theorem ggX10_busiestDay_X10_ofEntry : GoodIn wsX10_busiestDay wsX10_ofEntry := goodIn_r _ [7, 2, 12, 13, 14, 15, 16, 17, 18, 19, 20, 21, 22, 23, 24, 25, 26, 27, 28, 29, 30, 31, 32, 33, 34, 35, 36, 37, 38, 39, 40, 41, 42, 43, 44, 45, 46, 47, 48, 49, 50] rfl (by decide +kernel)
set_option maxRecDepth 20000 in
theorem gX10_busiestDay_X10_ofEntry : GoodIn wsX10_busiestDay (wsV RX10 448 RX10 yX10_ofEntry wsX10_ofEntry) := goodIn_app (goodIn_r _ [3, 4, 5, 6] rfl (by decide +kernel)) ggX10_busiestDay_X10_ofEntry
set_option maxRecDepth 20000 in
theorem ggX10_busiestDay_X10_sumOn : GoodIn wsX10_busiestDay wsX10_sumOn := goodIn_r _ [11, 2, 3, 4, 5, 6, 7, 12, 13, 14, 15, 16, 17, 18, 19, 20, 21, 22, 23, 24, 25, 26, 27, 28, 29, 30, 31, 32, 33, 34, 35, 36, 37, 38, 39, 40, 41, 42, 43, 44, 45, 46, 47, 48, 49, 50] rfl (by decide +kernel)
set_option maxRecDepth 20000 in
theorem gX10_busiestDay_X10_sumOn : GoodIn wsX10_busiestDay (wsV RX10 453 RX10 yX10_sumOn wsX10_sumOn) := goodIn_app (goodIn_r _ [8, 9, 10, 6] rfl (by decide +kernel)) ggX10_busiestDay_X10_sumOn
set_option maxRecDepth 20000 in
theorem ggX10_closedCount_X10_isClosed : GoodIn wsX10_closedCount wsX10_isClosed := goodIn_r _ [7, 8, 9, 10, 6, 11, 2, 12, 13, 14, 15, 16, 17, 18, 19, 20, 21, 22, 23, 24, 25, 26, 27, 28, 29, 30, 31, 32, 33, 34, 35, 36, 37, 38, 39, 40, 41, 42, 43, 44, 45, 46, 47, 48, 49, 50] rfl (by decide +kernel)
set_option maxRecDepth 20000 in
theorem gX10_closedCount_X10_isClosed : GoodIn wsX10_closedCount (wsV RX10 265 RX10 yX10_isClosed wsX10_isClosed) := goodIn_app (goodIn_r _ [3, 4, 5, 6] rfl (by decide +kernel)) ggX10_closedCount_X10_isClosed
set_option maxRecDepth 20000 in
theorem ggX10_dayByClock_X10_doneSet : GoodIn wsX10_dayByClock wsX10_doneSet := goodIn_r _ [18, 1, 19, 20, 21, 5, 22, 35, 36, 37, 38, 39, 40, 41, 42, 43, 44, 45, 46, 47, 48, 49, 50, 51, 52, 53, 54, 55, 56, 57, 58, 59, 60, 61, 62, 63, 64, 65, 66, 67, 68, 69, 70, 71, 72, 73] rfl (by decide +kernel)
set_option maxRecDepth 20000 in
theorem gX10_dayByClock_X10_doneSet : GoodIn wsX10_dayByClock (wsV RX10 284 RX10 yX10_doneSet wsX10_doneSet) := goodIn_app (goodIn_r _ [15, 16, 17, 5] rfl (by decide +kernel)) ggX10_dayByClock_X10_doneSet
set_option maxRecDepth 20000 in
theorem ggX10_dayByClock_X10_holdsBy : GoodIn wsX10_dayByClock wsX10_holdsBy := goodIn_r _ [26, 27, 28, 29, 30, 31, 32, 33, 5, 34, 1, 19, 20, 21, 22, 35, 36, 37, 38, 39, 40, 41, 42, 43, 44, 45, 46, 47, 48, 49, 50, 51, 52, 53, 54, 55, 56, 57, 58, 59, 60, 61, 62, 63, 64, 65, 66, 67, 68, 69, 70, 71, 72, 73] rfl (by decide +kernel)
set_option maxRecDepth 20000 in
theorem gX10_dayByClock_X10_holdsBy : GoodIn wsX10_dayByClock (wsV RX10 288 RX10 yX10_holdsBy wsX10_holdsBy) := goodIn_app (goodIn_r _ [23, 24, 25, 5] rfl (by decide +kernel)) ggX10_dayByClock_X10_holdsBy
set_option maxRecDepth 20000 in
theorem ggX10_daysUntilClosed_X10_beginTrial : GoodIn wsX10_daysUntilClosed wsX10_beginTrial := goodIn_r _ [18, 6, 19, 20, 21, 22, 23, 4, 24, 114, 115, 116, 117, 118, 119, 120, 121, 122, 123, 124, 125, 126, 127, 128, 129, 130, 131, 132, 133, 134, 135, 136, 137, 138, 139, 140, 141, 142, 143, 144, 145, 146, 147, 148, 149, 150, 151, 152] rfl (by decide +kernel)
set_option maxRecDepth 20000 in
theorem gX10_daysUntilClosed_X10_beginTrial : GoodIn wsX10_daysUntilClosed (wsV RX10 366 RX10 yX10_beginTrial wsX10_beginTrial) := goodIn_app (goodIn_r _ [15, 16, 17, 4] rfl (by decide +kernel)) ggX10_daysUntilClosed_X10_beginTrial
set_option maxRecDepth 20000 in
theorem ggX10_daysUntilClosed_X10_endTrial : GoodIn wsX10_daysUntilClosed wsX10_endTrial := goodIn_r _ [113, 19, 6, 21, 20, 22, 23, 4, 24, 114, 115, 116, 117, 118, 119, 120, 121, 122, 123, 124, 125, 126, 127, 128, 129, 130, 131, 132, 133, 134, 135, 136, 137, 138, 139, 140, 141, 142, 143, 144, 145, 146, 147, 148, 149, 150, 151, 152] rfl (by decide +kernel)
set_option maxRecDepth 20000 in
theorem gX10_daysUntilClosed_X10_endTrial : GoodIn wsX10_daysUntilClosed (wsV RX10 372 RX10 yX10_endTrial wsX10_endTrial) := goodIn_app (goodIn_r _ [110, 111, 112, 4] rfl (by decide +kernel)) ggX10_daysUntilClosed_X10_endTrial
set_option maxRecDepth 20000 in
theorem ggX10_daysUntilClosed_X10_isClosed : GoodIn wsX10_daysUntilClosed wsX10_isClosed := goodIn_r _ [28, 29, 30, 31, 4, 32, 6, 114, 115, 116, 117, 118, 119, 120, 121, 122, 123, 124, 125, 126, 127, 128, 129, 130, 131, 132, 133, 134, 135, 136, 137, 138, 139, 140, 141, 142, 143, 144, 145, 146, 147, 148, 149, 150, 151, 152] rfl (by decide +kernel)
set_option maxRecDepth 20000 in
theorem gX10_daysUntilClosed_X10_isClosed : GoodIn wsX10_daysUntilClosed (wsV RX10 265 RX10 yX10_isClosed wsX10_isClosed) := goodIn_app (goodIn_r _ [25, 26, 27, 4] rfl (by decide +kernel)) ggX10_daysUntilClosed_X10_isClosed
set_option maxRecDepth 20000 in
theorem ggX10_daysUntilClosed_X10_passDay : GoodIn wsX10_daysUntilClosed wsX10_passDay := goodIn_r _ [36, 20, 6, 37, 38, 39, 4, 40, 41, 42, 43, 44, 45, 46, 47, 48, 49, 50, 51, 52, 29, 30, 31, 32, 53, 54, 55, 56, 57, 58, 59, 60, 61, 62, 63, 64, 65, 66, 67, 68, 69, 70, 71, 72, 73, 74, 75, 76, 77, 78, 79, 80, 81, 82, 83, 84, 85, 86, 87, 88, 89, 25, 26, 27, 28, 90, 91, 92, 93, 94, 95, 96, 97, 98, 99, 100, 101, 102, 103, 104, 105, 106, 107, 108, 109, 114, 115, 116, 117, 118, 119, 120, 121, 122, 123, 124, 125, 126, 127, 128, 129, 130, 131, 132, 133, 134, 135, 136, 137, 138, 139, 140, 141, 142, 143, 144, 145, 146, 147, 148, 149, 150, 151, 152] rfl (by decide +kernel)
set_option maxRecDepth 20000 in
theorem gX10_daysUntilClosed_X10_passDay : GoodIn wsX10_daysUntilClosed (wsV RX10 324 RX10 yX10_passDay wsX10_passDay) := goodIn_app (goodIn_r _ [33, 34, 35, 4] rfl (by decide +kernel)) ggX10_daysUntilClosed_X10_passDay
set_option maxRecDepth 20000 in
theorem ggX10_dueDay_X10_of : GoodIn wsX10_dueDay wsX10_of := goodIn_r _ [18, 6, 19, 20, 21, 22, 23, 24, 25, 26, 27, 28, 29, 30, 31, 32, 33, 34, 35, 36, 37, 38, 39, 40, 41, 42, 43, 44, 45, 46, 47, 48, 49, 50, 51, 52, 53, 54, 55, 56, 57] rfl (by decide +kernel)
set_option maxRecDepth 20000 in
theorem gX10_dueDay_X10_of : GoodIn wsX10_dueDay (wsV RX10 261 RX10 yX10_of wsX10_of) := goodIn_app (goodIn_r _ [15, 16, 17, 4] rfl (by decide +kernel)) ggX10_dueDay_X10_of
set_option maxRecDepth 20000 in
theorem ggX10_entry_X10_ofEntry : GoodIn wsX10_entry wsX10_ofEntry := goodIn_r _ [15, 1, 16, 17, 18, 19, 20, 21, 22, 23, 24, 25, 26, 27, 28, 29, 30, 31, 32, 33, 34, 35, 36, 37, 38, 39, 40, 41, 42, 43, 44, 45, 46, 47, 48, 49, 50, 51, 52, 53, 54] rfl (by decide +kernel)
set_option maxRecDepth 20000 in
theorem gX10_entry_X10_ofEntry : GoodIn wsX10_entry (wsV RX10 448 RX10 yX10_ofEntry wsX10_ofEntry) := goodIn_app (goodIn_r _ [12, 13, 14, 5] rfl (by decide +kernel)) ggX10_entry_X10_ofEntry
set_option maxRecDepth 20000 in
theorem ggX10_frozen_X10_of : GoodIn wsX10_frozen wsX10_of := goodIn_r _ [18, 6, 19, 20, 21, 22, 23, 24, 25, 26, 27, 28, 29, 30, 31, 32, 33, 34, 35, 36, 37, 38, 39, 40, 41, 42, 43, 44, 45, 46, 47, 48, 49, 50, 51, 52, 53, 54, 55, 56, 57] rfl (by decide +kernel)
set_option maxRecDepth 20000 in
theorem gX10_frozen_X10_of : GoodIn wsX10_frozen (wsV RX10 261 RX10 yX10_of wsX10_of) := goodIn_app (goodIn_r _ [15, 16, 17, 4] rfl (by decide +kernel)) ggX10_frozen_X10_of
set_option maxRecDepth 20000 in
theorem ggX10_graceLeft_X10_of : GoodIn wsX10_graceLeft wsX10_of := goodIn_r _ [22, 1, 23, 24, 25, 26, 27, 28, 29, 30, 31, 32, 33, 34, 35, 36, 37, 38, 39, 40, 41, 42, 43, 44, 45, 46, 47, 48, 49, 50, 51, 52, 53, 54, 55, 56, 57, 58, 59, 60, 61] rfl (by decide +kernel)
set_option maxRecDepth 20000 in
theorem gX10_graceLeft_X10_of : GoodIn wsX10_graceLeft (wsV RX10 261 RX10 yX10_of wsX10_of) := goodIn_app (goodIn_r _ [19, 20, 21, 9] rfl (by decide +kernel)) ggX10_graceLeft_X10_of
set_option maxRecDepth 20000 in
theorem ggX10_holds_X10_holdsNow : GoodIn wsX10_holds wsX10_holdsNow := goodIn_r _ [18, 6, 19, 20, 21, 4, 22, 23, 24, 25, 26, 27, 28, 29, 30, 31, 32, 33, 34, 35, 36, 37, 38, 39, 40, 41, 42, 43, 44, 45, 46, 47, 48, 49, 50, 51, 52, 53, 54, 55, 56, 57, 58, 59, 60, 61, 62, 63, 64, 65, 66, 67, 68, 69, 70, 71, 72, 73, 74, 75, 76, 77] rfl (by decide +kernel)
set_option maxRecDepth 20000 in
theorem gX10_holds_X10_holdsNow : GoodIn wsX10_holds (wsV RX10 337 RX10 yX10_holdsNow wsX10_holdsNow) := goodIn_app (goodIn_r _ [15, 16, 17, 4] rfl (by decide +kernel)) ggX10_holds_X10_holdsNow
set_option maxRecDepth 20000 in
theorem ggX10_isShort_X10_isRipe : GoodIn wsX10_isShort wsX10_isRipe := goodIn_r _ [6, 1, 7, 8, 9, 5, 10, 19, 20, 21, 22, 23, 24, 25, 26, 27, 28, 29, 30, 31, 32, 33, 34, 35, 36, 37, 38, 39, 40, 41, 42, 43, 44, 45, 46, 47, 48, 49, 50, 51, 52, 53, 54, 55, 56, 57] rfl (by decide +kernel)
set_option maxRecDepth 20000 in
theorem gX10_isShort_X10_isRipe : GoodIn wsX10_isShort (wsV RX10 306 RX10 yX10_isRipe wsX10_isRipe) := goodIn_app (goodIn_r _ [2, 3, 4, 5] rfl (by decide +kernel)) ggX10_isShort_X10_isRipe
set_option maxRecDepth 20000 in
theorem ggX10_isShort_X10_remainingOf : GoodIn wsX10_isShort wsX10_remainingOf := goodIn_r _ [14, 15, 16, 17, 5, 18, 7, 8, 9, 10, 1, 19, 20, 21, 22, 23, 24, 25, 26, 27, 28, 29, 30, 31, 32, 33, 34, 35, 36, 37, 38, 39, 40, 41, 42, 43, 44, 45, 46, 47, 48, 49, 50, 51, 52, 53, 54, 55, 56, 57] rfl (by decide +kernel)
set_option maxRecDepth 20000 in
theorem gX10_isShort_X10_remainingOf : GoodIn wsX10_isShort (wsV RX10 277 RX10 yX10_remainingOf wsX10_remainingOf) := goodIn_app (goodIn_r _ [11, 12, 13, 5] rfl (by decide +kernel)) ggX10_isShort_X10_remainingOf
set_option maxRecDepth 20000 in
theorem ggX10_paidAfter_X10_beginTrial : GoodIn wsX10_paidAfter wsX10_beginTrial := goodIn_r _ [22, 6, 23, 24, 25, 26, 27, 4, 28, 122, 123, 124, 125, 126, 127, 128, 129, 130, 131, 132, 133, 134, 135, 136, 137, 138, 139, 140, 141, 142, 143, 144, 145, 146, 147, 148, 149, 150, 151, 152, 153, 154, 155, 156, 157, 158, 159, 160] rfl (by decide +kernel)
set_option maxRecDepth 20000 in
theorem gX10_paidAfter_X10_beginTrial : GoodIn wsX10_paidAfter (wsV RX10 366 RX10 yX10_beginTrial wsX10_beginTrial) := goodIn_app (goodIn_r _ [19, 20, 21, 4] rfl (by decide +kernel)) ggX10_paidAfter_X10_beginTrial
set_option maxRecDepth 20000 in
theorem ggX10_paidAfter_X10_endTrial : GoodIn wsX10_paidAfter wsX10_endTrial := goodIn_r _ [121, 23, 6, 25, 24, 26, 27, 4, 28, 122, 123, 124, 125, 126, 127, 128, 129, 130, 131, 132, 133, 134, 135, 136, 137, 138, 139, 140, 141, 142, 143, 144, 145, 146, 147, 148, 149, 150, 151, 152, 153, 154, 155, 156, 157, 158, 159, 160] rfl (by decide +kernel)
set_option maxRecDepth 20000 in
theorem gX10_paidAfter_X10_endTrial : GoodIn wsX10_paidAfter (wsV RX10 372 RX10 yX10_endTrial wsX10_endTrial) := goodIn_app (goodIn_r _ [118, 119, 120, 4] rfl (by decide +kernel)) ggX10_paidAfter_X10_endTrial
set_option maxRecDepth 20000 in
theorem ggX10_paidAfter_X10_of : GoodIn wsX10_paidAfter wsX10_of := goodIn_r _ [56, 6, 122, 123, 124, 125, 126, 127, 128, 129, 130, 131, 132, 133, 134, 135, 136, 137, 138, 139, 140, 141, 142, 143, 144, 145, 146, 147, 148, 149, 150, 151, 152, 153, 154, 155, 156, 157, 158, 159, 160] rfl (by decide +kernel)
set_option maxRecDepth 20000 in
theorem gX10_paidAfter_X10_of : GoodIn wsX10_paidAfter (wsV RX10 261 RX10 yX10_of wsX10_of) := goodIn_app (goodIn_r _ [53, 54, 55, 4] rfl (by decide +kernel)) ggX10_paidAfter_X10_of
set_option maxRecDepth 20000 in
theorem ggX10_paidAfter_X10_passDays : GoodIn wsX10_paidAfter wsX10_passDays := goodIn_r _ [32, 33, 34, 35, 4, 36, 24, 6, 37, 38, 39, 40, 41, 42, 43, 44, 45, 46, 47, 48, 49, 50, 51, 52, 53, 54, 55, 56, 57, 58, 59, 60, 61, 62, 63, 64, 65, 66, 67, 68, 69, 70, 71, 72, 73, 74, 75, 76, 77, 78, 79, 80, 81, 82, 83, 84, 85, 86, 87, 88, 89, 90, 91, 92, 93, 94, 95, 96, 97, 98, 99, 100, 101, 102, 103, 104, 105, 106, 107, 108, 109, 110, 111, 112, 113, 114, 115, 116, 117, 122, 123, 124, 125, 126, 127, 128, 129, 130, 131, 132, 133, 134, 135, 136, 137, 138, 139, 140, 141, 142, 143, 144, 145, 146, 147, 148, 149, 150, 151, 152, 153, 154, 155, 156, 157, 158, 159, 160] rfl (by decide +kernel)
set_option maxRecDepth 20000 in
theorem gX10_paidAfter_X10_passDays : GoodIn wsX10_paidAfter (wsV RX10 369 RX10 yX10_passDays wsX10_passDays) := goodIn_app (goodIn_r _ [29, 30, 31, 4] rfl (by decide +kernel)) ggX10_paidAfter_X10_passDays
set_option maxRecDepth 20000 in
theorem ggX10_paid_X10_of : GoodIn wsX10_paid wsX10_of := goodIn_r _ [18, 6, 19, 20, 21, 22, 23, 24, 25, 26, 27, 28, 29, 30, 31, 32, 33, 34, 35, 36, 37, 38, 39, 40, 41, 42, 43, 44, 45, 46, 47, 48, 49, 50, 51, 52, 53, 54, 55, 56, 57] rfl (by decide +kernel)
set_option maxRecDepth 20000 in
theorem gX10_paid_X10_of : GoodIn wsX10_paid (wsV RX10 261 RX10 yX10_of wsX10_of) := goodIn_app (goodIn_r _ [15, 16, 17, 4] rfl (by decide +kernel)) ggX10_paid_X10_of
set_option maxRecDepth 20000 in
theorem ggX10_payDue_X10_availableNow : GoodIn wsX10_payDue wsX10_availableNow := goodIn_r _ [31, 11, 12, 13, 14, 9, 15, 56, 57, 58, 59, 60, 61, 62, 63, 64, 65, 66, 67, 68, 69, 70, 71, 72, 73, 74, 75, 76, 77, 78, 79, 80, 81, 82, 83, 84, 85, 86, 87, 88, 89, 90, 91, 92, 93, 94] rfl (by decide +kernel)
set_option maxRecDepth 20000 in
theorem gX10_payDue_X10_availableNow : GoodIn wsX10_payDue (wsV RX10 298 RX10 yX10_availableNow wsX10_availableNow) := goodIn_app (goodIn_r _ [28, 29, 30, 9] rfl (by decide +kernel)) ggX10_payDue_X10_availableNow
set_option maxRecDepth 20000 in
theorem ggX10_payDue_X10_closeIfPaid : GoodIn wsX10_payDue wsX10_closeIfPaid := goodIn_r _ [55, 20, 21, 22, 9, 23, 24, 25, 26, 27, 12, 13, 14, 15, 11, 45, 46, 47, 48, 56, 57, 58, 59, 60, 61, 62, 63, 64, 65, 66, 67, 68, 69, 70, 71, 72, 73, 74, 75, 76, 77, 78, 79, 80, 81, 82, 83, 84, 85, 86, 87, 88, 89, 90, 91, 92, 93, 94] rfl (by decide +kernel)
set_option maxRecDepth 20000 in
theorem gX10_payDue_X10_closeIfPaid : GoodIn wsX10_payDue (wsV RX10 312 RX10 yX10_closeIfPaid wsX10_closeIfPaid) := goodIn_app (goodIn_r _ [52, 53, 54, 9] rfl (by decide +kernel)) ggX10_payDue_X10_closeIfPaid
set_option maxRecDepth 20000 in
theorem ggX10_payDue_X10_isRipe : GoodIn wsX10_payDue wsX10_isRipe := goodIn_r _ [35, 11, 12, 13, 14, 9, 15, 56, 57, 58, 59, 60, 61, 62, 63, 64, 65, 66, 67, 68, 69, 70, 71, 72, 73, 74, 75, 76, 77, 78, 79, 80, 81, 82, 83, 84, 85, 86, 87, 88, 89, 90, 91, 92, 93, 94] rfl (by decide +kernel)
set_option maxRecDepth 20000 in
theorem gX10_payDue_X10_isRipe : GoodIn wsX10_payDue (wsV RX10 306 RX10 yX10_isRipe wsX10_isRipe) := goodIn_app (goodIn_r _ [32, 33, 34, 9] rfl (by decide +kernel)) ggX10_payDue_X10_isRipe
set_option maxRecDepth 20000 in
theorem ggX10_payDue_X10_makePayment : GoodIn wsX10_payDue wsX10_makePayment := goodIn_r _ [39, 11, 40, 41, 42, 9, 43, 44, 12, 13, 14, 15, 45, 46, 47, 48, 49, 50, 51, 56, 57, 58, 59, 60, 61, 62, 63, 64, 65, 66, 67, 68, 69, 70, 71, 72, 73, 74, 75, 76, 77, 78, 79, 80, 81, 82, 83, 84, 85, 86, 87, 88, 89, 90, 91, 92, 93, 94] rfl (by decide +kernel)
set_option maxRecDepth 20000 in
theorem gX10_payDue_X10_makePayment : GoodIn wsX10_payDue (wsV RX10 309 RX10 yX10_makePayment wsX10_makePayment) := goodIn_app (goodIn_r _ [36, 37, 38, 9] rfl (by decide +kernel)) ggX10_payDue_X10_makePayment
set_option maxRecDepth 20000 in
theorem ggX10_payDue_X10_remainingOf : GoodIn wsX10_payDue wsX10_remainingOf := goodIn_r _ [23, 24, 25, 26, 9, 27, 12, 13, 14, 15, 11, 56, 57, 58, 59, 60, 61, 62, 63, 64, 65, 66, 67, 68, 69, 70, 71, 72, 73, 74, 75, 76, 77, 78, 79, 80, 81, 82, 83, 84, 85, 86, 87, 88, 89, 90, 91, 92, 93, 94] rfl (by decide +kernel)
set_option maxRecDepth 20000 in
theorem gX10_payDue_X10_remainingOf : GoodIn wsX10_payDue (wsV RX10 277 RX10 yX10_remainingOf wsX10_remainingOf) := goodIn_app (goodIn_r _ [20, 21, 22, 9] rfl (by decide +kernel)) ggX10_payDue_X10_remainingOf
set_option maxRecDepth 20000 in
theorem ggX10_progress_X10_of : GoodIn wsX10_progress wsX10_of := goodIn_r _ [8, 2, 9, 10, 11, 12, 13, 14, 15, 16, 17, 18, 19, 20, 21, 22, 23, 24, 25, 26, 27, 28, 29, 30, 31, 32, 33, 34, 35, 36, 37, 38, 39, 40, 41, 42, 43, 44, 45, 46, 47] rfl (by decide +kernel)
set_option maxRecDepth 20000 in
theorem gX10_progress_X10_of : GoodIn wsX10_progress (wsV RX10 261 RX10 yX10_of wsX10_of) := goodIn_app (goodIn_r _ [4, 5, 6, 7] rfl (by decide +kernel)) ggX10_progress_X10_of
set_option maxRecDepth 20000 in
theorem ggX10_remaining_X10_remainingOf : GoodIn wsX10_remaining wsX10_remainingOf := goodIn_r _ [18, 19, 20, 21, 4, 22, 23, 24, 25, 26, 6, 27, 28, 29, 30, 31, 32, 33, 34, 35, 36, 37, 38, 39, 40, 41, 42, 43, 44, 45, 46, 47, 48, 49, 50, 51, 52, 53, 54, 55, 56, 57, 58, 59, 60, 61, 62, 63, 64, 65] rfl (by decide +kernel)
set_option maxRecDepth 20000 in
theorem gX10_remaining_X10_remainingOf : GoodIn wsX10_remaining (wsV RX10 277 RX10 yX10_remainingOf wsX10_remainingOf) := goodIn_app (goodIn_r _ [15, 16, 17, 4] rfl (by decide +kernel)) ggX10_remaining_X10_remainingOf
set_option maxRecDepth 20000 in
theorem ggX10_shortage_X10_remainingOf : GoodIn wsX10_shortage wsX10_remainingOf := goodIn_r _ [11, 12, 13, 14, 10, 15, 16, 17, 18, 19, 2, 20, 21, 22, 23, 24, 25, 26, 27, 28, 29, 30, 31, 32, 33, 34, 35, 36, 37, 38, 39, 40, 41, 42, 43, 44, 45, 46, 47, 48, 49, 50, 51, 52, 53, 54, 55, 56, 57, 58] rfl (by decide +kernel)
set_option maxRecDepth 20000 in
theorem gX10_shortage_X10_remainingOf : GoodIn wsX10_shortage (wsV RX10 277 RX10 yX10_remainingOf wsX10_remainingOf) := goodIn_app (goodIn_r _ [7, 8, 9, 10] rfl (by decide +kernel)) ggX10_shortage_X10_remainingOf
set_option maxRecDepth 20000 in
theorem ggX10_splitBy_X10_splitSum : GoodIn wsX10_splitBy wsX10_splitSum := goodIn_r _ [6, 7, 8, 9, 10, 11, 12, 13, 5, 14, 15, 16, 17, 18, 19, 20, 21, 22, 23, 24, 25, 26, 27, 28, 29, 30, 31, 32, 33, 34, 35, 36, 37, 38, 39, 40, 41, 42, 43, 44, 45, 46, 47, 48, 49, 50, 51, 52, 53, 54, 55, 56, 57, 58, 59, 60, 61, 62, 63, 64, 65, 66] rfl (by decide +kernel)
set_option maxRecDepth 20000 in
theorem gX10_splitBy_X10_splitSum : GoodIn wsX10_splitBy (wsV RX10 375 RX10 yX10_splitSum wsX10_splitSum) := goodIn_app (goodIn_r _ [2, 3, 4, 5] rfl (by decide +kernel)) ggX10_splitBy_X10_splitSum
set_option maxRecDepth 20000 in
theorem ggX10_splitSum_X10_availableNow : GoodIn wsX10_splitSum wsX10_availableNow := goodIn_r _ [22, 18, 14, 15, 16, 8, 17, 23, 24, 25, 26, 27, 28, 29, 30, 31, 32, 33, 34, 35, 36, 37, 38, 39, 40, 41, 42, 43, 44, 45, 46, 47, 48, 49, 50, 51, 52, 53, 54, 55, 56, 57, 58, 59, 60, 61] rfl (by decide +kernel)
set_option maxRecDepth 20000 in
theorem gX10_splitSum_X10_availableNow : GoodIn wsX10_splitSum (wsV RX10 298 RX10 yX10_availableNow wsX10_availableNow) := goodIn_app (goodIn_r _ [19, 20, 21, 8] rfl (by decide +kernel)) ggX10_splitSum_X10_availableNow
set_option maxRecDepth 20000 in
theorem ggX10_splitSum_X10_of : GoodIn wsX10_splitSum wsX10_of := goodIn_r _ [17, 18, 23, 24, 25, 26, 27, 28, 29, 30, 31, 32, 33, 34, 35, 36, 37, 38, 39, 40, 41, 42, 43, 44, 45, 46, 47, 48, 49, 50, 51, 52, 53, 54, 55, 56, 57, 58, 59, 60, 61] rfl (by decide +kernel)
set_option maxRecDepth 20000 in
theorem gX10_splitSum_X10_of : GoodIn wsX10_splitSum (wsV RX10 261 RX10 yX10_of wsX10_of) := goodIn_app (goodIn_r _ [14, 15, 16, 8] rfl (by decide +kernel)) ggX10_splitSum_X10_of
set_option maxRecDepth 20000 in
theorem ggX10_splitSum_X10_remainingOf : GoodIn wsX10_splitSum wsX10_remainingOf := goodIn_r _ [9, 10, 11, 12, 8, 13, 14, 15, 16, 17, 18, 23, 24, 25, 26, 27, 28, 29, 30, 31, 32, 33, 34, 35, 36, 37, 38, 39, 40, 41, 42, 43, 44, 45, 46, 47, 48, 49, 50, 51, 52, 53, 54, 55, 56, 57, 58, 59, 60, 61] rfl (by decide +kernel)
set_option maxRecDepth 20000 in
theorem gX10_splitSum_X10_remainingOf : GoodIn wsX10_splitSum (wsV RX10 277 RX10 yX10_remainingOf wsX10_remainingOf) := goodIn_app (goodIn_r _ [5, 6, 7, 8] rfl (by decide +kernel)) ggX10_splitSum_X10_remainingOf
set_option maxRecDepth 20000 in
theorem ggX10_state_X10_of : GoodIn wsX10_state wsX10_of := goodIn_r _ [18, 6, 19, 20, 21, 22, 23, 24, 25, 26, 27, 28, 29, 30, 31, 32, 33, 34, 35, 36, 37, 38, 39, 40, 41, 42, 43, 44, 45, 46, 47, 48, 49, 50, 51, 52, 53, 54, 55, 56, 57] rfl (by decide +kernel)
set_option maxRecDepth 20000 in
theorem gX10_state_X10_of : GoodIn wsX10_state (wsV RX10 261 RX10 yX10_of wsX10_of) := goodIn_app (goodIn_r _ [15, 16, 17, 4] rfl (by decide +kernel)) ggX10_state_X10_of
set_option maxRecDepth 20000 in
theorem ggX10_sumOn_X10_ofEntry : GoodIn wsX10_sumOn wsX10_ofEntry := goodIn_r _ [6, 1, 7, 8, 9, 10, 11, 12, 13, 14, 15, 16, 17, 18, 19, 20, 21, 22, 23, 24, 25, 26, 27, 28, 29, 30, 31, 32, 33, 34, 35, 36, 37, 38, 39, 40, 41, 42, 43, 44, 45] rfl (by decide +kernel)
set_option maxRecDepth 20000 in
theorem gX10_sumOn_X10_ofEntry : GoodIn wsX10_sumOn (wsV RX10 448 RX10 yX10_ofEntry wsX10_ofEntry) := goodIn_app (goodIn_r _ [2, 3, 4, 5] rfl (by decide +kernel)) ggX10_sumOn_X10_ofEntry
set_option maxRecDepth 20000 in
theorem ggX10_wouldHold_X10_doneSet : GoodIn wsX10_wouldHold wsX10_doneSet := goodIn_r _ [18, 1, 19, 20, 21, 4, 22, 35, 36, 37, 38, 39, 40, 41, 42, 43, 44, 45, 46, 47, 48, 49, 50, 51, 52, 53, 54, 55, 56, 57, 58, 59, 60, 61, 62, 63, 64, 65, 66, 67, 68, 69, 70, 71, 72, 73] rfl (by decide +kernel)
set_option maxRecDepth 20000 in
theorem gX10_wouldHold_X10_doneSet : GoodIn wsX10_wouldHold (wsV RX10 284 RX10 yX10_doneSet wsX10_doneSet) := goodIn_app (goodIn_r _ [15, 16, 17, 4] rfl (by decide +kernel)) ggX10_wouldHold_X10_doneSet
set_option maxRecDepth 20000 in
theorem ggX10_wouldHold_X10_holdsBy : GoodIn wsX10_wouldHold wsX10_holdsBy := goodIn_r _ [26, 27, 28, 29, 30, 31, 32, 33, 4, 34, 1, 19, 20, 21, 22, 35, 36, 37, 38, 39, 40, 41, 42, 43, 44, 45, 46, 47, 48, 49, 50, 51, 52, 53, 54, 55, 56, 57, 58, 59, 60, 61, 62, 63, 64, 65, 66, 67, 68, 69, 70, 71, 72, 73] rfl (by decide +kernel)
set_option maxRecDepth 20000 in
theorem gX10_wouldHold_X10_holdsBy : GoodIn wsX10_wouldHold (wsV RX10 288 RX10 yX10_holdsBy wsX10_holdsBy) := goodIn_app (goodIn_r _ [23, 24, 25, 4] rfl (by decide +kernel)) ggX10_wouldHold_X10_holdsBy
theorem dX10_ofEntry_0 : decode cX10_ofEntry 0 = .ok (.aload_n 0, 1) := by decide +kernel
theorem dX10_ofEntry_1 : decode cX10_ofEntry 1 = .ok (.getfield 7, 3) := by decide +kernel
theorem dX10_ofEntry_4 : decode cX10_ofEntry 4 = .ok (.bipush 86, 2) := by decide +kernel
theorem dX10_ofEntry_6 : decode cX10_ofEntry 6 = .ok (.iconst 4, 1) := by decide +kernel
theorem dX10_ofEntry_7 : decode cX10_ofEntry 7 = .ok (.iload_n 1, 1) := by decide +kernel
theorem dX10_ofEntry_8 : decode cX10_ofEntry 8 = .ok (.imul, 1) := by decide +kernel
theorem dX10_ofEntry_9 : decode cX10_ofEntry 9 = .ok (.iadd, 1) := by decide +kernel
theorem dX10_ofEntry_10 : decode cX10_ofEntry 10 = .ok (.iload_n 2, 1) := by decide +kernel
theorem dX10_ofEntry_11 : decode cX10_ofEntry 11 = .ok (.iadd, 1) := by decide +kernel
theorem dX10_ofEntry_12 : decode cX10_ofEntry 12 = .ok (.iaload, 1) := by decide +kernel
theorem dX10_ofEntry_13 : decode cX10_ofEntry 13 = .ok (.ireturn, 1) := by decide +kernel
theorem dX10_splitBy_0 : decode cX10_splitBy 0 = .ok (.aload_n 0, 1) := by decide +kernel
theorem dX10_splitBy_1 : decode cX10_splitBy 1 = .ok (.iload_n 1, 1) := by decide +kernel
theorem dX10_splitBy_2 : decode cX10_splitBy 2 = .ok (.invokevirtual 375, 3) := by decide +kernel
theorem dX10_splitBy_5 : decode cX10_splitBy 5 = .ok (.i2l, 1) := by decide +kernel
theorem dX10_splitBy_6 : decode cX10_splitBy 6 = .ok (.iload_n 2, 1) := by decide +kernel
theorem dX10_splitBy_7 : decode cX10_splitBy 7 = .ok (.i2l, 1) := by decide +kernel
theorem dX10_splitBy_8 : decode cX10_splitBy 8 = .ok (.lmul, 1) := by decide +kernel
theorem dX10_splitBy_9 : decode cX10_splitBy 9 = .ok (.ldc2_w 343, 3) := by decide +kernel
theorem dX10_splitBy_12 : decode cX10_splitBy 12 = .ok (.ldiv, 1) := by decide +kernel
theorem dX10_splitBy_13 : decode cX10_splitBy 13 = .ok (.l2i, 1) := by decide +kernel
theorem dX10_splitBy_14 : decode cX10_splitBy 14 = .ok (.ireturn, 1) := by decide +kernel
theorem dX10_splitSum_0 : decode cX10_splitSum 0 = .ok (.aload_n 0, 1) := by decide +kernel
theorem dX10_splitSum_1 : decode cX10_splitSum 1 = .ok (.iload_n 1, 1) := by decide +kernel
theorem dX10_splitSum_2 : decode cX10_splitSum 2 = .ok (.invokevirtual 277, 3) := by decide +kernel
theorem dX10_splitSum_5 : decode cX10_splitSum 5 = .ok (.aload_n 0, 1) := by decide +kernel
theorem dX10_splitSum_6 : decode cX10_splitSum 6 = .ok (.invokevirtual 298, 3) := by decide +kernel
theorem dX10_splitSum_9 : decode cX10_splitSum 9 = .ok (.aload_n 0, 1) := by decide +kernel
theorem dX10_splitSum_10 : decode cX10_splitSum 10 = .ok (.iload_n 1, 1) := by decide +kernel
theorem dX10_splitSum_11 : decode cX10_splitSum 11 = .ok (.iconst 3, 1) := by decide +kernel
theorem dX10_splitSum_12 : decode cX10_splitSum 12 = .ok (.invokevirtual 261, 3) := by decide +kernel
theorem dX10_splitSum_15 : decode cX10_splitSum 15 = .ok (.iadd, 1) := by decide +kernel
theorem dX10_splitSum_16 : decode cX10_splitSum 16 = .ok (.invokestatic 301, 3) := by decide +kernel
theorem dX10_splitSum_19 : decode cX10_splitSum 19 = .ok (.ireturn, 1) := by decide +kernel
