set_option maxRecDepth 20000 in
theorem ggX10_areAllClosed_X10_isClosed : GoodIn wsX10_areAllClosed wsX10_isClosed := goodIn_r _ [6, 7, 8, 9, 5, 10, 1, 11, 12, 13, 14, 15, 16, 17, 18, 19, 20, 21, 22, 23, 24, 25, 26, 27, 28, 29, 30, 31, 32, 33, 34, 35, 36, 37, 38, 39, 40, 41, 42, 43, 44, 45, 46, 47, 48, 49] rfl (by decide +kernel)
set_option maxRecDepth 20000 in
theorem gX10_areAllClosed_X10_isClosed : GoodIn wsX10_areAllClosed (wsV RX10 265 RX10 yX10_isClosed wsX10_isClosed) := goodIn_app (goodIn_r _ [2, 3, 4, 5] rfl (by decide +kernel)) ggX10_areAllClosed_X10_isClosed
set_option maxRecDepth 20000 in
theorem ggX10_becomeDue_X10_holdsBy : GoodIn wsX10_becomeDue wsX10_holdsBy := goodIn_r _ [14, 15, 16, 17, 18, 19, 20, 21, 5, 22, 1, 7, 8, 9, 10, 27, 28, 29, 30, 31, 32, 33, 34, 35, 36, 37, 38, 39, 40, 41, 42, 43, 44, 45, 46, 47, 48, 49, 50, 51, 52, 53, 54, 55, 56, 57, 58, 59, 60, 61, 62, 63, 64, 65] rfl (by decide +kernel)
set_option maxRecDepth 20000 in
theorem gX10_becomeDue_X10_holdsBy : GoodIn wsX10_becomeDue (wsV RX10 288 RX10 yX10_holdsBy wsX10_holdsBy) := goodIn_app (goodIn_r _ [11, 12, 13, 5] rfl (by decide +kernel)) ggX10_becomeDue_X10_holdsBy
set_option maxRecDepth 20000 in
theorem ggX10_becomeDue_X10_of : GoodIn wsX10_becomeDue wsX10_of := goodIn_r _ [10, 1, 27, 28, 29, 30, 31, 32, 33, 34, 35, 36, 37, 38, 39, 40, 41, 42, 43, 44, 45, 46, 47, 48, 49, 50, 51, 52, 53, 54, 55, 56, 57, 58, 59, 60, 61, 62, 63, 64, 65] rfl (by decide +kernel)
set_option maxRecDepth 20000 in
theorem gX10_becomeDue_X10_of : GoodIn wsX10_becomeDue (wsV RX10 261 RX10 yX10_of wsX10_of) := goodIn_app (goodIn_r _ [7, 8, 9, 5] rfl (by decide +kernel)) ggX10_becomeDue_X10_of
set_option maxRecDepth 20000 in
theorem ggX10_becomeDue_X10_set : GoodIn wsX10_becomeDue wsX10_set := goodIn_r _ [26, 1, 27, 28, 29, 30, 31, 32, 33, 34, 35, 36, 37, 38, 39, 40, 41, 42, 43, 44, 45, 46, 47, 48, 49, 50, 51, 52, 53, 54, 55, 56, 57, 58, 59, 60, 61, 62, 63, 64, 65] rfl (by decide +kernel)
set_option maxRecDepth 20000 in
theorem gX10_becomeDue_X10_set : GoodIn wsX10_becomeDue (wsV RX10 273 RX10 yX10_set wsX10_set) := goodIn_app (goodIn_r _ [23, 24, 25, 5] rfl (by decide +kernel)) ggX10_becomeDue_X10_set
set_option maxRecDepth 20000 in
theorem ggX10_closedCount_X10_isClosed : GoodIn wsX10_closedCount wsX10_isClosed := goodIn_r _ [7, 8, 9, 10, 6, 11, 2, 12, 13, 14, 15, 16, 17, 18, 19, 20, 21, 22, 23, 24, 25, 26, 27, 28, 29, 30, 31, 32, 33, 34, 35, 36, 37, 38, 39, 40, 41, 42, 43, 44, 45, 46, 47, 48, 49, 50] rfl (by decide +kernel)
set_option maxRecDepth 20000 in
theorem gX10_closedCount_X10_isClosed : GoodIn wsX10_closedCount (wsV RX10 265 RX10 yX10_isClosed wsX10_isClosed) := goodIn_app (goodIn_r _ [3, 4, 5, 6] rfl (by decide +kernel)) ggX10_closedCount_X10_isClosed
set_option maxRecDepth 20000 in
theorem ggX10_dueBefore_X10_of : GoodIn wsX10_dueBefore wsX10_of := goodIn_r _ [6, 1, 7, 8, 9, 10, 11, 12, 13, 14, 15, 16, 17, 18, 19, 20, 21, 22, 23, 24, 25, 26, 27, 28, 29, 30, 31, 32, 33, 34, 35, 36, 37, 38, 39, 40, 41, 42, 43, 44, 45] rfl (by decide +kernel)
set_option maxRecDepth 20000 in
theorem gX10_dueBefore_X10_of : GoodIn wsX10_dueBefore (wsV RX10 261 RX10 yX10_of wsX10_of) := goodIn_app (goodIn_r _ [2, 3, 4, 5] rfl (by decide +kernel)) ggX10_dueBefore_X10_of
set_option maxRecDepth 20000 in
theorem ggX10_dueDay_X10_of : GoodIn wsX10_dueDay wsX10_of := goodIn_r _ [18, 6, 19, 20, 21, 22, 23, 24, 25, 26, 27, 28, 29, 30, 31, 32, 33, 34, 35, 36, 37, 38, 39, 40, 41, 42, 43, 44, 45, 46, 47, 48, 49, 50, 51, 52, 53, 54, 55, 56, 57] rfl (by decide +kernel)
set_option maxRecDepth 20000 in
theorem gX10_dueDay_X10_of : GoodIn wsX10_dueDay (wsV RX10 261 RX10 yX10_of wsX10_of) := goodIn_app (goodIn_r _ [15, 16, 17, 4] rfl (by decide +kernel)) ggX10_dueDay_X10_of
set_option maxRecDepth 20000 in
theorem ggX10_dueWith_X10_dueBefore : GoodIn wsX10_dueWith wsX10_dueBefore := goodIn_r _ [10, 1, 2, 3, 4, 5, 6, 11, 12, 13, 14, 15, 16, 17, 18, 19, 20, 21, 22, 23, 24, 25, 26, 27, 28, 29, 30, 31, 32, 33, 34, 35, 36, 37, 38, 39, 40, 41, 42, 43, 44, 45, 46, 47, 48, 49] rfl (by decide +kernel)
set_option maxRecDepth 20000 in
theorem gX10_dueWith_X10_dueBefore : GoodIn wsX10_dueWith (wsV RX10 292 RX10 yX10_dueBefore wsX10_dueBefore) := goodIn_app (goodIn_r _ [7, 8, 9, 5] rfl (by decide +kernel)) ggX10_dueWith_X10_dueBefore
set_option maxRecDepth 20000 in
theorem ggX10_dueWith_X10_of : GoodIn wsX10_dueWith wsX10_of := goodIn_r _ [6, 1, 11, 12, 13, 14, 15, 16, 17, 18, 19, 20, 21, 22, 23, 24, 25, 26, 27, 28, 29, 30, 31, 32, 33, 34, 35, 36, 37, 38, 39, 40, 41, 42, 43, 44, 45, 46, 47, 48, 49] rfl (by decide +kernel)
set_option maxRecDepth 20000 in
theorem gX10_dueWith_X10_of : GoodIn wsX10_dueWith (wsV RX10 261 RX10 yX10_of wsX10_of) := goodIn_app (goodIn_r _ [2, 3, 4, 5] rfl (by decide +kernel)) ggX10_dueWith_X10_of
set_option maxRecDepth 20000 in
theorem ggX10_frozen_X10_of : GoodIn wsX10_frozen wsX10_of := goodIn_r _ [18, 6, 19, 20, 21, 22, 23, 24, 25, 26, 27, 28, 29, 30, 31, 32, 33, 34, 35, 36, 37, 38, 39, 40, 41, 42, 43, 44, 45, 46, 47, 48, 49, 50, 51, 52, 53, 54, 55, 56, 57] rfl (by decide +kernel)
set_option maxRecDepth 20000 in
theorem gX10_frozen_X10_of : GoodIn wsX10_frozen (wsV RX10 261 RX10 yX10_of wsX10_of) := goodIn_app (goodIn_r _ [15, 16, 17, 4] rfl (by decide +kernel)) ggX10_frozen_X10_of
set_option maxRecDepth 20000 in
theorem ggX10_graceLeft_X10_of : GoodIn wsX10_graceLeft wsX10_of := goodIn_r _ [22, 1, 23, 24, 25, 26, 27, 28, 29, 30, 31, 32, 33, 34, 35, 36, 37, 38, 39, 40, 41, 42, 43, 44, 45, 46, 47, 48, 49, 50, 51, 52, 53, 54, 55, 56, 57, 58, 59, 60, 61] rfl (by decide +kernel)
set_option maxRecDepth 20000 in
theorem gX10_graceLeft_X10_of : GoodIn wsX10_graceLeft (wsV RX10 261 RX10 yX10_of wsX10_of) := goodIn_app (goodIn_r _ [19, 20, 21, 9] rfl (by decide +kernel)) ggX10_graceLeft_X10_of
set_option maxRecDepth 20000 in
theorem ggX10_holdsNow_X10_doneSet : GoodIn wsX10_holdsNow wsX10_doneSet := goodIn_r _ [6, 1, 7, 8, 9, 5, 10, 23, 24, 25, 26, 27, 28, 29, 30, 31, 32, 33, 34, 35, 36, 37, 38, 39, 40, 41, 42, 43, 44, 45, 46, 47, 48, 49, 50, 51, 52, 53, 54, 55, 56, 57, 58, 59, 60, 61] rfl (by decide +kernel)
set_option maxRecDepth 20000 in
theorem gX10_holdsNow_X10_doneSet : GoodIn wsX10_holdsNow (wsV RX10 284 RX10 yX10_doneSet wsX10_doneSet) := goodIn_app (goodIn_r _ [2, 3, 4, 5] rfl (by decide +kernel)) ggX10_holdsNow_X10_doneSet
set_option maxRecDepth 20000 in
theorem ggX10_holdsNow_X10_holdsBy : GoodIn wsX10_holdsNow wsX10_holdsBy := goodIn_r _ [14, 15, 16, 17, 18, 19, 20, 21, 5, 22, 1, 7, 8, 9, 10, 23, 24, 25, 26, 27, 28, 29, 30, 31, 32, 33, 34, 35, 36, 37, 38, 39, 40, 41, 42, 43, 44, 45, 46, 47, 48, 49, 50, 51, 52, 53, 54, 55, 56, 57, 58, 59, 60, 61] rfl (by decide +kernel)
set_option maxRecDepth 20000 in
theorem gX10_holdsNow_X10_holdsBy : GoodIn wsX10_holdsNow (wsV RX10 288 RX10 yX10_holdsBy wsX10_holdsBy) := goodIn_app (goodIn_r _ [11, 12, 13, 5] rfl (by decide +kernel)) ggX10_holdsNow_X10_holdsBy
set_option maxRecDepth 20000 in
theorem ggX10_paid_X10_of : GoodIn wsX10_paid wsX10_of := goodIn_r _ [18, 6, 19, 20, 21, 22, 23, 24, 25, 26, 27, 28, 29, 30, 31, 32, 33, 34, 35, 36, 37, 38, 39, 40, 41, 42, 43, 44, 45, 46, 47, 48, 49, 50, 51, 52, 53, 54, 55, 56, 57] rfl (by decide +kernel)
set_option maxRecDepth 20000 in
theorem gX10_paid_X10_of : GoodIn wsX10_paid (wsV RX10 261 RX10 yX10_of wsX10_of) := goodIn_app (goodIn_r _ [15, 16, 17, 4] rfl (by decide +kernel)) ggX10_paid_X10_of
set_option maxRecDepth 20000 in
theorem ggX10_payDue_X10_availableNow : GoodIn wsX10_payDue wsX10_availableNow := goodIn_r _ [31, 11, 12, 13, 14, 9, 15, 56, 57, 58, 59, 60, 61, 62, 63, 64, 65, 66, 67, 68, 69, 70, 71, 72, 73, 74, 75, 76, 77, 78, 79, 80, 81, 82, 83, 84, 85, 86, 87, 88, 89, 90, 91, 92, 93, 94] rfl (by decide +kernel)
set_option maxRecDepth 20000 in
theorem gX10_payDue_X10_availableNow : GoodIn wsX10_payDue (wsV RX10 298 RX10 yX10_availableNow wsX10_availableNow) := goodIn_app (goodIn_r _ [28, 29, 30, 9] rfl (by decide +kernel)) ggX10_payDue_X10_availableNow
set_option maxRecDepth 20000 in
theorem ggX10_payDue_X10_closeIfPaid : GoodIn wsX10_payDue wsX10_closeIfPaid := goodIn_r _ [55, 20, 21, 22, 9, 23, 24, 25, 26, 27, 12, 13, 14, 15, 11, 45, 46, 47, 48, 56, 57, 58, 59, 60, 61, 62, 63, 64, 65, 66, 67, 68, 69, 70, 71, 72, 73, 74, 75, 76, 77, 78, 79, 80, 81, 82, 83, 84, 85, 86, 87, 88, 89, 90, 91, 92, 93, 94] rfl (by decide +kernel)
set_option maxRecDepth 20000 in
theorem gX10_payDue_X10_closeIfPaid : GoodIn wsX10_payDue (wsV RX10 312 RX10 yX10_closeIfPaid wsX10_closeIfPaid) := goodIn_app (goodIn_r _ [52, 53, 54, 9] rfl (by decide +kernel)) ggX10_payDue_X10_closeIfPaid
set_option maxRecDepth 20000 in
theorem ggX10_payDue_X10_isRipe : GoodIn wsX10_payDue wsX10_isRipe := goodIn_r _ [35, 11, 12, 13, 14, 9, 15, 56, 57, 58, 59, 60, 61, 62, 63, 64, 65, 66, 67, 68, 69, 70, 71, 72, 73, 74, 75, 76, 77, 78, 79, 80, 81, 82, 83, 84, 85, 86, 87, 88, 89, 90, 91, 92, 93, 94] rfl (by decide +kernel)
set_option maxRecDepth 20000 in
theorem gX10_payDue_X10_isRipe : GoodIn wsX10_payDue (wsV RX10 306 RX10 yX10_isRipe wsX10_isRipe) := goodIn_app (goodIn_r _ [32, 33, 34, 9] rfl (by decide +kernel)) ggX10_payDue_X10_isRipe
set_option maxRecDepth 20000 in
theorem ggX10_payDue_X10_makePayment : GoodIn wsX10_payDue wsX10_makePayment := goodIn_r _ [39, 11, 40, 41, 42, 9, 43, 44, 12, 13, 14, 15, 45, 46, 47, 48, 49, 50, 51, 56, 57, 58, 59, 60, 61, 62, 63, 64, 65, 66, 67, 68, 69, 70, 71, 72, 73, 74, 75, 76, 77, 78, 79, 80, 81, 82, 83, 84, 85, 86, 87, 88, 89, 90, 91, 92, 93, 94] rfl (by decide +kernel)
set_option maxRecDepth 20000 in
theorem gX10_payDue_X10_makePayment : GoodIn wsX10_payDue (wsV RX10 309 RX10 yX10_makePayment wsX10_makePayment) := goodIn_app (goodIn_r _ [36, 37, 38, 9] rfl (by decide +kernel)) ggX10_payDue_X10_makePayment
set_option maxRecDepth 20000 in
theorem ggX10_payDue_X10_remainingOf : GoodIn wsX10_payDue wsX10_remainingOf := goodIn_r _ [23, 24, 25, 26, 9, 27, 12, 13, 14, 15, 11, 56, 57, 58, 59, 60, 61, 62, 63, 64, 65, 66, 67, 68, 69, 70, 71, 72, 73, 74, 75, 76, 77, 78, 79, 80, 81, 82, 83, 84, 85, 86, 87, 88, 89, 90, 91, 92, 93, 94] rfl (by decide +kernel)
set_option maxRecDepth 20000 in
theorem gX10_payDue_X10_remainingOf : GoodIn wsX10_payDue (wsV RX10 277 RX10 yX10_remainingOf wsX10_remainingOf) := goodIn_app (goodIn_r _ [20, 21, 22, 9] rfl (by decide +kernel)) ggX10_payDue_X10_remainingOf
set_option maxRecDepth 20000 in
theorem ggX10_progress_X10_of : GoodIn wsX10_progress wsX10_of := goodIn_r _ [8, 2, 9, 10, 11, 12, 13, 14, 15, 16, 17, 18, 19, 20, 21, 22, 23, 24, 25, 26, 27, 28, 29, 30, 31, 32, 33, 34, 35, 36, 37, 38, 39, 40, 41, 42, 43, 44, 45, 46, 47] rfl (by decide +kernel)
set_option maxRecDepth 20000 in
theorem gX10_progress_X10_of : GoodIn wsX10_progress (wsV RX10 261 RX10 yX10_of wsX10_of) := goodIn_app (goodIn_r _ [4, 5, 6, 7] rfl (by decide +kernel)) ggX10_progress_X10_of
set_option maxRecDepth 20000 in
theorem ggX10_remaining_X10_remainingOf : GoodIn wsX10_remaining wsX10_remainingOf := goodIn_r _ [18, 19, 20, 21, 4, 22, 23, 24, 25, 26, 6, 27, 28, 29, 30, 31, 32, 33, 34, 35, 36, 37, 38, 39, 40, 41, 42, 43, 44, 45, 46, 47, 48, 49, 50, 51, 52, 53, 54, 55, 56, 57, 58, 59, 60, 61, 62, 63, 64, 65] rfl (by decide +kernel)
set_option maxRecDepth 20000 in
theorem gX10_remaining_X10_remainingOf : GoodIn wsX10_remaining (wsV RX10 277 RX10 yX10_remainingOf wsX10_remainingOf) := goodIn_app (goodIn_r _ [15, 16, 17, 4] rfl (by decide +kernel)) ggX10_remaining_X10_remainingOf
set_option maxRecDepth 20000 in
theorem ggX10_shortage_X10_remainingOf : GoodIn wsX10_shortage wsX10_remainingOf := goodIn_r _ [11, 12, 13, 14, 10, 15, 16, 17, 18, 19, 2, 20, 21, 22, 23, 24, 25, 26, 27, 28, 29, 30, 31, 32, 33, 34, 35, 36, 37, 38, 39, 40, 41, 42, 43, 44, 45, 46, 47, 48, 49, 50, 51, 52, 53, 54, 55, 56, 57, 58] rfl (by decide +kernel)
set_option maxRecDepth 20000 in
theorem gX10_shortage_X10_remainingOf : GoodIn wsX10_shortage (wsV RX10 277 RX10 yX10_remainingOf wsX10_remainingOf) := goodIn_app (goodIn_r _ [7, 8, 9, 10] rfl (by decide +kernel)) ggX10_shortage_X10_remainingOf
set_option maxRecDepth 20000 in
theorem ggX10_state_X10_of : GoodIn wsX10_state wsX10_of := goodIn_r _ [18, 6, 19, 20, 21, 22, 23, 24, 25, 26, 27, 28, 29, 30, 31, 32, 33, 34, 35, 36, 37, 38, 39, 40, 41, 42, 43, 44, 45, 46, 47, 48, 49, 50, 51, 52, 53, 54, 55, 56, 57] rfl (by decide +kernel)
set_option maxRecDepth 20000 in
theorem gX10_state_X10_of : GoodIn wsX10_state (wsV RX10 261 RX10 yX10_of wsX10_of) := goodIn_app (goodIn_r _ [15, 16, 17, 4] rfl (by decide +kernel)) ggX10_state_X10_of
theorem dX10_dueBefore_0 : decode cX10_dueBefore 0 = .ok (.iconst 0, 1) := by decide +kernel
theorem dX10_dueBefore_1 : decode cX10_dueBefore 1 = .ok (.istore_n 2, 1) := by decide +kernel
theorem dX10_dueBefore_2 : decode cX10_dueBefore 2 = .ok (.iconst 0, 1) := by decide +kernel
theorem dX10_dueBefore_3 : decode cX10_dueBefore 3 = .ok (.istore_n 3, 1) := by decide +kernel
theorem dX10_dueBefore_4 : decode cX10_dueBefore 4 = .ok (.iload_n 3, 1) := by decide +kernel
theorem dX10_dueBefore_5 : decode cX10_dueBefore 5 = .ok (.aload_n 0, 1) := by decide +kernel
theorem dX10_dueBefore_6 : decode cX10_dueBefore 6 = .ok (.getfield 7, 3) := by decide +kernel
theorem dX10_dueBefore_9 : decode cX10_dueBefore 9 = .ok (.bipush 13, 2) := by decide +kernel
theorem dX10_dueBefore_11 : decode cX10_dueBefore 11 = .ok (.iaload, 1) := by decide +kernel
theorem dX10_dueBefore_12 : decode cX10_dueBefore 12 = .ok (.if_icmp .ge 78, 3) := by decide +kernel
theorem dX10_dueBefore_15 : decode cX10_dueBefore 15 = .ok (.aload_n 0, 1) := by decide +kernel
theorem dX10_dueBefore_16 : decode cX10_dueBefore 16 = .ok (.iload_n 3, 1) := by decide +kernel
theorem dX10_dueBefore_17 : decode cX10_dueBefore 17 = .ok (.bipush 6, 2) := by decide +kernel
theorem dX10_dueBefore_19 : decode cX10_dueBefore 19 = .ok (.invokevirtual 261, 3) := by decide +kernel
theorem dX10_dueBefore_22 : decode cX10_dueBefore 22 = .ok (.aload_n 0, 1) := by decide +kernel
theorem dX10_dueBefore_23 : decode cX10_dueBefore 23 = .ok (.iload_n 1, 1) := by decide +kernel
theorem dX10_dueBefore_24 : decode cX10_dueBefore 24 = .ok (.bipush 6, 2) := by decide +kernel
theorem dX10_dueBefore_26 : decode cX10_dueBefore 26 = .ok (.invokevirtual 261, 3) := by decide +kernel
theorem dX10_dueBefore_29 : decode cX10_dueBefore 29 = .ok (.if_icmp .lt 25, 3) := by decide +kernel
theorem dX10_dueBefore_32 : decode cX10_dueBefore 32 = .ok (.aload_n 0, 1) := by decide +kernel
theorem dX10_dueBefore_33 : decode cX10_dueBefore 33 = .ok (.iload_n 3, 1) := by decide +kernel
theorem dX10_dueBefore_34 : decode cX10_dueBefore 34 = .ok (.bipush 6, 2) := by decide +kernel
theorem dX10_dueBefore_36 : decode cX10_dueBefore 36 = .ok (.invokevirtual 261, 3) := by decide +kernel
theorem dX10_dueBefore_39 : decode cX10_dueBefore 39 = .ok (.aload_n 0, 1) := by decide +kernel
theorem dX10_dueBefore_40 : decode cX10_dueBefore 40 = .ok (.iload_n 1, 1) := by decide +kernel
theorem dX10_dueBefore_41 : decode cX10_dueBefore 41 = .ok (.bipush 6, 2) := by decide +kernel
theorem dX10_dueBefore_43 : decode cX10_dueBefore 43 = .ok (.invokevirtual 261, 3) := by decide +kernel
theorem dX10_dueBefore_46 : decode cX10_dueBefore 46 = .ok (.if_icmp .ne 12, 3) := by decide +kernel
theorem dX10_dueBefore_49 : decode cX10_dueBefore 49 = .ok (.iload_n 3, 1) := by decide +kernel
theorem dX10_dueBefore_50 : decode cX10_dueBefore 50 = .ok (.iload_n 1, 1) := by decide +kernel
theorem dX10_dueBefore_51 : decode cX10_dueBefore 51 = .ok (.if_icmp .ge 7, 3) := by decide +kernel
theorem dX10_dueBefore_54 : decode cX10_dueBefore 54 = .ok (.iconst 1, 1) := by decide +kernel
theorem dX10_dueBefore_55 : decode cX10_dueBefore 55 = .ok (.goto 4, 3) := by decide +kernel
theorem dX10_dueBefore_58 : decode cX10_dueBefore 58 = .ok (.iconst 0, 1) := by decide +kernel
theorem dX10_dueBefore_59 : decode cX10_dueBefore 59 = .ok (.istore 4, 2) := by decide +kernel
theorem dX10_dueBefore_61 : decode cX10_dueBefore 61 = .ok (.iload_n 2, 1) := by decide +kernel
theorem dX10_dueBefore_62 : decode cX10_dueBefore 62 = .ok (.aload_n 0, 1) := by decide +kernel
theorem dX10_dueBefore_63 : decode cX10_dueBefore 63 = .ok (.iload_n 3, 1) := by decide +kernel
theorem dX10_dueBefore_64 : decode cX10_dueBefore 64 = .ok (.iconst 2, 1) := by decide +kernel
theorem dX10_dueBefore_65 : decode cX10_dueBefore 65 = .ok (.invokevirtual 261, 3) := by decide +kernel
theorem dX10_dueBefore_68 : decode cX10_dueBefore 68 = .ok (.iconst 1, 1) := by decide +kernel
theorem dX10_dueBefore_69 : decode cX10_dueBefore 69 = .ok (.if_icmp .ne 12, 3) := by decide +kernel
theorem dX10_dueBefore_72 : decode cX10_dueBefore 72 = .ok (.iload 4, 2) := by decide +kernel
theorem dX10_dueBefore_74 : decode cX10_dueBefore 74 = .ok (.ifCond .eq 7, 3) := by decide +kernel
theorem dX10_dueBefore_77 : decode cX10_dueBefore 77 = .ok (.iconst 1, 1) := by decide +kernel
theorem dX10_dueBefore_78 : decode cX10_dueBefore 78 = .ok (.goto 4, 3) := by decide +kernel
theorem dX10_dueBefore_81 : decode cX10_dueBefore 81 = .ok (.iconst 0, 1) := by decide +kernel
theorem dX10_dueBefore_82 : decode cX10_dueBefore 82 = .ok (.iadd, 1) := by decide +kernel
theorem dX10_dueBefore_83 : decode cX10_dueBefore 83 = .ok (.istore_n 2, 1) := by decide +kernel
theorem dX10_dueBefore_84 : decode cX10_dueBefore 84 = .ok (.iinc 3 1, 3) := by decide +kernel
theorem dX10_dueBefore_87 : decode cX10_dueBefore 87 = .ok (.goto (-83), 3) := by decide +kernel
theorem dX10_dueBefore_90 : decode cX10_dueBefore 90 = .ok (.iload_n 2, 1) := by decide +kernel
theorem dX10_dueBefore_91 : decode cX10_dueBefore 91 = .ok (.ireturn, 1) := by decide +kernel
theorem dX10_holdsNow_0 : decode cX10_holdsNow 0 = .ok (.aload_n 0, 1) := by decide +kernel
theorem dX10_holdsNow_1 : decode cX10_holdsNow 1 = .ok (.iload_n 1, 1) := by decide +kernel
theorem dX10_holdsNow_2 : decode cX10_holdsNow 2 = .ok (.aload_n 0, 1) := by decide +kernel
theorem dX10_holdsNow_3 : decode cX10_holdsNow 3 = .ok (.getfield 7, 3) := by decide +kernel
theorem dX10_holdsNow_6 : decode cX10_holdsNow 6 = .ok (.iconst 4, 1) := by decide +kernel
theorem dX10_holdsNow_7 : decode cX10_holdsNow 7 = .ok (.iaload, 1) := by decide +kernel
theorem dX10_holdsNow_8 : decode cX10_holdsNow 8 = .ok (.aload_n 0, 1) := by decide +kernel
theorem dX10_holdsNow_9 : decode cX10_holdsNow 9 = .ok (.getfield 7, 3) := by decide +kernel
theorem dX10_holdsNow_12 : decode cX10_holdsNow 12 = .ok (.bipush 12, 2) := by decide +kernel
theorem dX10_holdsNow_14 : decode cX10_holdsNow 14 = .ok (.iaload, 1) := by decide +kernel
theorem dX10_holdsNow_15 : decode cX10_holdsNow 15 = .ok (.aload_n 0, 1) := by decide +kernel
theorem dX10_holdsNow_16 : decode cX10_holdsNow 16 = .ok (.invokevirtual 284, 3) := by decide +kernel
theorem dX10_holdsNow_19 : decode cX10_holdsNow 19 = .ok (.invokevirtual 288, 3) := by decide +kernel
theorem dX10_holdsNow_22 : decode cX10_holdsNow 22 = .ok (.ireturn, 1) := by decide +kernel
