set_option maxRecDepth 20000 in
theorem ggX10_busiestDay_X10_ofEntry : GoodIn wsX10_busiestDay wsX10_ofEntry := goodIn_r _ [7, 2, 12, 13, 14, 15, 16, 17, 18, 19, 20, 21, 22, 23, 24, 25, 26, 27, 28, 29, 30, 31, 32, 33, 34, 35, 36, 37, 38, 39, 40, 41, 42, 43, 44, 45, 46, 47, 48, 49, 50] rfl (by decide +kernel)
set_option maxRecDepth 20000 in
theorem gX10_busiestDay_X10_ofEntry : GoodIn wsX10_busiestDay (wsV RX10 448 RX10 yX10_ofEntry wsX10_ofEntry) := goodIn_app (goodIn_r _ [3, 4, 5, 6] rfl (by decide +kernel)) ggX10_busiestDay_X10_ofEntry
set_option maxRecDepth 20000 in
theorem ggX10_busiestDay_X10_sumOn : GoodIn wsX10_busiestDay wsX10_sumOn := goodIn_r _ [11, 2, 3, 4, 5, 6, 7, 12, 13, 14, 15, 16, 17, 18, 19, 20, 21, 22, 23, 24, 25, 26, 27, 28, 29, 30, 31, 32, 33, 34, 35, 36, 37, 38, 39, 40, 41, 42, 43, 44, 45, 46, 47, 48, 49, 50] rfl (by decide +kernel)
set_option maxRecDepth 20000 in
theorem gX10_busiestDay_X10_sumOn : GoodIn wsX10_busiestDay (wsV RX10 453 RX10 yX10_sumOn wsX10_sumOn) := goodIn_app (goodIn_r _ [8, 9, 10, 6] rfl (by decide +kernel)) ggX10_busiestDay_X10_sumOn
set_option maxRecDepth 20000 in
theorem ggX10_canSplit_X10_of : GoodIn wsX10_canSplit wsX10_of := goodIn_r _ [18, 7, 19, 20, 21, 22, 23, 24, 25, 26, 27, 28, 29, 30, 31, 32, 33, 34, 35, 36, 37, 38, 39, 40, 41, 42, 43, 44, 45, 46, 47, 48, 49, 50, 51, 52, 53, 54, 55, 56, 57] rfl (by decide +kernel)
set_option maxRecDepth 20000 in
theorem gX10_canSplit_X10_of : GoodIn wsX10_canSplit (wsV RX10 261 RX10 yX10_of wsX10_of) := goodIn_app (goodIn_r _ [15, 16, 17, 5] rfl (by decide +kernel)) ggX10_canSplit_X10_of
set_option maxRecDepth 20000 in
theorem ggX10_closedCount_X10_isClosed : GoodIn wsX10_closedCount wsX10_isClosed := goodIn_r _ [7, 8, 9, 10, 6, 11, 2, 12, 13, 14, 15, 16, 17, 18, 19, 20, 21, 22, 23, 24, 25, 26, 27, 28, 29, 30, 31, 32, 33, 34, 35, 36, 37, 38, 39, 40, 41, 42, 43, 44, 45, 46, 47, 48, 49, 50] rfl (by decide +kernel)
set_option maxRecDepth 20000 in
theorem gX10_closedCount_X10_isClosed : GoodIn wsX10_closedCount (wsV RX10 265 RX10 yX10_isClosed wsX10_isClosed) := goodIn_app (goodIn_r _ [3, 4, 5, 6] rfl (by decide +kernel)) ggX10_closedCount_X10_isClosed
set_option maxRecDepth 20000 in
theorem ggX10_dayByClock_X10_doneSet : GoodIn wsX10_dayByClock wsX10_doneSet := goodIn_r _ [18, 1, 19, 20, 21, 5, 22, 35, 36, 37, 38, 39, 40, 41, 42, 43, 44, 45, 46, 47, 48, 49, 50, 51, 52, 53, 54, 55, 56, 57, 58, 59, 60, 61, 62, 63, 64, 65, 66, 67, 68, 69, 70, 71, 72, 73] rfl (by decide +kernel)
set_option maxRecDepth 20000 in
theorem gX10_dayByClock_X10_doneSet : GoodIn wsX10_dayByClock (wsV RX10 284 RX10 yX10_doneSet wsX10_doneSet) := goodIn_app (goodIn_r _ [15, 16, 17, 5] rfl (by decide +kernel)) ggX10_dayByClock_X10_doneSet
set_option maxRecDepth 20000 in
theorem ggX10_dayByClock_X10_holdsBy : GoodIn wsX10_dayByClock wsX10_holdsBy := goodIn_r _ [26, 27, 28, 29, 30, 31, 32, 33, 5, 34, 1, 19, 20, 21, 22, 35, 36, 37, 38, 39, 40, 41, 42, 43, 44, 45, 46, 47, 48, 49, 50, 51, 52, 53, 54, 55, 56, 57, 58, 59, 60, 61, 62, 63, 64, 65, 66, 67, 68, 69, 70, 71, 72, 73] rfl (by decide +kernel)
set_option maxRecDepth 20000 in
theorem gX10_dayByClock_X10_holdsBy : GoodIn wsX10_dayByClock (wsV RX10 288 RX10 yX10_holdsBy wsX10_holdsBy) := goodIn_app (goodIn_r _ [23, 24, 25, 5] rfl (by decide +kernel)) ggX10_dayByClock_X10_holdsBy
set_option maxRecDepth 20000 in
theorem ggX10_entry_X10_ofEntry : GoodIn wsX10_entry wsX10_ofEntry := goodIn_r _ [15, 1, 16, 17, 18, 19, 20, 21, 22, 23, 24, 25, 26, 27, 28, 29, 30, 31, 32, 33, 34, 35, 36, 37, 38, 39, 40, 41, 42, 43, 44, 45, 46, 47, 48, 49, 50, 51, 52, 53, 54] rfl (by decide +kernel)
set_option maxRecDepth 20000 in
theorem gX10_entry_X10_ofEntry : GoodIn wsX10_entry (wsV RX10 448 RX10 yX10_ofEntry wsX10_ofEntry) := goodIn_app (goodIn_r _ [12, 13, 14, 5] rfl (by decide +kernel)) ggX10_entry_X10_ofEntry
set_option maxRecDepth 20000 in
theorem ggX10_graceLeft_X10_of : GoodIn wsX10_graceLeft wsX10_of := goodIn_r _ [22, 1, 23, 24, 25, 26, 27, 28, 29, 30, 31, 32, 33, 34, 35, 36, 37, 38, 39, 40, 41, 42, 43, 44, 45, 46, 47, 48, 49, 50, 51, 52, 53, 54, 55, 56, 57, 58, 59, 60, 61] rfl (by decide +kernel)
set_option maxRecDepth 20000 in
theorem gX10_graceLeft_X10_of : GoodIn wsX10_graceLeft (wsV RX10 261 RX10 yX10_of wsX10_of) := goodIn_app (goodIn_r _ [19, 20, 21, 9] rfl (by decide +kernel)) ggX10_graceLeft_X10_of
set_option maxRecDepth 20000 in
theorem ggX10_holds_X10_holdsNow : GoodIn wsX10_holds wsX10_holdsNow := goodIn_r _ [18, 6, 19, 20, 21, 4, 22, 23, 24, 25, 26, 27, 28, 29, 30, 31, 32, 33, 34, 35, 36, 37, 38, 39, 40, 41, 42, 43, 44, 45, 46, 47, 48, 49, 50, 51, 52, 53, 54, 55, 56, 57, 58, 59, 60, 61, 62, 63, 64, 65, 66, 67, 68, 69, 70, 71, 72, 73, 74, 75, 76, 77] rfl (by decide +kernel)
set_option maxRecDepth 20000 in
theorem gX10_holds_X10_holdsNow : GoodIn wsX10_holds (wsV RX10 337 RX10 yX10_holdsNow wsX10_holdsNow) := goodIn_app (goodIn_r _ [15, 16, 17, 4] rfl (by decide +kernel)) ggX10_holds_X10_holdsNow
set_option maxRecDepth 20000 in
theorem ggX10_isShort_X10_isRipe : GoodIn wsX10_isShort wsX10_isRipe := goodIn_r _ [6, 1, 7, 8, 9, 5, 10, 19, 20, 21, 22, 23, 24, 25, 26, 27, 28, 29, 30, 31, 32, 33, 34, 35, 36, 37, 38, 39, 40, 41, 42, 43, 44, 45, 46, 47, 48, 49, 50, 51, 52, 53, 54, 55, 56, 57] rfl (by decide +kernel)
set_option maxRecDepth 20000 in
theorem gX10_isShort_X10_isRipe : GoodIn wsX10_isShort (wsV RX10 306 RX10 yX10_isRipe wsX10_isRipe) := goodIn_app (goodIn_r _ [2, 3, 4, 5] rfl (by decide +kernel)) ggX10_isShort_X10_isRipe
set_option maxRecDepth 20000 in
theorem ggX10_isShort_X10_remainingOf : GoodIn wsX10_isShort wsX10_remainingOf := goodIn_r _ [14, 15, 16, 17, 5, 18, 7, 8, 9, 10, 1, 19, 20, 21, 22, 23, 24, 25, 26, 27, 28, 29, 30, 31, 32, 33, 34, 35, 36, 37, 38, 39, 40, 41, 42, 43, 44, 45, 46, 47, 48, 49, 50, 51, 52, 53, 54, 55, 56, 57] rfl (by decide +kernel)
set_option maxRecDepth 20000 in
theorem gX10_isShort_X10_remainingOf : GoodIn wsX10_isShort (wsV RX10 277 RX10 yX10_remainingOf wsX10_remainingOf) := goodIn_app (goodIn_r _ [11, 12, 13, 5] rfl (by decide +kernel)) ggX10_isShort_X10_remainingOf
set_option maxRecDepth 20000 in
theorem ggX10_letterOf_X10_lettersOf : GoodIn wsX10_letterOf wsX10_lettersOf := goodIn_r _ [5, 1] rfl (by decide +kernel)
set_option maxRecDepth 20000 in
theorem gX10_letterOf_X10_lettersOf : GoodIn wsX10_letterOf (va_wsS RX10 351 yX10_lettersOf wsX10_lettersOf) := goodIn_app (goodIn_r _ [2, 3, 4] rfl (by decide +kernel)) ggX10_letterOf_X10_lettersOf
set_option maxRecDepth 20000 in
theorem ggX10_missingProofs_X10_countBits : GoodIn wsX10_missingProofs wsX10_countBits := goodIn_r _ [25] rfl (by decide +kernel)
set_option maxRecDepth 20000 in
theorem gX10_missingProofs_X10_countBits : GoodIn wsX10_missingProofs (va_wsS RX10 340 yX10_countBits wsX10_countBits) := goodIn_app (goodIn_r _ [23, 24, 5] rfl (by decide +kernel)) ggX10_missingProofs_X10_countBits
set_option maxRecDepth 20000 in
theorem ggX10_missingProofs_X10_doneSet : GoodIn wsX10_missingProofs wsX10_doneSet := goodIn_r _ [18, 1, 19, 20, 21, 5, 22, 38, 39, 40, 41, 42, 43, 44, 45, 46, 47, 48, 49, 50, 51, 52, 53, 54, 55, 56, 57, 58, 59, 60, 61, 62, 63, 64, 65, 66, 67, 68, 69, 70, 71, 72, 73, 74, 75, 76] rfl (by decide +kernel)
set_option maxRecDepth 20000 in
theorem gX10_missingProofs_X10_doneSet : GoodIn wsX10_missingProofs (wsV RX10 284 RX10 yX10_doneSet wsX10_doneSet) := goodIn_app (goodIn_r _ [15, 16, 17, 5] rfl (by decide +kernel)) ggX10_missingProofs_X10_doneSet
set_option maxRecDepth 20000 in
theorem ggX10_missingProofs_X10_holdsBy : GoodIn wsX10_missingProofs wsX10_holdsBy := goodIn_r _ [29, 30, 31, 32, 33, 34, 35, 36, 5, 37, 1, 19, 20, 21, 22, 38, 39, 40, 41, 42, 43, 44, 45, 46, 47, 48, 49, 50, 51, 52, 53, 54, 55, 56, 57, 58, 59, 60, 61, 62, 63, 64, 65, 66, 67, 68, 69, 70, 71, 72, 73, 74, 75, 76] rfl (by decide +kernel)
set_option maxRecDepth 20000 in
theorem gX10_missingProofs_X10_holdsBy : GoodIn wsX10_missingProofs (wsV RX10 288 RX10 yX10_holdsBy wsX10_holdsBy) := goodIn_app (goodIn_r _ [26, 27, 28, 5] rfl (by decide +kernel)) ggX10_missingProofs_X10_holdsBy
set_option maxRecDepth 20000 in
theorem ggX10_progress_X10_of : GoodIn wsX10_progress wsX10_of := goodIn_r _ [8, 2, 9, 10, 11, 12, 13, 14, 15, 16, 17, 18, 19, 20, 21, 22, 23, 24, 25, 26, 27, 28, 29, 30, 31, 32, 33, 34, 35, 36, 37, 38, 39, 40, 41, 42, 43, 44, 45, 46, 47] rfl (by decide +kernel)
set_option maxRecDepth 20000 in
theorem gX10_progress_X10_of : GoodIn wsX10_progress (wsV RX10 261 RX10 yX10_of wsX10_of) := goodIn_app (goodIn_r _ [4, 5, 6, 7] rfl (by decide +kernel)) ggX10_progress_X10_of
set_option maxRecDepth 20000 in
theorem ggX10_putNumber_X10_put : GoodIn wsX10_putNumber wsX10_put := goodIn_r _ [5, 6, 7, 8, 9, 10, 11, 12, 13, 14, 15, 16, 17, 18, 19, 20, 21, 22, 23, 24, 25, 26, 27, 28, 29, 30, 31, 32, 33, 34, 35, 36, 37, 38, 39, 40, 41, 42, 43, 44, 45, 46] rfl (by decide +kernel)
set_option maxRecDepth 20000 in
theorem gX10_putNumber_X10_put : GoodIn wsX10_putNumber (wsV RX10 417 RX10 yX10_put wsX10_put) := goodIn_app (goodIn_r _ [1, 2, 3, 4] rfl (by decide +kernel)) ggX10_putNumber_X10_put
set_option maxRecDepth 20000 in
theorem ggX10_putText_J0_charAt_5068e : GoodIn wsX10_putText wsJ0_charAt_5068e := goodIn_r _ [16, 6, 17, 18, 19, 4, 20, 11, 12, 21, 22, 23, 24, 25, 26, 27, 28, 29, 30, 31, 32, 33, 34, 35, 36, 37, 38, 39, 40, 41, 42, 43, 44, 45, 46, 47, 48, 49, 57, 58, 59, 60] rfl (by decide +kernel)
set_option maxRecDepth 20000 in
theorem gX10_putText_J0_charAt_5068e : GoodIn wsX10_putText (wsV RX10 97 RJ0 yJ0_charAt_5068e wsJ0_charAt_5068e) := goodIn_app (goodIn_r _ [13, 14, 15, 4] rfl (by decide +kernel)) ggX10_putText_J0_charAt_5068e
set_option maxRecDepth 20000 in
theorem ggX10_putText_J0_length_8abf5 : GoodIn wsX10_putText wsJ0_length_8abf5 := goodIn_r _ [5, 6, 7, 8, 9, 4, 10, 11, 12, 57, 58, 59, 60] rfl (by decide +kernel)
set_option maxRecDepth 20000 in
theorem gX10_putText_J0_length_8abf5 : GoodIn wsX10_putText (wsV RX10 415 RJ0 yJ0_length_8abf5 wsJ0_length_8abf5) := goodIn_app (goodIn_r _ [1, 2, 3, 4] rfl (by decide +kernel)) ggX10_putText_J0_length_8abf5
set_option maxRecDepth 20000 in
theorem ggX10_putText_X10_put : GoodIn wsX10_putText wsX10_put := goodIn_r _ [54, 55, 56, 61, 62, 63, 64, 65, 66, 67, 68, 69, 70, 71, 72, 73, 74, 75, 76, 77, 78, 79, 80, 81, 82, 83, 84, 85, 86, 87, 88, 89, 90, 91, 92, 93, 94, 95, 96, 97, 98, 99] rfl (by decide +kernel)
set_option maxRecDepth 20000 in
theorem gX10_putText_X10_put : GoodIn wsX10_putText (wsV RX10 417 RX10 yX10_put wsX10_put) := goodIn_app (goodIn_r _ [50, 51, 52, 53] rfl (by decide +kernel)) ggX10_putText_X10_put
set_option maxRecDepth 20000 in
theorem ggX10_shareFor_X10_feeOf : GoodIn wsX10_shareFor wsX10_feeOf := goodIn_r _ [52, 15, 53, 54, 55, 56, 57, 58, 59, 60, 61, 62, 63, 64, 65, 66, 67, 68, 69, 70, 71, 72, 73, 74, 75, 76, 77, 78, 79, 80, 81, 82, 83, 84, 85, 86, 87, 88, 89, 90, 91, 92] rfl (by decide +kernel)
set_option maxRecDepth 20000 in
theorem gX10_shareFor_X10_feeOf : GoodIn wsX10_shareFor (wsV RX10 270 RX10 yX10_feeOf wsX10_feeOf) := goodIn_app (goodIn_r _ [49, 50, 51, 4] rfl (by decide +kernel)) ggX10_shareFor_X10_feeOf
set_option maxRecDepth 20000 in
theorem ggX10_shareFor_X10_splitBy : GoodIn wsX10_shareFor wsX10_splitBy := goodIn_r _ [27, 28, 29, 30, 31, 4, 32, 33, 34, 35, 36, 37, 38, 39, 40, 41, 42, 43, 44, 20, 21, 22, 23, 15, 45, 46, 47, 48, 54, 55, 56, 57, 58, 59, 60, 61, 62, 63, 64, 65, 66, 67, 68, 69, 70, 71, 72, 73, 74, 75, 76, 77, 78, 79, 80, 81, 82, 83, 84, 85, 86, 87, 88, 89, 90, 91, 92] rfl (by decide +kernel)
set_option maxRecDepth 20000 in
theorem gX10_shareFor_X10_splitBy : GoodIn wsX10_shareFor (wsV RX10 385 RX10 yX10_splitBy wsX10_splitBy) := goodIn_app (goodIn_r _ [24, 25, 26, 4] rfl (by decide +kernel)) ggX10_shareFor_X10_splitBy
set_option maxRecDepth 20000 in
theorem ggX10_shortage_X10_remainingOf : GoodIn wsX10_shortage wsX10_remainingOf := goodIn_r _ [11, 12, 13, 14, 10, 15, 16, 17, 18, 19, 2, 20, 21, 22, 23, 24, 25, 26, 27, 28, 29, 30, 31, 32, 33, 34, 35, 36, 37, 38, 39, 40, 41, 42, 43, 44, 45, 46, 47, 48, 49, 50, 51, 52, 53, 54, 55, 56, 57, 58] rfl (by decide +kernel)
set_option maxRecDepth 20000 in
theorem gX10_shortage_X10_remainingOf : GoodIn wsX10_shortage (wsV RX10 277 RX10 yX10_remainingOf wsX10_remainingOf) := goodIn_app (goodIn_r _ [7, 8, 9, 10] rfl (by decide +kernel)) ggX10_shortage_X10_remainingOf
set_option maxRecDepth 20000 in
theorem ggX10_splitBy_X10_splitSum : GoodIn wsX10_splitBy wsX10_splitSum := goodIn_r _ [6, 7, 8, 9, 10, 11, 12, 13, 5, 14, 15, 16, 17, 18, 19, 20, 21, 22, 23, 24, 25, 26, 27, 28, 29, 30, 31, 32, 33, 34, 35, 36, 37, 38, 39, 40, 41, 42, 43, 44, 45, 46, 47, 48, 49, 50, 51, 52, 53, 54, 55, 56, 57, 58, 59, 60, 61, 62, 63, 64, 65, 66] rfl (by decide +kernel)
set_option maxRecDepth 20000 in
theorem gX10_splitBy_X10_splitSum : GoodIn wsX10_splitBy (wsV RX10 375 RX10 yX10_splitSum wsX10_splitSum) := goodIn_app (goodIn_r _ [2, 3, 4, 5] rfl (by decide +kernel)) ggX10_splitBy_X10_splitSum
set_option maxRecDepth 20000 in
theorem ggX10_splitPayment_X10_splitBy : GoodIn wsX10_splitPayment wsX10_splitBy := goodIn_r _ [30, 5, 31, 32, 33, 3, 34, 35, 36, 37, 38, 39, 40, 41, 42, 43, 44, 45, 46, 23, 24, 25, 26, 18, 47, 48, 49, 50, 51, 52, 53, 54, 55, 56, 57, 58, 59, 60, 61, 62, 63, 64, 65, 66, 67, 68, 69, 70, 71, 72, 73, 74, 75, 76, 77, 78, 79, 80, 81, 82, 83, 84, 85, 86, 87, 88, 89] rfl (by decide +kernel)
set_option maxRecDepth 20000 in
theorem gX10_splitPayment_X10_splitBy : GoodIn wsX10_splitPayment (wsV RX10 385 RX10 yX10_splitBy wsX10_splitBy) := goodIn_app (goodIn_r _ [27, 28, 29, 3] rfl (by decide +kernel)) ggX10_splitPayment_X10_splitBy
set_option maxRecDepth 20000 in
theorem ggX10_splitSum_X10_availableNow : GoodIn wsX10_splitSum wsX10_availableNow := goodIn_r _ [22, 18, 14, 15, 16, 8, 17, 23, 24, 25, 26, 27, 28, 29, 30, 31, 32, 33, 34, 35, 36, 37, 38, 39, 40, 41, 42, 43, 44, 45, 46, 47, 48, 49, 50, 51, 52, 53, 54, 55, 56, 57, 58, 59, 60, 61] rfl (by decide +kernel)
set_option maxRecDepth 20000 in
theorem gX10_splitSum_X10_availableNow : GoodIn wsX10_splitSum (wsV RX10 298 RX10 yX10_availableNow wsX10_availableNow) := goodIn_app (goodIn_r _ [19, 20, 21, 8] rfl (by decide +kernel)) ggX10_splitSum_X10_availableNow
set_option maxRecDepth 20000 in
theorem ggX10_splitSum_X10_of : GoodIn wsX10_splitSum wsX10_of := goodIn_r _ [17, 18, 23, 24, 25, 26, 27, 28, 29, 30, 31, 32, 33, 34, 35, 36, 37, 38, 39, 40, 41, 42, 43, 44, 45, 46, 47, 48, 49, 50, 51, 52, 53, 54, 55, 56, 57, 58, 59, 60, 61] rfl (by decide +kernel)
set_option maxRecDepth 20000 in
theorem gX10_splitSum_X10_of : GoodIn wsX10_splitSum (wsV RX10 261 RX10 yX10_of wsX10_of) := goodIn_app (goodIn_r _ [14, 15, 16, 8] rfl (by decide +kernel)) ggX10_splitSum_X10_of
set_option maxRecDepth 20000 in
theorem ggX10_splitSum_X10_remainingOf : GoodIn wsX10_splitSum wsX10_remainingOf := goodIn_r _ [9, 10, 11, 12, 8, 13, 14, 15, 16, 17, 18, 23, 24, 25, 26, 27, 28, 29, 30, 31, 32, 33, 34, 35, 36, 37, 38, 39, 40, 41, 42, 43, 44, 45, 46, 47, 48, 49, 50, 51, 52, 53, 54, 55, 56, 57, 58, 59, 60, 61] rfl (by decide +kernel)
set_option maxRecDepth 20000 in
theorem gX10_splitSum_X10_remainingOf : GoodIn wsX10_splitSum (wsV RX10 277 RX10 yX10_remainingOf wsX10_remainingOf) := goodIn_app (goodIn_r _ [5, 6, 7, 8] rfl (by decide +kernel)) ggX10_splitSum_X10_remainingOf
set_option maxRecDepth 20000 in
theorem ggX10_sumOn_X10_ofEntry : GoodIn wsX10_sumOn wsX10_ofEntry := goodIn_r _ [6, 1, 7, 8, 9, 10, 11, 12, 13, 14, 15, 16, 17, 18, 19, 20, 21, 22, 23, 24, 25, 26, 27, 28, 29, 30, 31, 32, 33, 34, 35, 36, 37, 38, 39, 40, 41, 42, 43, 44, 45] rfl (by decide +kernel)
set_option maxRecDepth 20000 in
theorem gX10_sumOn_X10_ofEntry : GoodIn wsX10_sumOn (wsV RX10 448 RX10 yX10_ofEntry wsX10_ofEntry) := goodIn_app (goodIn_r _ [2, 3, 4, 5] rfl (by decide +kernel)) ggX10_sumOn_X10_ofEntry
set_option maxRecDepth 20000 in
theorem ggX10_wouldHold_X10_doneSet : GoodIn wsX10_wouldHold wsX10_doneSet := goodIn_r _ [18, 1, 19, 20, 21, 4, 22, 35, 36, 37, 38, 39, 40, 41, 42, 43, 44, 45, 46, 47, 48, 49, 50, 51, 52, 53, 54, 55, 56, 57, 58, 59, 60, 61, 62, 63, 64, 65, 66, 67, 68, 69, 70, 71, 72, 73] rfl (by decide +kernel)
set_option maxRecDepth 20000 in
theorem gX10_wouldHold_X10_doneSet : GoodIn wsX10_wouldHold (wsV RX10 284 RX10 yX10_doneSet wsX10_doneSet) := goodIn_app (goodIn_r _ [15, 16, 17, 4] rfl (by decide +kernel)) ggX10_wouldHold_X10_doneSet
set_option maxRecDepth 20000 in
theorem ggX10_wouldHold_X10_holdsBy : GoodIn wsX10_wouldHold wsX10_holdsBy := goodIn_r _ [26, 27, 28, 29, 30, 31, 32, 33, 4, 34, 1, 19, 20, 21, 22, 35, 36, 37, 38, 39, 40, 41, 42, 43, 44, 45, 46, 47, 48, 49, 50, 51, 52, 53, 54, 55, 56, 57, 58, 59, 60, 61, 62, 63, 64, 65, 66, 67, 68, 69, 70, 71, 72, 73] rfl (by decide +kernel)
set_option maxRecDepth 20000 in
theorem gX10_wouldHold_X10_holdsBy : GoodIn wsX10_wouldHold (wsV RX10 288 RX10 yX10_holdsBy wsX10_holdsBy) := goodIn_app (goodIn_r _ [23, 24, 25, 4] rfl (by decide +kernel)) ggX10_wouldHold_X10_holdsBy
theorem dX10_countBits_0 : decode cX10_countBits 0 = .ok (.iconst 0, 1) := by decide +kernel
theorem dX10_countBits_1 : decode cX10_countBits 1 = .ok (.istore_n 1, 1) := by decide +kernel
theorem dX10_countBits_2 : decode cX10_countBits 2 = .ok (.iload_n 0, 1) := by decide +kernel
theorem dX10_countBits_3 : decode cX10_countBits 3 = .ok (.istore_n 2, 1) := by decide +kernel
theorem dX10_countBits_4 : decode cX10_countBits 4 = .ok (.iload_n 2, 1) := by decide +kernel
theorem dX10_countBits_5 : decode cX10_countBits 5 = .ok (.ifCond .eq 15, 3) := by decide +kernel
theorem dX10_countBits_8 : decode cX10_countBits 8 = .ok (.iinc 1 1, 3) := by decide +kernel
theorem dX10_countBits_11 : decode cX10_countBits 11 = .ok (.iload_n 2, 1) := by decide +kernel
theorem dX10_countBits_12 : decode cX10_countBits 12 = .ok (.iload_n 2, 1) := by decide +kernel
theorem dX10_countBits_13 : decode cX10_countBits 13 = .ok (.iconst 1, 1) := by decide +kernel
theorem dX10_countBits_14 : decode cX10_countBits 14 = .ok (.isub, 1) := by decide +kernel
theorem dX10_countBits_15 : decode cX10_countBits 15 = .ok (.iand, 1) := by decide +kernel
theorem dX10_countBits_16 : decode cX10_countBits 16 = .ok (.istore_n 2, 1) := by decide +kernel
theorem dX10_countBits_17 : decode cX10_countBits 17 = .ok (.goto (-13), 3) := by decide +kernel
theorem dX10_countBits_20 : decode cX10_countBits 20 = .ok (.iload_n 1, 1) := by decide +kernel
theorem dX10_countBits_21 : decode cX10_countBits 21 = .ok (.ireturn, 1) := by decide +kernel
theorem dX10_letterOf_0 : decode cX10_letterOf 0 = .ok (.lload_n 0, 1) := by decide +kernel
theorem dX10_letterOf_1 : decode cX10_letterOf 1 = .ok (.lstore_n 3, 1) := by decide +kernel
theorem dX10_letterOf_2 : decode cX10_letterOf 2 = .ok (.lload_n 0, 1) := by decide +kernel
theorem dX10_letterOf_3 : decode cX10_letterOf 3 = .ok (.invokestatic 351, 3) := by decide +kernel
theorem dX10_letterOf_6 : decode cX10_letterOf 6 = .ok (.iconst 1, 1) := by decide +kernel
theorem dX10_letterOf_7 : decode cX10_letterOf 7 = .ok (.isub, 1) := by decide +kernel
theorem dX10_letterOf_8 : decode cX10_letterOf 8 = .ok (.istore 5, 2) := by decide +kernel
theorem dX10_letterOf_10 : decode cX10_letterOf 10 = .ok (.iload 5, 2) := by decide +kernel
theorem dX10_letterOf_12 : decode cX10_letterOf 12 = .ok (.iload_n 2, 1) := by decide +kernel
theorem dX10_letterOf_13 : decode cX10_letterOf 13 = .ok (.if_icmp .le 15, 3) := by decide +kernel
theorem dX10_letterOf_16 : decode cX10_letterOf 16 = .ok (.lload_n 3, 1) := by decide +kernel
theorem dX10_letterOf_17 : decode cX10_letterOf 17 = .ok (.ldc2_w 103, 3) := by decide +kernel
theorem dX10_letterOf_20 : decode cX10_letterOf 20 = .ok (.ldiv, 1) := by decide +kernel
theorem dX10_letterOf_21 : decode cX10_letterOf 21 = .ok (.lstore_n 3, 1) := by decide +kernel
theorem dX10_letterOf_22 : decode cX10_letterOf 22 = .ok (.iinc 5 (-1), 3) := by decide +kernel
theorem dX10_letterOf_25 : decode cX10_letterOf 25 = .ok (.goto (-15), 3) := by decide +kernel
theorem dX10_letterOf_28 : decode cX10_letterOf 28 = .ok (.lload_n 3, 1) := by decide +kernel
theorem dX10_letterOf_29 : decode cX10_letterOf 29 = .ok (.ldc2_w 103, 3) := by decide +kernel
theorem dX10_letterOf_32 : decode cX10_letterOf 32 = .ok (.lrem, 1) := by decide +kernel
theorem dX10_letterOf_33 : decode cX10_letterOf 33 = .ok (.l2i, 1) := by decide +kernel
theorem dX10_letterOf_34 : decode cX10_letterOf 34 = .ok (.bipush 96, 2) := by decide +kernel
theorem dX10_letterOf_36 : decode cX10_letterOf 36 = .ok (.iadd, 1) := by decide +kernel
theorem dX10_letterOf_37 : decode cX10_letterOf 37 = .ok (.ireturn, 1) := by decide +kernel
theorem dX10_lettersOf_0 : decode cX10_lettersOf 0 = .ok (.iconst 0, 1) := by decide +kernel
theorem dX10_lettersOf_1 : decode cX10_lettersOf 1 = .ok (.istore_n 2, 1) := by decide +kernel
theorem dX10_lettersOf_2 : decode cX10_lettersOf 2 = .ok (.lload_n 0, 1) := by decide +kernel
theorem dX10_lettersOf_3 : decode cX10_lettersOf 3 = .ok (.lstore_n 3, 1) := by decide +kernel
theorem dX10_lettersOf_4 : decode cX10_lettersOf 4 = .ok (.lload_n 3, 1) := by decide +kernel
theorem dX10_lettersOf_5 : decode cX10_lettersOf 5 = .ok (.lconst 0, 1) := by decide +kernel
theorem dX10_lettersOf_6 : decode cX10_lettersOf 6 = .ok (.lcmp, 1) := by decide +kernel
theorem dX10_lettersOf_7 : decode cX10_lettersOf 7 = .ok (.ifCond .le 15, 3) := by decide +kernel
theorem dX10_lettersOf_10 : decode cX10_lettersOf 10 = .ok (.iinc 2 1, 3) := by decide +kernel
theorem dX10_lettersOf_13 : decode cX10_lettersOf 13 = .ok (.lload_n 3, 1) := by decide +kernel
theorem dX10_lettersOf_14 : decode cX10_lettersOf 14 = .ok (.ldc2_w 103, 3) := by decide +kernel
theorem dX10_lettersOf_17 : decode cX10_lettersOf 17 = .ok (.ldiv, 1) := by decide +kernel
theorem dX10_lettersOf_18 : decode cX10_lettersOf 18 = .ok (.lstore_n 3, 1) := by decide +kernel
theorem dX10_lettersOf_19 : decode cX10_lettersOf 19 = .ok (.goto (-15), 3) := by decide +kernel
theorem dX10_lettersOf_22 : decode cX10_lettersOf 22 = .ok (.iload_n 2, 1) := by decide +kernel
theorem dX10_lettersOf_23 : decode cX10_lettersOf 23 = .ok (.ireturn, 1) := by decide +kernel
theorem dX10_ofEntry_0 : decode cX10_ofEntry 0 = .ok (.aload_n 0, 1) := by decide +kernel
theorem dX10_ofEntry_1 : decode cX10_ofEntry 1 = .ok (.getfield 7, 3) := by decide +kernel
theorem dX10_ofEntry_4 : decode cX10_ofEntry 4 = .ok (.bipush 86, 2) := by decide +kernel
theorem dX10_ofEntry_6 : decode cX10_ofEntry 6 = .ok (.iconst 4, 1) := by decide +kernel
theorem dX10_ofEntry_7 : decode cX10_ofEntry 7 = .ok (.iload_n 1, 1) := by decide +kernel
theorem dX10_ofEntry_8 : decode cX10_ofEntry 8 = .ok (.imul, 1) := by decide +kernel
theorem dX10_ofEntry_9 : decode cX10_ofEntry 9 = .ok (.iadd, 1) := by decide +kernel
theorem dX10_ofEntry_10 : decode cX10_ofEntry 10 = .ok (.iload_n 2, 1) := by decide +kernel
theorem dX10_ofEntry_11 : decode cX10_ofEntry 11 = .ok (.iadd, 1) := by decide +kernel
theorem dX10_ofEntry_12 : decode cX10_ofEntry 12 = .ok (.iaload, 1) := by decide +kernel
theorem dX10_ofEntry_13 : decode cX10_ofEntry 13 = .ok (.ireturn, 1) := by decide +kernel
theorem dX10_put_0 : decode cX10_put 0 = .ok (.aload_n 0, 1) := by decide +kernel
theorem dX10_put_1 : decode cX10_put 1 = .ok (.getfield 67, 3) := by decide +kernel
theorem dX10_put_4 : decode cX10_put 4 = .ok (.aload_n 0, 1) := by decide +kernel
theorem dX10_put_5 : decode cX10_put 5 = .ok (.getfield 412, 3) := by decide +kernel
theorem dX10_put_8 : decode cX10_put 8 = .ok (.iload_n 1, 1) := by decide +kernel
theorem dX10_put_9 : decode cX10_put 9 = .ok (.iastore, 1) := by decide +kernel
theorem dX10_put_10 : decode cX10_put 10 = .ok (.aload_n 0, 1) := by decide +kernel
theorem dX10_put_11 : decode cX10_put 11 = .ok (.dup, 1) := by decide +kernel
theorem dX10_put_12 : decode cX10_put 12 = .ok (.getfield 412, 3) := by decide +kernel
theorem dX10_put_15 : decode cX10_put 15 = .ok (.iconst 1, 1) := by decide +kernel
theorem dX10_put_16 : decode cX10_put 16 = .ok (.iadd, 1) := by decide +kernel
theorem dX10_put_17 : decode cX10_put 17 = .ok (.putfield 412, 3) := by decide +kernel
theorem dX10_put_20 : decode cX10_put 20 = .ok (.return_, 1) := by decide +kernel
theorem dX10_putNumber_0 : decode cX10_putNumber 0 = .ok (.iconst 1, 1) := by decide +kernel
theorem dX10_putNumber_1 : decode cX10_putNumber 1 = .ok (.istore_n 2, 1) := by decide +kernel
theorem dX10_putNumber_2 : decode cX10_putNumber 2 = .ok (.iload_n 1, 1) := by decide +kernel
theorem dX10_putNumber_3 : decode cX10_putNumber 3 = .ok (.iload_n 2, 1) := by decide +kernel
theorem dX10_putNumber_4 : decode cX10_putNumber 4 = .ok (.idiv, 1) := by decide +kernel
theorem dX10_putNumber_5 : decode cX10_putNumber 5 = .ok (.bipush 9, 2) := by decide +kernel
theorem dX10_putNumber_7 : decode cX10_putNumber 7 = .ok (.if_icmp .le 11, 3) := by decide +kernel
theorem dX10_putNumber_10 : decode cX10_putNumber 10 = .ok (.bipush 10, 2) := by decide +kernel
theorem dX10_putNumber_12 : decode cX10_putNumber 12 = .ok (.iload_n 2, 1) := by decide +kernel
theorem dX10_putNumber_13 : decode cX10_putNumber 13 = .ok (.imul, 1) := by decide +kernel
theorem dX10_putNumber_14 : decode cX10_putNumber 14 = .ok (.istore_n 2, 1) := by decide +kernel
theorem dX10_putNumber_15 : decode cX10_putNumber 15 = .ok (.goto (-13), 3) := by decide +kernel
theorem dX10_putNumber_18 : decode cX10_putNumber 18 = .ok (.iload_n 2, 1) := by decide +kernel
theorem dX10_putNumber_19 : decode cX10_putNumber 19 = .ok (.ifCond .le 24, 3) := by decide +kernel
theorem dX10_putNumber_22 : decode cX10_putNumber 22 = .ok (.aload_n 0, 1) := by decide +kernel
theorem dX10_putNumber_23 : decode cX10_putNumber 23 = .ok (.bipush 48, 2) := by decide +kernel
theorem dX10_putNumber_25 : decode cX10_putNumber 25 = .ok (.iload_n 1, 1) := by decide +kernel
theorem dX10_putNumber_26 : decode cX10_putNumber 26 = .ok (.iload_n 2, 1) := by decide +kernel
theorem dX10_putNumber_27 : decode cX10_putNumber 27 = .ok (.idiv, 1) := by decide +kernel
theorem dX10_putNumber_28 : decode cX10_putNumber 28 = .ok (.bipush 10, 2) := by decide +kernel
theorem dX10_putNumber_30 : decode cX10_putNumber 30 = .ok (.irem, 1) := by decide +kernel
theorem dX10_putNumber_31 : decode cX10_putNumber 31 = .ok (.iadd, 1) := by decide +kernel
theorem dX10_putNumber_32 : decode cX10_putNumber 32 = .ok (.invokevirtual 417, 3) := by decide +kernel
theorem dX10_putNumber_35 : decode cX10_putNumber 35 = .ok (.iload_n 2, 1) := by decide +kernel
theorem dX10_putNumber_36 : decode cX10_putNumber 36 = .ok (.bipush 10, 2) := by decide +kernel
theorem dX10_putNumber_38 : decode cX10_putNumber 38 = .ok (.idiv, 1) := by decide +kernel
theorem dX10_putNumber_39 : decode cX10_putNumber 39 = .ok (.istore_n 2, 1) := by decide +kernel
theorem dX10_putNumber_40 : decode cX10_putNumber 40 = .ok (.goto (-22), 3) := by decide +kernel
theorem dX10_putNumber_43 : decode cX10_putNumber 43 = .ok (.return_, 1) := by decide +kernel
theorem dX10_putText_0 : decode cX10_putText 0 = .ok (.iconst 0, 1) := by decide +kernel
theorem dX10_putText_1 : decode cX10_putText 1 = .ok (.istore_n 2, 1) := by decide +kernel
theorem dX10_putText_2 : decode cX10_putText 2 = .ok (.iload_n 2, 1) := by decide +kernel
theorem dX10_putText_3 : decode cX10_putText 3 = .ok (.aload_n 1, 1) := by decide +kernel
theorem dX10_putText_4 : decode cX10_putText 4 = .ok (.invokevirtual 415, 3) := by decide +kernel
theorem dX10_putText_7 : decode cX10_putText 7 = .ok (.if_icmp .ge 18, 3) := by decide +kernel
theorem dX10_putText_10 : decode cX10_putText 10 = .ok (.aload_n 0, 1) := by decide +kernel
theorem dX10_putText_11 : decode cX10_putText 11 = .ok (.aload_n 1, 1) := by decide +kernel
theorem dX10_putText_12 : decode cX10_putText 12 = .ok (.iload_n 2, 1) := by decide +kernel
theorem dX10_putText_13 : decode cX10_putText 13 = .ok (.invokevirtual 97, 3) := by decide +kernel
theorem dX10_putText_16 : decode cX10_putText 16 = .ok (.invokevirtual 417, 3) := by decide +kernel
theorem dX10_putText_19 : decode cX10_putText 19 = .ok (.iinc 2 1, 3) := by decide +kernel
theorem dX10_putText_22 : decode cX10_putText 22 = .ok (.goto (-20), 3) := by decide +kernel
theorem dX10_putText_25 : decode cX10_putText 25 = .ok (.return_, 1) := by decide +kernel
theorem dX10_splitBy_0 : decode cX10_splitBy 0 = .ok (.aload_n 0, 1) := by decide +kernel
theorem dX10_splitBy_1 : decode cX10_splitBy 1 = .ok (.iload_n 1, 1) := by decide +kernel
theorem dX10_splitBy_2 : decode cX10_splitBy 2 = .ok (.invokevirtual 375, 3) := by decide +kernel
theorem dX10_splitBy_5 : decode cX10_splitBy 5 = .ok (.i2l, 1) := by decide +kernel
theorem dX10_splitBy_6 : decode cX10_splitBy 6 = .ok (.iload_n 2, 1) := by decide +kernel
theorem dX10_splitBy_7 : decode cX10_splitBy 7 = .ok (.i2l, 1) := by decide +kernel
theorem dX10_splitBy_8 : decode cX10_splitBy 8 = .ok (.lmul, 1) := by decide +kernel
theorem dX10_splitBy_9 : decode cX10_splitBy 9 = .ok (.ldc2_w 343, 3) := by decide +kernel
theorem dX10_splitBy_12 : decode cX10_splitBy 12 = .ok (.ldiv, 1) := by decide +kernel
theorem dX10_splitBy_13 : decode cX10_splitBy 13 = .ok (.l2i, 1) := by decide +kernel
theorem dX10_splitBy_14 : decode cX10_splitBy 14 = .ok (.ireturn, 1) := by decide +kernel
theorem dX10_splitSum_0 : decode cX10_splitSum 0 = .ok (.aload_n 0, 1) := by decide +kernel
theorem dX10_splitSum_1 : decode cX10_splitSum 1 = .ok (.iload_n 1, 1) := by decide +kernel
theorem dX10_splitSum_2 : decode cX10_splitSum 2 = .ok (.invokevirtual 277, 3) := by decide +kernel
theorem dX10_splitSum_5 : decode cX10_splitSum 5 = .ok (.aload_n 0, 1) := by decide +kernel
theorem dX10_splitSum_6 : decode cX10_splitSum 6 = .ok (.invokevirtual 298, 3) := by decide +kernel
theorem dX10_splitSum_9 : decode cX10_splitSum 9 = .ok (.aload_n 0, 1) := by decide +kernel
theorem dX10_splitSum_10 : decode cX10_splitSum 10 = .ok (.iload_n 1, 1) := by decide +kernel
theorem dX10_splitSum_11 : decode cX10_splitSum 11 = .ok (.iconst 3, 1) := by decide +kernel
theorem dX10_splitSum_12 : decode cX10_splitSum 12 = .ok (.invokevirtual 261, 3) := by decide +kernel
theorem dX10_splitSum_15 : decode cX10_splitSum 15 = .ok (.iadd, 1) := by decide +kernel
theorem dX10_splitSum_16 : decode cX10_splitSum 16 = .ok (.invokestatic 301, 3) := by decide +kernel
theorem dX10_splitSum_19 : decode cX10_splitSum 19 = .ok (.ireturn, 1) := by decide +kernel
theorem dX10_stateWord_0 : decode cX10_stateWord 0 = .ok (.iload_n 0, 1) := by decide +kernel
theorem dX10_stateWord_1 : decode cX10_stateWord 1 = .ok (.tableswitch 55 0 4 #[35, 39, 43, 47, 51], 35) := by decide +kernel
theorem dX10_stateWord_36 : decode cX10_stateWord 36 = .ok (.ldc_w 420, 3) := by decide +kernel
theorem dX10_stateWord_39 : decode cX10_stateWord 39 = .ok (.areturn, 1) := by decide +kernel
theorem dX10_stateWord_40 : decode cX10_stateWord 40 = .ok (.ldc_w 421, 3) := by decide +kernel
theorem dX10_stateWord_43 : decode cX10_stateWord 43 = .ok (.areturn, 1) := by decide +kernel
theorem dX10_stateWord_44 : decode cX10_stateWord 44 = .ok (.ldc_w 423, 3) := by decide +kernel
theorem dX10_stateWord_47 : decode cX10_stateWord 47 = .ok (.areturn, 1) := by decide +kernel
theorem dX10_stateWord_48 : decode cX10_stateWord 48 = .ok (.ldc_w 425, 3) := by decide +kernel
theorem dX10_stateWord_51 : decode cX10_stateWord 51 = .ok (.areturn, 1) := by decide +kernel
theorem dX10_stateWord_52 : decode cX10_stateWord 52 = .ok (.ldc_w 427, 3) := by decide +kernel
theorem dX10_stateWord_55 : decode cX10_stateWord 55 = .ok (.areturn, 1) := by decide +kernel
theorem dX10_stateWord_56 : decode cX10_stateWord 56 = .ok (.ldc_w 429, 3) := by decide +kernel
theorem dX10_stateWord_59 : decode cX10_stateWord 59 = .ok (.areturn, 1) := by decide +kernel
