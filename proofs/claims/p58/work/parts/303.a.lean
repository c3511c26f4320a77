set_option maxRecDepth 20000 in
theorem ggX10_availableNow_X10_of : GoodIn wsX10_availableNow wsX10_of := goodIn_r _ [6, 1, 7, 8, 9, 10, 11, 12, 13, 14, 15, 16, 17, 18, 19, 20, 21, 22, 23, 24, 25, 26, 27, 28, 29, 30, 31, 32, 33, 34, 35, 36, 37, 38, 39, 40, 41, 42, 43, 44, 45] rfl (by decide +kernel)
set_option maxRecDepth 20000 in
theorem gX10_availableNow_X10_of : GoodIn wsX10_availableNow (wsV RX10 261 RX10 yX10_of wsX10_of) := goodIn_app (goodIn_r _ [2, 3, 4, 5] rfl (by decide +kernel)) ggX10_availableNow_X10_of
set_option maxRecDepth 20000 in
theorem ggX10_doneSet_X10_of : GoodIn wsX10_doneSet wsX10_of := goodIn_r _ [6, 1, 7, 8, 9, 10, 11, 12, 13, 14, 15, 16, 17, 18, 19, 20, 21, 22, 23, 24, 25, 26, 27, 28, 29, 30, 31, 32, 33, 34, 35, 36, 37, 38, 39, 40, 41, 42, 43, 44, 45] rfl (by decide +kernel)
set_option maxRecDepth 20000 in
theorem gX10_doneSet_X10_of : GoodIn wsX10_doneSet (wsV RX10 261 RX10 yX10_of wsX10_of) := goodIn_app (goodIn_r _ [2, 3, 4, 5] rfl (by decide +kernel)) ggX10_doneSet_X10_of
set_option maxRecDepth 20000 in
theorem ggX10_dueBefore_X10_of : GoodIn wsX10_dueBefore wsX10_of := goodIn_r _ [6, 1, 7, 8, 9, 10, 11, 12, 13, 14, 15, 16, 17, 18, 19, 20, 21, 22, 23, 24, 25, 26, 27, 28, 29, 30, 31, 32, 33, 34, 35, 36, 37, 38, 39, 40, 41, 42, 43, 44, 45] rfl (by decide +kernel)
set_option maxRecDepth 20000 in
theorem gX10_dueBefore_X10_of : GoodIn wsX10_dueBefore (wsV RX10 261 RX10 yX10_of wsX10_of) := goodIn_app (goodIn_r _ [2, 3, 4, 5] rfl (by decide +kernel)) ggX10_dueBefore_X10_of
set_option maxRecDepth 20000 in
theorem ggX10_dueDay_X10_of : GoodIn wsX10_dueDay wsX10_of := goodIn_r _ [18, 6, 19, 20, 21, 22, 23, 24, 25, 26, 27, 28, 29, 30, 31, 32, 33, 34, 35, 36, 37, 38, 39, 40, 41, 42, 43, 44, 45, 46, 47, 48, 49, 50, 51, 52, 53, 54, 55, 56, 57] rfl (by decide +kernel)
set_option maxRecDepth 20000 in
theorem gX10_dueDay_X10_of : GoodIn wsX10_dueDay (wsV RX10 261 RX10 yX10_of wsX10_of) := goodIn_app (goodIn_r _ [15, 16, 17, 4] rfl (by decide +kernel)) ggX10_dueDay_X10_of
set_option maxRecDepth 20000 in
theorem ggX10_dueWith_X10_dueBefore : GoodIn wsX10_dueWith wsX10_dueBefore := goodIn_r _ [10, 1, 2, 3, 4, 5, 6, 11, 12, 13, 14, 15, 16, 17, 18, 19, 20, 21, 22, 23, 24, 25, 26, 27, 28, 29, 30, 31, 32, 33, 34, 35, 36, 37, 38, 39, 40, 41, 42, 43, 44, 45, 46, 47, 48, 49] rfl (by decide +kernel)
set_option maxRecDepth 20000 in
theorem gX10_dueWith_X10_dueBefore : GoodIn wsX10_dueWith (wsV RX10 292 RX10 yX10_dueBefore wsX10_dueBefore) := goodIn_app (goodIn_r _ [7, 8, 9, 5] rfl (by decide +kernel)) ggX10_dueWith_X10_dueBefore
set_option maxRecDepth 20000 in
theorem ggX10_dueWith_X10_of : GoodIn wsX10_dueWith wsX10_of := goodIn_r _ [6, 1, 11, 12, 13, 14, 15, 16, 17, 18, 19, 20, 21, 22, 23, 24, 25, 26, 27, 28, 29, 30, 31, 32, 33, 34, 35, 36, 37, 38, 39, 40, 41, 42, 43, 44, 45, 46, 47, 48, 49] rfl (by decide +kernel)
set_option maxRecDepth 20000 in
theorem gX10_dueWith_X10_of : GoodIn wsX10_dueWith (wsV RX10 261 RX10 yX10_of wsX10_of) := goodIn_app (goodIn_r _ [2, 3, 4, 5] rfl (by decide +kernel)) ggX10_dueWith_X10_of
set_option maxRecDepth 20000 in
theorem ggX10_frozen_X10_of : GoodIn wsX10_frozen wsX10_of := goodIn_r _ [18, 6, 19, 20, 21, 22, 23, 24, 25, 26, 27, 28, 29, 30, 31, 32, 33, 34, 35, 36, 37, 38, 39, 40, 41, 42, 43, 44, 45, 46, 47, 48, 49, 50, 51, 52, 53, 54, 55, 56, 57] rfl (by decide +kernel)
set_option maxRecDepth 20000 in
theorem gX10_frozen_X10_of : GoodIn wsX10_frozen (wsV RX10 261 RX10 yX10_of wsX10_of) := goodIn_app (goodIn_r _ [15, 16, 17, 4] rfl (by decide +kernel)) ggX10_frozen_X10_of
set_option maxRecDepth 20000 in
theorem ggX10_holdsBy_X10_isFact : GoodIn wsX10_holdsBy wsX10_isFact := goodIn_r _ [9, 10, 11, 12, 13, 8, 14, 15, 16, 17, 18, 19, 20, 21, 22, 23, 24, 25, 26, 27, 28, 29, 30, 31, 32, 33, 34, 35, 36, 37, 38, 39, 40, 41, 42, 43, 44, 45, 46, 47, 48, 49, 50, 51, 52, 53] rfl (by decide +kernel)
set_option maxRecDepth 20000 in
theorem gX10_holdsBy_X10_isFact : GoodIn wsX10_holdsBy (wsV RX10 280 RX10 yX10_isFact wsX10_isFact) := goodIn_app (goodIn_r _ [5, 6, 7, 8] rfl (by decide +kernel)) ggX10_holdsBy_X10_isFact
set_option maxRecDepth 20000 in
theorem ggX10_holdsNow_X10_doneSet : GoodIn wsX10_holdsNow wsX10_doneSet := goodIn_r _ [6, 1, 7, 8, 9, 5, 10, 23, 24, 25, 26, 27, 28, 29, 30, 31, 32, 33, 34, 35, 36, 37, 38, 39, 40, 41, 42, 43, 44, 45, 46, 47, 48, 49, 50, 51, 52, 53, 54, 55, 56, 57, 58, 59, 60, 61] rfl (by decide +kernel)
set_option maxRecDepth 20000 in
theorem gX10_holdsNow_X10_doneSet : GoodIn wsX10_holdsNow (wsV RX10 284 RX10 yX10_doneSet wsX10_doneSet) := goodIn_app (goodIn_r _ [2, 3, 4, 5] rfl (by decide +kernel)) ggX10_holdsNow_X10_doneSet
set_option maxRecDepth 20000 in
theorem ggX10_holdsNow_X10_holdsBy : GoodIn wsX10_holdsNow wsX10_holdsBy := goodIn_r _ [14, 15, 16, 17, 18, 19, 20, 21, 5, 22, 1, 7, 8, 9, 10, 23, 24, 25, 26, 27, 28, 29, 30, 31, 32, 33, 34, 35, 36, 37, 38, 39, 40, 41, 42, 43, 44, 45, 46, 47, 48, 49, 50, 51, 52, 53, 54, 55, 56, 57, 58, 59, 60, 61] rfl (by decide +kernel)
set_option maxRecDepth 20000 in
theorem gX10_holdsNow_X10_holdsBy : GoodIn wsX10_holdsNow (wsV RX10 288 RX10 yX10_holdsBy wsX10_holdsBy) := goodIn_app (goodIn_r _ [11, 12, 13, 5] rfl (by decide +kernel)) ggX10_holdsNow_X10_holdsBy
set_option maxRecDepth 20000 in
theorem ggX10_isClosed_X10_of : GoodIn wsX10_isClosed wsX10_of := goodIn_r _ [5, 6, 7, 8, 9, 10, 11, 12, 13, 14, 15, 16, 17, 18, 19, 20, 21, 22, 23, 24, 25, 26, 27, 28, 29, 30, 31, 32, 33, 34, 35, 36, 37, 38, 39, 40, 41, 42, 43, 44, 45] rfl (by decide +kernel)
set_option maxRecDepth 20000 in
theorem gX10_isClosed_X10_of : GoodIn wsX10_isClosed (wsV RX10 261 RX10 yX10_of wsX10_of) := goodIn_app (goodIn_r _ [1, 2, 3, 4] rfl (by decide +kernel)) ggX10_isClosed_X10_of
set_option maxRecDepth 20000 in
theorem ggX10_isFact_X10_of : GoodIn wsX10_isFact wsX10_of := goodIn_r _ [6, 1, 7, 8, 9, 10, 11, 12, 13, 14, 15, 16, 17, 18, 19, 20, 21, 22, 23, 24, 25, 26, 27, 28, 29, 30, 31, 32, 33, 34, 35, 36, 37, 38, 39, 40, 41, 42, 43, 44, 45] rfl (by decide +kernel)
set_option maxRecDepth 20000 in
theorem gX10_isFact_X10_of : GoodIn wsX10_isFact (wsV RX10 261 RX10 yX10_of wsX10_of) := goodIn_app (goodIn_r _ [2, 3, 4, 5] rfl (by decide +kernel)) ggX10_isFact_X10_of
set_option maxRecDepth 20000 in
theorem ggX10_isRipe_X10_of : GoodIn wsX10_isRipe wsX10_of := goodIn_r _ [6, 1, 7, 8, 9, 10, 11, 12, 13, 14, 15, 16, 17, 18, 19, 20, 21, 22, 23, 24, 25, 26, 27, 28, 29, 30, 31, 32, 33, 34, 35, 36, 37, 38, 39, 40, 41, 42, 43, 44, 45] rfl (by decide +kernel)
set_option maxRecDepth 20000 in
theorem gX10_isRipe_X10_of : GoodIn wsX10_isRipe (wsV RX10 261 RX10 yX10_of wsX10_of) := goodIn_app (goodIn_r _ [2, 3, 4, 5] rfl (by decide +kernel)) ggX10_isRipe_X10_of
set_option maxRecDepth 20000 in
theorem ggX10_paid_X10_of : GoodIn wsX10_paid wsX10_of := goodIn_r _ [18, 6, 19, 20, 21, 22, 23, 24, 25, 26, 27, 28, 29, 30, 31, 32, 33, 34, 35, 36, 37, 38, 39, 40, 41, 42, 43, 44, 45, 46, 47, 48, 49, 50, 51, 52, 53, 54, 55, 56, 57] rfl (by decide +kernel)
set_option maxRecDepth 20000 in
theorem gX10_paid_X10_of : GoodIn wsX10_paid (wsV RX10 261 RX10 yX10_of wsX10_of) := goodIn_app (goodIn_r _ [15, 16, 17, 4] rfl (by decide +kernel)) ggX10_paid_X10_of
set_option maxRecDepth 20000 in
theorem ggX10_remainingOf_X10_isClosed : GoodIn wsX10_remainingOf wsX10_isClosed := goodIn_r _ [5, 6, 7, 8, 4, 9, 10, 11, 12, 13, 14, 15, 16, 17, 18, 19, 20, 21, 22, 23, 24, 25, 26, 27, 28, 29, 30, 31, 32, 33, 34, 35, 36, 37, 38, 39, 40, 41, 42, 43, 44, 45, 46, 47, 48, 49] rfl (by decide +kernel)
set_option maxRecDepth 20000 in
theorem gX10_remainingOf_X10_isClosed : GoodIn wsX10_remainingOf (wsV RX10 265 RX10 yX10_isClosed wsX10_isClosed) := goodIn_app (goodIn_r _ [1, 2, 3, 4] rfl (by decide +kernel)) ggX10_remainingOf_X10_isClosed
set_option maxRecDepth 20000 in
theorem ggX10_remainingOf_X10_of : GoodIn wsX10_remainingOf wsX10_of := goodIn_r _ [9, 10, 11, 12, 13, 14, 15, 16, 17, 18, 19, 20, 21, 22, 23, 24, 25, 26, 27, 28, 29, 30, 31, 32, 33, 34, 35, 36, 37, 38, 39, 40, 41, 42, 43, 44, 45, 46, 47, 48, 49] rfl (by decide +kernel)
set_option maxRecDepth 20000 in
theorem gX10_remainingOf_X10_of : GoodIn wsX10_remainingOf (wsV RX10 261 RX10 yX10_of wsX10_of) := goodIn_app (goodIn_r _ [6, 7, 8, 4] rfl (by decide +kernel)) ggX10_remainingOf_X10_of
set_option maxRecDepth 20000 in
theorem ggX10_remaining_X10_remainingOf : GoodIn wsX10_remaining wsX10_remainingOf := goodIn_r _ [18, 19, 20, 21, 4, 22, 23, 24, 25, 26, 6, 27, 28, 29, 30, 31, 32, 33, 34, 35, 36, 37, 38, 39, 40, 41, 42, 43, 44, 45, 46, 47, 48, 49, 50, 51, 52, 53, 54, 55, 56, 57, 58, 59, 60, 61, 62, 63, 64, 65] rfl (by decide +kernel)
set_option maxRecDepth 20000 in
theorem gX10_remaining_X10_remainingOf : GoodIn wsX10_remaining (wsV RX10 277 RX10 yX10_remainingOf wsX10_remainingOf) := goodIn_app (goodIn_r _ [15, 16, 17, 4] rfl (by decide +kernel)) ggX10_remaining_X10_remainingOf
set_option maxRecDepth 20000 in
theorem ggX10_state_X10_of : GoodIn wsX10_state wsX10_of := goodIn_r _ [18, 6, 19, 20, 21, 22, 23, 24, 25, 26, 27, 28, 29, 30, 31, 32, 33, 34, 35, 36, 37, 38, 39, 40, 41, 42, 43, 44, 45, 46, 47, 48, 49, 50, 51, 52, 53, 54, 55, 56, 57] rfl (by decide +kernel)
set_option maxRecDepth 20000 in
theorem gX10_state_X10_of : GoodIn wsX10_state (wsV RX10 261 RX10 yX10_of wsX10_of) := goodIn_app (goodIn_r _ [15, 16, 17, 4] rfl (by decide +kernel)) ggX10_state_X10_of
set_option maxRecDepth 20000 in
theorem ggX3_addMilestone_X3_hasRoomForMilestone : GoodIn wsX3_addMilestone wsX3_hasRoomForMilestone := goodIn_r _ [12, 1, 13, 14, 15, 16, 17, 18, 19, 20, 21, 22, 23, 24, 25, 26, 27, 28, 29] rfl (by decide +kernel)
set_option maxRecDepth 20000 in
theorem gX3_addMilestone_X3_hasRoomForMilestone : GoodIn wsX3_addMilestone (wsV RX3 69 RX3 yX3_hasRoomForMilestone wsX3_hasRoomForMilestone) := goodIn_app (goodIn_r _ [8, 9, 10, 11] rfl (by decide +kernel)) ggX3_addMilestone_X3_hasRoomForMilestone
set_option maxRecDepth 20000 in
theorem ggX4_readMilestone_X3_addMilestone : GoodIn wsX4_readMilestone wsX3_addMilestone := goodIn_r _ [79, 12, 80, 81, 30, 82, 83, 50, 84, 8, 9, 10, 11, 94, 95, 96, 97, 98, 99, 100, 101, 102, 103, 104, 105, 106, 107, 108, 109, 110] rfl (by decide +kernel)
set_option maxRecDepth 20000 in
theorem gX4_readMilestone_X3_addMilestone : GoodIn wsX4_readMilestone (wsV RX4 134 RX3 yX3_addMilestone wsX3_addMilestone) := goodIn_app (goodIn_r _ [76, 77, 78, 10] rfl (by decide +kernel)) ggX4_readMilestone_X3_addMilestone
set_option maxRecDepth 20000 in
theorem ggX4_readMilestone_X3_hasRoomForMilestone : GoodIn wsX4_readMilestone wsX3_hasRoomForMilestone := goodIn_r _ [11, 12, 94, 95, 96, 97, 98, 99, 100, 101, 102, 103, 104, 105, 106, 107, 108, 109, 110] rfl (by decide +kernel)
set_option maxRecDepth 20000 in
theorem gX4_readMilestone_X3_hasRoomForMilestone : GoodIn wsX4_readMilestone (wsV RX4 124 RX3 yX3_hasRoomForMilestone wsX3_hasRoomForMilestone) := goodIn_app (goodIn_r _ [7, 8, 9, 10] rfl (by decide +kernel)) ggX4_readMilestone_X3_hasRoomForMilestone
set_option maxRecDepth 20000 in
theorem ggX4_readMilestone_X3_milestoneNamed : GoodIn wsX4_readMilestone wsX3_milestoneNamed := goodIn_r _ [29, 12, 30, 94, 95, 96, 97, 98, 99, 100, 101, 102, 103, 104, 105, 106, 107, 108, 109, 110] rfl (by decide +kernel)
set_option maxRecDepth 20000 in
theorem gX4_readMilestone_X3_milestoneNamed : GoodIn wsX4_readMilestone (wsV RX4 127 RX3 yX3_milestoneNamed wsX3_milestoneNamed) := goodIn_app (goodIn_r _ [26, 27, 28, 10] rfl (by decide +kernel)) ggX4_readMilestone_X3_milestoneNamed
set_option maxRecDepth 20000 in
theorem ggX4_readMilestone_X4_fail : GoodIn wsX4_readMilestone wsX4_fail := goodIn_r _ [17, 4, 18, 19, 20, 85, 86, 87, 88, 89, 90, 91, 92, 93] rfl (by decide +kernel)
set_option maxRecDepth 20000 in
theorem gX4_readMilestone_X4_fail : GoodIn wsX4_readMilestone (wsV RX4 63 RX4 yX4_fail wsX4_fail) := goodIn_app (goodIn_r _ [13, 14, 15, 16] rfl (by decide +kernel)) ggX4_readMilestone_X4_fail
set_option maxRecDepth 20000 in
theorem ggX4_readMilestone_X4_lookAt : GoodIn wsX4_readMilestone wsX4_lookAt := goodIn_r _ [24, 25, 2, 4, 19, 3, 85, 86, 87, 88, 89, 90, 91, 92, 93, 111, 112, 113, 114] rfl (by decide +kernel)
set_option maxRecDepth 20000 in
theorem gX4_readMilestone_X4_lookAt : GoodIn wsX4_readMilestone (wsV RX4 38 RX4 yX4_lookAt wsX4_lookAt) := goodIn_app (goodIn_r _ [21, 22, 23, 16] rfl (by decide +kernel)) ggX4_readMilestone_X4_lookAt
set_option maxRecDepth 20000 in
theorem ggX4_readMilestone_X4_readCondition : GoodIn wsX4_readMilestone wsX4_readCondition := goodIn_r _ [42, 4, 2, 1, 43, 44, 45, 16, 21, 22, 23, 24, 25, 19, 3, 46, 47, 48, 10, 49, 50, 51, 52, 53, 54, 55, 56, 57, 6, 5, 13, 14, 15, 17, 18, 20, 58, 59, 60, 61, 39, 40, 41, 31, 32, 33, 34, 35, 36, 37, 38, 62, 63, 64, 65, 66, 67, 68, 69, 70, 71, 72, 73, 74, 75, 26, 27, 28, 29, 12, 30, 85, 86, 87, 88, 89, 90, 91, 92, 93, 111, 112, 113, 114, 94, 95, 96, 97, 98, 99, 100, 101, 102, 103, 104, 105, 106, 107, 108, 109, 110] rfl (by decide +kernel)
set_option maxRecDepth 20000 in
theorem gX4_readMilestone_X4_readCondition : GoodIn wsX4_readMilestone (wsV RX4 131 RX4 yX4_readCondition wsX4_readCondition) := goodIn_app (goodIn_r _ [39, 40, 41, 16] rfl (by decide +kernel)) ggX4_readMilestone_X4_readCondition
set_option maxRecDepth 20000 in
theorem ggX4_readMilestone_X4_take : GoodIn wsX4_readMilestone wsX4_take := goodIn_r _ [34, 4, 2, 13, 14, 15, 16, 17, 18, 19, 20, 21, 22, 23, 24, 25, 3, 85, 86, 87, 88, 89, 90, 91, 92, 93, 111, 112, 113, 114] rfl (by decide +kernel)
set_option maxRecDepth 20000 in
theorem gX4_readMilestone_X4_take : GoodIn wsX4_readMilestone (wsV RX4 108 RX4 yX4_take wsX4_take) := goodIn_app (goodIn_r _ [31, 32, 33, 16] rfl (by decide +kernel)) ggX4_readMilestone_X4_take
set_option maxRecDepth 20000 in
theorem ggX4_readMilestone_X4_takeNumber : GoodIn wsX4_readMilestone wsX4_takeNumber := goodIn_r _ [38, 4, 3, 6, 2, 13, 14, 15, 16, 17, 18, 19, 20, 21, 22, 23, 24, 25, 85, 86, 87, 88, 89, 90, 91, 92, 93, 111, 112, 113, 114] rfl (by decide +kernel)
set_option maxRecDepth 20000 in
theorem gX4_readMilestone_X4_takeNumber : GoodIn wsX4_readMilestone (wsV RX4 94 RX4 yX4_takeNumber wsX4_takeNumber) := goodIn_app (goodIn_r _ [35, 36, 37, 16] rfl (by decide +kernel)) ggX4_readMilestone_X4_takeNumber
set_option maxRecDepth 20000 in
theorem ggX4_readText_X4_fail : GoodIn wsX4_readText wsX4_fail := goodIn_r _ [128, 5, 3, 114, 4, 217, 218, 219, 220, 221, 222, 223, 224, 225] rfl (by decide +kernel)
set_option maxRecDepth 20000 in
theorem gX4_readText_X4_fail : GoodIn wsX4_readText (wsV RX4 63 RX4 yX4_fail wsX4_fail) := goodIn_app (goodIn_r _ [125, 126, 127, 111] rfl (by decide +kernel)) ggX4_readText_X4_fail
set_option maxRecDepth 20000 in
theorem ggX4_readText_X4_readDeposit : GoodIn wsX4_readText wsX4_readDeposit := goodIn_r _ [149, 2, 113, 150, 120, 151, 152, 153, 98, 154, 104, 155, 125, 126, 127, 111, 128, 5, 3, 114, 4, 108, 109, 110, 112, 1, 115, 121, 122, 123, 124, 156, 157, 158, 159, 160, 134, 135, 136, 137, 217, 218, 219, 220, 221, 222, 223, 224, 225, 234, 235, 236, 237, 238, 239, 240, 241, 242, 243, 244, 245, 246, 247, 248, 249, 250, 226, 227, 228, 229] rfl (by decide +kernel)
set_option maxRecDepth 20000 in
theorem gX4_readText_X4_readDeposit : GoodIn wsX4_readText (wsV RX4 57 RX4 yX4_readDeposit wsX4_readDeposit) := goodIn_app (goodIn_r _ [146, 147, 148, 111] rfl (by decide +kernel)) ggX4_readText_X4_readDeposit
set_option maxRecDepth 20000 in
theorem ggX4_readText_X4_readFee : GoodIn wsX4_readText wsX4_readFee := goodIn_r _ [141, 113, 2, 120, 108, 109, 110, 111, 112, 1, 5, 114, 115, 121, 122, 123, 124, 125, 126, 127, 128, 3, 4, 134, 135, 136, 137, 217, 218, 219, 220, 221, 222, 223, 224, 225, 234, 235, 236, 237, 238, 239, 240, 241, 242, 243, 244, 245, 246, 247, 248, 249, 250, 226, 227, 228, 229] rfl (by decide +kernel)
set_option maxRecDepth 20000 in
theorem gX4_readText_X4_readFee : GoodIn wsX4_readText (wsV RX4 51 RX4 yX4_readFee wsX4_readFee) := goodIn_app (goodIn_r _ [138, 139, 140, 111] rfl (by decide +kernel)) ggX4_readText_X4_readFee
set_option maxRecDepth 20000 in
theorem ggX4_readText_X4_readGrace : GoodIn wsX4_readText wsX4_readGrace := goodIn_r _ [145, 113, 2, 120, 108, 109, 110, 111, 112, 1, 5, 114, 115, 121, 122, 123, 124, 125, 126, 127, 128, 3, 4, 134, 135, 136, 137, 217, 218, 219, 220, 221, 222, 223, 224, 225, 234, 235, 236, 237, 238, 239, 240, 241, 242, 243, 244, 245, 246, 247, 248, 249, 250, 226, 227, 228, 229] rfl (by decide +kernel)
set_option maxRecDepth 20000 in
theorem gX4_readText_X4_readGrace : GoodIn wsX4_readText (wsV RX4 54 RX4 yX4_readGrace wsX4_readGrace) := goodIn_app (goodIn_r _ [142, 143, 144, 111] rfl (by decide +kernel)) ggX4_readText_X4_readGrace
set_option maxRecDepth 20000 in
theorem ggX4_readText_X4_readMilestone : GoodIn wsX4_readText wsX4_readMilestone := goodIn_r _ [164, 2, 113, 115, 5, 150, 120, 165, 166, 167, 98, 168, 105, 125, 126, 127, 111, 128, 3, 114, 4, 108, 109, 110, 112, 1, 169, 170, 171, 172, 173, 134, 135, 136, 137, 121, 122, 123, 124, 174, 175, 176, 177, 178, 179, 180, 181, 182, 183, 184, 107, 185, 186, 187, 188, 189, 190, 191, 192, 193, 40, 194, 195, 196, 197, 198, 199, 200, 201, 202, 106, 203, 204, 205, 206, 207, 208, 209, 210, 211, 212, 213, 214, 215, 216, 217, 218, 219, 220, 221, 222, 223, 224, 225, 234, 235, 236, 237, 238, 239, 240, 241, 242, 243, 244, 245, 246, 247, 248, 249, 250, 226, 227, 228, 229] rfl (by decide +kernel)
set_option maxRecDepth 20000 in
theorem gX4_readText_X4_readMilestone : GoodIn wsX4_readText (wsV RX4 60 RX4 yX4_readMilestone wsX4_readMilestone) := goodIn_app (goodIn_r _ [161, 162, 163, 111] rfl (by decide +kernel)) ggX4_readText_X4_readMilestone
set_option maxRecDepth 20000 in
theorem ggX4_readText_X4_readRate : GoodIn wsX4_readText wsX4_readRate := goodIn_r _ [119, 113, 2, 120, 5, 115, 108, 109, 110, 111, 112, 1, 114, 121, 122, 123, 124, 125, 126, 127, 128, 3, 4, 129, 130, 131, 132, 133, 134, 135, 136, 137, 217, 218, 219, 220, 221, 222, 223, 224, 225, 234, 235, 236, 237, 238, 239, 240, 241, 242, 243, 244, 245, 246, 247, 248, 249, 250, 226, 227, 228, 229] rfl (by decide +kernel)
set_option maxRecDepth 20000 in
theorem gX4_readText_X4_readRate : GoodIn wsX4_readText (wsV RX4 47 RX4 yX4_readRate wsX4_readRate) := goodIn_app (goodIn_r _ [116, 117, 118, 111] rfl (by decide +kernel)) ggX4_readText_X4_readRate
theorem dX10_dueBefore_0 : decode cX10_dueBefore 0 = .ok (.iconst 0, 1) := by decide +kernel
theorem dX10_dueBefore_1 : decode cX10_dueBefore 1 = .ok (.istore_n 2, 1) := by decide +kernel
theorem dX10_dueBefore_2 : decode cX10_dueBefore 2 = .ok (.iconst 0, 1) := by decide +kernel
theorem dX10_dueBefore_3 : decode cX10_dueBefore 3 = .ok (.istore_n 3, 1) := by decide +kernel
theorem dX10_dueBefore_4 : decode cX10_dueBefore 4 = .ok (.iload_n 3, 1) := by decide +kernel
theorem dX10_dueBefore_5 : decode cX10_dueBefore 5 = .ok (.aload_n 0, 1) := by decide +kernel
theorem dX10_dueBefore_6 : decode cX10_dueBefore 6 = .ok (.getfield 7, 3) := by decide +kernel
theorem dX10_dueBefore_9 : decode cX10_dueBefore 9 = .ok (.bipush 13, 2) := by decide +kernel
theorem dX10_dueBefore_11 : decode cX10_dueBefore 11 = .ok (.iaload, 1) := by decide +kernel
theorem dX10_dueBefore_12 : decode cX10_dueBefore 12 = .ok (.if_icmp .ge 78, 3) := by decide +kernel
theorem dX10_dueBefore_15 : decode cX10_dueBefore 15 = .ok (.aload_n 0, 1) := by decide +kernel
theorem dX10_dueBefore_16 : decode cX10_dueBefore 16 = .ok (.iload_n 3, 1) := by decide +kernel
theorem dX10_dueBefore_17 : decode cX10_dueBefore 17 = .ok (.bipush 6, 2) := by decide +kernel
theorem dX10_dueBefore_19 : decode cX10_dueBefore 19 = .ok (.invokevirtual 261, 3) := by decide +kernel
theorem dX10_dueBefore_22 : decode cX10_dueBefore 22 = .ok (.aload_n 0, 1) := by decide +kernel
theorem dX10_dueBefore_23 : decode cX10_dueBefore 23 = .ok (.iload_n 1, 1) := by decide +kernel
theorem dX10_dueBefore_24 : decode cX10_dueBefore 24 = .ok (.bipush 6, 2) := by decide +kernel
theorem dX10_dueBefore_26 : decode cX10_dueBefore 26 = .ok (.invokevirtual 261, 3) := by decide +kernel
theorem dX10_dueBefore_29 : decode cX10_dueBefore 29 = .ok (.if_icmp .lt 25, 3) := by decide +kernel
theorem dX10_dueBefore_32 : decode cX10_dueBefore 32 = .ok (.aload_n 0, 1) := by decide +kernel
theorem dX10_dueBefore_33 : decode cX10_dueBefore 33 = .ok (.iload_n 3, 1) := by decide +kernel
theorem dX10_dueBefore_34 : decode cX10_dueBefore 34 = .ok (.bipush 6, 2) := by decide +kernel
theorem dX10_dueBefore_36 : decode cX10_dueBefore 36 = .ok (.invokevirtual 261, 3) := by decide +kernel
theorem dX10_dueBefore_39 : decode cX10_dueBefore 39 = .ok (.aload_n 0, 1) := by decide +kernel
theorem dX10_dueBefore_40 : decode cX10_dueBefore 40 = .ok (.iload_n 1, 1) := by decide +kernel
theorem dX10_dueBefore_41 : decode cX10_dueBefore 41 = .ok (.bipush 6, 2) := by decide +kernel
theorem dX10_dueBefore_43 : decode cX10_dueBefore 43 = .ok (.invokevirtual 261, 3) := by decide +kernel
theorem dX10_dueBefore_46 : decode cX10_dueBefore 46 = .ok (.if_icmp .ne 12, 3) := by decide +kernel
theorem dX10_dueBefore_49 : decode cX10_dueBefore 49 = .ok (.iload_n 3, 1) := by decide +kernel
theorem dX10_dueBefore_50 : decode cX10_dueBefore 50 = .ok (.iload_n 1, 1) := by decide +kernel
theorem dX10_dueBefore_51 : decode cX10_dueBefore 51 = .ok (.if_icmp .ge 7, 3) := by decide +kernel
theorem dX10_dueBefore_54 : decode cX10_dueBefore 54 = .ok (.iconst 1, 1) := by decide +kernel
theorem dX10_dueBefore_55 : decode cX10_dueBefore 55 = .ok (.goto 4, 3) := by decide +kernel
theorem dX10_dueBefore_58 : decode cX10_dueBefore 58 = .ok (.iconst 0, 1) := by decide +kernel
theorem dX10_dueBefore_59 : decode cX10_dueBefore 59 = .ok (.istore 4, 2) := by decide +kernel
theorem dX10_dueBefore_61 : decode cX10_dueBefore 61 = .ok (.iload_n 2, 1) := by decide +kernel
theorem dX10_dueBefore_62 : decode cX10_dueBefore 62 = .ok (.aload_n 0, 1) := by decide +kernel
theorem dX10_dueBefore_63 : decode cX10_dueBefore 63 = .ok (.iload_n 3, 1) := by decide +kernel
theorem dX10_dueBefore_64 : decode cX10_dueBefore 64 = .ok (.iconst 2, 1) := by decide +kernel
theorem dX10_dueBefore_65 : decode cX10_dueBefore 65 = .ok (.invokevirtual 261, 3) := by decide +kernel
theorem dX10_dueBefore_68 : decode cX10_dueBefore 68 = .ok (.iconst 1, 1) := by decide +kernel
theorem dX10_dueBefore_69 : decode cX10_dueBefore 69 = .ok (.if_icmp .ne 12, 3) := by decide +kernel
theorem dX10_dueBefore_72 : decode cX10_dueBefore 72 = .ok (.iload 4, 2) := by decide +kernel
theorem dX10_dueBefore_74 : decode cX10_dueBefore 74 = .ok (.ifCond .eq 7, 3) := by decide +kernel
theorem dX10_dueBefore_77 : decode cX10_dueBefore 77 = .ok (.iconst 1, 1) := by decide +kernel
theorem dX10_dueBefore_78 : decode cX10_dueBefore 78 = .ok (.goto 4, 3) := by decide +kernel
theorem dX10_dueBefore_81 : decode cX10_dueBefore 81 = .ok (.iconst 0, 1) := by decide +kernel
theorem dX10_dueBefore_82 : decode cX10_dueBefore 82 = .ok (.iadd, 1) := by decide +kernel
theorem dX10_dueBefore_83 : decode cX10_dueBefore 83 = .ok (.istore_n 2, 1) := by decide +kernel
theorem dX10_dueBefore_84 : decode cX10_dueBefore 84 = .ok (.iinc 3 1, 3) := by decide +kernel
theorem dX10_dueBefore_87 : decode cX10_dueBefore 87 = .ok (.goto (-83), 3) := by decide +kernel
theorem dX10_dueBefore_90 : decode cX10_dueBefore 90 = .ok (.iload_n 2, 1) := by decide +kernel
theorem dX10_dueBefore_91 : decode cX10_dueBefore 91 = .ok (.ireturn, 1) := by decide +kernel
theorem dX10_feeOf_0 : decode cX10_feeOf 0 = .ok (.iload_n 1, 1) := by decide +kernel
theorem dX10_feeOf_1 : decode cX10_feeOf 1 = .ok (.i2l, 1) := by decide +kernel
theorem dX10_feeOf_2 : decode cX10_feeOf 2 = .ok (.aload_n 0, 1) := by decide +kernel
theorem dX10_feeOf_3 : decode cX10_feeOf 3 = .ok (.getfield 7, 3) := by decide +kernel
theorem dX10_feeOf_6 : decode cX10_feeOf 6 = .ok (.iconst 2, 1) := by decide +kernel
theorem dX10_feeOf_7 : decode cX10_feeOf 7 = .ok (.iaload, 1) := by decide +kernel
theorem dX10_feeOf_8 : decode cX10_feeOf 8 = .ok (.i2l, 1) := by decide +kernel
theorem dX10_feeOf_9 : decode cX10_feeOf 9 = .ok (.lmul, 1) := by decide +kernel
theorem dX10_feeOf_10 : decode cX10_feeOf 10 = .ok (.ldc2_w 268, 3) := by decide +kernel
theorem dX10_feeOf_13 : decode cX10_feeOf 13 = .ok (.ldiv, 1) := by decide +kernel
theorem dX10_feeOf_14 : decode cX10_feeOf 14 = .ok (.l2i, 1) := by decide +kernel
theorem dX10_feeOf_15 : decode cX10_feeOf 15 = .ok (.ireturn, 1) := by decide +kernel
theorem dX10_holdsBy_0 : decode cX10_holdsBy 0 = .ok (.iconst 0, 1) := by decide +kernel
theorem dX10_holdsBy_1 : decode cX10_holdsBy 1 = .ok (.istore 5, 2) := by decide +kernel
theorem dX10_holdsBy_3 : decode cX10_holdsBy 3 = .ok (.aload_n 0, 1) := by decide +kernel
theorem dX10_holdsBy_4 : decode cX10_holdsBy 4 = .ok (.getfield 54, 3) := by decide +kernel
theorem dX10_holdsBy_7 : decode cX10_holdsBy 7 = .ok (.iload_n 1, 1) := by decide +kernel
theorem dX10_holdsBy_8 : decode cX10_holdsBy 8 = .ok (.iaload, 1) := by decide +kernel
theorem dX10_holdsBy_9 : decode cX10_holdsBy 9 = .ok (.istore 6, 2) := by decide +kernel
theorem dX10_holdsBy_11 : decode cX10_holdsBy 11 = .ok (.iload 6, 2) := by decide +kernel
theorem dX10_holdsBy_13 : decode cX10_holdsBy 13 = .ok (.aload_n 0, 1) := by decide +kernel
theorem dX10_holdsBy_14 : decode cX10_holdsBy 14 = .ok (.getfield 54, 3) := by decide +kernel
theorem dX10_holdsBy_17 : decode cX10_holdsBy 17 = .ok (.iload_n 1, 1) := by decide +kernel
theorem dX10_holdsBy_18 : decode cX10_holdsBy 18 = .ok (.iconst 1, 1) := by decide +kernel
theorem dX10_holdsBy_19 : decode cX10_holdsBy 19 = .ok (.iadd, 1) := by decide +kernel
theorem dX10_holdsBy_20 : decode cX10_holdsBy 20 = .ok (.iaload, 1) := by decide +kernel
theorem dX10_holdsBy_21 : decode cX10_holdsBy 21 = .ok (.if_icmp .ge 166, 3) := by decide +kernel
theorem dX10_holdsBy_24 : decode cX10_holdsBy 24 = .ok (.aload_n 0, 1) := by decide +kernel
theorem dX10_holdsBy_25 : decode cX10_holdsBy 25 = .ok (.getfield 48, 3) := by decide +kernel
theorem dX10_holdsBy_28 : decode cX10_holdsBy 28 = .ok (.iload 6, 2) := by decide +kernel
theorem dX10_holdsBy_30 : decode cX10_holdsBy 30 = .ok (.iaload, 1) := by decide +kernel
theorem dX10_holdsBy_31 : decode cX10_holdsBy 31 = .ok (.istore 7, 2) := by decide +kernel
theorem dX10_holdsBy_33 : decode cX10_holdsBy 33 = .ok (.iload 7, 2) := by decide +kernel
theorem dX10_holdsBy_35 : decode cX10_holdsBy 35 = .ok (.bipush (-3), 2) := by decide +kernel
theorem dX10_holdsBy_37 : decode cX10_holdsBy 37 = .ok (.if_icmp .ne 32, 3) := by decide +kernel
theorem dX10_holdsBy_40 : decode cX10_holdsBy 40 = .ok (.aload_n 0, 1) := by decide +kernel
theorem dX10_holdsBy_41 : decode cX10_holdsBy 41 = .ok (.getfield 60, 3) := by decide +kernel
theorem dX10_holdsBy_44 : decode cX10_holdsBy 44 = .ok (.iload 5, 2) := by decide +kernel
theorem dX10_holdsBy_46 : decode cX10_holdsBy 46 = .ok (.iconst 1, 1) := by decide +kernel
theorem dX10_holdsBy_47 : decode cX10_holdsBy 47 = .ok (.isub, 1) := by decide +kernel
theorem dX10_holdsBy_48 : decode cX10_holdsBy 48 = .ok (.aload_n 0, 1) := by decide +kernel
theorem dX10_holdsBy_49 : decode cX10_holdsBy 49 = .ok (.getfield 60, 3) := by decide +kernel
theorem dX10_holdsBy_52 : decode cX10_holdsBy 52 = .ok (.iload 5, 2) := by decide +kernel
theorem dX10_holdsBy_54 : decode cX10_holdsBy 54 = .ok (.iconst 1, 1) := by decide +kernel
theorem dX10_holdsBy_55 : decode cX10_holdsBy 55 = .ok (.isub, 1) := by decide +kernel
theorem dX10_holdsBy_56 : decode cX10_holdsBy 56 = .ok (.baload, 1) := by decide +kernel
theorem dX10_holdsBy_57 : decode cX10_holdsBy 57 = .ok (.ifCond .ne 7, 3) := by decide +kernel
theorem dX10_holdsBy_60 : decode cX10_holdsBy 60 = .ok (.iconst 1, 1) := by decide +kernel
theorem dX10_holdsBy_61 : decode cX10_holdsBy 61 = .ok (.goto 4, 3) := by decide +kernel
theorem dX10_holdsBy_64 : decode cX10_holdsBy 64 = .ok (.iconst 0, 1) := by decide +kernel
theorem dX10_holdsBy_65 : decode cX10_holdsBy 65 = .ok (.bastore, 1) := by decide +kernel
theorem dX10_holdsBy_66 : decode cX10_holdsBy 66 = .ok (.goto 115, 3) := by decide +kernel
theorem dX10_holdsBy_69 : decode cX10_holdsBy 69 = .ok (.iload 7, 2) := by decide +kernel
theorem dX10_holdsBy_71 : decode cX10_holdsBy 71 = .ok (.ifCond .ge 81, 3) := by decide +kernel
theorem dX10_holdsBy_74 : decode cX10_holdsBy 74 = .ok (.iinc 5 (-1), 3) := by decide +kernel
theorem dX10_holdsBy_77 : decode cX10_holdsBy 77 = .ok (.aload_n 0, 1) := by decide +kernel
theorem dX10_holdsBy_78 : decode cX10_holdsBy 78 = .ok (.getfield 60, 3) := by decide +kernel
theorem dX10_holdsBy_81 : decode cX10_holdsBy 81 = .ok (.iload 5, 2) := by decide +kernel
theorem dX10_holdsBy_83 : decode cX10_holdsBy 83 = .ok (.iconst 1, 1) := by decide +kernel
theorem dX10_holdsBy_84 : decode cX10_holdsBy 84 = .ok (.isub, 1) := by decide +kernel
theorem dX10_holdsBy_85 : decode cX10_holdsBy 85 = .ok (.iload 7, 2) := by decide +kernel
theorem dX10_holdsBy_87 : decode cX10_holdsBy 87 = .ok (.iconst (-1), 1) := by decide +kernel
theorem dX10_holdsBy_88 : decode cX10_holdsBy 88 = .ok (.if_icmp .ne 33, 3) := by decide +kernel
theorem dX10_holdsBy_91 : decode cX10_holdsBy 91 = .ok (.aload_n 0, 1) := by decide +kernel
theorem dX10_holdsBy_92 : decode cX10_holdsBy 92 = .ok (.getfield 60, 3) := by decide +kernel
theorem dX10_holdsBy_95 : decode cX10_holdsBy 95 = .ok (.iload 5, 2) := by decide +kernel
theorem dX10_holdsBy_97 : decode cX10_holdsBy 97 = .ok (.iconst 1, 1) := by decide +kernel
theorem dX10_holdsBy_98 : decode cX10_holdsBy 98 = .ok (.isub, 1) := by decide +kernel
theorem dX10_holdsBy_99 : decode cX10_holdsBy 99 = .ok (.baload, 1) := by decide +kernel
theorem dX10_holdsBy_100 : decode cX10_holdsBy 100 = .ok (.ifCond .eq 17, 3) := by decide +kernel
theorem dX10_holdsBy_103 : decode cX10_holdsBy 103 = .ok (.aload_n 0, 1) := by decide +kernel
theorem dX10_holdsBy_104 : decode cX10_holdsBy 104 = .ok (.getfield 60, 3) := by decide +kernel
theorem dX10_holdsBy_107 : decode cX10_holdsBy 107 = .ok (.iload 5, 2) := by decide +kernel
theorem dX10_holdsBy_109 : decode cX10_holdsBy 109 = .ok (.baload, 1) := by decide +kernel
theorem dX10_holdsBy_110 : decode cX10_holdsBy 110 = .ok (.ifCond .eq 7, 3) := by decide +kernel
theorem dX10_holdsBy_113 : decode cX10_holdsBy 113 = .ok (.iconst 1, 1) := by decide +kernel
theorem dX10_holdsBy_114 : decode cX10_holdsBy 114 = .ok (.goto 34, 3) := by decide +kernel
theorem dX10_holdsBy_117 : decode cX10_holdsBy 117 = .ok (.iconst 0, 1) := by decide +kernel
theorem dX10_holdsBy_118 : decode cX10_holdsBy 118 = .ok (.goto 30, 3) := by decide +kernel
theorem dX10_holdsBy_121 : decode cX10_holdsBy 121 = .ok (.aload_n 0, 1) := by decide +kernel
theorem dX10_holdsBy_122 : decode cX10_holdsBy 122 = .ok (.getfield 60, 3) := by decide +kernel
theorem dX10_holdsBy_125 : decode cX10_holdsBy 125 = .ok (.iload 5, 2) := by decide +kernel
theorem dX10_holdsBy_127 : decode cX10_holdsBy 127 = .ok (.iconst 1, 1) := by decide +kernel
theorem dX10_holdsBy_128 : decode cX10_holdsBy 128 = .ok (.isub, 1) := by decide +kernel
theorem dX10_holdsBy_129 : decode cX10_holdsBy 129 = .ok (.baload, 1) := by decide +kernel
theorem dX10_holdsBy_130 : decode cX10_holdsBy 130 = .ok (.ifCond .ne 13, 3) := by decide +kernel
theorem dX10_holdsBy_133 : decode cX10_holdsBy 133 = .ok (.aload_n 0, 1) := by decide +kernel
theorem dX10_holdsBy_134 : decode cX10_holdsBy 134 = .ok (.getfield 60, 3) := by decide +kernel
theorem dX10_holdsBy_137 : decode cX10_holdsBy 137 = .ok (.iload 5, 2) := by decide +kernel
theorem dX10_holdsBy_139 : decode cX10_holdsBy 139 = .ok (.baload, 1) := by decide +kernel
theorem dX10_holdsBy_140 : decode cX10_holdsBy 140 = .ok (.ifCond .eq 7, 3) := by decide +kernel
theorem dX10_holdsBy_143 : decode cX10_holdsBy 143 = .ok (.iconst 1, 1) := by decide +kernel
theorem dX10_holdsBy_144 : decode cX10_holdsBy 144 = .ok (.goto 4, 3) := by decide +kernel
theorem dX10_holdsBy_147 : decode cX10_holdsBy 147 = .ok (.iconst 0, 1) := by decide +kernel
theorem dX10_holdsBy_148 : decode cX10_holdsBy 148 = .ok (.bastore, 1) := by decide +kernel
theorem dX10_holdsBy_149 : decode cX10_holdsBy 149 = .ok (.goto 32, 3) := by decide +kernel
theorem dX10_holdsBy_152 : decode cX10_holdsBy 152 = .ok (.aload_n 0, 1) := by decide +kernel
theorem dX10_holdsBy_153 : decode cX10_holdsBy 153 = .ok (.getfield 60, 3) := by decide +kernel
theorem dX10_holdsBy_156 : decode cX10_holdsBy 156 = .ok (.iload 5, 2) := by decide +kernel
theorem dX10_holdsBy_158 : decode cX10_holdsBy 158 = .ok (.aload_n 0, 1) := by decide +kernel
theorem dX10_holdsBy_159 : decode cX10_holdsBy 159 = .ok (.iload_n 1, 1) := by decide +kernel
theorem dX10_holdsBy_160 : decode cX10_holdsBy 160 = .ok (.iload 7, 2) := by decide +kernel
theorem dX10_holdsBy_162 : decode cX10_holdsBy 162 = .ok (.ldc 201, 2) := by decide +kernel
theorem dX10_holdsBy_164 : decode cX10_holdsBy 164 = .ok (.idiv, 1) := by decide +kernel
theorem dX10_holdsBy_165 : decode cX10_holdsBy 165 = .ok (.iload 7, 2) := by decide +kernel
theorem dX10_holdsBy_167 : decode cX10_holdsBy 167 = .ok (.ldc 201, 2) := by decide +kernel
theorem dX10_holdsBy_169 : decode cX10_holdsBy 169 = .ok (.irem, 1) := by decide +kernel
theorem dX10_holdsBy_170 : decode cX10_holdsBy 170 = .ok (.iload_n 2, 1) := by decide +kernel
theorem dX10_holdsBy_171 : decode cX10_holdsBy 171 = .ok (.iload_n 3, 1) := by decide +kernel
theorem dX10_holdsBy_172 : decode cX10_holdsBy 172 = .ok (.iload 4, 2) := by decide +kernel
theorem dX10_holdsBy_174 : decode cX10_holdsBy 174 = .ok (.invokevirtual 280, 3) := by decide +kernel
theorem dX10_holdsBy_177 : decode cX10_holdsBy 177 = .ok (.bastore, 1) := by decide +kernel
theorem dX10_holdsBy_178 : decode cX10_holdsBy 178 = .ok (.iinc 5 1, 3) := by decide +kernel
theorem dX10_holdsBy_181 : decode cX10_holdsBy 181 = .ok (.iinc 6 1, 3) := by decide +kernel
theorem dX10_holdsBy_184 : decode cX10_holdsBy 184 = .ok (.goto (-173), 3) := by decide +kernel
theorem dX10_holdsBy_187 : decode cX10_holdsBy 187 = .ok (.aload_n 0, 1) := by decide +kernel
theorem dX10_holdsBy_188 : decode cX10_holdsBy 188 = .ok (.getfield 60, 3) := by decide +kernel
theorem dX10_holdsBy_191 : decode cX10_holdsBy 191 = .ok (.iconst 0, 1) := by decide +kernel
theorem dX10_holdsBy_192 : decode cX10_holdsBy 192 = .ok (.baload, 1) := by decide +kernel
theorem dX10_holdsBy_193 : decode cX10_holdsBy 193 = .ok (.ireturn, 1) := by decide +kernel
theorem dX10_holdsNow_0 : decode cX10_holdsNow 0 = .ok (.aload_n 0, 1) := by decide +kernel
theorem dX10_holdsNow_1 : decode cX10_holdsNow 1 = .ok (.iload_n 1, 1) := by decide +kernel
theorem dX10_holdsNow_2 : decode cX10_holdsNow 2 = .ok (.aload_n 0, 1) := by decide +kernel
theorem dX10_holdsNow_3 : decode cX10_holdsNow 3 = .ok (.getfield 7, 3) := by decide +kernel
theorem dX10_holdsNow_6 : decode cX10_holdsNow 6 = .ok (.iconst 4, 1) := by decide +kernel
theorem dX10_holdsNow_7 : decode cX10_holdsNow 7 = .ok (.iaload, 1) := by decide +kernel
theorem dX10_holdsNow_8 : decode cX10_holdsNow 8 = .ok (.aload_n 0, 1) := by decide +kernel
theorem dX10_holdsNow_9 : decode cX10_holdsNow 9 = .ok (.getfield 7, 3) := by decide +kernel
theorem dX10_holdsNow_12 : decode cX10_holdsNow 12 = .ok (.bipush 12, 2) := by decide +kernel
theorem dX10_holdsNow_14 : decode cX10_holdsNow 14 = .ok (.iaload, 1) := by decide +kernel
theorem dX10_holdsNow_15 : decode cX10_holdsNow 15 = .ok (.aload_n 0, 1) := by decide +kernel
theorem dX10_holdsNow_16 : decode cX10_holdsNow 16 = .ok (.invokevirtual 284, 3) := by decide +kernel
theorem dX10_holdsNow_19 : decode cX10_holdsNow 19 = .ok (.invokevirtual 288, 3) := by decide +kernel
theorem dX10_holdsNow_22 : decode cX10_holdsNow 22 = .ok (.ireturn, 1) := by decide +kernel
theorem dX10_isClosed_0 : decode cX10_isClosed 0 = .ok (.aload_n 0, 1) := by decide +kernel
theorem dX10_isClosed_1 : decode cX10_isClosed 1 = .ok (.iload_n 1, 1) := by decide +kernel
theorem dX10_isClosed_2 : decode cX10_isClosed 2 = .ok (.iconst 2, 1) := by decide +kernel
theorem dX10_isClosed_3 : decode cX10_isClosed 3 = .ok (.invokevirtual 261, 3) := by decide +kernel
theorem dX10_isClosed_6 : decode cX10_isClosed 6 = .ok (.iconst 3, 1) := by decide +kernel
theorem dX10_isClosed_7 : decode cX10_isClosed 7 = .ok (.if_icmp .lt 7, 3) := by decide +kernel
theorem dX10_isClosed_10 : decode cX10_isClosed 10 = .ok (.iconst 1, 1) := by decide +kernel
theorem dX10_isClosed_11 : decode cX10_isClosed 11 = .ok (.goto 4, 3) := by decide +kernel
theorem dX10_isClosed_14 : decode cX10_isClosed 14 = .ok (.iconst 0, 1) := by decide +kernel
theorem dX10_isClosed_15 : decode cX10_isClosed 15 = .ok (.ireturn, 1) := by decide +kernel
theorem dX10_isFact_0 : decode cX10_isFact 0 = .ok (.iload_n 2, 1) := by decide +kernel
theorem dX10_isFact_1 : decode cX10_isFact 1 = .ok (.tableswitch 112 0 4 #[35, 47, 63, 79, 96], 35) := by decide +kernel
theorem dX10_isFact_36 : decode cX10_isFact 36 = .ok (.iload 4, 2) := by decide +kernel
theorem dX10_isFact_38 : decode cX10_isFact 38 = .ok (.iload_n 3, 1) := by decide +kernel
theorem dX10_isFact_39 : decode cX10_isFact 39 = .ok (.if_icmp .lt 7, 3) := by decide +kernel
theorem dX10_isFact_42 : decode cX10_isFact 42 = .ok (.iconst 1, 1) := by decide +kernel
theorem dX10_isFact_43 : decode cX10_isFact 43 = .ok (.goto 4, 3) := by decide +kernel
theorem dX10_isFact_46 : decode cX10_isFact 46 = .ok (.iconst 0, 1) := by decide +kernel
theorem dX10_isFact_47 : decode cX10_isFact 47 = .ok (.ireturn, 1) := by decide +kernel
theorem dX10_isFact_48 : decode cX10_isFact 48 = .ok (.iload 5, 2) := by decide +kernel
theorem dX10_isFact_50 : decode cX10_isFact 50 = .ok (.iload_n 3, 1) := by decide +kernel
theorem dX10_isFact_51 : decode cX10_isFact 51 = .ok (.ishr, 1) := by decide +kernel
theorem dX10_isFact_52 : decode cX10_isFact 52 = .ok (.iconst 1, 1) := by decide +kernel
theorem dX10_isFact_53 : decode cX10_isFact 53 = .ok (.iand, 1) := by decide +kernel
theorem dX10_isFact_54 : decode cX10_isFact 54 = .ok (.iconst 1, 1) := by decide +kernel
theorem dX10_isFact_55 : decode cX10_isFact 55 = .ok (.if_icmp .ne 7, 3) := by decide +kernel
theorem dX10_isFact_58 : decode cX10_isFact 58 = .ok (.iconst 1, 1) := by decide +kernel
theorem dX10_isFact_59 : decode cX10_isFact 59 = .ok (.goto 4, 3) := by decide +kernel
theorem dX10_isFact_62 : decode cX10_isFact 62 = .ok (.iconst 0, 1) := by decide +kernel
theorem dX10_isFact_63 : decode cX10_isFact 63 = .ok (.ireturn, 1) := by decide +kernel
theorem dX10_isFact_64 : decode cX10_isFact 64 = .ok (.iload 6, 2) := by decide +kernel
theorem dX10_isFact_66 : decode cX10_isFact 66 = .ok (.iload_n 3, 1) := by decide +kernel
theorem dX10_isFact_67 : decode cX10_isFact 67 = .ok (.ishr, 1) := by decide +kernel
theorem dX10_isFact_68 : decode cX10_isFact 68 = .ok (.iconst 1, 1) := by decide +kernel
theorem dX10_isFact_69 : decode cX10_isFact 69 = .ok (.iand, 1) := by decide +kernel
theorem dX10_isFact_70 : decode cX10_isFact 70 = .ok (.iconst 1, 1) := by decide +kernel
theorem dX10_isFact_71 : decode cX10_isFact 71 = .ok (.if_icmp .ne 7, 3) := by decide +kernel
theorem dX10_isFact_74 : decode cX10_isFact 74 = .ok (.iconst 1, 1) := by decide +kernel
theorem dX10_isFact_75 : decode cX10_isFact 75 = .ok (.goto 4, 3) := by decide +kernel
theorem dX10_isFact_78 : decode cX10_isFact 78 = .ok (.iconst 0, 1) := by decide +kernel
theorem dX10_isFact_79 : decode cX10_isFact 79 = .ok (.ireturn, 1) := by decide +kernel
theorem dX10_isFact_80 : decode cX10_isFact 80 = .ok (.aload_n 0, 1) := by decide +kernel
theorem dX10_isFact_81 : decode cX10_isFact 81 = .ok (.getfield 7, 3) := by decide +kernel
theorem dX10_isFact_84 : decode cX10_isFact 84 = .ok (.bipush 10, 2) := by decide +kernel
theorem dX10_isFact_86 : decode cX10_isFact 86 = .ok (.iaload, 1) := by decide +kernel
theorem dX10_isFact_87 : decode cX10_isFact 87 = .ok (.iload_n 3, 1) := by decide +kernel
theorem dX10_isFact_88 : decode cX10_isFact 88 = .ok (.if_icmp .lt 7, 3) := by decide +kernel
theorem dX10_isFact_91 : decode cX10_isFact 91 = .ok (.iconst 1, 1) := by decide +kernel
theorem dX10_isFact_92 : decode cX10_isFact 92 = .ok (.goto 4, 3) := by decide +kernel
theorem dX10_isFact_95 : decode cX10_isFact 95 = .ok (.iconst 0, 1) := by decide +kernel
theorem dX10_isFact_96 : decode cX10_isFact 96 = .ok (.ireturn, 1) := by decide +kernel
theorem dX10_isFact_97 : decode cX10_isFact 97 = .ok (.aload_n 0, 1) := by decide +kernel
theorem dX10_isFact_98 : decode cX10_isFact 98 = .ok (.iload_n 1, 1) := by decide +kernel
theorem dX10_isFact_99 : decode cX10_isFact 99 = .ok (.iconst 5, 1) := by decide +kernel
theorem dX10_isFact_100 : decode cX10_isFact 100 = .ok (.invokevirtual 261, 3) := by decide +kernel
theorem dX10_isFact_103 : decode cX10_isFact 103 = .ok (.iconst 1, 1) := by decide +kernel
theorem dX10_isFact_104 : decode cX10_isFact 104 = .ok (.if_icmp .ne 7, 3) := by decide +kernel
theorem dX10_isFact_107 : decode cX10_isFact 107 = .ok (.iconst 1, 1) := by decide +kernel
theorem dX10_isFact_108 : decode cX10_isFact 108 = .ok (.goto 4, 3) := by decide +kernel
theorem dX10_isFact_111 : decode cX10_isFact 111 = .ok (.iconst 0, 1) := by decide +kernel
theorem dX10_isFact_112 : decode cX10_isFact 112 = .ok (.ireturn, 1) := by decide +kernel
theorem dX10_isFact_113 : decode cX10_isFact 113 = .ok (.iconst 1, 1) := by decide +kernel
theorem dX10_isFact_114 : decode cX10_isFact 114 = .ok (.ireturn, 1) := by decide +kernel
theorem dX10_isRipe_0 : decode cX10_isRipe 0 = .ok (.aload_n 0, 1) := by decide +kernel
theorem dX10_isRipe_1 : decode cX10_isRipe 1 = .ok (.iload_n 1, 1) := by decide +kernel
theorem dX10_isRipe_2 : decode cX10_isRipe 2 = .ok (.iconst 2, 1) := by decide +kernel
theorem dX10_isRipe_3 : decode cX10_isRipe 3 = .ok (.invokevirtual 261, 3) := by decide +kernel
theorem dX10_isRipe_6 : decode cX10_isRipe 6 = .ok (.iconst 1, 1) := by decide +kernel
theorem dX10_isRipe_7 : decode cX10_isRipe 7 = .ok (.if_icmp .ne 29, 3) := by decide +kernel
theorem dX10_isRipe_10 : decode cX10_isRipe 10 = .ok (.aload_n 0, 1) := by decide +kernel
theorem dX10_isRipe_11 : decode cX10_isRipe 11 = .ok (.getfield 7, 3) := by decide +kernel
theorem dX10_isRipe_14 : decode cX10_isRipe 14 = .ok (.iconst 4, 1) := by decide +kernel
theorem dX10_isRipe_15 : decode cX10_isRipe 15 = .ok (.iaload, 1) := by decide +kernel
theorem dX10_isRipe_16 : decode cX10_isRipe 16 = .ok (.aload_n 0, 1) := by decide +kernel
theorem dX10_isRipe_17 : decode cX10_isRipe 17 = .ok (.iload_n 1, 1) := by decide +kernel
theorem dX10_isRipe_18 : decode cX10_isRipe 18 = .ok (.iconst 4, 1) := by decide +kernel
theorem dX10_isRipe_19 : decode cX10_isRipe 19 = .ok (.invokevirtual 261, 3) := by decide +kernel
theorem dX10_isRipe_22 : decode cX10_isRipe 22 = .ok (.aload_n 0, 1) := by decide +kernel
theorem dX10_isRipe_23 : decode cX10_isRipe 23 = .ok (.getfield 7, 3) := by decide +kernel
theorem dX10_isRipe_26 : decode cX10_isRipe 26 = .ok (.iconst 3, 1) := by decide +kernel
theorem dX10_isRipe_27 : decode cX10_isRipe 27 = .ok (.iaload, 1) := by decide +kernel
theorem dX10_isRipe_28 : decode cX10_isRipe 28 = .ok (.iadd, 1) := by decide +kernel
theorem dX10_isRipe_29 : decode cX10_isRipe 29 = .ok (.if_icmp .lt 7, 3) := by decide +kernel
theorem dX10_isRipe_32 : decode cX10_isRipe 32 = .ok (.iconst 1, 1) := by decide +kernel
theorem dX10_isRipe_33 : decode cX10_isRipe 33 = .ok (.goto 4, 3) := by decide +kernel
theorem dX10_isRipe_36 : decode cX10_isRipe 36 = .ok (.iconst 0, 1) := by decide +kernel
theorem dX10_isRipe_37 : decode cX10_isRipe 37 = .ok (.ireturn, 1) := by decide +kernel
theorem dX10_of_0 : decode cX10_of 0 = .ok (.aload_n 0, 1) := by decide +kernel
theorem dX10_of_1 : decode cX10_of 1 = .ok (.getfield 7, 3) := by decide +kernel
theorem dX10_of_4 : decode cX10_of 4 = .ok (.bipush 16, 2) := by decide +kernel
theorem dX10_of_6 : decode cX10_of 6 = .ok (.bipush 7, 2) := by decide +kernel
theorem dX10_of_8 : decode cX10_of 8 = .ok (.iload_n 1, 1) := by decide +kernel
theorem dX10_of_9 : decode cX10_of 9 = .ok (.imul, 1) := by decide +kernel
theorem dX10_of_10 : decode cX10_of 10 = .ok (.iadd, 1) := by decide +kernel
theorem dX10_of_11 : decode cX10_of 11 = .ok (.iload_n 2, 1) := by decide +kernel
theorem dX10_of_12 : decode cX10_of 12 = .ok (.iadd, 1) := by decide +kernel
theorem dX10_of_13 : decode cX10_of 13 = .ok (.iaload, 1) := by decide +kernel
theorem dX10_of_14 : decode cX10_of 14 = .ok (.ireturn, 1) := by decide +kernel
theorem dX10_remainingOf_0 : decode cX10_remainingOf 0 = .ok (.aload_n 0, 1) := by decide +kernel
theorem dX10_remainingOf_1 : decode cX10_remainingOf 1 = .ok (.iload_n 1, 1) := by decide +kernel
theorem dX10_remainingOf_2 : decode cX10_remainingOf 2 = .ok (.invokevirtual 265, 3) := by decide +kernel
theorem dX10_remainingOf_5 : decode cX10_remainingOf 5 = .ok (.ifCond .eq 7, 3) := by decide +kernel
theorem dX10_remainingOf_8 : decode cX10_remainingOf 8 = .ok (.iconst 0, 1) := by decide +kernel
theorem dX10_remainingOf_9 : decode cX10_remainingOf 9 = .ok (.goto 16, 3) := by decide +kernel
theorem dX10_remainingOf_12 : decode cX10_remainingOf 12 = .ok (.aload_n 0, 1) := by decide +kernel
theorem dX10_remainingOf_13 : decode cX10_remainingOf 13 = .ok (.iload_n 1, 1) := by decide +kernel
theorem dX10_remainingOf_14 : decode cX10_remainingOf 14 = .ok (.iconst 0, 1) := by decide +kernel
theorem dX10_remainingOf_15 : decode cX10_remainingOf 15 = .ok (.invokevirtual 261, 3) := by decide +kernel
theorem dX10_remainingOf_18 : decode cX10_remainingOf 18 = .ok (.aload_n 0, 1) := by decide +kernel
theorem dX10_remainingOf_19 : decode cX10_remainingOf 19 = .ok (.iload_n 1, 1) := by decide +kernel
theorem dX10_remainingOf_20 : decode cX10_remainingOf 20 = .ok (.iconst 1, 1) := by decide +kernel
theorem dX10_remainingOf_21 : decode cX10_remainingOf 21 = .ok (.invokevirtual 261, 3) := by decide +kernel
theorem dX10_remainingOf_24 : decode cX10_remainingOf 24 = .ok (.isub, 1) := by decide +kernel
theorem dX10_remainingOf_25 : decode cX10_remainingOf 25 = .ok (.ireturn, 1) := by decide +kernel
theorem dX3_addMilestone_0 : decode cX3_addMilestone 0 = .ok (.aload_n 0, 1) := by decide +kernel
theorem dX3_addMilestone_1 : decode cX3_addMilestone 1 = .ok (.invokevirtual 69, 3) := by decide +kernel
theorem dX3_addMilestone_4 : decode cX3_addMilestone 4 = .ok (.ifCond .ne 4, 3) := by decide +kernel
theorem dX3_addMilestone_7 : decode cX3_addMilestone 7 = .ok (.return_, 1) := by decide +kernel
theorem dX3_addMilestone_8 : decode cX3_addMilestone 8 = .ok (.aload_n 0, 1) := by decide +kernel
theorem dX3_addMilestone_9 : decode cX3_addMilestone 9 = .ok (.getfield 56, 3) := by decide +kernel
theorem dX3_addMilestone_12 : decode cX3_addMilestone 12 = .ok (.istore 5, 2) := by decide +kernel
theorem dX3_addMilestone_14 : decode cX3_addMilestone 14 = .ok (.iload 5, 2) := by decide +kernel
theorem dX3_addMilestone_16 : decode cX3_addMilestone 16 = .ok (.ifCond .le 44, 3) := by decide +kernel
theorem dX3_addMilestone_19 : decode cX3_addMilestone 19 = .ok (.aload_n 0, 1) := by decide +kernel
theorem dX3_addMilestone_20 : decode cX3_addMilestone 20 = .ok (.getfield 26, 3) := by decide +kernel
theorem dX3_addMilestone_23 : decode cX3_addMilestone 23 = .ok (.aload_n 0, 1) := by decide +kernel
theorem dX3_addMilestone_24 : decode cX3_addMilestone 24 = .ok (.getfield 29, 3) := by decide +kernel
theorem dX3_addMilestone_27 : decode cX3_addMilestone 27 = .ok (.iload 5, 2) := by decide +kernel
theorem dX3_addMilestone_29 : decode cX3_addMilestone 29 = .ok (.iconst 1, 1) := by decide +kernel
theorem dX3_addMilestone_30 : decode cX3_addMilestone 30 = .ok (.isub, 1) := by decide +kernel
theorem dX3_addMilestone_31 : decode cX3_addMilestone 31 = .ok (.iaload, 1) := by decide +kernel
theorem dX3_addMilestone_32 : decode cX3_addMilestone 32 = .ok (.iaload, 1) := by decide +kernel
theorem dX3_addMilestone_33 : decode cX3_addMilestone 33 = .ok (.iload 4, 2) := by decide +kernel
theorem dX3_addMilestone_35 : decode cX3_addMilestone 35 = .ok (.if_icmp .le 25, 3) := by decide +kernel
theorem dX3_addMilestone_38 : decode cX3_addMilestone 38 = .ok (.aload_n 0, 1) := by decide +kernel
theorem dX3_addMilestone_39 : decode cX3_addMilestone 39 = .ok (.getfield 29, 3) := by decide +kernel
theorem dX3_addMilestone_42 : decode cX3_addMilestone 42 = .ok (.iload 5, 2) := by decide +kernel
theorem dX3_addMilestone_44 : decode cX3_addMilestone 44 = .ok (.aload_n 0, 1) := by decide +kernel
theorem dX3_addMilestone_45 : decode cX3_addMilestone 45 = .ok (.getfield 29, 3) := by decide +kernel
theorem dX3_addMilestone_48 : decode cX3_addMilestone 48 = .ok (.iload 5, 2) := by decide +kernel
theorem dX3_addMilestone_50 : decode cX3_addMilestone 50 = .ok (.iconst 1, 1) := by decide +kernel
theorem dX3_addMilestone_51 : decode cX3_addMilestone 51 = .ok (.isub, 1) := by decide +kernel
theorem dX3_addMilestone_52 : decode cX3_addMilestone 52 = .ok (.iaload, 1) := by decide +kernel
theorem dX3_addMilestone_53 : decode cX3_addMilestone 53 = .ok (.iastore, 1) := by decide +kernel
theorem dX3_addMilestone_54 : decode cX3_addMilestone 54 = .ok (.iinc 5 (-1), 3) := by decide +kernel
theorem dX3_addMilestone_57 : decode cX3_addMilestone 57 = .ok (.goto (-43), 3) := by decide +kernel
theorem dX3_addMilestone_60 : decode cX3_addMilestone 60 = .ok (.aload_n 0, 1) := by decide +kernel
theorem dX3_addMilestone_61 : decode cX3_addMilestone 61 = .ok (.getfield 29, 3) := by decide +kernel
theorem dX3_addMilestone_64 : decode cX3_addMilestone 64 = .ok (.iload 5, 2) := by decide +kernel
theorem dX3_addMilestone_66 : decode cX3_addMilestone 66 = .ok (.aload_n 0, 1) := by decide +kernel
theorem dX3_addMilestone_67 : decode cX3_addMilestone 67 = .ok (.getfield 56, 3) := by decide +kernel
theorem dX3_addMilestone_70 : decode cX3_addMilestone 70 = .ok (.iastore, 1) := by decide +kernel
theorem dX3_addMilestone_71 : decode cX3_addMilestone 71 = .ok (.aload_n 0, 1) := by decide +kernel
theorem dX3_addMilestone_72 : decode cX3_addMilestone 72 = .ok (.getfield 19, 3) := by decide +kernel
theorem dX3_addMilestone_75 : decode cX3_addMilestone 75 = .ok (.aload_n 0, 1) := by decide +kernel
theorem dX3_addMilestone_76 : decode cX3_addMilestone 76 = .ok (.getfield 56, 3) := by decide +kernel
theorem dX3_addMilestone_79 : decode cX3_addMilestone 79 = .ok (.lload_n 1, 1) := by decide +kernel
theorem dX3_addMilestone_80 : decode cX3_addMilestone 80 = .ok (.lastore, 1) := by decide +kernel
theorem dX3_addMilestone_81 : decode cX3_addMilestone 81 = .ok (.aload_n 0, 1) := by decide +kernel
theorem dX3_addMilestone_82 : decode cX3_addMilestone 82 = .ok (.getfield 23, 3) := by decide +kernel
theorem dX3_addMilestone_85 : decode cX3_addMilestone 85 = .ok (.aload_n 0, 1) := by decide +kernel
theorem dX3_addMilestone_86 : decode cX3_addMilestone 86 = .ok (.getfield 56, 3) := by decide +kernel
theorem dX3_addMilestone_89 : decode cX3_addMilestone 89 = .ok (.iload_n 3, 1) := by decide +kernel
theorem dX3_addMilestone_90 : decode cX3_addMilestone 90 = .ok (.iastore, 1) := by decide +kernel
theorem dX3_addMilestone_91 : decode cX3_addMilestone 91 = .ok (.aload_n 0, 1) := by decide +kernel
theorem dX3_addMilestone_92 : decode cX3_addMilestone 92 = .ok (.getfield 26, 3) := by decide +kernel
theorem dX3_addMilestone_95 : decode cX3_addMilestone 95 = .ok (.aload_n 0, 1) := by decide +kernel
theorem dX3_addMilestone_96 : decode cX3_addMilestone 96 = .ok (.getfield 56, 3) := by decide +kernel
theorem dX3_addMilestone_99 : decode cX3_addMilestone 99 = .ok (.iload 4, 2) := by decide +kernel
theorem dX3_addMilestone_101 : decode cX3_addMilestone 101 = .ok (.iastore, 1) := by decide +kernel
theorem dX3_addMilestone_102 : decode cX3_addMilestone 102 = .ok (.aload_n 0, 1) := by decide +kernel
theorem dX3_addMilestone_103 : decode cX3_addMilestone 103 = .ok (.getfield 41, 3) := by decide +kernel
theorem dX3_addMilestone_106 : decode cX3_addMilestone 106 = .ok (.aload_n 0, 1) := by decide +kernel
theorem dX3_addMilestone_107 : decode cX3_addMilestone 107 = .ok (.getfield 56, 3) := by decide +kernel
theorem dX3_addMilestone_110 : decode cX3_addMilestone 110 = .ok (.aload_n 0, 1) := by decide +kernel
theorem dX3_addMilestone_111 : decode cX3_addMilestone 111 = .ok (.getfield 62, 3) := by decide +kernel
theorem dX3_addMilestone_114 : decode cX3_addMilestone 114 = .ok (.iastore, 1) := by decide +kernel
theorem dX3_addMilestone_115 : decode cX3_addMilestone 115 = .ok (.aload_n 0, 1) := by decide +kernel
theorem dX3_addMilestone_116 : decode cX3_addMilestone 116 = .ok (.dup, 1) := by decide +kernel
theorem dX3_addMilestone_117 : decode cX3_addMilestone 117 = .ok (.getfield 56, 3) := by decide +kernel
theorem dX3_addMilestone_120 : decode cX3_addMilestone 120 = .ok (.iconst 1, 1) := by decide +kernel
theorem dX3_addMilestone_121 : decode cX3_addMilestone 121 = .ok (.iadd, 1) := by decide +kernel
theorem dX3_addMilestone_122 : decode cX3_addMilestone 122 = .ok (.putfield 56, 3) := by decide +kernel
theorem dX3_addMilestone_125 : decode cX3_addMilestone 125 = .ok (.return_, 1) := by decide +kernel
theorem dX4_readMilestone_0 : decode cX4_readMilestone 0 = .ok (.aload_n 0, 1) := by decide +kernel
theorem dX4_readMilestone_1 : decode cX4_readMilestone 1 = .ok (.getfield 25, 3) := by decide +kernel
theorem dX4_readMilestone_4 : decode cX4_readMilestone 4 = .ok (.invokevirtual 124, 3) := by decide +kernel
theorem dX4_readMilestone_7 : decode cX4_readMilestone 7 = .ok (.ifCond .ne 9, 3) := by decide +kernel
theorem dX4_readMilestone_10 : decode cX4_readMilestone 10 = .ok (.aload_n 0, 1) := by decide +kernel
theorem dX4_readMilestone_11 : decode cX4_readMilestone 11 = .ok (.iconst 5, 1) := by decide +kernel
theorem dX4_readMilestone_12 : decode cX4_readMilestone 12 = .ok (.invokevirtual 63, 3) := by decide +kernel
theorem dX4_readMilestone_15 : decode cX4_readMilestone 15 = .ok (.ireturn, 1) := by decide +kernel
theorem dX4_readMilestone_16 : decode cX4_readMilestone 16 = .ok (.aload_n 0, 1) := by decide +kernel
theorem dX4_readMilestone_17 : decode cX4_readMilestone 17 = .ok (.aload_n 0, 1) := by decide +kernel
theorem dX4_readMilestone_18 : decode cX4_readMilestone 18 = .ok (.getfield 70, 3) := by decide +kernel
theorem dX4_readMilestone_21 : decode cX4_readMilestone 21 = .ok (.iconst 1, 1) := by decide +kernel
theorem dX4_readMilestone_22 : decode cX4_readMilestone 22 = .ok (.iadd, 1) := by decide +kernel
theorem dX4_readMilestone_23 : decode cX4_readMilestone 23 = .ok (.invokevirtual 38, 3) := by decide +kernel
theorem dX4_readMilestone_26 : decode cX4_readMilestone 26 = .ok (.aload_n 0, 1) := by decide +kernel
theorem dX4_readMilestone_27 : decode cX4_readMilestone 27 = .ok (.getfield 87, 3) := by decide +kernel
theorem dX4_readMilestone_30 : decode cX4_readMilestone 30 = .ok (.lstore_n 1, 1) := by decide +kernel
theorem dX4_readMilestone_31 : decode cX4_readMilestone 31 = .ok (.aload_n 0, 1) := by decide +kernel
theorem dX4_readMilestone_32 : decode cX4_readMilestone 32 = .ok (.getfield 42, 3) := by decide +kernel
theorem dX4_readMilestone_35 : decode cX4_readMilestone 35 = .ok (.iconst 4, 1) := by decide +kernel
theorem dX4_readMilestone_36 : decode cX4_readMilestone 36 = .ok (.if_icmp .ne 21, 3) := by decide +kernel
theorem dX4_readMilestone_39 : decode cX4_readMilestone 39 = .ok (.aload_n 0, 1) := by decide +kernel
theorem dX4_readMilestone_40 : decode cX4_readMilestone 40 = .ok (.getfield 25, 3) := by decide +kernel
theorem dX4_readMilestone_43 : decode cX4_readMilestone 43 = .ok (.lload_n 1, 1) := by decide +kernel
theorem dX4_readMilestone_44 : decode cX4_readMilestone 44 = .ok (.invokevirtual 127, 3) := by decide +kernel
theorem dX4_readMilestone_47 : decode cX4_readMilestone 47 = .ok (.iconst (-1), 1) := by decide +kernel
theorem dX4_readMilestone_48 : decode cX4_readMilestone 48 = .ok (.if_icmp .eq 9, 3) := by decide +kernel
theorem dX4_readMilestone_51 : decode cX4_readMilestone 51 = .ok (.aload_n 0, 1) := by decide +kernel
theorem dX4_readMilestone_52 : decode cX4_readMilestone 52 = .ok (.iconst 4, 1) := by decide +kernel
theorem dX4_readMilestone_53 : decode cX4_readMilestone 53 = .ok (.invokevirtual 63, 3) := by decide +kernel
theorem dX4_readMilestone_56 : decode cX4_readMilestone 56 = .ok (.ireturn, 1) := by decide +kernel
theorem dX4_readMilestone_57 : decode cX4_readMilestone 57 = .ok (.aload_n 0, 1) := by decide +kernel
theorem dX4_readMilestone_58 : decode cX4_readMilestone 58 = .ok (.iconst 4, 1) := by decide +kernel
theorem dX4_readMilestone_59 : decode cX4_readMilestone 59 = .ok (.invokevirtual 108, 3) := by decide +kernel
theorem dX4_readMilestone_62 : decode cX4_readMilestone 62 = .ok (.ifCond .eq 13, 3) := by decide +kernel
theorem dX4_readMilestone_65 : decode cX4_readMilestone 65 = .ok (.aload_n 0, 1) := by decide +kernel
theorem dX4_readMilestone_66 : decode cX4_readMilestone 66 = .ok (.iconst 1, 1) := by decide +kernel
theorem dX4_readMilestone_67 : decode cX4_readMilestone 67 = .ok (.ldc 120, 2) := by decide +kernel
theorem dX4_readMilestone_69 : decode cX4_readMilestone 69 = .ok (.invokevirtual 94, 3) := by decide +kernel
theorem dX4_readMilestone_72 : decode cX4_readMilestone 72 = .ok (.ifCond .ne 5, 3) := by decide +kernel
theorem dX4_readMilestone_75 : decode cX4_readMilestone 75 = .ok (.iconst 0, 1) := by decide +kernel
theorem dX4_readMilestone_76 : decode cX4_readMilestone 76 = .ok (.ireturn, 1) := by decide +kernel
theorem dX4_readMilestone_77 : decode cX4_readMilestone 77 = .ok (.aload_n 0, 1) := by decide +kernel
theorem dX4_readMilestone_78 : decode cX4_readMilestone 78 = .ok (.getfield 91, 3) := by decide +kernel
theorem dX4_readMilestone_81 : decode cX4_readMilestone 81 = .ok (.istore_n 3, 1) := by decide +kernel
theorem dX4_readMilestone_82 : decode cX4_readMilestone 82 = .ok (.aload_n 0, 1) := by decide +kernel
theorem dX4_readMilestone_83 : decode cX4_readMilestone 83 = .ok (.iconst 0, 1) := by decide +kernel
theorem dX4_readMilestone_84 : decode cX4_readMilestone 84 = .ok (.bipush 99, 2) := by decide +kernel
theorem dX4_readMilestone_86 : decode cX4_readMilestone 86 = .ok (.invokevirtual 94, 3) := by decide +kernel
theorem dX4_readMilestone_89 : decode cX4_readMilestone 89 = .ok (.ifCond .ne 5, 3) := by decide +kernel
theorem dX4_readMilestone_92 : decode cX4_readMilestone 92 = .ok (.iconst 0, 1) := by decide +kernel
theorem dX4_readMilestone_93 : decode cX4_readMilestone 93 = .ok (.ireturn, 1) := by decide +kernel
theorem dX4_readMilestone_94 : decode cX4_readMilestone 94 = .ok (.aload_n 0, 1) := by decide +kernel
theorem dX4_readMilestone_95 : decode cX4_readMilestone 95 = .ok (.getfield 91, 3) := by decide +kernel
theorem dX4_readMilestone_98 : decode cX4_readMilestone 98 = .ok (.istore 4, 2) := by decide +kernel
theorem dX4_readMilestone_100 : decode cX4_readMilestone 100 = .ok (.aload_n 0, 1) := by decide +kernel
theorem dX4_readMilestone_101 : decode cX4_readMilestone 101 = .ok (.bipush 13, 2) := by decide +kernel
theorem dX4_readMilestone_103 : decode cX4_readMilestone 103 = .ok (.invokevirtual 108, 3) := by decide +kernel
theorem dX4_readMilestone_106 : decode cX4_readMilestone 106 = .ok (.ifCond .eq 20, 3) := by decide +kernel
theorem dX4_readMilestone_109 : decode cX4_readMilestone 109 = .ok (.aload_n 0, 1) := by decide +kernel
theorem dX4_readMilestone_110 : decode cX4_readMilestone 110 = .ok (.iconst 0, 1) := by decide +kernel
theorem dX4_readMilestone_111 : decode cX4_readMilestone 111 = .ok (.invokevirtual 131, 3) := by decide +kernel
theorem dX4_readMilestone_114 : decode cX4_readMilestone 114 = .ok (.ifCond .eq 12, 3) := by decide +kernel
theorem dX4_readMilestone_117 : decode cX4_readMilestone 117 = .ok (.aload_n 0, 1) := by decide +kernel
theorem dX4_readMilestone_118 : decode cX4_readMilestone 118 = .ok (.bipush 7, 2) := by decide +kernel
theorem dX4_readMilestone_120 : decode cX4_readMilestone 120 = .ok (.invokevirtual 108, 3) := by decide +kernel
theorem dX4_readMilestone_123 : decode cX4_readMilestone 123 = .ok (.ifCond .ne 5, 3) := by decide +kernel
theorem dX4_readMilestone_126 : decode cX4_readMilestone 126 = .ok (.iconst 0, 1) := by decide +kernel
theorem dX4_readMilestone_127 : decode cX4_readMilestone 127 = .ok (.ireturn, 1) := by decide +kernel
theorem dX4_readMilestone_128 : decode cX4_readMilestone 128 = .ok (.aload_n 0, 1) := by decide +kernel
theorem dX4_readMilestone_129 : decode cX4_readMilestone 129 = .ok (.getfield 25, 3) := by decide +kernel
theorem dX4_readMilestone_132 : decode cX4_readMilestone 132 = .ok (.lload_n 1, 1) := by decide +kernel
theorem dX4_readMilestone_133 : decode cX4_readMilestone 133 = .ok (.iload_n 3, 1) := by decide +kernel
theorem dX4_readMilestone_134 : decode cX4_readMilestone 134 = .ok (.iload 4, 2) := by decide +kernel
theorem dX4_readMilestone_136 : decode cX4_readMilestone 136 = .ok (.invokevirtual 134, 3) := by decide +kernel
theorem dX4_readMilestone_139 : decode cX4_readMilestone 139 = .ok (.iconst 1, 1) := by decide +kernel
theorem dX4_readMilestone_140 : decode cX4_readMilestone 140 = .ok (.ireturn, 1) := by decide +kernel
