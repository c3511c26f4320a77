set_option maxRecDepth 20000 in
theorem ggJ0_charAt_5068e_J0_isLatin1_aae02 : GoodIn wsJ0_charAt_5068e wsJ0_isLatin1_aae02 := goodIn_r _ [6, 7, 8, 38, 39, 40, 41] rfl (by decide +kernel)
set_option maxRecDepth 20000 in
theorem gJ0_charAt_5068e_J0_isLatin1_aae02 : GoodIn wsJ0_charAt_5068e (wsV RJ0 492 RJ0 yJ0_isLatin1_aae02 wsJ0_isLatin1_aae02) := goodIn_app (goodIn_r _ [2, 3, 4, 5] rfl (by decide +kernel)) ggJ0_charAt_5068e_J0_isLatin1_aae02
set_option maxRecDepth 20000 in
theorem ggJ0_charAt_5068e_J1_charAt_3b067 : GoodIn wsJ0_charAt_5068e wsJ1_charAt_3b067 := goodIn_r _ [12, 13, 14, 5, 15, 16, 17, 18, 19, 20] rfl (by decide +kernel)
set_option maxRecDepth 20000 in
theorem gJ0_charAt_5068e_J1_charAt_3b067 : GoodIn wsJ0_charAt_5068e (va_wsS RJ0 495 yJ1_charAt_3b067 wsJ1_charAt_3b067) := goodIn_app (goodIn_r _ [9, 10, 11] rfl (by decide +kernel)) ggJ0_charAt_5068e_J1_charAt_3b067
set_option maxRecDepth 20000 in
theorem ggJ0_checkIndex_df160_J3_checkIndex_8e157 : GoodIn wsJ0_checkIndex_df160 wsJ3_checkIndex_8e157 := goodIn_r _ [5] rfl (by decide +kernel)
set_option maxRecDepth 20000 in
theorem gJ0_checkIndex_df160_J3_checkIndex_8e157 : GoodIn wsJ0_checkIndex_df160 (va_wsS RJ0 1059 yJ3_checkIndex_8e157 wsJ3_checkIndex_8e157) := goodIn_app (goodIn_r _ [2, 3, 4] rfl (by decide +kernel)) ggJ0_checkIndex_df160_J3_checkIndex_8e157
set_option maxRecDepth 20000 in
theorem ggJ0_length_8abf5_J0_coder_7d493 : GoodIn wsJ0_length_8abf5 wsJ0_coder_7d493 := goodIn_r _ [6, 7, 8, 9, 10, 11, 12] rfl (by decide +kernel)
set_option maxRecDepth 20000 in
theorem gJ0_length_8abf5_J0_coder_7d493 : GoodIn wsJ0_length_8abf5 (wsV RJ0 335 RJ0 yJ0_coder_7d493 wsJ0_coder_7d493) := goodIn_app (goodIn_r _ [2, 3, 4, 5] rfl (by decide +kernel)) ggJ0_length_8abf5_J0_coder_7d493
set_option maxRecDepth 20000 in
theorem ggJ1_charAt_3b067_J0_checkIndex_df160 : GoodIn wsJ1_charAt_3b067 wsJ0_checkIndex_df160 := goodIn_r _ [4, 5, 6, 7, 8, 9] rfl (by decide +kernel)
set_option maxRecDepth 20000 in
theorem gJ1_charAt_3b067_J0_checkIndex_df160 : GoodIn wsJ1_charAt_3b067 (va_wsS RJ1 9 yJ0_checkIndex_df160 wsJ0_checkIndex_df160) := goodIn_app (goodIn_r _ [1, 2, 3] rfl (by decide +kernel)) ggJ1_charAt_3b067_J0_checkIndex_df160
set_option maxRecDepth 20000 in
theorem ggX3_addDeposit_X3_hasRoomForDeposit : GoodIn wsX3_addDeposit wsX3_hasRoomForDeposit := goodIn_r _ [7, 2, 1, 8, 9, 10, 11, 12, 13, 14, 15, 16, 17, 18, 19, 20, 21, 22, 23, 24] rfl (by decide +kernel)
set_option maxRecDepth 20000 in
theorem gX3_addDeposit_X3_hasRoomForDeposit : GoodIn wsX3_addDeposit (wsV RX3 65 RX3 yX3_hasRoomForDeposit wsX3_hasRoomForDeposit) := goodIn_app (goodIn_r _ [3, 4, 5, 6] rfl (by decide +kernel)) ggX3_addDeposit_X3_hasRoomForDeposit
set_option maxRecDepth 20000 in
theorem ggX3_addMilestone_X3_hasRoomForMilestone : GoodIn wsX3_addMilestone wsX3_hasRoomForMilestone := goodIn_r _ [12, 1, 13, 14, 15, 16, 17, 18, 19, 20, 21, 22, 23, 24, 25, 26, 27, 28, 29] rfl (by decide +kernel)
set_option maxRecDepth 20000 in
theorem gX3_addMilestone_X3_hasRoomForMilestone : GoodIn wsX3_addMilestone (wsV RX3 69 RX3 yX3_hasRoomForMilestone wsX3_hasRoomForMilestone) := goodIn_app (goodIn_r _ [8, 9, 10, 11] rfl (by decide +kernel)) ggX3_addMilestone_X3_hasRoomForMilestone
set_option maxRecDepth 20000 in
theorem ggX4_readBoth_X3_addStep : GoodIn wsX4_readBoth wsX3_addStep := goodIn_r _ [19, 20, 21, 22, 84, 85, 86, 87, 88, 89, 90, 91, 92, 93, 94, 95, 96, 97, 98, 99, 100] rfl (by decide +kernel)
set_option maxRecDepth 20000 in
theorem gX4_readBoth_X3_addStep : GoodIn wsX4_readBoth (wsV RX4 141 RX3 yX3_addStep wsX3_addStep) := goodIn_app (goodIn_r _ [15, 16, 17, 18] rfl (by decide +kernel)) ggX4_readBoth_X3_addStep
set_option maxRecDepth 20000 in
theorem ggX4_readBoth_X4_lookAt : GoodIn wsX4_readBoth wsX4_lookAt := goodIn_r _ [11, 12, 2, 1, 13, 14, 71, 72, 73, 74, 75, 76, 77, 78, 79, 80, 81, 82, 83] rfl (by decide +kernel)
set_option maxRecDepth 20000 in
theorem gX4_readBoth_X4_lookAt : GoodIn wsX4_readBoth (wsV RX4 38 RX4 yX4_lookAt wsX4_lookAt) := goodIn_app (goodIn_r _ [8, 9, 10, 7] rfl (by decide +kernel)) ggX4_readBoth_X4_lookAt
set_option maxRecDepth 20000 in
theorem ggX4_readBoth_X4_readFact : GoodIn wsX4_readBoth wsX4_readFact := goodIn_r _ [27, 1, 2, 3, 28, 29, 30, 31, 32, 7, 33, 34, 13, 35, 36, 37, 38, 39, 8, 9, 10, 11, 12, 14, 40, 41, 42, 43, 44, 45, 46, 4, 5, 6, 15, 16, 17, 18, 19, 20, 21, 22, 47, 48, 49, 50, 51, 52, 53, 54, 55, 56, 57, 58, 59, 60, 61, 62, 63, 64, 65, 66, 67, 68, 69, 70, 0, 23, 24, 25, 26, 71, 72, 73, 74, 75, 76, 77, 78, 79, 80, 81, 82, 83, 84, 85, 86, 87, 88, 89, 90, 91, 92, 93, 94, 95, 96, 97, 98, 99, 100] rfl (by decide +kernel)
set_option maxRecDepth 20000 in
theorem gX4_readBoth_X4_readFact : GoodIn wsX4_readBoth (wsV RX4 144 RX4 yX4_readFact wsX4_readFact) := goodIn_app (goodIn_r _ [4, 5, 6, 7] rfl (by decide +kernel)) ggX4_readBoth_X4_readFact
set_option maxRecDepth 20000 in
theorem ggX4_readCondition_X3_addStep : GoodIn wsX4_readCondition wsX3_addStep := goodIn_r _ [19, 20, 21, 22, 84, 85, 86, 87, 88, 89, 90, 91, 92, 93, 94, 95, 96, 97, 98, 99, 100] rfl (by decide +kernel)
set_option maxRecDepth 20000 in
theorem gX4_readCondition_X3_addStep : GoodIn wsX4_readCondition (wsV RX4 141 RX3 yX3_addStep wsX3_addStep) := goodIn_app (goodIn_r _ [15, 16, 17, 18] rfl (by decide +kernel)) ggX4_readCondition_X3_addStep
set_option maxRecDepth 20000 in
theorem ggX4_readCondition_X4_lookAt : GoodIn wsX4_readCondition wsX4_lookAt := goodIn_r _ [11, 12, 2, 1, 13, 14, 71, 72, 73, 74, 75, 76, 77, 78, 79, 80, 81, 82, 83] rfl (by decide +kernel)
set_option maxRecDepth 20000 in
theorem gX4_readCondition_X4_lookAt : GoodIn wsX4_readCondition (wsV RX4 38 RX4 yX4_lookAt wsX4_lookAt) := goodIn_app (goodIn_r _ [8, 9, 10, 7] rfl (by decide +kernel)) ggX4_readCondition_X4_lookAt
set_option maxRecDepth 20000 in
theorem ggX4_readCondition_X4_readBoth : GoodIn wsX4_readCondition wsX4_readBoth := goodIn_r _ [23, 1, 2, 3, 24, 25, 26, 7, 8, 9, 10, 11, 12, 13, 14, 15, 16, 17, 18, 19, 20, 21, 22, 0, 4, 5, 6, 27, 28, 29, 30, 31, 32, 33, 34, 35, 36, 37, 38, 39, 40, 41, 42, 43, 44, 45, 46, 47, 48, 49, 50, 51, 52, 53, 54, 55, 56, 57, 58, 59, 60, 61, 62, 63, 64, 65, 66, 67, 68, 69, 70, 71, 72, 73, 74, 75, 76, 77, 78, 79, 80, 81, 82, 83, 84, 85, 86, 87, 88, 89, 90, 91, 92, 93, 94, 95, 96, 97, 98, 99, 100] rfl (by decide +kernel)
set_option maxRecDepth 20000 in
theorem gX4_readCondition_X4_readBoth : GoodIn wsX4_readCondition (wsV RX4 138 RX4 yX4_readBoth wsX4_readBoth) := goodIn_app (goodIn_r _ [4, 5, 6, 7] rfl (by decide +kernel)) ggX4_readCondition_X4_readBoth
set_option maxRecDepth 20000 in
theorem ggX4_readDeposit_X3_addDeposit : GoodIn wsX4_readDeposit wsX3_addDeposit := goodIn_r _ [34, 11, 10, 35, 6, 7, 8, 9, 49, 50, 51, 52, 53, 54, 55, 56, 57, 58, 59, 60, 61, 62, 63, 64, 65] rfl (by decide +kernel)
set_option maxRecDepth 20000 in
theorem gX4_readDeposit_X3_addDeposit : GoodIn wsX4_readDeposit (wsV RX4 121 RX3 yX3_addDeposit wsX3_addDeposit) := goodIn_app (goodIn_r _ [31, 32, 33, 8] rfl (by decide +kernel)) ggX4_readDeposit_X3_addDeposit
set_option maxRecDepth 20000 in
theorem ggX4_readDeposit_X3_hasRoomForDeposit : GoodIn wsX4_readDeposit wsX3_hasRoomForDeposit := goodIn_r _ [9, 10, 11, 49, 50, 51, 52, 53, 54, 55, 56, 57, 58, 59, 60, 61, 62, 63, 64, 65] rfl (by decide +kernel)
set_option maxRecDepth 20000 in
theorem gX4_readDeposit_X3_hasRoomForDeposit : GoodIn wsX4_readDeposit (wsV RX4 117 RX3 yX3_hasRoomForDeposit wsX3_hasRoomForDeposit) := goodIn_app (goodIn_r _ [5, 6, 7, 8] rfl (by decide +kernel)) ggX4_readDeposit_X3_hasRoomForDeposit
set_option maxRecDepth 20000 in
theorem ggX4_readDeposit_X4_fail : GoodIn wsX4_readDeposit wsX4_fail := goodIn_r _ [16, 17, 18, 19, 20, 40, 41, 42, 43, 44, 45, 46, 47, 48] rfl (by decide +kernel)
set_option maxRecDepth 20000 in
theorem gX4_readDeposit_X4_fail : GoodIn wsX4_readDeposit (wsV RX4 63 RX4 yX4_fail wsX4_fail) := goodIn_app (goodIn_r _ [12, 13, 14, 15] rfl (by decide +kernel)) ggX4_readDeposit_X4_fail
set_option maxRecDepth 20000 in
theorem ggX4_readDeposit_X4_lookAt : GoodIn wsX4_readDeposit wsX4_lookAt := goodIn_r _ [24, 25, 2, 17, 19, 26, 40, 41, 42, 43, 44, 45, 46, 47, 48, 66, 67, 68, 69] rfl (by decide +kernel)
set_option maxRecDepth 20000 in
theorem gX4_readDeposit_X4_lookAt : GoodIn wsX4_readDeposit (wsV RX4 38 RX4 yX4_lookAt wsX4_lookAt) := goodIn_app (goodIn_r _ [21, 22, 23, 15] rfl (by decide +kernel)) ggX4_readDeposit_X4_lookAt
set_option maxRecDepth 20000 in
theorem ggX4_readDeposit_X4_take : GoodIn wsX4_readDeposit wsX4_take := goodIn_r _ [39, 17, 2, 12, 13, 14, 15, 16, 18, 19, 20, 21, 22, 23, 24, 25, 26, 40, 41, 42, 43, 44, 45, 46, 47, 48, 66, 67, 68, 69] rfl (by decide +kernel)
set_option maxRecDepth 20000 in
theorem gX4_readDeposit_X4_take : GoodIn wsX4_readDeposit (wsV RX4 108 RX4 yX4_take wsX4_take) := goodIn_app (goodIn_r _ [36, 37, 38, 15] rfl (by decide +kernel)) ggX4_readDeposit_X4_take
set_option maxRecDepth 20000 in
theorem ggX4_readDeposit_X4_takeNumber : GoodIn wsX4_readDeposit wsX4_takeNumber := goodIn_r _ [30, 17, 26, 4, 2, 12, 13, 14, 15, 16, 18, 19, 20, 21, 22, 23, 24, 25, 40, 41, 42, 43, 44, 45, 46, 47, 48, 66, 67, 68, 69] rfl (by decide +kernel)
set_option maxRecDepth 20000 in
theorem gX4_readDeposit_X4_takeNumber : GoodIn wsX4_readDeposit (wsV RX4 94 RX4 yX4_takeNumber wsX4_takeNumber) := goodIn_app (goodIn_r _ [27, 28, 29, 15] rfl (by decide +kernel)) ggX4_readDeposit_X4_takeNumber
set_option maxRecDepth 20000 in
theorem ggX4_readDoneName_X3_addStep : GoodIn wsX4_readDoneName wsX3_addStep := goodIn_r _ [28, 29, 30, 31, 41, 42, 43, 44, 45, 46, 47, 48, 49, 50, 51, 52, 53, 54, 55, 56, 57] rfl (by decide +kernel)
set_option maxRecDepth 20000 in
theorem gX4_readDoneName_X3_addStep : GoodIn wsX4_readDoneName (wsV RX4 141 RX3 yX3_addStep wsX3_addStep) := goodIn_app (goodIn_r _ [25, 26, 27, 16] rfl (by decide +kernel)) ggX4_readDoneName_X3_addStep
set_option maxRecDepth 20000 in
theorem ggX4_readDoneName_X3_milestoneNamed : GoodIn wsX4_readDoneName wsX3_milestoneNamed := goodIn_r _ [17, 18, 19, 41, 42, 43, 44, 45, 46, 47, 48, 49, 50, 51, 52, 53, 54, 55, 56, 57] rfl (by decide +kernel)
set_option maxRecDepth 20000 in
theorem gX4_readDoneName_X3_milestoneNamed : GoodIn wsX4_readDoneName (wsV RX4 127 RX3 yX3_milestoneNamed wsX3_milestoneNamed) := goodIn_app (goodIn_r _ [13, 14, 15, 16] rfl (by decide +kernel)) ggX4_readDoneName_X3_milestoneNamed
set_option maxRecDepth 20000 in
theorem ggX4_readDoneName_X4_fail : GoodIn wsX4_readDoneName wsX4_fail := goodIn_r _ [9, 1, 10, 11, 12, 32, 33, 34, 35, 36, 37, 38, 39, 40] rfl (by decide +kernel)
set_option maxRecDepth 20000 in
theorem gX4_readDoneName_X4_fail : GoodIn wsX4_readDoneName (wsV RX4 63 RX4 yX4_fail wsX4_fail) := goodIn_app (goodIn_r _ [5, 6, 7, 8] rfl (by decide +kernel)) ggX4_readDoneName_X4_fail
set_option maxRecDepth 20000 in
theorem ggX4_readDoneName_X4_lookAt : GoodIn wsX4_readDoneName wsX4_lookAt := goodIn_r _ [23, 24, 4, 1, 11, 3, 32, 33, 34, 35, 36, 37, 38, 39, 40, 58, 59, 60, 61] rfl (by decide +kernel)
set_option maxRecDepth 20000 in
theorem gX4_readDoneName_X4_lookAt : GoodIn wsX4_readDoneName (wsV RX4 38 RX4 yX4_lookAt wsX4_lookAt) := goodIn_app (goodIn_r _ [20, 21, 22, 8] rfl (by decide +kernel)) ggX4_readDoneName_X4_lookAt
set_option maxRecDepth 20000 in
theorem ggX4_readFact_X3_addStep : GoodIn wsX4_readFact wsX3_addStep := goodIn_r _ [38, 39, 40, 41, 84, 85, 86, 87, 88, 89, 90, 91, 92, 93, 94, 95, 96, 97, 98, 99, 100] rfl (by decide +kernel)
set_option maxRecDepth 20000 in
theorem gX4_readFact_X3_addStep : GoodIn wsX4_readFact (wsV RX4 141 RX3 yX3_addStep wsX3_addStep) := goodIn_app (goodIn_r _ [34, 35, 36, 37] rfl (by decide +kernel)) ggX4_readFact_X3_addStep
set_option maxRecDepth 20000 in
theorem ggX4_readFact_X4_fail : GoodIn wsX4_readFact wsX4_fail := goodIn_r _ [10, 1, 11, 12, 13, 71, 72, 73, 74, 75, 76, 77, 78, 79] rfl (by decide +kernel)
set_option maxRecDepth 20000 in
theorem gX4_readFact_X4_fail : GoodIn wsX4_readFact (wsV RX4 63 RX4 yX4_fail wsX4_fail) := goodIn_app (goodIn_r _ [6, 7, 8, 9] rfl (by decide +kernel)) ggX4_readFact_X4_fail
set_option maxRecDepth 20000 in
theorem ggX4_readFact_X4_lookAt : GoodIn wsX4_readFact wsX4_lookAt := goodIn_r _ [21, 22, 2, 1, 12, 23, 71, 72, 73, 74, 75, 76, 77, 78, 79, 80, 81, 82, 83] rfl (by decide +kernel)
set_option maxRecDepth 20000 in
theorem gX4_readFact_X4_lookAt : GoodIn wsX4_readFact (wsV RX4 38 RX4 yX4_lookAt wsX4_lookAt) := goodIn_app (goodIn_r _ [18, 19, 20, 9] rfl (by decide +kernel)) ggX4_readFact_X4_lookAt
set_option maxRecDepth 20000 in
theorem ggX4_readFact_X4_readCondition : GoodIn wsX4_readFact wsX4_readCondition := goodIn_r _ [67, 1, 2, 3, 68, 69, 70, 9, 18, 19, 20, 21, 22, 12, 23, 34, 35, 36, 37, 38, 39, 40, 41, 66, 31, 32, 33, 0, 4, 5, 6, 7, 8, 10, 11, 13, 14, 15, 16, 17, 24, 25, 26, 27, 28, 29, 30, 42, 43, 44, 45, 46, 47, 48, 49, 50, 51, 52, 53, 54, 55, 56, 57, 58, 59, 60, 61, 62, 63, 64, 65, 71, 72, 73, 74, 75, 76, 77, 78, 79, 80, 81, 82, 83, 84, 85, 86, 87, 88, 89, 90, 91, 92, 93, 94, 95, 96, 97, 98, 99, 100] rfl (by decide +kernel)
set_option maxRecDepth 20000 in
theorem gX4_readFact_X4_readCondition : GoodIn wsX4_readFact (wsV RX4 131 RX4 yX4_readCondition wsX4_readCondition) := goodIn_app (goodIn_r _ [24, 25, 26, 9] rfl (by decide +kernel)) ggX4_readFact_X4_readCondition
set_option maxRecDepth 20000 in
theorem ggX4_readFact_X4_readDoneName : GoodIn wsX4_readFact wsX4_readDoneName := goodIn_r _ [59, 1, 3, 23, 2, 6, 7, 8, 9, 10, 11, 12, 13, 60, 61, 62, 37, 63, 64, 65, 18, 19, 20, 21, 22, 34, 35, 36, 38, 39, 40, 41, 71, 72, 73, 74, 75, 76, 77, 78, 79, 84, 85, 86, 87, 88, 89, 90, 91, 92, 93, 94, 95, 96, 97, 98, 99, 100, 80, 81, 82, 83] rfl (by decide +kernel)
set_option maxRecDepth 20000 in
theorem gX4_readFact_X4_readDoneName : GoodIn wsX4_readFact (wsV RX4 153 RX4 yX4_readDoneName wsX4_readDoneName) := goodIn_app (goodIn_r _ [56, 57, 58, 9] rfl (by decide +kernel)) ggX4_readFact_X4_readDoneName
set_option maxRecDepth 20000 in
theorem ggX4_readFact_X4_readFact : GoodIn wsX4_readFact wsX4_readFact := goodIn_r _ [0, 1, 2, 3, 4, 5, 6, 7, 8, 9, 10, 11, 12, 13, 14, 15, 16, 17, 18, 19, 20, 21, 22, 23, 24, 25, 26, 27, 28, 29, 30, 31, 32, 33, 34, 35, 36, 37, 38, 39, 40, 41, 42, 43, 44, 45, 46, 47, 48, 49, 50, 51, 52, 53, 54, 55, 56, 57, 58, 59, 60, 61, 62, 63, 64, 65, 66, 67, 68, 69, 70, 71, 72, 73, 74, 75, 76, 77, 78, 79, 80, 81, 82, 83, 84, 85, 86, 87, 88, 89, 90, 91, 92, 93, 94, 95, 96, 97, 98, 99, 100] rfl (by decide +kernel)
set_option maxRecDepth 20000 in
theorem gX4_readFact_X4_readFact : GoodIn wsX4_readFact (wsV RX4 144 RX4 yX4_readFact wsX4_readFact) := goodIn_app (goodIn_r _ [31, 32, 33, 9] rfl (by decide +kernel)) ggX4_readFact_X4_readFact
set_option maxRecDepth 20000 in
theorem ggX4_readFact_X4_readProofName : GoodIn wsX4_readFact wsX4_readProofName := goodIn_r _ [49, 1, 3, 23, 2, 6, 7, 8, 9, 10, 11, 12, 13, 50, 51, 52, 37, 53, 54, 55, 18, 19, 20, 21, 22, 34, 35, 36, 38, 39, 40, 41, 71, 72, 73, 74, 75, 76, 77, 78, 79, 84, 85, 86, 87, 88, 89, 90, 91, 92, 93, 94, 95, 96, 97, 98, 99, 100, 80, 81, 82, 83] rfl (by decide +kernel)
set_option maxRecDepth 20000 in
theorem gX4_readFact_X4_readProofName : GoodIn wsX4_readFact (wsV RX4 150 RX4 yX4_readProofName wsX4_readProofName) := goodIn_app (goodIn_r _ [46, 47, 48, 9] rfl (by decide +kernel)) ggX4_readFact_X4_readProofName
set_option maxRecDepth 20000 in
theorem ggX4_readFact_X4_take : GoodIn wsX4_readFact wsX4_take := goodIn_r _ [30, 1, 2, 6, 7, 8, 9, 10, 11, 12, 13, 18, 19, 20, 21, 22, 23, 71, 72, 73, 74, 75, 76, 77, 78, 79, 80, 81, 82, 83] rfl (by decide +kernel)
set_option maxRecDepth 20000 in
theorem gX4_readFact_X4_take : GoodIn wsX4_readFact (wsV RX4 108 RX4 yX4_take wsX4_take) := goodIn_app (goodIn_r _ [27, 28, 29, 9] rfl (by decide +kernel)) ggX4_readFact_X4_take
set_option maxRecDepth 20000 in
theorem ggX4_readFact_X4_takeNumber : GoodIn wsX4_readFact wsX4_takeNumber := goodIn_r _ [45, 1, 23, 4, 2, 6, 7, 8, 9, 10, 11, 12, 13, 18, 19, 20, 21, 22, 71, 72, 73, 74, 75, 76, 77, 78, 79, 80, 81, 82, 83] rfl (by decide +kernel)
set_option maxRecDepth 20000 in
theorem gX4_readFact_X4_takeNumber : GoodIn wsX4_readFact (wsV RX4 94 RX4 yX4_takeNumber wsX4_takeNumber) := goodIn_app (goodIn_r _ [42, 43, 44, 9] rfl (by decide +kernel)) ggX4_readFact_X4_takeNumber
set_option maxRecDepth 20000 in
theorem ggX4_readFact_X7_beginsFact : GoodIn wsX4_readFact wsX7_beginsFact := goodIn_r _ [17] rfl (by decide +kernel)
set_option maxRecDepth 20000 in
theorem gX4_readFact_X7_beginsFact : GoodIn wsX4_readFact (va_wsS RX4 147 yX7_beginsFact wsX7_beginsFact) := goodIn_app (goodIn_r _ [14, 15, 16] rfl (by decide +kernel)) ggX4_readFact_X7_beginsFact
set_option maxRecDepth 20000 in
theorem ggX4_readFee_X4_lookAt : GoodIn wsX4_readFee wsX4_lookAt := goodIn_r _ [8, 9, 1, 10, 11, 12, 27, 28, 29, 30, 31, 32, 33, 34, 35, 53, 54, 55, 56] rfl (by decide +kernel)
set_option maxRecDepth 20000 in
theorem gX4_readFee_X4_lookAt : GoodIn wsX4_readFee (wsV RX4 38 RX4 yX4_lookAt wsX4_lookAt) := goodIn_app (goodIn_r _ [4, 5, 6, 7] rfl (by decide +kernel)) ggX4_readFee_X4_lookAt
set_option maxRecDepth 20000 in
theorem ggX4_readFee_X4_take : GoodIn wsX4_readFee wsX4_take := goodIn_r _ [26, 10, 1, 17, 18, 19, 7, 20, 21, 11, 22, 4, 5, 6, 8, 9, 12, 27, 28, 29, 30, 31, 32, 33, 34, 35, 53, 54, 55, 56] rfl (by decide +kernel)
set_option maxRecDepth 20000 in
theorem gX4_readFee_X4_take : GoodIn wsX4_readFee (wsV RX4 108 RX4 yX4_take wsX4_take) := goodIn_app (goodIn_r _ [23, 24, 25, 7] rfl (by decide +kernel)) ggX4_readFee_X4_take
set_option maxRecDepth 20000 in
theorem ggX4_readFee_X4_takeNumber : GoodIn wsX4_readFee wsX4_takeNumber := goodIn_r _ [16, 10, 12, 3, 1, 17, 18, 19, 7, 20, 21, 11, 22, 4, 5, 6, 8, 9, 27, 28, 29, 30, 31, 32, 33, 34, 35, 53, 54, 55, 56] rfl (by decide +kernel)
set_option maxRecDepth 20000 in
theorem gX4_readFee_X4_takeNumber : GoodIn wsX4_readFee (wsV RX4 94 RX4 yX4_takeNumber wsX4_takeNumber) := goodIn_app (goodIn_r _ [13, 14, 15, 7] rfl (by decide +kernel)) ggX4_readFee_X4_takeNumber
set_option maxRecDepth 20000 in
theorem ggX4_readGrace_X4_lookAt : GoodIn wsX4_readGrace wsX4_lookAt := goodIn_r _ [8, 9, 1, 10, 11, 12, 27, 28, 29, 30, 31, 32, 33, 34, 35, 53, 54, 55, 56] rfl (by decide +kernel)
set_option maxRecDepth 20000 in
theorem gX4_readGrace_X4_lookAt : GoodIn wsX4_readGrace (wsV RX4 38 RX4 yX4_lookAt wsX4_lookAt) := goodIn_app (goodIn_r _ [4, 5, 6, 7] rfl (by decide +kernel)) ggX4_readGrace_X4_lookAt
set_option maxRecDepth 20000 in
theorem ggX4_readGrace_X4_take : GoodIn wsX4_readGrace wsX4_take := goodIn_r _ [26, 10, 1, 17, 18, 19, 7, 20, 21, 11, 22, 4, 5, 6, 8, 9, 12, 27, 28, 29, 30, 31, 32, 33, 34, 35, 53, 54, 55, 56] rfl (by decide +kernel)
set_option maxRecDepth 20000 in
theorem gX4_readGrace_X4_take : GoodIn wsX4_readGrace (wsV RX4 108 RX4 yX4_take wsX4_take) := goodIn_app (goodIn_r _ [23, 24, 25, 7] rfl (by decide +kernel)) ggX4_readGrace_X4_take
set_option maxRecDepth 20000 in
theorem ggX4_readGrace_X4_takeNumber : GoodIn wsX4_readGrace wsX4_takeNumber := goodIn_r _ [16, 10, 12, 3, 1, 17, 18, 19, 7, 20, 21, 11, 22, 4, 5, 6, 8, 9, 27, 28, 29, 30, 31, 32, 33, 34, 35, 53, 54, 55, 56] rfl (by decide +kernel)
set_option maxRecDepth 20000 in
theorem gX4_readGrace_X4_takeNumber : GoodIn wsX4_readGrace (wsV RX4 94 RX4 yX4_takeNumber wsX4_takeNumber) := goodIn_app (goodIn_r _ [13, 14, 15, 7] rfl (by decide +kernel)) ggX4_readGrace_X4_takeNumber
set_option maxRecDepth 20000 in
theorem ggX4_readMilestone_X3_addMilestone : GoodIn wsX4_readMilestone wsX3_addMilestone := goodIn_r _ [79, 12, 80, 81, 30, 82, 83, 50, 84, 8, 9, 10, 11, 94, 95, 96, 97, 98, 99, 100, 101, 102, 103, 104, 105, 106, 107, 108, 109, 110] rfl (by decide +kernel)
set_option maxRecDepth 20000 in
theorem gX4_readMilestone_X3_addMilestone : GoodIn wsX4_readMilestone (wsV RX4 134 RX3 yX3_addMilestone wsX3_addMilestone) := goodIn_app (goodIn_r _ [76, 77, 78, 10] rfl (by decide +kernel)) ggX4_readMilestone_X3_addMilestone
set_option maxRecDepth 20000 in
theorem ggX4_readMilestone_X3_hasRoomForMilestone : GoodIn wsX4_readMilestone wsX3_hasRoomForMilestone := goodIn_r _ [11, 12, 94, 95, 96, 97, 98, 99, 100, 101, 102, 103, 104, 105, 106, 107, 108, 109, 110] rfl (by decide +kernel)
set_option maxRecDepth 20000 in
theorem gX4_readMilestone_X3_hasRoomForMilestone : GoodIn wsX4_readMilestone (wsV RX4 124 RX3 yX3_hasRoomForMilestone wsX3_hasRoomForMilestone) := goodIn_app (goodIn_r _ [7, 8, 9, 10] rfl (by decide +kernel)) ggX4_readMilestone_X3_hasRoomForMilestone
set_option maxRecDepth 20000 in
theorem ggX4_readMilestone_X3_milestoneNamed : GoodIn wsX4_readMilestone wsX3_milestoneNamed := goodIn_r _ [29, 12, 30, 94, 95, 96, 97, 98, 99, 100, 101, 102, 103, 104, 105, 106, 107, 108, 109, 110] rfl (by decide +kernel)
set_option maxRecDepth 20000 in
theorem gX4_readMilestone_X3_milestoneNamed : GoodIn wsX4_readMilestone (wsV RX4 127 RX3 yX3_milestoneNamed wsX3_milestoneNamed) := goodIn_app (goodIn_r _ [26, 27, 28, 10] rfl (by decide +kernel)) ggX4_readMilestone_X3_milestoneNamed
set_option maxRecDepth 20000 in
theorem ggX4_readMilestone_X4_fail : GoodIn wsX4_readMilestone wsX4_fail := goodIn_r _ [17, 4, 18, 19, 20, 85, 86, 87, 88, 89, 90, 91, 92, 93] rfl (by decide +kernel)
set_option maxRecDepth 20000 in
theorem gX4_readMilestone_X4_fail : GoodIn wsX4_readMilestone (wsV RX4 63 RX4 yX4_fail wsX4_fail) := goodIn_app (goodIn_r _ [13, 14, 15, 16] rfl (by decide +kernel)) ggX4_readMilestone_X4_fail
set_option maxRecDepth 20000 in
theorem ggX4_readMilestone_X4_lookAt : GoodIn wsX4_readMilestone wsX4_lookAt := goodIn_r _ [24, 25, 2, 4, 19, 3, 85, 86, 87, 88, 89, 90, 91, 92, 93, 111, 112, 113, 114] rfl (by decide +kernel)
set_option maxRecDepth 20000 in
theorem gX4_readMilestone_X4_lookAt : GoodIn wsX4_readMilestone (wsV RX4 38 RX4 yX4_lookAt wsX4_lookAt) := goodIn_app (goodIn_r _ [21, 22, 23, 16] rfl (by decide +kernel)) ggX4_readMilestone_X4_lookAt
set_option maxRecDepth 20000 in
theorem ggX4_readMilestone_X4_readCondition : GoodIn wsX4_readMilestone wsX4_readCondition := goodIn_r _ [42, 4, 2, 1, 43, 44, 45, 16, 21, 22, 23, 24, 25, 19, 3, 46, 47, 48, 10, 49, 50, 51, 52, 53, 54, 55, 56, 57, 6, 5, 13, 14, 15, 17, 18, 20, 58, 59, 60, 61, 39, 40, 41, 31, 32, 33, 34, 35, 36, 37, 38, 62, 63, 64, 65, 66, 67, 68, 69, 70, 71, 72, 73, 74, 75, 26, 27, 28, 29, 12, 30, 85, 86, 87, 88, 89, 90, 91, 92, 93, 111, 112, 113, 114, 94, 95, 96, 97, 98, 99, 100, 101, 102, 103, 104, 105, 106, 107, 108, 109, 110] rfl (by decide +kernel)
set_option maxRecDepth 20000 in
theorem gX4_readMilestone_X4_readCondition : GoodIn wsX4_readMilestone (wsV RX4 131 RX4 yX4_readCondition wsX4_readCondition) := goodIn_app (goodIn_r _ [39, 40, 41, 16] rfl (by decide +kernel)) ggX4_readMilestone_X4_readCondition
set_option maxRecDepth 20000 in
theorem ggX4_readMilestone_X4_take : GoodIn wsX4_readMilestone wsX4_take := goodIn_r _ [34, 4, 2, 13, 14, 15, 16, 17, 18, 19, 20, 21, 22, 23, 24, 25, 3, 85, 86, 87, 88, 89, 90, 91, 92, 93, 111, 112, 113, 114] rfl (by decide +kernel)
set_option maxRecDepth 20000 in
theorem gX4_readMilestone_X4_take : GoodIn wsX4_readMilestone (wsV RX4 108 RX4 yX4_take wsX4_take) := goodIn_app (goodIn_r _ [31, 32, 33, 16] rfl (by decide +kernel)) ggX4_readMilestone_X4_take
set_option maxRecDepth 20000 in
theorem ggX4_readMilestone_X4_takeNumber : GoodIn wsX4_readMilestone wsX4_takeNumber := goodIn_r _ [38, 4, 3, 6, 2, 13, 14, 15, 16, 17, 18, 19, 20, 21, 22, 23, 24, 25, 85, 86, 87, 88, 89, 90, 91, 92, 93, 111, 112, 113, 114] rfl (by decide +kernel)
set_option maxRecDepth 20000 in
theorem gX4_readMilestone_X4_takeNumber : GoodIn wsX4_readMilestone (wsV RX4 94 RX4 yX4_takeNumber wsX4_takeNumber) := goodIn_app (goodIn_r _ [35, 36, 37, 16] rfl (by decide +kernel)) ggX4_readMilestone_X4_takeNumber
set_option maxRecDepth 20000 in
theorem ggX4_readProofName_X3_addStep : GoodIn wsX4_readProofName wsX3_addStep := goodIn_r _ [28, 29, 30, 31, 41, 42, 43, 44, 45, 46, 47, 48, 49, 50, 51, 52, 53, 54, 55, 56, 57] rfl (by decide +kernel)
set_option maxRecDepth 20000 in
theorem gX4_readProofName_X3_addStep : GoodIn wsX4_readProofName (wsV RX4 141 RX3 yX3_addStep wsX3_addStep) := goodIn_app (goodIn_r _ [25, 26, 27, 16] rfl (by decide +kernel)) ggX4_readProofName_X3_addStep
set_option maxRecDepth 20000 in
theorem ggX4_readProofName_X3_proofNamed : GoodIn wsX4_readProofName wsX3_proofNamed := goodIn_r _ [17, 18, 19, 41, 42, 43, 44, 45, 46, 47, 48, 49, 50, 51, 52, 53, 54, 55, 56, 57] rfl (by decide +kernel)
set_option maxRecDepth 20000 in
theorem gX4_readProofName_X3_proofNamed : GoodIn wsX4_readProofName (wsV RX4 156 RX3 yX3_proofNamed wsX3_proofNamed) := goodIn_app (goodIn_r _ [13, 14, 15, 16] rfl (by decide +kernel)) ggX4_readProofName_X3_proofNamed
set_option maxRecDepth 20000 in
theorem ggX4_readProofName_X4_fail : GoodIn wsX4_readProofName wsX4_fail := goodIn_r _ [9, 1, 10, 11, 12, 32, 33, 34, 35, 36, 37, 38, 39, 40] rfl (by decide +kernel)
set_option maxRecDepth 20000 in
theorem gX4_readProofName_X4_fail : GoodIn wsX4_readProofName (wsV RX4 63 RX4 yX4_fail wsX4_fail) := goodIn_app (goodIn_r _ [5, 6, 7, 8] rfl (by decide +kernel)) ggX4_readProofName_X4_fail
set_option maxRecDepth 20000 in
theorem ggX4_readProofName_X4_lookAt : GoodIn wsX4_readProofName wsX4_lookAt := goodIn_r _ [23, 24, 4, 1, 11, 3, 32, 33, 34, 35, 36, 37, 38, 39, 40, 58, 59, 60, 61] rfl (by decide +kernel)
set_option maxRecDepth 20000 in
theorem gX4_readProofName_X4_lookAt : GoodIn wsX4_readProofName (wsV RX4 38 RX4 yX4_lookAt wsX4_lookAt) := goodIn_app (goodIn_r _ [20, 21, 22, 8] rfl (by decide +kernel)) ggX4_readProofName_X4_lookAt
set_option maxRecDepth 20000 in
theorem ggX4_readRate_X4_fail : GoodIn wsX4_readRate wsX4_fail := goodIn_r _ [20, 4, 21, 12, 22, 32, 33, 34, 35, 36, 37, 38, 39, 40] rfl (by decide +kernel)
set_option maxRecDepth 20000 in
theorem gX4_readRate_X4_fail : GoodIn wsX4_readRate (wsV RX4 63 RX4 yX4_fail wsX4_fail) := goodIn_app (goodIn_r _ [17, 18, 19, 9] rfl (by decide +kernel)) ggX4_readRate_X4_fail
set_option maxRecDepth 20000 in
theorem ggX4_readRate_X4_lookAt : GoodIn wsX4_readRate wsX4_lookAt := goodIn_r _ [10, 11, 1, 4, 12, 5, 32, 33, 34, 35, 36, 37, 38, 39, 40, 58, 59, 60, 61] rfl (by decide +kernel)
set_option maxRecDepth 20000 in
theorem gX4_readRate_X4_lookAt : GoodIn wsX4_readRate (wsV RX4 38 RX4 yX4_lookAt wsX4_lookAt) := goodIn_app (goodIn_r _ [6, 7, 8, 9] rfl (by decide +kernel)) ggX4_readRate_X4_lookAt
set_option maxRecDepth 20000 in
theorem ggX4_readRate_X4_take : GoodIn wsX4_readRate wsX4_take := goodIn_r _ [31, 4, 1, 17, 18, 19, 9, 20, 21, 12, 22, 6, 7, 8, 10, 11, 5, 32, 33, 34, 35, 36, 37, 38, 39, 40, 58, 59, 60, 61] rfl (by decide +kernel)
set_option maxRecDepth 20000 in
theorem gX4_readRate_X4_take : GoodIn wsX4_readRate (wsV RX4 108 RX4 yX4_take wsX4_take) := goodIn_app (goodIn_r _ [28, 29, 30, 9] rfl (by decide +kernel)) ggX4_readRate_X4_take
set_option maxRecDepth 20000 in
theorem ggX4_readRate_X4_takeNumber : GoodIn wsX4_readRate wsX4_takeNumber := goodIn_r _ [16, 4, 5, 3, 1, 17, 18, 19, 9, 20, 21, 12, 22, 6, 7, 8, 10, 11, 32, 33, 34, 35, 36, 37, 38, 39, 40, 58, 59, 60, 61] rfl (by decide +kernel)
set_option maxRecDepth 20000 in
theorem gX4_readRate_X4_takeNumber : GoodIn wsX4_readRate (wsV RX4 94 RX4 yX4_takeNumber wsX4_takeNumber) := goodIn_app (goodIn_r _ [13, 14, 15, 9] rfl (by decide +kernel)) ggX4_readRate_X4_takeNumber
set_option maxRecDepth 20000 in
theorem ggX4_readRate_X9_isBasis : GoodIn wsX4_readRate wsX9_isBasis := goodIn_r _ [25, 26, 27] rfl (by decide +kernel)
set_option maxRecDepth 20000 in
theorem gX4_readRate_X9_isBasis_n101 : GoodIn wsX4_readRate (wsX9_isBasis) := ggX4_readRate_X9_isBasis
set_option maxRecDepth 20000 in
theorem ggX4_readText_X3_clear : GoodIn wsX4_readText wsX3_clear := goodIn_r _ [99, 100, 101, 102, 103, 104, 105, 106, 107, 234, 235, 236, 237, 238, 239, 240, 241, 242, 243, 244, 245, 246, 247, 248, 249, 250] rfl (by decide +kernel)
set_option maxRecDepth 20000 in
theorem gX4_readText_X3_clear : GoodIn wsX4_readText (wsV RX4 33 RX3 yX3_clear wsX3_clear) := goodIn_app (goodIn_r _ [95, 96, 97, 98] rfl (by decide +kernel)) ggX4_readText_X3_clear
set_option maxRecDepth 20000 in
theorem ggX4_readText_X4_fail : GoodIn wsX4_readText wsX4_fail := goodIn_r _ [128, 5, 3, 114, 4, 217, 218, 219, 220, 221, 222, 223, 224, 225] rfl (by decide +kernel)
set_option maxRecDepth 20000 in
theorem gX4_readText_X4_fail : GoodIn wsX4_readText (wsV RX4 63 RX4 yX4_fail wsX4_fail) := goodIn_app (goodIn_r _ [125, 126, 127, 111] rfl (by decide +kernel)) ggX4_readText_X4_fail
set_option maxRecDepth 20000 in
theorem ggX4_readText_X4_lookAt : GoodIn wsX4_readText wsX4_lookAt := goodIn_r _ [112, 1, 113, 5, 114, 115, 217, 218, 219, 220, 221, 222, 223, 224, 225, 226, 227, 228, 229] rfl (by decide +kernel)
set_option maxRecDepth 20000 in
theorem gX4_readText_X4_lookAt : GoodIn wsX4_readText (wsV RX4 38 RX4 yX4_lookAt wsX4_lookAt) := goodIn_app (goodIn_r _ [108, 109, 110, 111] rfl (by decide +kernel)) ggX4_readText_X4_lookAt
set_option maxRecDepth 20000 in
theorem ggX4_readText_X4_readDeposit : GoodIn wsX4_readText wsX4_readDeposit := goodIn_r _ [149, 2, 113, 150, 120, 151, 152, 153, 98, 154, 104, 155, 125, 126, 127, 111, 128, 5, 3, 114, 4, 108, 109, 110, 112, 1, 115, 121, 122, 123, 124, 156, 157, 158, 159, 160, 134, 135, 136, 137, 217, 218, 219, 220, 221, 222, 223, 224, 225, 234, 235, 236, 237, 238, 239, 240, 241, 242, 243, 244, 245, 246, 247, 248, 249, 250, 226, 227, 228, 229] rfl (by decide +kernel)
set_option maxRecDepth 20000 in
theorem gX4_readText_X4_readDeposit : GoodIn wsX4_readText (wsV RX4 57 RX4 yX4_readDeposit wsX4_readDeposit) := goodIn_app (goodIn_r _ [146, 147, 148, 111] rfl (by decide +kernel)) ggX4_readText_X4_readDeposit
set_option maxRecDepth 20000 in
theorem ggX4_readText_X4_readFee : GoodIn wsX4_readText wsX4_readFee := goodIn_r _ [141, 113, 2, 120, 108, 109, 110, 111, 112, 1, 5, 114, 115, 121, 122, 123, 124, 125, 126, 127, 128, 3, 4, 134, 135, 136, 137, 217, 218, 219, 220, 221, 222, 223, 224, 225, 234, 235, 236, 237, 238, 239, 240, 241, 242, 243, 244, 245, 246, 247, 248, 249, 250, 226, 227, 228, 229] rfl (by decide +kernel)
set_option maxRecDepth 20000 in
theorem gX4_readText_X4_readFee : GoodIn wsX4_readText (wsV RX4 51 RX4 yX4_readFee wsX4_readFee) := goodIn_app (goodIn_r _ [138, 139, 140, 111] rfl (by decide +kernel)) ggX4_readText_X4_readFee
set_option maxRecDepth 20000 in
theorem ggX4_readText_X4_readGrace : GoodIn wsX4_readText wsX4_readGrace := goodIn_r _ [145, 113, 2, 120, 108, 109, 110, 111, 112, 1, 5, 114, 115, 121, 122, 123, 124, 125, 126, 127, 128, 3, 4, 134, 135, 136, 137, 217, 218, 219, 220, 221, 222, 223, 224, 225, 234, 235, 236, 237, 238, 239, 240, 241, 242, 243, 244, 245, 246, 247, 248, 249, 250, 226, 227, 228, 229] rfl (by decide +kernel)
set_option maxRecDepth 20000 in
theorem gX4_readText_X4_readGrace : GoodIn wsX4_readText (wsV RX4 54 RX4 yX4_readGrace wsX4_readGrace) := goodIn_app (goodIn_r _ [142, 143, 144, 111] rfl (by decide +kernel)) ggX4_readText_X4_readGrace
set_option maxRecDepth 20000 in
theorem ggX4_readText_X4_readMilestone : GoodIn wsX4_readText wsX4_readMilestone := goodIn_r _ [164, 2, 113, 115, 5, 150, 120, 165, 166, 167, 98, 168, 105, 125, 126, 127, 111, 128, 3, 114, 4, 108, 109, 110, 112, 1, 169, 170, 171, 172, 173, 134, 135, 136, 137, 121, 122, 123, 124, 174, 175, 176, 177, 178, 179, 180, 181, 182, 183, 184, 107, 185, 186, 187, 188, 189, 190, 191, 192, 193, 40, 194, 195, 196, 197, 198, 199, 200, 201, 202, 106, 203, 204, 205, 206, 207, 208, 209, 210, 211, 212, 213, 214, 215, 216, 217, 218, 219, 220, 221, 222, 223, 224, 225, 234, 235, 236, 237, 238, 239, 240, 241, 242, 243, 244, 245, 246, 247, 248, 249, 250, 226, 227, 228, 229] rfl (by decide +kernel)
set_option maxRecDepth 20000 in
theorem gX4_readText_X4_readMilestone : GoodIn wsX4_readText (wsV RX4 60 RX4 yX4_readMilestone wsX4_readMilestone) := goodIn_app (goodIn_r _ [161, 162, 163, 111] rfl (by decide +kernel)) ggX4_readText_X4_readMilestone
set_option maxRecDepth 20000 in
theorem ggX4_readText_X4_readRate : GoodIn wsX4_readText wsX4_readRate := goodIn_r _ [119, 113, 2, 120, 5, 115, 108, 109, 110, 111, 112, 1, 114, 121, 122, 123, 124, 125, 126, 127, 128, 3, 4, 129, 130, 131, 132, 133, 134, 135, 136, 137, 217, 218, 219, 220, 221, 222, 223, 224, 225, 234, 235, 236, 237, 238, 239, 240, 241, 242, 243, 244, 245, 246, 247, 248, 249, 250, 226, 227, 228, 229] rfl (by decide +kernel)
set_option maxRecDepth 20000 in
theorem gX4_readText_X4_readRate : GoodIn wsX4_readText (wsV RX4 47 RX4 yX4_readRate wsX4_readRate) := goodIn_app (goodIn_r _ [116, 117, 118, 111] rfl (by decide +kernel)) ggX4_readText_X4_readRate
set_option maxRecDepth 20000 in
theorem ggX4_readText_X5_split : GoodIn wsX4_readText wsX5_split := goodIn_r _ [10, 11, 12, 13, 9, 14, 15, 16, 17, 18, 19, 20, 21, 22, 23, 24, 25, 26, 27, 28, 29, 30, 31, 32, 33, 34, 35, 36, 37, 38, 39, 40, 41, 42, 43, 44, 45, 46, 47, 48, 49, 50, 51, 52, 53, 54, 55, 56, 57, 58, 59, 60, 61, 62, 63, 64, 65, 66, 67, 68, 69, 70, 71, 72, 73, 74, 75, 76, 77, 78, 79, 80, 81, 82, 83, 84, 85, 86, 87, 88, 89, 90, 91, 92, 93, 94, 226, 227, 228, 229, 230, 231, 232, 233] rfl (by decide +kernel)
set_option maxRecDepth 20000 in
theorem gX4_readText_X5_split : GoodIn wsX4_readText (wsV RX4 29 RX5 yX5_split wsX5_split) := goodIn_app (goodIn_r _ [6, 7, 8, 9] rfl (by decide +kernel)) ggX4_readText_X5_split
set_option maxRecDepth 20000 in
theorem ggX4_takeNumber_X4_fail : GoodIn wsX4_takeNumber wsX4_fail := goodIn_r _ [9, 1, 10, 11, 12, 18, 19, 20, 21, 22, 23, 24, 25, 26] rfl (by decide +kernel)
set_option maxRecDepth 20000 in
theorem gX4_takeNumber_X4_fail : GoodIn wsX4_takeNumber (wsV RX4 63 RX4 yX4_fail wsX4_fail) := goodIn_app (goodIn_r _ [5, 6, 7, 8] rfl (by decide +kernel)) ggX4_takeNumber_X4_fail
set_option maxRecDepth 20000 in
theorem ggX4_takeNumber_X4_lookAt : GoodIn wsX4_takeNumber wsX4_lookAt := goodIn_r _ [16, 17, 4, 1, 11, 2, 18, 19, 20, 21, 22, 23, 24, 25, 26, 27, 28, 29, 30] rfl (by decide +kernel)
set_option maxRecDepth 20000 in
theorem gX4_takeNumber_X4_lookAt : GoodIn wsX4_takeNumber (wsV RX4 38 RX4 yX4_lookAt wsX4_lookAt) := goodIn_app (goodIn_r _ [13, 14, 15, 8] rfl (by decide +kernel)) ggX4_takeNumber_X4_lookAt
set_option maxRecDepth 20000 in
theorem ggX4_take_X4_fail : GoodIn wsX4_take wsX4_fail := goodIn_r _ [7, 1, 8, 9, 10, 17, 18, 19, 20, 21, 22, 23, 24, 25] rfl (by decide +kernel)
set_option maxRecDepth 20000 in
theorem gX4_take_X4_fail : GoodIn wsX4_take (wsV RX4 63 RX4 yX4_fail wsX4_fail) := goodIn_app (goodIn_r _ [3, 4, 5, 6] rfl (by decide +kernel)) ggX4_take_X4_fail
set_option maxRecDepth 20000 in
theorem ggX4_take_X4_lookAt : GoodIn wsX4_take wsX4_lookAt := goodIn_r _ [14, 15, 2, 1, 9, 16, 17, 18, 19, 20, 21, 22, 23, 24, 25, 26, 27, 28, 29] rfl (by decide +kernel)
set_option maxRecDepth 20000 in
theorem gX4_take_X4_lookAt : GoodIn wsX4_take (wsV RX4 38 RX4 yX4_lookAt wsX4_lookAt) := goodIn_app (goodIn_r _ [11, 12, 13, 6] rfl (by decide +kernel)) ggX4_take_X4_lookAt
set_option maxRecDepth 20000 in
theorem ggX5_extendLast_X5_extended : GoodIn wsX5_extendLast wsX5_extended := goodIn_r _ [7, 8, 9, 10, 11, 12] rfl (by decide +kernel)
set_option maxRecDepth 20000 in
theorem gX5_extendLast_X5_extended : GoodIn wsX5_extendLast (va_wsS RX5 36 yX5_extended wsX5_extended) := goodIn_app (goodIn_r _ [4, 5, 6] rfl (by decide +kernel)) ggX5_extendLast_X5_extended
set_option maxRecDepth 20000 in
theorem ggX5_extended_X8_withLetter : GoodIn wsX5_extended wsX8_withLetter := goodIn_r _ [5] rfl (by decide +kernel)
set_option maxRecDepth 20000 in
theorem gX5_extended_X8_withLetter : GoodIn wsX5_extended (va_wsS RX5 47 yX8_withLetter wsX8_withLetter) := goodIn_app (goodIn_r _ [2, 3, 4] rfl (by decide +kernel)) ggX5_extended_X8_withLetter
set_option maxRecDepth 20000 in
theorem ggX5_markKeywords_X7_spelling : GoodIn wsX5_markKeywords wsX7_spelling := goodIn_r _ [7] rfl (by decide +kernel)
set_option maxRecDepth 20000 in
theorem gX5_markKeywords_X7_spelling : GoodIn wsX5_markKeywords (va_wsS RX5 55 yX7_spelling wsX7_spelling) := goodIn_app (goodIn_r _ [4, 5, 6] rfl (by decide +kernel)) ggX5_markKeywords_X7_spelling
set_option maxRecDepth 20000 in
theorem ggX5_markKeywords_X8_packed : GoodIn wsX5_markKeywords wsX8_packed := goodIn_r _ [11, 12, 13, 14, 15, 16, 17, 18, 19, 20, 21, 22, 23, 24, 25, 26, 27, 28, 29, 30, 31, 32, 33, 34, 35, 36, 37, 38, 39, 40, 41, 42, 43, 44, 45, 46, 47, 48, 49, 50, 51, 52, 53, 54, 55, 56, 57, 58, 59, 60, 61, 62, 10, 63, 68, 69, 70, 71] rfl (by decide +kernel)
set_option maxRecDepth 20000 in
theorem gX5_markKeywords_X8_packed : GoodIn wsX5_markKeywords (va_wsS RX5 59 yX8_packed wsX8_packed) := goodIn_app (goodIn_r _ [8, 9, 10] rfl (by decide +kernel)) ggX5_markKeywords_X8_packed
set_option maxRecDepth 20000 in
theorem ggX5_split_X5_add : GoodIn wsX5_split wsX5_add := goodIn_r _ [23, 1, 11, 24, 10, 86, 87, 88, 89] rfl (by decide +kernel)
set_option maxRecDepth 20000 in
theorem gX5_split_X5_add : GoodIn wsX5_split (wsV RX5 40 RX5 yX5_add wsX5_add) := goodIn_app (goodIn_r _ [20, 21, 22, 4] rfl (by decide +kernel)) ggX5_split_X5_add
set_option maxRecDepth 20000 in
theorem ggX5_split_X5_extendLast : GoodIn wsX5_split wsX5_extendLast := goodIn_r _ [9, 1, 10, 11, 12, 13, 4, 14, 15, 16, 17, 18, 19, 86, 87, 88, 89] rfl (by decide +kernel)
set_option maxRecDepth 20000 in
theorem gX5_split_X5_extendLast : GoodIn wsX5_split (wsV RX5 32 RX5 yX5_extendLast wsX5_extendLast) := goodIn_app (goodIn_r _ [6, 7, 8, 4] rfl (by decide +kernel)) ggX5_split_X5_extendLast
set_option maxRecDepth 20000 in
theorem ggX5_split_X5_extended : GoodIn wsX5_split wsX5_extended := goodIn_r _ [14, 15, 16, 17, 18, 19] rfl (by decide +kernel)
set_option maxRecDepth 20000 in
theorem gX5_split_X5_extended : GoodIn wsX5_split (va_wsS RX5 36 yX5_extended wsX5_extended) := goodIn_app (goodIn_r _ [12, 13, 4] rfl (by decide +kernel)) ggX5_split_X5_extended
set_option maxRecDepth 20000 in
theorem ggX5_split_X5_kindOf : GoodIn wsX5_split wsX5_kindOf := goodIn_r _ [5] rfl (by decide +kernel)
set_option maxRecDepth 20000 in
theorem gX5_split_X5_kindOf : GoodIn wsX5_split (va_wsS RX5 28 yX5_kindOf wsX5_kindOf) := goodIn_app (goodIn_r _ [2, 3, 4] rfl (by decide +kernel)) ggX5_split_X5_kindOf
set_option maxRecDepth 20000 in
theorem ggX5_split_X5_markKeywords : GoodIn wsX5_split wsX5_markKeywords := goodIn_r _ [28, 1, 11, 10, 29, 30, 31, 32, 33, 34, 18, 35, 36, 37, 38, 39, 40, 41, 42, 43, 44, 45, 46, 47, 48, 49, 50, 51, 52, 53, 54, 55, 56, 57, 58, 59, 60, 61, 62, 63, 64, 65, 66, 67, 68, 69, 70, 71, 72, 73, 74, 75, 76, 77, 78, 79, 80, 81, 82, 83, 84, 85, 17, 19, 86, 87, 88, 89, 90, 91, 92, 93] rfl (by decide +kernel)
set_option maxRecDepth 20000 in
theorem gX5_split_X5_markKeywords : GoodIn wsX5_split (wsV RX5 44 RX5 yX5_markKeywords wsX5_markKeywords) := goodIn_app (goodIn_r _ [25, 26, 27, 4] rfl (by decide +kernel)) ggX5_split_X5_markKeywords
set_option maxRecDepth 20000 in
theorem ggX8_packed_J0_charAt_5068e : GoodIn wsX8_packed wsJ0_charAt_5068e := goodIn_r _ [16, 6, 17, 18, 19, 4, 20, 11, 12, 21, 22, 23, 24, 25, 26, 27, 28, 29, 30, 31, 32, 33, 34, 35, 36, 37, 38, 39, 40, 41, 42, 43, 44, 45, 46, 47, 48, 49, 54, 55, 56, 57] rfl (by decide +kernel)
set_option maxRecDepth 20000 in
theorem gX8_packed_J0_charAt_5068e : GoodIn wsX8_packed (wsV RX8 15 RJ0 yJ0_charAt_5068e wsJ0_charAt_5068e) := goodIn_app (goodIn_r _ [13, 14, 15, 4] rfl (by decide +kernel)) ggX8_packed_J0_charAt_5068e
set_option maxRecDepth 20000 in
theorem ggX8_packed_J0_length_8abf5 : GoodIn wsX8_packed wsJ0_length_8abf5 := goodIn_r _ [5, 6, 7, 8, 9, 4, 10, 11, 12, 54, 55, 56, 57] rfl (by decide +kernel)
set_option maxRecDepth 20000 in
theorem gX8_packed_J0_length_8abf5 : GoodIn wsX8_packed (wsV RX8 9 RJ0 yJ0_length_8abf5 wsJ0_length_8abf5) := goodIn_app (goodIn_r _ [1, 2, 3, 4] rfl (by decide +kernel)) ggX8_packed_J0_length_8abf5
set_option maxRecDepth 20000 in
theorem ggX8_packed_X8_withLetter : GoodIn wsX8_packed wsX8_withLetter := goodIn_r _ [53] rfl (by decide +kernel)
set_option maxRecDepth 20000 in
theorem gX8_packed_X8_withLetter : GoodIn wsX8_packed (va_wsS RX8 19 yX8_withLetter wsX8_withLetter) := goodIn_app (goodIn_r _ [50, 51, 52] rfl (by decide +kernel)) ggX8_packed_X8_withLetter
set_option maxRecDepth 20000 in
theorem ggX9_feed_X9_appendBytes : GoodIn wsX9_feed wsX9_appendBytes := goodIn_r _ [6, 1, 7, 8, 9, 10, 11, 12, 13, 14, 15, 16] rfl (by decide +kernel)
set_option maxRecDepth 20000 in
theorem gX9_feed_X9_appendBytes : GoodIn wsX9_feed (wsV RX9 63 RX9 yX9_appendBytes wsX9_appendBytes) := goodIn_app (goodIn_r _ [2, 3, 4, 5] rfl (by decide +kernel)) ggX9_feed_X9_appendBytes
set_option maxRecDepth 20000 in
theorem ggX9_load_X0_openWith : GoodIn wsX9_load wsX0_openWith := goodIn_r _ [237, 238, 239, 240, 241, 242, 243, 244, 245, 246, 247, 248, 249, 250, 251, 252, 253, 254, 255, 256, 257, 258, 259, 260, 261, 262, 263, 264, 265, 266, 267, 236, 268, 269, 270, 271, 272, 273, 274, 275, 276, 277, 327, 328, 329, 330, 331, 332, 333, 334, 335, 336, 337, 338, 339, 340, 341, 342, 343, 344, 345, 346, 293, 294, 295, 296, 297, 298, 299, 300, 301, 302, 303, 304, 305, 306, 307, 308, 309, 347, 348, 349] rfl (by decide +kernel)
set_option maxRecDepth 20000 in
theorem gX9_load_X0_openWith : GoodIn wsX9_load (wsV RX9 56 RX0 yX0_openWith wsX0_openWith) := goodIn_app (goodIn_r _ [233, 234, 235, 236] rfl (by decide +kernel)) ggX9_load_X0_openWith
set_option maxRecDepth 20000 in
theorem ggX9_load_X1_forgetAll : GoodIn wsX9_load wsX1_forgetAll := goodIn_r _ [282, 283, 350, 351, 352] rfl (by decide +kernel)
set_option maxRecDepth 20000 in
theorem gX9_load_X1_forgetAll : GoodIn wsX9_load (wsV RX9 75 RX1 yX1_forgetAll wsX1_forgetAll) := goodIn_app (goodIn_r _ [278, 279, 280, 281] rfl (by decide +kernel)) ggX9_load_X1_forgetAll
set_option maxRecDepth 20000 in
theorem ggX9_load_X4_readText : GoodIn wsX9_load wsX4_readText := goodIn_r _ [18, 19, 20, 21, 22, 23, 24, 25, 26, 27, 28, 29, 30, 31, 32, 33, 34, 35, 36, 37, 38, 39, 40, 41, 42, 43, 44, 45, 46, 47, 48, 49, 50, 51, 52, 53, 54, 55, 56, 57, 58, 59, 60, 61, 62, 63, 64, 65, 66, 67, 68, 69, 70, 71, 72, 73, 74, 75, 76, 77, 78, 79, 80, 81, 82, 83, 84, 85, 86, 87, 88, 89, 90, 91, 92, 93, 94, 95, 96, 97, 98, 99, 100, 101, 102, 103, 104, 105, 106, 107, 108, 109, 110, 111, 112, 113, 114, 115, 116, 117, 118, 119, 120, 121, 122, 123, 124, 125, 126, 127, 128, 17, 129, 130, 131, 132, 133, 134, 135, 136, 137, 138, 139, 140, 141, 142, 143, 144, 145, 146, 10, 147, 148, 149, 150, 151, 152, 153, 154, 155, 156, 157, 158, 159, 160, 161, 162, 163, 164, 165, 166, 167, 168, 169, 170, 171, 172, 173, 174, 175, 176, 177, 178, 179, 180, 181, 182, 183, 184, 185, 186, 187, 188, 189, 190, 191, 192, 193, 194, 195, 196, 197, 198, 199, 200, 201, 202, 203, 204, 205, 206, 207, 208, 209, 210, 211, 212, 213, 214, 215, 216, 217, 218, 219, 220, 221, 222, 223, 224, 225, 226, 227, 228, 229, 230, 231, 232, 310, 311, 312, 313, 314, 315, 316, 317, 318, 319, 320, 321, 322, 323, 324, 325, 326, 293, 294, 295, 296, 297, 298, 299, 300, 301, 302, 303, 304, 305, 306, 307, 308, 309] rfl (by decide +kernel)
set_option maxRecDepth 20000 in
theorem gX9_load_X4_readText : GoodIn wsX9_load (wsV RX9 71 RX4 yX4_readText wsX4_readText) := goodIn_app (goodIn_r _ [14, 15, 16, 17] rfl (by decide +kernel)) ggX9_load_X4_readText
set_option maxRecDepth 20000 in
theorem ggX9_load_X9_needRange : GoodIn wsX9_load wsX9_needRange := goodIn_ca (goodIn_r _ [11, 12, 13] rfl (by decide +kernel)) (goodIn_sub (fun _ h => List.mem_cons_of_mem _ (List.mem_append_right _ h)) (by decide +kernel))
set_option maxRecDepth 20000 in
theorem gX9_load_X9_needRange : GoodIn wsX9_load (va_wsS RX9 67 yX9_needRange wsX9_needRange) := goodIn_app (goodIn_r _ [8, 9, 10] rfl (by decide +kernel)) ggX9_load_X9_needRange
theorem dJ0_charAt_5068e_0 : decode cJ0_charAt_5068e 0 = .ok (.aload_n 0, 1) := by decide +kernel
theorem dJ0_charAt_5068e_1 : decode cJ0_charAt_5068e 1 = .ok (.invokevirtual 492, 3) := by decide +kernel
theorem dJ0_charAt_5068e_4 : decode cJ0_charAt_5068e 4 = .ok (.ifCond .eq 12, 3) := by decide +kernel
theorem dJ0_charAt_5068e_7 : decode cJ0_charAt_5068e 7 = .ok (.aload_n 0, 1) := by decide +kernel
theorem dJ0_charAt_5068e_8 : decode cJ0_charAt_5068e 8 = .ok (.getfield 9, 3) := by decide +kernel
theorem dJ0_charAt_5068e_11 : decode cJ0_charAt_5068e 11 = .ok (.iload_n 1, 1) := by decide +kernel
theorem dJ0_charAt_5068e_12 : decode cJ0_charAt_5068e 12 = .ok (.invokestatic 495, 3) := by decide +kernel
theorem dJ0_charAt_5068e_15 : decode cJ0_charAt_5068e 15 = .ok (.ireturn, 1) := by decide +kernel
theorem dJ0_charAt_5068e_16 : decode cJ0_charAt_5068e 16 = .ok (.aload_n 0, 1) := by decide +kernel
theorem dJ0_charAt_5068e_17 : decode cJ0_charAt_5068e 17 = .ok (.getfield 9, 3) := by decide +kernel
theorem dJ0_charAt_5068e_20 : decode cJ0_charAt_5068e 20 = .ok (.iload_n 1, 1) := by decide +kernel
theorem dJ0_charAt_5068e_21 : decode cJ0_charAt_5068e 21 = .ok (.invokestatic 498, 3) := by decide +kernel
theorem dJ0_charAt_5068e_24 : decode cJ0_charAt_5068e 24 = .ok (.ireturn, 1) := by decide +kernel
theorem dJ0_checkIndex_df160_0 : decode cJ0_checkIndex_df160 0 = .ok (.iload_n 0, 1) := by decide +kernel
theorem dJ0_checkIndex_df160_1 : decode cJ0_checkIndex_df160 1 = .ok (.iload_n 1, 1) := by decide +kernel
theorem dJ0_checkIndex_df160_2 : decode cJ0_checkIndex_df160 2 = .ok (.getstatic 1053, 3) := by decide +kernel
theorem dJ0_checkIndex_df160_5 : decode cJ0_checkIndex_df160 5 = .ok (.invokestatic 1059, 3) := by decide +kernel
theorem dJ0_checkIndex_df160_8 : decode cJ0_checkIndex_df160 8 = .ok (.pop, 1) := by decide +kernel
theorem dJ0_checkIndex_df160_9 : decode cJ0_checkIndex_df160 9 = .ok (.return_, 1) := by decide +kernel
theorem dJ0_coder_7d493_0 : decode cJ0_coder_7d493 0 = .ok (.getstatic 38, 3) := by decide +kernel
theorem dJ0_coder_7d493_3 : decode cJ0_coder_7d493 3 = .ok (.ifCond .eq 10, 3) := by decide +kernel
theorem dJ0_coder_7d493_6 : decode cJ0_coder_7d493 6 = .ok (.aload_n 0, 1) := by decide +kernel
theorem dJ0_coder_7d493_7 : decode cJ0_coder_7d493 7 = .ok (.getfield 15, 3) := by decide +kernel
theorem dJ0_coder_7d493_10 : decode cJ0_coder_7d493 10 = .ok (.goto 4, 3) := by decide +kernel
theorem dJ0_coder_7d493_13 : decode cJ0_coder_7d493 13 = .ok (.iconst 1, 1) := by decide +kernel
theorem dJ0_coder_7d493_14 : decode cJ0_coder_7d493 14 = .ok (.ireturn, 1) := by decide +kernel
theorem dJ0_isLatin1_aae02_0 : decode cJ0_isLatin1_aae02 0 = .ok (.getstatic 38, 3) := by decide +kernel
theorem dJ0_isLatin1_aae02_3 : decode cJ0_isLatin1_aae02 3 = .ok (.ifCond .eq 14, 3) := by decide +kernel
theorem dJ0_isLatin1_aae02_6 : decode cJ0_isLatin1_aae02 6 = .ok (.aload_n 0, 1) := by decide +kernel
theorem dJ0_isLatin1_aae02_7 : decode cJ0_isLatin1_aae02 7 = .ok (.getfield 15, 3) := by decide +kernel
theorem dJ0_isLatin1_aae02_10 : decode cJ0_isLatin1_aae02 10 = .ok (.ifCond .ne 7, 3) := by decide +kernel
theorem dJ0_isLatin1_aae02_13 : decode cJ0_isLatin1_aae02 13 = .ok (.iconst 1, 1) := by decide +kernel
theorem dJ0_isLatin1_aae02_14 : decode cJ0_isLatin1_aae02 14 = .ok (.goto 4, 3) := by decide +kernel
theorem dJ0_isLatin1_aae02_17 : decode cJ0_isLatin1_aae02 17 = .ok (.iconst 0, 1) := by decide +kernel
theorem dJ0_isLatin1_aae02_18 : decode cJ0_isLatin1_aae02 18 = .ok (.ireturn, 1) := by decide +kernel
theorem dJ0_length_8abf5_0 : decode cJ0_length_8abf5 0 = .ok (.aload_n 0, 1) := by decide +kernel
theorem dJ0_length_8abf5_1 : decode cJ0_length_8abf5 1 = .ok (.getfield 9, 3) := by decide +kernel
theorem dJ0_length_8abf5_4 : decode cJ0_length_8abf5 4 = .ok (.arraylength, 1) := by decide +kernel
theorem dJ0_length_8abf5_5 : decode cJ0_length_8abf5 5 = .ok (.aload_n 0, 1) := by decide +kernel
theorem dJ0_length_8abf5_6 : decode cJ0_length_8abf5 6 = .ok (.invokevirtual 335, 3) := by decide +kernel
theorem dJ0_length_8abf5_9 : decode cJ0_length_8abf5 9 = .ok (.ishr, 1) := by decide +kernel
theorem dJ0_length_8abf5_10 : decode cJ0_length_8abf5 10 = .ok (.ireturn, 1) := by decide +kernel
theorem dJ1_charAt_3b067_0 : decode cJ1_charAt_3b067 0 = .ok (.iload_n 1, 1) := by decide +kernel
theorem dJ1_charAt_3b067_1 : decode cJ1_charAt_3b067 1 = .ok (.aload_n 0, 1) := by decide +kernel
theorem dJ1_charAt_3b067_2 : decode cJ1_charAt_3b067 2 = .ok (.arraylength, 1) := by decide +kernel
theorem dJ1_charAt_3b067_3 : decode cJ1_charAt_3b067 3 = .ok (.invokestatic 9, 3) := by decide +kernel
theorem dJ1_charAt_3b067_6 : decode cJ1_charAt_3b067 6 = .ok (.aload_n 0, 1) := by decide +kernel
theorem dJ1_charAt_3b067_7 : decode cJ1_charAt_3b067 7 = .ok (.iload_n 1, 1) := by decide +kernel
theorem dJ1_charAt_3b067_8 : decode cJ1_charAt_3b067 8 = .ok (.baload, 1) := by decide +kernel
theorem dJ1_charAt_3b067_9 : decode cJ1_charAt_3b067 9 = .ok (.sipush 255, 3) := by decide +kernel
theorem dJ1_charAt_3b067_12 : decode cJ1_charAt_3b067 12 = .ok (.iand, 1) := by decide +kernel
theorem dJ1_charAt_3b067_13 : decode cJ1_charAt_3b067 13 = .ok (.i2c, 1) := by decide +kernel
theorem dJ1_charAt_3b067_14 : decode cJ1_charAt_3b067 14 = .ok (.ireturn, 1) := by decide +kernel
theorem dJ3_checkIndex_8e157_0 : decode cJ3_checkIndex_8e157 0 = .ok (.iload_n 0, 1) := by decide +kernel
theorem dJ3_checkIndex_8e157_1 : decode cJ3_checkIndex_8e157 1 = .ok (.ifCond .lt 8, 3) := by decide +kernel
theorem dJ3_checkIndex_8e157_4 : decode cJ3_checkIndex_8e157 4 = .ok (.iload_n 0, 1) := by decide +kernel
theorem dJ3_checkIndex_8e157_5 : decode cJ3_checkIndex_8e157 5 = .ok (.iload_n 1, 1) := by decide +kernel
theorem dJ3_checkIndex_8e157_6 : decode cJ3_checkIndex_8e157 6 = .ok (.if_icmp .lt 10, 3) := by decide +kernel
theorem dJ3_checkIndex_8e157_9 : decode cJ3_checkIndex_8e157 9 = .ok (.aload_n 2, 1) := by decide +kernel
theorem dJ3_checkIndex_8e157_10 : decode cJ3_checkIndex_8e157 10 = .ok (.iload_n 0, 1) := by decide +kernel
theorem dJ3_checkIndex_8e157_11 : decode cJ3_checkIndex_8e157 11 = .ok (.iload_n 1, 1) := by decide +kernel
theorem dJ3_checkIndex_8e157_12 : decode cJ3_checkIndex_8e157 12 = .ok (.invokestatic 95, 3) := by decide +kernel
theorem dJ3_checkIndex_8e157_15 : decode cJ3_checkIndex_8e157 15 = .ok (.athrow, 1) := by decide +kernel
theorem dJ3_checkIndex_8e157_16 : decode cJ3_checkIndex_8e157 16 = .ok (.iload_n 0, 1) := by decide +kernel
theorem dJ3_checkIndex_8e157_17 : decode cJ3_checkIndex_8e157 17 = .ok (.ireturn, 1) := by decide +kernel
theorem dX3_addDeposit_0 : decode cX3_addDeposit 0 = .ok (.aload_n 0, 1) := by decide +kernel
theorem dX3_addDeposit_1 : decode cX3_addDeposit 1 = .ok (.invokevirtual 65, 3) := by decide +kernel
theorem dX3_addDeposit_4 : decode cX3_addDeposit 4 = .ok (.ifCond .eq 23, 3) := by decide +kernel
theorem dX3_addDeposit_7 : decode cX3_addDeposit 7 = .ok (.aload_n 0, 1) := by decide +kernel
theorem dX3_addDeposit_8 : decode cX3_addDeposit 8 = .ok (.getfield 15, 3) := by decide +kernel
theorem dX3_addDeposit_11 : decode cX3_addDeposit 11 = .ok (.aload_n 0, 1) := by decide +kernel
theorem dX3_addDeposit_12 : decode cX3_addDeposit 12 = .ok (.getfield 53, 3) := by decide +kernel
theorem dX3_addDeposit_15 : decode cX3_addDeposit 15 = .ok (.iload_n 1, 1) := by decide +kernel
theorem dX3_addDeposit_16 : decode cX3_addDeposit 16 = .ok (.iastore, 1) := by decide +kernel
theorem dX3_addDeposit_17 : decode cX3_addDeposit 17 = .ok (.aload_n 0, 1) := by decide +kernel
theorem dX3_addDeposit_18 : decode cX3_addDeposit 18 = .ok (.dup, 1) := by decide +kernel
theorem dX3_addDeposit_19 : decode cX3_addDeposit 19 = .ok (.getfield 53, 3) := by decide +kernel
theorem dX3_addDeposit_22 : decode cX3_addDeposit 22 = .ok (.iconst 1, 1) := by decide +kernel
theorem dX3_addDeposit_23 : decode cX3_addDeposit 23 = .ok (.iadd, 1) := by decide +kernel
theorem dX3_addDeposit_24 : decode cX3_addDeposit 24 = .ok (.putfield 53, 3) := by decide +kernel
theorem dX3_addDeposit_27 : decode cX3_addDeposit 27 = .ok (.return_, 1) := by decide +kernel
theorem dX3_addMilestone_0 : decode cX3_addMilestone 0 = .ok (.aload_n 0, 1) := by decide +kernel
theorem dX3_addMilestone_1 : decode cX3_addMilestone 1 = .ok (.invokevirtual 69, 3) := by decide +kernel
theorem dX3_addMilestone_4 : decode cX3_addMilestone 4 = .ok (.ifCond .ne 4, 3) := by decide +kernel
theorem dX3_addMilestone_7 : decode cX3_addMilestone 7 = .ok (.return_, 1) := by decide +kernel
theorem dX3_addMilestone_8 : decode cX3_addMilestone 8 = .ok (.aload_n 0, 1) := by decide +kernel
theorem dX3_addMilestone_9 : decode cX3_addMilestone 9 = .ok (.getfield 56, 3) := by decide +kernel
theorem dX3_addMilestone_12 : decode cX3_addMilestone 12 = .ok (.istore 5, 2) := by decide +kernel
theorem dX3_addMilestone_14 : decode cX3_addMilestone 14 = .ok (.iload 5, 2) := by decide +kernel
theorem dX3_addMilestone_16 : decode cX3_addMilestone 16 = .ok (.ifCond .le 44, 3) := by decide +kernel
theorem dX3_addMilestone_19 : decode cX3_addMilestone 19 = .ok (.aload_n 0, 1) := by decide +kernel
theorem dX3_addMilestone_20 : decode cX3_addMilestone 20 = .ok (.getfield 26, 3) := by decide +kernel
theorem dX3_addMilestone_23 : decode cX3_addMilestone 23 = .ok (.aload_n 0, 1) := by decide +kernel
theorem dX3_addMilestone_24 : decode cX3_addMilestone 24 = .ok (.getfield 29, 3) := by decide +kernel
theorem dX3_addMilestone_27 : decode cX3_addMilestone 27 = .ok (.iload 5, 2) := by decide +kernel
theorem dX3_addMilestone_29 : decode cX3_addMilestone 29 = .ok (.iconst 1, 1) := by decide +kernel
theorem dX3_addMilestone_30 : decode cX3_addMilestone 30 = .ok (.isub, 1) := by decide +kernel
theorem dX3_addMilestone_31 : decode cX3_addMilestone 31 = .ok (.iaload, 1) := by decide +kernel
theorem dX3_addMilestone_32 : decode cX3_addMilestone 32 = .ok (.iaload, 1) := by decide +kernel
theorem dX3_addMilestone_33 : decode cX3_addMilestone 33 = .ok (.iload 4, 2) := by decide +kernel
theorem dX3_addMilestone_35 : decode cX3_addMilestone 35 = .ok (.if_icmp .le 25, 3) := by decide +kernel
theorem dX3_addMilestone_38 : decode cX3_addMilestone 38 = .ok (.aload_n 0, 1) := by decide +kernel
theorem dX3_addMilestone_39 : decode cX3_addMilestone 39 = .ok (.getfield 29, 3) := by decide +kernel
theorem dX3_addMilestone_42 : decode cX3_addMilestone 42 = .ok (.iload 5, 2) := by decide +kernel
theorem dX3_addMilestone_44 : decode cX3_addMilestone 44 = .ok (.aload_n 0, 1) := by decide +kernel
theorem dX3_addMilestone_45 : decode cX3_addMilestone 45 = .ok (.getfield 29, 3) := by decide +kernel
theorem dX3_addMilestone_48 : decode cX3_addMilestone 48 = .ok (.iload 5, 2) := by decide +kernel
theorem dX3_addMilestone_50 : decode cX3_addMilestone 50 = .ok (.iconst 1, 1) := by decide +kernel
theorem dX3_addMilestone_51 : decode cX3_addMilestone 51 = .ok (.isub, 1) := by decide +kernel
theorem dX3_addMilestone_52 : decode cX3_addMilestone 52 = .ok (.iaload, 1) := by decide +kernel
theorem dX3_addMilestone_53 : decode cX3_addMilestone 53 = .ok (.iastore, 1) := by decide +kernel
theorem dX3_addMilestone_54 : decode cX3_addMilestone 54 = .ok (.iinc 5 (-1), 3) := by decide +kernel
theorem dX3_addMilestone_57 : decode cX3_addMilestone 57 = .ok (.goto (-43), 3) := by decide +kernel
theorem dX3_addMilestone_60 : decode cX3_addMilestone 60 = .ok (.aload_n 0, 1) := by decide +kernel
theorem dX3_addMilestone_61 : decode cX3_addMilestone 61 = .ok (.getfield 29, 3) := by decide +kernel
theorem dX3_addMilestone_64 : decode cX3_addMilestone 64 = .ok (.iload 5, 2) := by decide +kernel
theorem dX3_addMilestone_66 : decode cX3_addMilestone 66 = .ok (.aload_n 0, 1) := by decide +kernel
theorem dX3_addMilestone_67 : decode cX3_addMilestone 67 = .ok (.getfield 56, 3) := by decide +kernel
theorem dX3_addMilestone_70 : decode cX3_addMilestone 70 = .ok (.iastore, 1) := by decide +kernel
theorem dX3_addMilestone_71 : decode cX3_addMilestone 71 = .ok (.aload_n 0, 1) := by decide +kernel
theorem dX3_addMilestone_72 : decode cX3_addMilestone 72 = .ok (.getfield 19, 3) := by decide +kernel
theorem dX3_addMilestone_75 : decode cX3_addMilestone 75 = .ok (.aload_n 0, 1) := by decide +kernel
theorem dX3_addMilestone_76 : decode cX3_addMilestone 76 = .ok (.getfield 56, 3) := by decide +kernel
theorem dX3_addMilestone_79 : decode cX3_addMilestone 79 = .ok (.lload_n 1, 1) := by decide +kernel
theorem dX3_addMilestone_80 : decode cX3_addMilestone 80 = .ok (.lastore, 1) := by decide +kernel
theorem dX3_addMilestone_81 : decode cX3_addMilestone 81 = .ok (.aload_n 0, 1) := by decide +kernel
theorem dX3_addMilestone_82 : decode cX3_addMilestone 82 = .ok (.getfield 23, 3) := by decide +kernel
theorem dX3_addMilestone_85 : decode cX3_addMilestone 85 = .ok (.aload_n 0, 1) := by decide +kernel
theorem dX3_addMilestone_86 : decode cX3_addMilestone 86 = .ok (.getfield 56, 3) := by decide +kernel
theorem dX3_addMilestone_89 : decode cX3_addMilestone 89 = .ok (.iload_n 3, 1) := by decide +kernel
theorem dX3_addMilestone_90 : decode cX3_addMilestone 90 = .ok (.iastore, 1) := by decide +kernel
theorem dX3_addMilestone_91 : decode cX3_addMilestone 91 = .ok (.aload_n 0, 1) := by decide +kernel
theorem dX3_addMilestone_92 : decode cX3_addMilestone 92 = .ok (.getfield 26, 3) := by decide +kernel
theorem dX3_addMilestone_95 : decode cX3_addMilestone 95 = .ok (.aload_n 0, 1) := by decide +kernel
theorem dX3_addMilestone_96 : decode cX3_addMilestone 96 = .ok (.getfield 56, 3) := by decide +kernel
theorem dX3_addMilestone_99 : decode cX3_addMilestone 99 = .ok (.iload 4, 2) := by decide +kernel
theorem dX3_addMilestone_101 : decode cX3_addMilestone 101 = .ok (.iastore, 1) := by decide +kernel
theorem dX3_addMilestone_102 : decode cX3_addMilestone 102 = .ok (.aload_n 0, 1) := by decide +kernel
theorem dX3_addMilestone_103 : decode cX3_addMilestone 103 = .ok (.getfield 41, 3) := by decide +kernel
theorem dX3_addMilestone_106 : decode cX3_addMilestone 106 = .ok (.aload_n 0, 1) := by decide +kernel
theorem dX3_addMilestone_107 : decode cX3_addMilestone 107 = .ok (.getfield 56, 3) := by decide +kernel
theorem dX3_addMilestone_110 : decode cX3_addMilestone 110 = .ok (.aload_n 0, 1) := by decide +kernel
theorem dX3_addMilestone_111 : decode cX3_addMilestone 111 = .ok (.getfield 62, 3) := by decide +kernel
theorem dX3_addMilestone_114 : decode cX3_addMilestone 114 = .ok (.iastore, 1) := by decide +kernel
theorem dX3_addMilestone_115 : decode cX3_addMilestone 115 = .ok (.aload_n 0, 1) := by decide +kernel
theorem dX3_addMilestone_116 : decode cX3_addMilestone 116 = .ok (.dup, 1) := by decide +kernel
theorem dX3_addMilestone_117 : decode cX3_addMilestone 117 = .ok (.getfield 56, 3) := by decide +kernel
theorem dX3_addMilestone_120 : decode cX3_addMilestone 120 = .ok (.iconst 1, 1) := by decide +kernel
theorem dX3_addMilestone_121 : decode cX3_addMilestone 121 = .ok (.iadd, 1) := by decide +kernel
theorem dX3_addMilestone_122 : decode cX3_addMilestone 122 = .ok (.putfield 56, 3) := by decide +kernel
theorem dX3_addMilestone_125 : decode cX3_addMilestone 125 = .ok (.return_, 1) := by decide +kernel
theorem dX3_addStep_0 : decode cX3_addStep 0 = .ok (.aload_n 0, 1) := by decide +kernel
theorem dX3_addStep_1 : decode cX3_addStep 1 = .ok (.getfield 62, 3) := by decide +kernel
theorem dX3_addStep_4 : decode cX3_addStep 4 = .ok (.sipush 350, 3) := by decide +kernel
theorem dX3_addStep_7 : decode cX3_addStep 7 = .ok (.if_icmp .lt 5, 3) := by decide +kernel
theorem dX3_addStep_10 : decode cX3_addStep 10 = .ok (.iconst 0, 1) := by decide +kernel
theorem dX3_addStep_11 : decode cX3_addStep 11 = .ok (.ireturn, 1) := by decide +kernel
theorem dX3_addStep_12 : decode cX3_addStep 12 = .ok (.aload_n 0, 1) := by decide +kernel
theorem dX3_addStep_13 : decode cX3_addStep 13 = .ok (.getfield 35, 3) := by decide +kernel
theorem dX3_addStep_16 : decode cX3_addStep 16 = .ok (.aload_n 0, 1) := by decide +kernel
theorem dX3_addStep_17 : decode cX3_addStep 17 = .ok (.getfield 62, 3) := by decide +kernel
theorem dX3_addStep_20 : decode cX3_addStep 20 = .ok (.iload_n 1, 1) := by decide +kernel
theorem dX3_addStep_21 : decode cX3_addStep 21 = .ok (.iastore, 1) := by decide +kernel
theorem dX3_addStep_22 : decode cX3_addStep 22 = .ok (.aload_n 0, 1) := by decide +kernel
theorem dX3_addStep_23 : decode cX3_addStep 23 = .ok (.getfield 38, 3) := by decide +kernel
theorem dX3_addStep_26 : decode cX3_addStep 26 = .ok (.aload_n 0, 1) := by decide +kernel
theorem dX3_addStep_27 : decode cX3_addStep 27 = .ok (.getfield 62, 3) := by decide +kernel
theorem dX3_addStep_30 : decode cX3_addStep 30 = .ok (.iload_n 2, 1) := by decide +kernel
theorem dX3_addStep_31 : decode cX3_addStep 31 = .ok (.iastore, 1) := by decide +kernel
theorem dX3_addStep_32 : decode cX3_addStep 32 = .ok (.aload_n 0, 1) := by decide +kernel
theorem dX3_addStep_33 : decode cX3_addStep 33 = .ok (.dup, 1) := by decide +kernel
theorem dX3_addStep_34 : decode cX3_addStep 34 = .ok (.getfield 62, 3) := by decide +kernel
theorem dX3_addStep_37 : decode cX3_addStep 37 = .ok (.iconst 1, 1) := by decide +kernel
theorem dX3_addStep_38 : decode cX3_addStep 38 = .ok (.iadd, 1) := by decide +kernel
theorem dX3_addStep_39 : decode cX3_addStep 39 = .ok (.putfield 62, 3) := by decide +kernel
theorem dX3_addStep_42 : decode cX3_addStep 42 = .ok (.iconst 1, 1) := by decide +kernel
theorem dX3_addStep_43 : decode cX3_addStep 43 = .ok (.ireturn, 1) := by decide +kernel
theorem dX3_clear_0 : decode cX3_clear 0 = .ok (.aload_n 0, 1) := by decide +kernel
theorem dX3_clear_1 : decode cX3_clear 1 = .ok (.iconst 0, 1) := by decide +kernel
theorem dX3_clear_2 : decode cX3_clear 2 = .ok (.putfield 44, 3) := by decide +kernel
theorem dX3_clear_5 : decode cX3_clear 5 = .ok (.aload_n 0, 1) := by decide +kernel
theorem dX3_clear_6 : decode cX3_clear 6 = .ok (.sipush 365, 3) := by decide +kernel
theorem dX3_clear_9 : decode cX3_clear 9 = .ok (.putfield 9, 3) := by decide +kernel
theorem dX3_clear_12 : decode cX3_clear 12 = .ok (.aload_n 0, 1) := by decide +kernel
theorem dX3_clear_13 : decode cX3_clear 13 = .ok (.iconst 0, 1) := by decide +kernel
theorem dX3_clear_14 : decode cX3_clear 14 = .ok (.putfield 47, 3) := by decide +kernel
theorem dX3_clear_17 : decode cX3_clear 17 = .ok (.aload_n 0, 1) := by decide +kernel
theorem dX3_clear_18 : decode cX3_clear 18 = .ok (.iconst 0, 1) := by decide +kernel
theorem dX3_clear_19 : decode cX3_clear 19 = .ok (.putfield 50, 3) := by decide +kernel
theorem dX3_clear_22 : decode cX3_clear 22 = .ok (.aload_n 0, 1) := by decide +kernel
theorem dX3_clear_23 : decode cX3_clear 23 = .ok (.iconst 0, 1) := by decide +kernel
theorem dX3_clear_24 : decode cX3_clear 24 = .ok (.putfield 53, 3) := by decide +kernel
theorem dX3_clear_27 : decode cX3_clear 27 = .ok (.aload_n 0, 1) := by decide +kernel
theorem dX3_clear_28 : decode cX3_clear 28 = .ok (.iconst 0, 1) := by decide +kernel
theorem dX3_clear_29 : decode cX3_clear 29 = .ok (.putfield 56, 3) := by decide +kernel
theorem dX3_clear_32 : decode cX3_clear 32 = .ok (.aload_n 0, 1) := by decide +kernel
theorem dX3_clear_33 : decode cX3_clear 33 = .ok (.iconst 0, 1) := by decide +kernel
theorem dX3_clear_34 : decode cX3_clear 34 = .ok (.putfield 59, 3) := by decide +kernel
theorem dX3_clear_37 : decode cX3_clear 37 = .ok (.aload_n 0, 1) := by decide +kernel
theorem dX3_clear_38 : decode cX3_clear 38 = .ok (.iconst 0, 1) := by decide +kernel
theorem dX3_clear_39 : decode cX3_clear 39 = .ok (.putfield 62, 3) := by decide +kernel
theorem dX3_clear_42 : decode cX3_clear 42 = .ok (.return_, 1) := by decide +kernel
theorem dX3_hasRoomForDeposit_0 : decode cX3_hasRoomForDeposit 0 = .ok (.aload_n 0, 1) := by decide +kernel
theorem dX3_hasRoomForDeposit_1 : decode cX3_hasRoomForDeposit 1 = .ok (.getfield 53, 3) := by decide +kernel
theorem dX3_hasRoomForDeposit_4 : decode cX3_hasRoomForDeposit 4 = .ok (.aload_n 0, 1) := by decide +kernel
theorem dX3_hasRoomForDeposit_5 : decode cX3_hasRoomForDeposit 5 = .ok (.getfield 15, 3) := by decide +kernel
theorem dX3_hasRoomForDeposit_8 : decode cX3_hasRoomForDeposit 8 = .ok (.arraylength, 1) := by decide +kernel
theorem dX3_hasRoomForDeposit_9 : decode cX3_hasRoomForDeposit 9 = .ok (.if_icmp .ge 7, 3) := by decide +kernel
theorem dX3_hasRoomForDeposit_12 : decode cX3_hasRoomForDeposit 12 = .ok (.iconst 1, 1) := by decide +kernel
theorem dX3_hasRoomForDeposit_13 : decode cX3_hasRoomForDeposit 13 = .ok (.goto 4, 3) := by decide +kernel
theorem dX3_hasRoomForDeposit_16 : decode cX3_hasRoomForDeposit 16 = .ok (.iconst 0, 1) := by decide +kernel
theorem dX3_hasRoomForDeposit_17 : decode cX3_hasRoomForDeposit 17 = .ok (.ireturn, 1) := by decide +kernel
theorem dX3_hasRoomForMilestone_0 : decode cX3_hasRoomForMilestone 0 = .ok (.aload_n 0, 1) := by decide +kernel
theorem dX3_hasRoomForMilestone_1 : decode cX3_hasRoomForMilestone 1 = .ok (.getfield 56, 3) := by decide +kernel
theorem dX3_hasRoomForMilestone_4 : decode cX3_hasRoomForMilestone 4 = .ok (.bipush 10, 2) := by decide +kernel
theorem dX3_hasRoomForMilestone_6 : decode cX3_hasRoomForMilestone 6 = .ok (.if_icmp .ge 7, 3) := by decide +kernel
theorem dX3_hasRoomForMilestone_9 : decode cX3_hasRoomForMilestone 9 = .ok (.iconst 1, 1) := by decide +kernel
theorem dX3_hasRoomForMilestone_10 : decode cX3_hasRoomForMilestone 10 = .ok (.goto 4, 3) := by decide +kernel
theorem dX3_hasRoomForMilestone_13 : decode cX3_hasRoomForMilestone 13 = .ok (.iconst 0, 1) := by decide +kernel
theorem dX3_hasRoomForMilestone_14 : decode cX3_hasRoomForMilestone 14 = .ok (.ireturn, 1) := by decide +kernel
theorem dX3_milestoneNamed_0 : decode cX3_milestoneNamed 0 = .ok (.iconst 0, 1) := by decide +kernel
theorem dX3_milestoneNamed_1 : decode cX3_milestoneNamed 1 = .ok (.istore_n 3, 1) := by decide +kernel
theorem dX3_milestoneNamed_2 : decode cX3_milestoneNamed 2 = .ok (.iload_n 3, 1) := by decide +kernel
theorem dX3_milestoneNamed_3 : decode cX3_milestoneNamed 3 = .ok (.aload_n 0, 1) := by decide +kernel
theorem dX3_milestoneNamed_4 : decode cX3_milestoneNamed 4 = .ok (.getfield 56, 3) := by decide +kernel
theorem dX3_milestoneNamed_7 : decode cX3_milestoneNamed 7 = .ok (.if_icmp .ge 22, 3) := by decide +kernel
theorem dX3_milestoneNamed_10 : decode cX3_milestoneNamed 10 = .ok (.aload_n 0, 1) := by decide +kernel
theorem dX3_milestoneNamed_11 : decode cX3_milestoneNamed 11 = .ok (.getfield 19, 3) := by decide +kernel
theorem dX3_milestoneNamed_14 : decode cX3_milestoneNamed 14 = .ok (.iload_n 3, 1) := by decide +kernel
theorem dX3_milestoneNamed_15 : decode cX3_milestoneNamed 15 = .ok (.laload, 1) := by decide +kernel
theorem dX3_milestoneNamed_16 : decode cX3_milestoneNamed 16 = .ok (.lload_n 1, 1) := by decide +kernel
theorem dX3_milestoneNamed_17 : decode cX3_milestoneNamed 17 = .ok (.lcmp, 1) := by decide +kernel
theorem dX3_milestoneNamed_18 : decode cX3_milestoneNamed 18 = .ok (.ifCond .ne 5, 3) := by decide +kernel
theorem dX3_milestoneNamed_21 : decode cX3_milestoneNamed 21 = .ok (.iload_n 3, 1) := by decide +kernel
theorem dX3_milestoneNamed_22 : decode cX3_milestoneNamed 22 = .ok (.ireturn, 1) := by decide +kernel
theorem dX3_milestoneNamed_23 : decode cX3_milestoneNamed 23 = .ok (.iinc 3 1, 3) := by decide +kernel
theorem dX3_milestoneNamed_26 : decode cX3_milestoneNamed 26 = .ok (.goto (-24), 3) := by decide +kernel
theorem dX3_milestoneNamed_29 : decode cX3_milestoneNamed 29 = .ok (.iconst (-1), 1) := by decide +kernel
theorem dX3_milestoneNamed_30 : decode cX3_milestoneNamed 30 = .ok (.ireturn, 1) := by decide +kernel
theorem dX3_proofNamed_0 : decode cX3_proofNamed 0 = .ok (.iconst 0, 1) := by decide +kernel
theorem dX3_proofNamed_1 : decode cX3_proofNamed 1 = .ok (.istore_n 3, 1) := by decide +kernel
theorem dX3_proofNamed_2 : decode cX3_proofNamed 2 = .ok (.iload_n 3, 1) := by decide +kernel
theorem dX3_proofNamed_3 : decode cX3_proofNamed 3 = .ok (.aload_n 0, 1) := by decide +kernel
theorem dX3_proofNamed_4 : decode cX3_proofNamed 4 = .ok (.getfield 59, 3) := by decide +kernel
theorem dX3_proofNamed_7 : decode cX3_proofNamed 7 = .ok (.if_icmp .ge 22, 3) := by decide +kernel
theorem dX3_proofNamed_10 : decode cX3_proofNamed 10 = .ok (.aload_n 0, 1) := by decide +kernel
theorem dX3_proofNamed_11 : decode cX3_proofNamed 11 = .ok (.getfield 32, 3) := by decide +kernel
theorem dX3_proofNamed_14 : decode cX3_proofNamed 14 = .ok (.iload_n 3, 1) := by decide +kernel
theorem dX3_proofNamed_15 : decode cX3_proofNamed 15 = .ok (.laload, 1) := by decide +kernel
theorem dX3_proofNamed_16 : decode cX3_proofNamed 16 = .ok (.lload_n 1, 1) := by decide +kernel
theorem dX3_proofNamed_17 : decode cX3_proofNamed 17 = .ok (.lcmp, 1) := by decide +kernel
theorem dX3_proofNamed_18 : decode cX3_proofNamed 18 = .ok (.ifCond .ne 5, 3) := by decide +kernel
theorem dX3_proofNamed_21 : decode cX3_proofNamed 21 = .ok (.iload_n 3, 1) := by decide +kernel
theorem dX3_proofNamed_22 : decode cX3_proofNamed 22 = .ok (.ireturn, 1) := by decide +kernel
theorem dX3_proofNamed_23 : decode cX3_proofNamed 23 = .ok (.iinc 3 1, 3) := by decide +kernel
theorem dX3_proofNamed_26 : decode cX3_proofNamed 26 = .ok (.goto (-24), 3) := by decide +kernel
theorem dX3_proofNamed_29 : decode cX3_proofNamed 29 = .ok (.aload_n 0, 1) := by decide +kernel
theorem dX3_proofNamed_30 : decode cX3_proofNamed 30 = .ok (.getfield 59, 3) := by decide +kernel
theorem dX3_proofNamed_33 : decode cX3_proofNamed 33 = .ok (.bipush 8, 2) := by decide +kernel
theorem dX3_proofNamed_35 : decode cX3_proofNamed 35 = .ok (.if_icmp .lt 5, 3) := by decide +kernel
theorem dX3_proofNamed_38 : decode cX3_proofNamed 38 = .ok (.iconst (-1), 1) := by decide +kernel
theorem dX3_proofNamed_39 : decode cX3_proofNamed 39 = .ok (.ireturn, 1) := by decide +kernel
theorem dX3_proofNamed_40 : decode cX3_proofNamed 40 = .ok (.aload_n 0, 1) := by decide +kernel
theorem dX3_proofNamed_41 : decode cX3_proofNamed 41 = .ok (.getfield 32, 3) := by decide +kernel
theorem dX3_proofNamed_44 : decode cX3_proofNamed 44 = .ok (.aload_n 0, 1) := by decide +kernel
theorem dX3_proofNamed_45 : decode cX3_proofNamed 45 = .ok (.getfield 59, 3) := by decide +kernel
theorem dX3_proofNamed_48 : decode cX3_proofNamed 48 = .ok (.lload_n 1, 1) := by decide +kernel
theorem dX3_proofNamed_49 : decode cX3_proofNamed 49 = .ok (.lastore, 1) := by decide +kernel
theorem dX3_proofNamed_50 : decode cX3_proofNamed 50 = .ok (.aload_n 0, 1) := by decide +kernel
theorem dX3_proofNamed_51 : decode cX3_proofNamed 51 = .ok (.dup, 1) := by decide +kernel
theorem dX3_proofNamed_52 : decode cX3_proofNamed 52 = .ok (.getfield 59, 3) := by decide +kernel
theorem dX3_proofNamed_55 : decode cX3_proofNamed 55 = .ok (.iconst 1, 1) := by decide +kernel
theorem dX3_proofNamed_56 : decode cX3_proofNamed 56 = .ok (.iadd, 1) := by decide +kernel
theorem dX3_proofNamed_57 : decode cX3_proofNamed 57 = .ok (.putfield 59, 3) := by decide +kernel
theorem dX3_proofNamed_60 : decode cX3_proofNamed 60 = .ok (.aload_n 0, 1) := by decide +kernel
theorem dX3_proofNamed_61 : decode cX3_proofNamed 61 = .ok (.getfield 59, 3) := by decide +kernel
theorem dX3_proofNamed_64 : decode cX3_proofNamed 64 = .ok (.iconst 1, 1) := by decide +kernel
theorem dX3_proofNamed_65 : decode cX3_proofNamed 65 = .ok (.isub, 1) := by decide +kernel
theorem dX3_proofNamed_66 : decode cX3_proofNamed 66 = .ok (.ireturn, 1) := by decide +kernel
theorem dX4_fail_0 : decode cX4_fail 0 = .ok (.aload_n 0, 1) := by decide +kernel
theorem dX4_fail_1 : decode cX4_fail 1 = .ok (.aload_n 0, 1) := by decide +kernel
theorem dX4_fail_2 : decode cX4_fail 2 = .ok (.getfield 42, 3) := by decide +kernel
theorem dX4_fail_5 : decode cX4_fail 5 = .ok (.iconst 2, 1) := by decide +kernel
theorem dX4_fail_6 : decode cX4_fail 6 = .ok (.if_icmp .ne 7, 3) := by decide +kernel
theorem dX4_fail_9 : decode cX4_fail 9 = .ok (.iconst 1, 1) := by decide +kernel
theorem dX4_fail_10 : decode cX4_fail 10 = .ok (.goto 4, 3) := by decide +kernel
theorem dX4_fail_13 : decode cX4_fail 13 = .ok (.iload_n 1, 1) := by decide +kernel
theorem dX4_fail_14 : decode cX4_fail 14 = .ok (.putfield 18, 3) := by decide +kernel
theorem dX4_fail_17 : decode cX4_fail 17 = .ok (.aload_n 0, 1) := by decide +kernel
theorem dX4_fail_18 : decode cX4_fail 18 = .ok (.aload_n 0, 1) := by decide +kernel
theorem dX4_fail_19 : decode cX4_fail 19 = .ok (.getfield 80, 3) := by decide +kernel
theorem dX4_fail_22 : decode cX4_fail 22 = .ok (.putfield 22, 3) := by decide +kernel
theorem dX4_fail_25 : decode cX4_fail 25 = .ok (.iconst 0, 1) := by decide +kernel
theorem dX4_fail_26 : decode cX4_fail 26 = .ok (.ireturn, 1) := by decide +kernel
theorem dX4_lookAt_0 : decode cX4_lookAt 0 = .ok (.iload_n 1, 1) := by decide +kernel
theorem dX4_lookAt_1 : decode cX4_lookAt 1 = .ok (.ifCond .lt 58, 3) := by decide +kernel
theorem dX4_lookAt_4 : decode cX4_lookAt 4 = .ok (.iload_n 1, 1) := by decide +kernel
theorem dX4_lookAt_5 : decode cX4_lookAt 5 = .ok (.aload_n 0, 1) := by decide +kernel
theorem dX4_lookAt_6 : decode cX4_lookAt 6 = .ok (.getfield 12, 3) := by decide +kernel
theorem dX4_lookAt_9 : decode cX4_lookAt 9 = .ok (.getfield 67, 3) := by decide +kernel
theorem dX4_lookAt_12 : decode cX4_lookAt 12 = .ok (.if_icmp .ge 47, 3) := by decide +kernel
theorem dX4_lookAt_15 : decode cX4_lookAt 15 = .ok (.aload_n 0, 1) := by decide +kernel
theorem dX4_lookAt_16 : decode cX4_lookAt 16 = .ok (.iload_n 1, 1) := by decide +kernel
theorem dX4_lookAt_17 : decode cX4_lookAt 17 = .ok (.putfield 70, 3) := by decide +kernel
theorem dX4_lookAt_20 : decode cX4_lookAt 20 = .ok (.aload_n 0, 1) := by decide +kernel
theorem dX4_lookAt_21 : decode cX4_lookAt 21 = .ok (.aload_n 0, 1) := by decide +kernel
theorem dX4_lookAt_22 : decode cX4_lookAt 22 = .ok (.getfield 12, 3) := by decide +kernel
theorem dX4_lookAt_25 : decode cX4_lookAt 25 = .ok (.getfield 73, 3) := by decide +kernel
theorem dX4_lookAt_28 : decode cX4_lookAt 28 = .ok (.iload_n 1, 1) := by decide +kernel
theorem dX4_lookAt_29 : decode cX4_lookAt 29 = .ok (.iaload, 1) := by decide +kernel
theorem dX4_lookAt_30 : decode cX4_lookAt 30 = .ok (.putfield 42, 3) := by decide +kernel
theorem dX4_lookAt_33 : decode cX4_lookAt 33 = .ok (.aload_n 0, 1) := by decide +kernel
theorem dX4_lookAt_34 : decode cX4_lookAt 34 = .ok (.aload_n 0, 1) := by decide +kernel
theorem dX4_lookAt_35 : decode cX4_lookAt 35 = .ok (.getfield 12, 3) := by decide +kernel
theorem dX4_lookAt_38 : decode cX4_lookAt 38 = .ok (.getfield 77, 3) := by decide +kernel
theorem dX4_lookAt_41 : decode cX4_lookAt 41 = .ok (.iload_n 1, 1) := by decide +kernel
theorem dX4_lookAt_42 : decode cX4_lookAt 42 = .ok (.iaload, 1) := by decide +kernel
theorem dX4_lookAt_43 : decode cX4_lookAt 43 = .ok (.putfield 80, 3) := by decide +kernel
theorem dX4_lookAt_46 : decode cX4_lookAt 46 = .ok (.aload_n 0, 1) := by decide +kernel
theorem dX4_lookAt_47 : decode cX4_lookAt 47 = .ok (.aload_n 0, 1) := by decide +kernel
theorem dX4_lookAt_48 : decode cX4_lookAt 48 = .ok (.getfield 12, 3) := by decide +kernel
theorem dX4_lookAt_51 : decode cX4_lookAt 51 = .ok (.getfield 83, 3) := by decide +kernel
theorem dX4_lookAt_54 : decode cX4_lookAt 54 = .ok (.iload_n 1, 1) := by decide +kernel
theorem dX4_lookAt_55 : decode cX4_lookAt 55 = .ok (.laload, 1) := by decide +kernel
theorem dX4_lookAt_56 : decode cX4_lookAt 56 = .ok (.putfield 87, 3) := by decide +kernel
theorem dX4_lookAt_59 : decode cX4_lookAt 59 = .ok (.return_, 1) := by decide +kernel
theorem dX4_readBoth_0 : decode cX4_readBoth 0 = .ok (.aload_n 0, 1) := by decide +kernel
theorem dX4_readBoth_1 : decode cX4_readBoth 1 = .ok (.iload_n 1, 1) := by decide +kernel
theorem dX4_readBoth_2 : decode cX4_readBoth 2 = .ok (.invokevirtual 144, 3) := by decide +kernel
theorem dX4_readBoth_5 : decode cX4_readBoth 5 = .ok (.istore_n 2, 1) := by decide +kernel
theorem dX4_readBoth_6 : decode cX4_readBoth 6 = .ok (.iconst 0, 1) := by decide +kernel
theorem dX4_readBoth_7 : decode cX4_readBoth 7 = .ok (.istore_n 3, 1) := by decide +kernel
theorem dX4_readBoth_8 : decode cX4_readBoth 8 = .ok (.iload_n 2, 1) := by decide +kernel
theorem dX4_readBoth_9 : decode cX4_readBoth 9 = .ok (.ifCond .eq 62, 3) := by decide +kernel
theorem dX4_readBoth_12 : decode cX4_readBoth 12 = .ok (.iload_n 3, 1) := by decide +kernel
theorem dX4_readBoth_13 : decode cX4_readBoth 13 = .ok (.sipush 700, 3) := by decide +kernel
theorem dX4_readBoth_16 : decode cX4_readBoth 16 = .ok (.if_icmp .ge 55, 3) := by decide +kernel
theorem dX4_readBoth_19 : decode cX4_readBoth 19 = .ok (.aload_n 0, 1) := by decide +kernel
theorem dX4_readBoth_20 : decode cX4_readBoth 20 = .ok (.getfield 42, 3) := by decide +kernel
theorem dX4_readBoth_23 : decode cX4_readBoth 23 = .ok (.bipush 15, 2) := by decide +kernel
theorem dX4_readBoth_25 : decode cX4_readBoth 25 = .ok (.if_icmp .ne 46, 3) := by decide +kernel
theorem dX4_readBoth_28 : decode cX4_readBoth 28 = .ok (.aload_n 0, 1) := by decide +kernel
theorem dX4_readBoth_29 : decode cX4_readBoth 29 = .ok (.aload_n 0, 1) := by decide +kernel
theorem dX4_readBoth_30 : decode cX4_readBoth 30 = .ok (.getfield 70, 3) := by decide +kernel
theorem dX4_readBoth_33 : decode cX4_readBoth 33 = .ok (.iconst 1, 1) := by decide +kernel
theorem dX4_readBoth_34 : decode cX4_readBoth 34 = .ok (.iadd, 1) := by decide +kernel
theorem dX4_readBoth_35 : decode cX4_readBoth 35 = .ok (.invokevirtual 38, 3) := by decide +kernel
theorem dX4_readBoth_38 : decode cX4_readBoth 38 = .ok (.aload_n 0, 1) := by decide +kernel
theorem dX4_readBoth_39 : decode cX4_readBoth 39 = .ok (.iload_n 1, 1) := by decide +kernel
theorem dX4_readBoth_40 : decode cX4_readBoth 40 = .ok (.invokevirtual 144, 3) := by decide +kernel
theorem dX4_readBoth_43 : decode cX4_readBoth 43 = .ok (.ifCond .eq 20, 3) := by decide +kernel
theorem dX4_readBoth_46 : decode cX4_readBoth 46 = .ok (.aload_n 0, 1) := by decide +kernel
theorem dX4_readBoth_47 : decode cX4_readBoth 47 = .ok (.getfield 25, 3) := by decide +kernel
theorem dX4_readBoth_50 : decode cX4_readBoth 50 = .ok (.bipush 15, 2) := by decide +kernel
theorem dX4_readBoth_52 : decode cX4_readBoth 52 = .ok (.iconst 0, 1) := by decide +kernel
theorem dX4_readBoth_53 : decode cX4_readBoth 53 = .ok (.invokevirtual 141, 3) := by decide +kernel
theorem dX4_readBoth_56 : decode cX4_readBoth 56 = .ok (.ifCond .eq 7, 3) := by decide +kernel
theorem dX4_readBoth_59 : decode cX4_readBoth 59 = .ok (.iconst 1, 1) := by decide +kernel
theorem dX4_readBoth_60 : decode cX4_readBoth 60 = .ok (.goto 4, 3) := by decide +kernel
theorem dX4_readBoth_63 : decode cX4_readBoth 63 = .ok (.iconst 0, 1) := by decide +kernel
theorem dX4_readBoth_64 : decode cX4_readBoth 64 = .ok (.istore_n 2, 1) := by decide +kernel
theorem dX4_readBoth_65 : decode cX4_readBoth 65 = .ok (.iinc 3 1, 3) := by decide +kernel
theorem dX4_readBoth_68 : decode cX4_readBoth 68 = .ok (.goto (-60), 3) := by decide +kernel
theorem dX4_readBoth_71 : decode cX4_readBoth 71 = .ok (.iload_n 2, 1) := by decide +kernel
theorem dX4_readBoth_72 : decode cX4_readBoth 72 = .ok (.ireturn, 1) := by decide +kernel
theorem dX4_readCondition_0 : decode cX4_readCondition 0 = .ok (.aload_n 0, 1) := by decide +kernel
theorem dX4_readCondition_1 : decode cX4_readCondition 1 = .ok (.iload_n 1, 1) := by decide +kernel
theorem dX4_readCondition_2 : decode cX4_readCondition 2 = .ok (.invokevirtual 138, 3) := by decide +kernel
theorem dX4_readCondition_5 : decode cX4_readCondition 5 = .ok (.istore_n 2, 1) := by decide +kernel
theorem dX4_readCondition_6 : decode cX4_readCondition 6 = .ok (.iconst 0, 1) := by decide +kernel
theorem dX4_readCondition_7 : decode cX4_readCondition 7 = .ok (.istore_n 3, 1) := by decide +kernel
theorem dX4_readCondition_8 : decode cX4_readCondition 8 = .ok (.iload_n 2, 1) := by decide +kernel
theorem dX4_readCondition_9 : decode cX4_readCondition 9 = .ok (.ifCond .eq 62, 3) := by decide +kernel
theorem dX4_readCondition_12 : decode cX4_readCondition 12 = .ok (.iload_n 3, 1) := by decide +kernel
theorem dX4_readCondition_13 : decode cX4_readCondition 13 = .ok (.sipush 700, 3) := by decide +kernel
theorem dX4_readCondition_16 : decode cX4_readCondition 16 = .ok (.if_icmp .ge 55, 3) := by decide +kernel
theorem dX4_readCondition_19 : decode cX4_readCondition 19 = .ok (.aload_n 0, 1) := by decide +kernel
theorem dX4_readCondition_20 : decode cX4_readCondition 20 = .ok (.getfield 42, 3) := by decide +kernel
theorem dX4_readCondition_23 : decode cX4_readCondition 23 = .ok (.bipush 14, 2) := by decide +kernel
theorem dX4_readCondition_25 : decode cX4_readCondition 25 = .ok (.if_icmp .ne 46, 3) := by decide +kernel
theorem dX4_readCondition_28 : decode cX4_readCondition 28 = .ok (.aload_n 0, 1) := by decide +kernel
theorem dX4_readCondition_29 : decode cX4_readCondition 29 = .ok (.aload_n 0, 1) := by decide +kernel
theorem dX4_readCondition_30 : decode cX4_readCondition 30 = .ok (.getfield 70, 3) := by decide +kernel
theorem dX4_readCondition_33 : decode cX4_readCondition 33 = .ok (.iconst 1, 1) := by decide +kernel
theorem dX4_readCondition_34 : decode cX4_readCondition 34 = .ok (.iadd, 1) := by decide +kernel
theorem dX4_readCondition_35 : decode cX4_readCondition 35 = .ok (.invokevirtual 38, 3) := by decide +kernel
theorem dX4_readCondition_38 : decode cX4_readCondition 38 = .ok (.aload_n 0, 1) := by decide +kernel
theorem dX4_readCondition_39 : decode cX4_readCondition 39 = .ok (.iload_n 1, 1) := by decide +kernel
theorem dX4_readCondition_40 : decode cX4_readCondition 40 = .ok (.invokevirtual 138, 3) := by decide +kernel
theorem dX4_readCondition_43 : decode cX4_readCondition 43 = .ok (.ifCond .eq 20, 3) := by decide +kernel
theorem dX4_readCondition_46 : decode cX4_readCondition 46 = .ok (.aload_n 0, 1) := by decide +kernel
theorem dX4_readCondition_47 : decode cX4_readCondition 47 = .ok (.getfield 25, 3) := by decide +kernel
theorem dX4_readCondition_50 : decode cX4_readCondition 50 = .ok (.bipush 14, 2) := by decide +kernel
theorem dX4_readCondition_52 : decode cX4_readCondition 52 = .ok (.iconst 0, 1) := by decide +kernel
theorem dX4_readCondition_53 : decode cX4_readCondition 53 = .ok (.invokevirtual 141, 3) := by decide +kernel
theorem dX4_readCondition_56 : decode cX4_readCondition 56 = .ok (.ifCond .eq 7, 3) := by decide +kernel
theorem dX4_readCondition_59 : decode cX4_readCondition 59 = .ok (.iconst 1, 1) := by decide +kernel
theorem dX4_readCondition_60 : decode cX4_readCondition 60 = .ok (.goto 4, 3) := by decide +kernel
theorem dX4_readCondition_63 : decode cX4_readCondition 63 = .ok (.iconst 0, 1) := by decide +kernel
theorem dX4_readCondition_64 : decode cX4_readCondition 64 = .ok (.istore_n 2, 1) := by decide +kernel
theorem dX4_readCondition_65 : decode cX4_readCondition 65 = .ok (.iinc 3 1, 3) := by decide +kernel
theorem dX4_readCondition_68 : decode cX4_readCondition 68 = .ok (.goto (-60), 3) := by decide +kernel
theorem dX4_readCondition_71 : decode cX4_readCondition 71 = .ok (.iload_n 2, 1) := by decide +kernel
theorem dX4_readCondition_72 : decode cX4_readCondition 72 = .ok (.ireturn, 1) := by decide +kernel
theorem dX4_readDeposit_0 : decode cX4_readDeposit 0 = .ok (.aload_n 0, 1) := by decide +kernel
theorem dX4_readDeposit_1 : decode cX4_readDeposit 1 = .ok (.getfield 25, 3) := by decide +kernel
theorem dX4_readDeposit_4 : decode cX4_readDeposit 4 = .ok (.invokevirtual 117, 3) := by decide +kernel
theorem dX4_readDeposit_7 : decode cX4_readDeposit 7 = .ok (.ifCond .ne 9, 3) := by decide +kernel
theorem dX4_readDeposit_10 : decode cX4_readDeposit 10 = .ok (.aload_n 0, 1) := by decide +kernel
theorem dX4_readDeposit_11 : decode cX4_readDeposit 11 = .ok (.iconst 5, 1) := by decide +kernel
theorem dX4_readDeposit_12 : decode cX4_readDeposit 12 = .ok (.invokevirtual 63, 3) := by decide +kernel
theorem dX4_readDeposit_15 : decode cX4_readDeposit 15 = .ok (.ireturn, 1) := by decide +kernel
theorem dX4_readDeposit_16 : decode cX4_readDeposit 16 = .ok (.aload_n 0, 1) := by decide +kernel
theorem dX4_readDeposit_17 : decode cX4_readDeposit 17 = .ok (.aload_n 0, 1) := by decide +kernel
theorem dX4_readDeposit_18 : decode cX4_readDeposit 18 = .ok (.getfield 70, 3) := by decide +kernel
theorem dX4_readDeposit_21 : decode cX4_readDeposit 21 = .ok (.iconst 1, 1) := by decide +kernel
theorem dX4_readDeposit_22 : decode cX4_readDeposit 22 = .ok (.iadd, 1) := by decide +kernel
theorem dX4_readDeposit_23 : decode cX4_readDeposit 23 = .ok (.invokevirtual 38, 3) := by decide +kernel
theorem dX4_readDeposit_26 : decode cX4_readDeposit 26 = .ok (.aload_n 0, 1) := by decide +kernel
theorem dX4_readDeposit_27 : decode cX4_readDeposit 27 = .ok (.iconst 1, 1) := by decide +kernel
theorem dX4_readDeposit_28 : decode cX4_readDeposit 28 = .ok (.ldc 120, 2) := by decide +kernel
theorem dX4_readDeposit_30 : decode cX4_readDeposit 30 = .ok (.invokevirtual 94, 3) := by decide +kernel
theorem dX4_readDeposit_33 : decode cX4_readDeposit 33 = .ok (.ifCond .ne 5, 3) := by decide +kernel
theorem dX4_readDeposit_36 : decode cX4_readDeposit 36 = .ok (.iconst 0, 1) := by decide +kernel
theorem dX4_readDeposit_37 : decode cX4_readDeposit 37 = .ok (.ireturn, 1) := by decide +kernel
theorem dX4_readDeposit_38 : decode cX4_readDeposit 38 = .ok (.aload_n 0, 1) := by decide +kernel
theorem dX4_readDeposit_39 : decode cX4_readDeposit 39 = .ok (.getfield 25, 3) := by decide +kernel
theorem dX4_readDeposit_42 : decode cX4_readDeposit 42 = .ok (.aload_n 0, 1) := by decide +kernel
theorem dX4_readDeposit_43 : decode cX4_readDeposit 43 = .ok (.getfield 91, 3) := by decide +kernel
theorem dX4_readDeposit_46 : decode cX4_readDeposit 46 = .ok (.invokevirtual 121, 3) := by decide +kernel
theorem dX4_readDeposit_49 : decode cX4_readDeposit 49 = .ok (.aload_n 0, 1) := by decide +kernel
theorem dX4_readDeposit_50 : decode cX4_readDeposit 50 = .ok (.bipush 7, 2) := by decide +kernel
theorem dX4_readDeposit_52 : decode cX4_readDeposit 52 = .ok (.invokevirtual 108, 3) := by decide +kernel
theorem dX4_readDeposit_55 : decode cX4_readDeposit 55 = .ok (.ireturn, 1) := by decide +kernel
theorem dX4_readDoneName_0 : decode cX4_readDoneName 0 = .ok (.aload_n 0, 1) := by decide +kernel
theorem dX4_readDoneName_1 : decode cX4_readDoneName 1 = .ok (.getfield 42, 3) := by decide +kernel
theorem dX4_readDoneName_4 : decode cX4_readDoneName 4 = .ok (.iconst 4, 1) := by decide +kernel
theorem dX4_readDoneName_5 : decode cX4_readDoneName 5 = .ok (.if_icmp .eq 9, 3) := by decide +kernel
theorem dX4_readDoneName_8 : decode cX4_readDoneName 8 = .ok (.aload_n 0, 1) := by decide +kernel
theorem dX4_readDoneName_9 : decode cX4_readDoneName 9 = .ok (.iconst 2, 1) := by decide +kernel
theorem dX4_readDoneName_10 : decode cX4_readDoneName 10 = .ok (.invokevirtual 63, 3) := by decide +kernel
theorem dX4_readDoneName_13 : decode cX4_readDoneName 13 = .ok (.ireturn, 1) := by decide +kernel
theorem dX4_readDoneName_14 : decode cX4_readDoneName 14 = .ok (.aload_n 0, 1) := by decide +kernel
theorem dX4_readDoneName_15 : decode cX4_readDoneName 15 = .ok (.getfield 25, 3) := by decide +kernel
theorem dX4_readDoneName_18 : decode cX4_readDoneName 18 = .ok (.aload_n 0, 1) := by decide +kernel
theorem dX4_readDoneName_19 : decode cX4_readDoneName 19 = .ok (.getfield 87, 3) := by decide +kernel
theorem dX4_readDoneName_22 : decode cX4_readDoneName 22 = .ok (.invokevirtual 127, 3) := by decide +kernel
theorem dX4_readDoneName_25 : decode cX4_readDoneName 25 = .ok (.istore_n 1, 1) := by decide +kernel
theorem dX4_readDoneName_26 : decode cX4_readDoneName 26 = .ok (.iload_n 1, 1) := by decide +kernel
theorem dX4_readDoneName_27 : decode cX4_readDoneName 27 = .ok (.iconst (-1), 1) := by decide +kernel
theorem dX4_readDoneName_28 : decode cX4_readDoneName 28 = .ok (.if_icmp .ne 9, 3) := by decide +kernel
theorem dX4_readDoneName_31 : decode cX4_readDoneName 31 = .ok (.aload_n 0, 1) := by decide +kernel
theorem dX4_readDoneName_32 : decode cX4_readDoneName 32 = .ok (.iconst 4, 1) := by decide +kernel
theorem dX4_readDoneName_33 : decode cX4_readDoneName 33 = .ok (.invokevirtual 63, 3) := by decide +kernel
theorem dX4_readDoneName_36 : decode cX4_readDoneName 36 = .ok (.ireturn, 1) := by decide +kernel
theorem dX4_readDoneName_37 : decode cX4_readDoneName 37 = .ok (.aload_n 0, 1) := by decide +kernel
theorem dX4_readDoneName_38 : decode cX4_readDoneName 38 = .ok (.aload_n 0, 1) := by decide +kernel
theorem dX4_readDoneName_39 : decode cX4_readDoneName 39 = .ok (.getfield 70, 3) := by decide +kernel
theorem dX4_readDoneName_42 : decode cX4_readDoneName 42 = .ok (.iconst 1, 1) := by decide +kernel
theorem dX4_readDoneName_43 : decode cX4_readDoneName 43 = .ok (.iadd, 1) := by decide +kernel
theorem dX4_readDoneName_44 : decode cX4_readDoneName 44 = .ok (.invokevirtual 38, 3) := by decide +kernel
theorem dX4_readDoneName_47 : decode cX4_readDoneName 47 = .ok (.aload_n 0, 1) := by decide +kernel
theorem dX4_readDoneName_48 : decode cX4_readDoneName 48 = .ok (.getfield 25, 3) := by decide +kernel
theorem dX4_readDoneName_51 : decode cX4_readDoneName 51 = .ok (.bipush 19, 2) := by decide +kernel
theorem dX4_readDoneName_53 : decode cX4_readDoneName 53 = .ok (.iload_n 1, 1) := by decide +kernel
theorem dX4_readDoneName_54 : decode cX4_readDoneName 54 = .ok (.invokevirtual 141, 3) := by decide +kernel
theorem dX4_readDoneName_57 : decode cX4_readDoneName 57 = .ok (.ireturn, 1) := by decide +kernel
theorem dX4_readFact_0 : decode cX4_readFact 0 = .ok (.aload_n 0, 1) := by decide +kernel
theorem dX4_readFact_1 : decode cX4_readFact 1 = .ok (.getfield 42, 3) := by decide +kernel
theorem dX4_readFact_4 : decode cX4_readFact 4 = .ok (.istore_n 2, 1) := by decide +kernel
theorem dX4_readFact_5 : decode cX4_readFact 5 = .ok (.iload_n 2, 1) := by decide +kernel
theorem dX4_readFact_6 : decode cX4_readFact 6 = .ok (.bipush 16, 2) := by decide +kernel
theorem dX4_readFact_8 : decode cX4_readFact 8 = .ok (.if_icmp .eq 8, 3) := by decide +kernel
theorem dX4_readFact_11 : decode cX4_readFact 11 = .ok (.iload_n 2, 1) := by decide +kernel
theorem dX4_readFact_12 : decode cX4_readFact 12 = .ok (.iconst 5, 1) := by decide +kernel
theorem dX4_readFact_13 : decode cX4_readFact 13 = .ok (.if_icmp .ne 15, 3) := by decide +kernel
theorem dX4_readFact_16 : decode cX4_readFact 16 = .ok (.iload_n 1, 1) := by decide +kernel
theorem dX4_readFact_17 : decode cX4_readFact 17 = .ok (.bipush 8, 2) := by decide +kernel
theorem dX4_readFact_19 : decode cX4_readFact 19 = .ok (.if_icmp .lt 9, 3) := by decide +kernel
theorem dX4_readFact_22 : decode cX4_readFact 22 = .ok (.aload_n 0, 1) := by decide +kernel
theorem dX4_readFact_23 : decode cX4_readFact 23 = .ok (.iconst 5, 1) := by decide +kernel
theorem dX4_readFact_24 : decode cX4_readFact 24 = .ok (.invokevirtual 63, 3) := by decide +kernel
theorem dX4_readFact_27 : decode cX4_readFact 27 = .ok (.ireturn, 1) := by decide +kernel
theorem dX4_readFact_28 : decode cX4_readFact 28 = .ok (.iload_n 2, 1) := by decide +kernel
theorem dX4_readFact_29 : decode cX4_readFact 29 = .ok (.invokestatic 147, 3) := by decide +kernel
theorem dX4_readFact_32 : decode cX4_readFact 32 = .ok (.ifCond .ne 9, 3) := by decide +kernel
theorem dX4_readFact_35 : decode cX4_readFact 35 = .ok (.aload_n 0, 1) := by decide +kernel
theorem dX4_readFact_36 : decode cX4_readFact 36 = .ok (.iconst 2, 1) := by decide +kernel
theorem dX4_readFact_37 : decode cX4_readFact 37 = .ok (.invokevirtual 63, 3) := by decide +kernel
theorem dX4_readFact_40 : decode cX4_readFact 40 = .ok (.ireturn, 1) := by decide +kernel
theorem dX4_readFact_41 : decode cX4_readFact 41 = .ok (.aload_n 0, 1) := by decide +kernel
theorem dX4_readFact_42 : decode cX4_readFact 42 = .ok (.aload_n 0, 1) := by decide +kernel
theorem dX4_readFact_43 : decode cX4_readFact 43 = .ok (.getfield 70, 3) := by decide +kernel
theorem dX4_readFact_46 : decode cX4_readFact 46 = .ok (.iconst 1, 1) := by decide +kernel
theorem dX4_readFact_47 : decode cX4_readFact 47 = .ok (.iadd, 1) := by decide +kernel
theorem dX4_readFact_48 : decode cX4_readFact 48 = .ok (.invokevirtual 38, 3) := by decide +kernel
theorem dX4_readFact_51 : decode cX4_readFact 51 = .ok (.iload_n 2, 1) := by decide +kernel
theorem dX4_readFact_52 : decode cX4_readFact 52 = .ok (.tableswitch 206 5 20 #[80, 206, 206, 206, 206, 206, 206, 206, 206, 206, 206, 105, 133, 196, 201, 165], 80) := by decide +kernel
theorem dX4_readFact_132 : decode cX4_readFact 132 = .ok (.aload_n 0, 1) := by decide +kernel
theorem dX4_readFact_133 : decode cX4_readFact 133 = .ok (.iload_n 1, 1) := by decide +kernel
theorem dX4_readFact_134 : decode cX4_readFact 134 = .ok (.iconst 1, 1) := by decide +kernel
theorem dX4_readFact_135 : decode cX4_readFact 135 = .ok (.iadd, 1) := by decide +kernel
theorem dX4_readFact_136 : decode cX4_readFact 136 = .ok (.invokevirtual 131, 3) := by decide +kernel
theorem dX4_readFact_139 : decode cX4_readFact 139 = .ok (.ifCond .eq 16, 3) := by decide +kernel
theorem dX4_readFact_142 : decode cX4_readFact 142 = .ok (.aload_n 0, 1) := by decide +kernel
theorem dX4_readFact_143 : decode cX4_readFact 143 = .ok (.bipush 6, 2) := by decide +kernel
theorem dX4_readFact_145 : decode cX4_readFact 145 = .ok (.invokevirtual 108, 3) := by decide +kernel
theorem dX4_readFact_148 : decode cX4_readFact 148 = .ok (.ifCond .eq 7, 3) := by decide +kernel
theorem dX4_readFact_151 : decode cX4_readFact 151 = .ok (.iconst 1, 1) := by decide +kernel
theorem dX4_readFact_152 : decode cX4_readFact 152 = .ok (.goto 4, 3) := by decide +kernel
theorem dX4_readFact_155 : decode cX4_readFact 155 = .ok (.iconst 0, 1) := by decide +kernel
theorem dX4_readFact_156 : decode cX4_readFact 156 = .ok (.ireturn, 1) := by decide +kernel
theorem dX4_readFact_157 : decode cX4_readFact 157 = .ok (.aload_n 0, 1) := by decide +kernel
theorem dX4_readFact_158 : decode cX4_readFact 158 = .ok (.iload_n 1, 1) := by decide +kernel
theorem dX4_readFact_159 : decode cX4_readFact 159 = .ok (.iconst 1, 1) := by decide +kernel
theorem dX4_readFact_160 : decode cX4_readFact 160 = .ok (.iadd, 1) := by decide +kernel
theorem dX4_readFact_161 : decode cX4_readFact 161 = .ok (.invokevirtual 144, 3) := by decide +kernel
theorem dX4_readFact_164 : decode cX4_readFact 164 = .ok (.ifCond .eq 19, 3) := by decide +kernel
theorem dX4_readFact_167 : decode cX4_readFact 167 = .ok (.aload_n 0, 1) := by decide +kernel
theorem dX4_readFact_168 : decode cX4_readFact 168 = .ok (.getfield 25, 3) := by decide +kernel
theorem dX4_readFact_171 : decode cX4_readFact 171 = .ok (.iload_n 2, 1) := by decide +kernel
theorem dX4_readFact_172 : decode cX4_readFact 172 = .ok (.iconst 0, 1) := by decide +kernel
theorem dX4_readFact_173 : decode cX4_readFact 173 = .ok (.invokevirtual 141, 3) := by decide +kernel
theorem dX4_readFact_176 : decode cX4_readFact 176 = .ok (.ifCond .eq 7, 3) := by decide +kernel
theorem dX4_readFact_179 : decode cX4_readFact 179 = .ok (.iconst 1, 1) := by decide +kernel
theorem dX4_readFact_180 : decode cX4_readFact 180 = .ok (.goto 4, 3) := by decide +kernel
theorem dX4_readFact_183 : decode cX4_readFact 183 = .ok (.iconst 0, 1) := by decide +kernel
theorem dX4_readFact_184 : decode cX4_readFact 184 = .ok (.ireturn, 1) := by decide +kernel
theorem dX4_readFact_185 : decode cX4_readFact 185 = .ok (.aload_n 0, 1) := by decide +kernel
theorem dX4_readFact_186 : decode cX4_readFact 186 = .ok (.iconst 0, 1) := by decide +kernel
theorem dX4_readFact_187 : decode cX4_readFact 187 = .ok (.sipush 999, 3) := by decide +kernel
theorem dX4_readFact_190 : decode cX4_readFact 190 = .ok (.invokevirtual 94, 3) := by decide +kernel
theorem dX4_readFact_193 : decode cX4_readFact 193 = .ok (.ifCond .eq 22, 3) := by decide +kernel
theorem dX4_readFact_196 : decode cX4_readFact 196 = .ok (.aload_n 0, 1) := by decide +kernel
theorem dX4_readFact_197 : decode cX4_readFact 197 = .ok (.getfield 25, 3) := by decide +kernel
theorem dX4_readFact_200 : decode cX4_readFact 200 = .ok (.iload_n 2, 1) := by decide +kernel
theorem dX4_readFact_201 : decode cX4_readFact 201 = .ok (.aload_n 0, 1) := by decide +kernel
theorem dX4_readFact_202 : decode cX4_readFact 202 = .ok (.getfield 91, 3) := by decide +kernel
theorem dX4_readFact_205 : decode cX4_readFact 205 = .ok (.invokevirtual 141, 3) := by decide +kernel
theorem dX4_readFact_208 : decode cX4_readFact 208 = .ok (.ifCond .eq 7, 3) := by decide +kernel
theorem dX4_readFact_211 : decode cX4_readFact 211 = .ok (.iconst 1, 1) := by decide +kernel
theorem dX4_readFact_212 : decode cX4_readFact 212 = .ok (.goto 4, 3) := by decide +kernel
theorem dX4_readFact_215 : decode cX4_readFact 215 = .ok (.iconst 0, 1) := by decide +kernel
theorem dX4_readFact_216 : decode cX4_readFact 216 = .ok (.ireturn, 1) := by decide +kernel
theorem dX4_readFact_217 : decode cX4_readFact 217 = .ok (.aload_n 0, 1) := by decide +kernel
theorem dX4_readFact_218 : decode cX4_readFact 218 = .ok (.iconst 0, 1) := by decide +kernel
theorem dX4_readFact_219 : decode cX4_readFact 219 = .ok (.ldc 120, 2) := by decide +kernel
theorem dX4_readFact_221 : decode cX4_readFact 221 = .ok (.invokevirtual 94, 3) := by decide +kernel
theorem dX4_readFact_224 : decode cX4_readFact 224 = .ok (.ifCond .eq 22, 3) := by decide +kernel
theorem dX4_readFact_227 : decode cX4_readFact 227 = .ok (.aload_n 0, 1) := by decide +kernel
theorem dX4_readFact_228 : decode cX4_readFact 228 = .ok (.getfield 25, 3) := by decide +kernel
theorem dX4_readFact_231 : decode cX4_readFact 231 = .ok (.iload_n 2, 1) := by decide +kernel
theorem dX4_readFact_232 : decode cX4_readFact 232 = .ok (.aload_n 0, 1) := by decide +kernel
theorem dX4_readFact_233 : decode cX4_readFact 233 = .ok (.getfield 91, 3) := by decide +kernel
theorem dX4_readFact_236 : decode cX4_readFact 236 = .ok (.invokevirtual 141, 3) := by decide +kernel
theorem dX4_readFact_239 : decode cX4_readFact 239 = .ok (.ifCond .eq 7, 3) := by decide +kernel
theorem dX4_readFact_242 : decode cX4_readFact 242 = .ok (.iconst 1, 1) := by decide +kernel
theorem dX4_readFact_243 : decode cX4_readFact 243 = .ok (.goto 4, 3) := by decide +kernel
theorem dX4_readFact_246 : decode cX4_readFact 246 = .ok (.iconst 0, 1) := by decide +kernel
theorem dX4_readFact_247 : decode cX4_readFact 247 = .ok (.ireturn, 1) := by decide +kernel
theorem dX4_readFact_248 : decode cX4_readFact 248 = .ok (.aload_n 0, 1) := by decide +kernel
theorem dX4_readFact_249 : decode cX4_readFact 249 = .ok (.invokevirtual 150, 3) := by decide +kernel
theorem dX4_readFact_252 : decode cX4_readFact 252 = .ok (.ireturn, 1) := by decide +kernel
theorem dX4_readFact_253 : decode cX4_readFact 253 = .ok (.aload_n 0, 1) := by decide +kernel
theorem dX4_readFact_254 : decode cX4_readFact 254 = .ok (.invokevirtual 153, 3) := by decide +kernel
theorem dX4_readFact_257 : decode cX4_readFact 257 = .ok (.ireturn, 1) := by decide +kernel
theorem dX4_readFact_258 : decode cX4_readFact 258 = .ok (.aload_n 0, 1) := by decide +kernel
theorem dX4_readFact_259 : decode cX4_readFact 259 = .ok (.getfield 25, 3) := by decide +kernel
theorem dX4_readFact_262 : decode cX4_readFact 262 = .ok (.iload_n 2, 1) := by decide +kernel
theorem dX4_readFact_263 : decode cX4_readFact 263 = .ok (.iconst 0, 1) := by decide +kernel
theorem dX4_readFact_264 : decode cX4_readFact 264 = .ok (.invokevirtual 141, 3) := by decide +kernel
theorem dX4_readFact_267 : decode cX4_readFact 267 = .ok (.ireturn, 1) := by decide +kernel
theorem dX4_readFee_0 : decode cX4_readFee 0 = .ok (.aload_n 0, 1) := by decide +kernel
theorem dX4_readFee_1 : decode cX4_readFee 1 = .ok (.aload_n 0, 1) := by decide +kernel
theorem dX4_readFee_2 : decode cX4_readFee 2 = .ok (.getfield 70, 3) := by decide +kernel
theorem dX4_readFee_5 : decode cX4_readFee 5 = .ok (.iconst 1, 1) := by decide +kernel
theorem dX4_readFee_6 : decode cX4_readFee 6 = .ok (.iadd, 1) := by decide +kernel
theorem dX4_readFee_7 : decode cX4_readFee 7 = .ok (.invokevirtual 38, 3) := by decide +kernel
theorem dX4_readFee_10 : decode cX4_readFee 10 = .ok (.aload_n 0, 1) := by decide +kernel
theorem dX4_readFee_11 : decode cX4_readFee 11 = .ok (.iconst 0, 1) := by decide +kernel
theorem dX4_readFee_12 : decode cX4_readFee 12 = .ok (.sipush 2000, 3) := by decide +kernel
theorem dX4_readFee_15 : decode cX4_readFee 15 = .ok (.invokevirtual 94, 3) := by decide +kernel
theorem dX4_readFee_18 : decode cX4_readFee 18 = .ok (.ifCond .ne 5, 3) := by decide +kernel
theorem dX4_readFee_21 : decode cX4_readFee 21 = .ok (.iconst 0, 1) := by decide +kernel
theorem dX4_readFee_22 : decode cX4_readFee 22 = .ok (.ireturn, 1) := by decide +kernel
theorem dX4_readFee_23 : decode cX4_readFee 23 = .ok (.aload_n 0, 1) := by decide +kernel
theorem dX4_readFee_24 : decode cX4_readFee 24 = .ok (.getfield 25, 3) := by decide +kernel
theorem dX4_readFee_27 : decode cX4_readFee 27 = .ok (.aload_n 0, 1) := by decide +kernel
theorem dX4_readFee_28 : decode cX4_readFee 28 = .ok (.getfield 91, 3) := by decide +kernel
theorem dX4_readFee_31 : decode cX4_readFee 31 = .ok (.putfield 111, 3) := by decide +kernel
theorem dX4_readFee_34 : decode cX4_readFee 34 = .ok (.aload_n 0, 1) := by decide +kernel
theorem dX4_readFee_35 : decode cX4_readFee 35 = .ok (.bipush 7, 2) := by decide +kernel
theorem dX4_readFee_37 : decode cX4_readFee 37 = .ok (.invokevirtual 108, 3) := by decide +kernel
theorem dX4_readFee_40 : decode cX4_readFee 40 = .ok (.ireturn, 1) := by decide +kernel
theorem dX4_readGrace_0 : decode cX4_readGrace 0 = .ok (.aload_n 0, 1) := by decide +kernel
theorem dX4_readGrace_1 : decode cX4_readGrace 1 = .ok (.aload_n 0, 1) := by decide +kernel
theorem dX4_readGrace_2 : decode cX4_readGrace 2 = .ok (.getfield 70, 3) := by decide +kernel
theorem dX4_readGrace_5 : decode cX4_readGrace 5 = .ok (.iconst 1, 1) := by decide +kernel
theorem dX4_readGrace_6 : decode cX4_readGrace 6 = .ok (.iadd, 1) := by decide +kernel
theorem dX4_readGrace_7 : decode cX4_readGrace 7 = .ok (.invokevirtual 38, 3) := by decide +kernel
theorem dX4_readGrace_10 : decode cX4_readGrace 10 = .ok (.aload_n 0, 1) := by decide +kernel
theorem dX4_readGrace_11 : decode cX4_readGrace 11 = .ok (.iconst 0, 1) := by decide +kernel
theorem dX4_readGrace_12 : decode cX4_readGrace 12 = .ok (.bipush 60, 2) := by decide +kernel
theorem dX4_readGrace_14 : decode cX4_readGrace 14 = .ok (.invokevirtual 94, 3) := by decide +kernel
theorem dX4_readGrace_17 : decode cX4_readGrace 17 = .ok (.ifCond .ne 5, 3) := by decide +kernel
theorem dX4_readGrace_20 : decode cX4_readGrace 20 = .ok (.iconst 0, 1) := by decide +kernel
theorem dX4_readGrace_21 : decode cX4_readGrace 21 = .ok (.ireturn, 1) := by decide +kernel
theorem dX4_readGrace_22 : decode cX4_readGrace 22 = .ok (.aload_n 0, 1) := by decide +kernel
theorem dX4_readGrace_23 : decode cX4_readGrace 23 = .ok (.getfield 25, 3) := by decide +kernel
theorem dX4_readGrace_26 : decode cX4_readGrace 26 = .ok (.aload_n 0, 1) := by decide +kernel
theorem dX4_readGrace_27 : decode cX4_readGrace 27 = .ok (.getfield 91, 3) := by decide +kernel
theorem dX4_readGrace_30 : decode cX4_readGrace 30 = .ok (.putfield 114, 3) := by decide +kernel
theorem dX4_readGrace_33 : decode cX4_readGrace 33 = .ok (.aload_n 0, 1) := by decide +kernel
theorem dX4_readGrace_34 : decode cX4_readGrace 34 = .ok (.bipush 7, 2) := by decide +kernel
theorem dX4_readGrace_36 : decode cX4_readGrace 36 = .ok (.invokevirtual 108, 3) := by decide +kernel
theorem dX4_readGrace_39 : decode cX4_readGrace 39 = .ok (.ireturn, 1) := by decide +kernel
theorem dX4_readMilestone_0 : decode cX4_readMilestone 0 = .ok (.aload_n 0, 1) := by decide +kernel
theorem dX4_readMilestone_1 : decode cX4_readMilestone 1 = .ok (.getfield 25, 3) := by decide +kernel
theorem dX4_readMilestone_4 : decode cX4_readMilestone 4 = .ok (.invokevirtual 124, 3) := by decide +kernel
theorem dX4_readMilestone_7 : decode cX4_readMilestone 7 = .ok (.ifCond .ne 9, 3) := by decide +kernel
theorem dX4_readMilestone_10 : decode cX4_readMilestone 10 = .ok (.aload_n 0, 1) := by decide +kernel
theorem dX4_readMilestone_11 : decode cX4_readMilestone 11 = .ok (.iconst 5, 1) := by decide +kernel
theorem dX4_readMilestone_12 : decode cX4_readMilestone 12 = .ok (.invokevirtual 63, 3) := by decide +kernel
theorem dX4_readMilestone_15 : decode cX4_readMilestone 15 = .ok (.ireturn, 1) := by decide +kernel
theorem dX4_readMilestone_16 : decode cX4_readMilestone 16 = .ok (.aload_n 0, 1) := by decide +kernel
theorem dX4_readMilestone_17 : decode cX4_readMilestone 17 = .ok (.aload_n 0, 1) := by decide +kernel
theorem dX4_readMilestone_18 : decode cX4_readMilestone 18 = .ok (.getfield 70, 3) := by decide +kernel
theorem dX4_readMilestone_21 : decode cX4_readMilestone 21 = .ok (.iconst 1, 1) := by decide +kernel
theorem dX4_readMilestone_22 : decode cX4_readMilestone 22 = .ok (.iadd, 1) := by decide +kernel
theorem dX4_readMilestone_23 : decode cX4_readMilestone 23 = .ok (.invokevirtual 38, 3) := by decide +kernel
theorem dX4_readMilestone_26 : decode cX4_readMilestone 26 = .ok (.aload_n 0, 1) := by decide +kernel
theorem dX4_readMilestone_27 : decode cX4_readMilestone 27 = .ok (.getfield 87, 3) := by decide +kernel
theorem dX4_readMilestone_30 : decode cX4_readMilestone 30 = .ok (.lstore_n 1, 1) := by decide +kernel
theorem dX4_readMilestone_31 : decode cX4_readMilestone 31 = .ok (.aload_n 0, 1) := by decide +kernel
theorem dX4_readMilestone_32 : decode cX4_readMilestone 32 = .ok (.getfield 42, 3) := by decide +kernel
theorem dX4_readMilestone_35 : decode cX4_readMilestone 35 = .ok (.iconst 4, 1) := by decide +kernel
theorem dX4_readMilestone_36 : decode cX4_readMilestone 36 = .ok (.if_icmp .ne 21, 3) := by decide +kernel
theorem dX4_readMilestone_39 : decode cX4_readMilestone 39 = .ok (.aload_n 0, 1) := by decide +kernel
theorem dX4_readMilestone_40 : decode cX4_readMilestone 40 = .ok (.getfield 25, 3) := by decide +kernel
theorem dX4_readMilestone_43 : decode cX4_readMilestone 43 = .ok (.lload_n 1, 1) := by decide +kernel
theorem dX4_readMilestone_44 : decode cX4_readMilestone 44 = .ok (.invokevirtual 127, 3) := by decide +kernel
theorem dX4_readMilestone_47 : decode cX4_readMilestone 47 = .ok (.iconst (-1), 1) := by decide +kernel
theorem dX4_readMilestone_48 : decode cX4_readMilestone 48 = .ok (.if_icmp .eq 9, 3) := by decide +kernel
theorem dX4_readMilestone_51 : decode cX4_readMilestone 51 = .ok (.aload_n 0, 1) := by decide +kernel
theorem dX4_readMilestone_52 : decode cX4_readMilestone 52 = .ok (.iconst 4, 1) := by decide +kernel
theorem dX4_readMilestone_53 : decode cX4_readMilestone 53 = .ok (.invokevirtual 63, 3) := by decide +kernel
theorem dX4_readMilestone_56 : decode cX4_readMilestone 56 = .ok (.ireturn, 1) := by decide +kernel
theorem dX4_readMilestone_57 : decode cX4_readMilestone 57 = .ok (.aload_n 0, 1) := by decide +kernel
theorem dX4_readMilestone_58 : decode cX4_readMilestone 58 = .ok (.iconst 4, 1) := by decide +kernel
theorem dX4_readMilestone_59 : decode cX4_readMilestone 59 = .ok (.invokevirtual 108, 3) := by decide +kernel
theorem dX4_readMilestone_62 : decode cX4_readMilestone 62 = .ok (.ifCond .eq 13, 3) := by decide +kernel
theorem dX4_readMilestone_65 : decode cX4_readMilestone 65 = .ok (.aload_n 0, 1) := by decide +kernel
theorem dX4_readMilestone_66 : decode cX4_readMilestone 66 = .ok (.iconst 1, 1) := by decide +kernel
theorem dX4_readMilestone_67 : decode cX4_readMilestone 67 = .ok (.ldc 120, 2) := by decide +kernel
theorem dX4_readMilestone_69 : decode cX4_readMilestone 69 = .ok (.invokevirtual 94, 3) := by decide +kernel
theorem dX4_readMilestone_72 : decode cX4_readMilestone 72 = .ok (.ifCond .ne 5, 3) := by decide +kernel
theorem dX4_readMilestone_75 : decode cX4_readMilestone 75 = .ok (.iconst 0, 1) := by decide +kernel
theorem dX4_readMilestone_76 : decode cX4_readMilestone 76 = .ok (.ireturn, 1) := by decide +kernel
theorem dX4_readMilestone_77 : decode cX4_readMilestone 77 = .ok (.aload_n 0, 1) := by decide +kernel
theorem dX4_readMilestone_78 : decode cX4_readMilestone 78 = .ok (.getfield 91, 3) := by decide +kernel
theorem dX4_readMilestone_81 : decode cX4_readMilestone 81 = .ok (.istore_n 3, 1) := by decide +kernel
theorem dX4_readMilestone_82 : decode cX4_readMilestone 82 = .ok (.aload_n 0, 1) := by decide +kernel
theorem dX4_readMilestone_83 : decode cX4_readMilestone 83 = .ok (.iconst 0, 1) := by decide +kernel
theorem dX4_readMilestone_84 : decode cX4_readMilestone 84 = .ok (.bipush 99, 2) := by decide +kernel
theorem dX4_readMilestone_86 : decode cX4_readMilestone 86 = .ok (.invokevirtual 94, 3) := by decide +kernel
theorem dX4_readMilestone_89 : decode cX4_readMilestone 89 = .ok (.ifCond .ne 5, 3) := by decide +kernel
theorem dX4_readMilestone_92 : decode cX4_readMilestone 92 = .ok (.iconst 0, 1) := by decide +kernel
theorem dX4_readMilestone_93 : decode cX4_readMilestone 93 = .ok (.ireturn, 1) := by decide +kernel
theorem dX4_readMilestone_94 : decode cX4_readMilestone 94 = .ok (.aload_n 0, 1) := by decide +kernel
theorem dX4_readMilestone_95 : decode cX4_readMilestone 95 = .ok (.getfield 91, 3) := by decide +kernel
theorem dX4_readMilestone_98 : decode cX4_readMilestone 98 = .ok (.istore 4, 2) := by decide +kernel
theorem dX4_readMilestone_100 : decode cX4_readMilestone 100 = .ok (.aload_n 0, 1) := by decide +kernel
theorem dX4_readMilestone_101 : decode cX4_readMilestone 101 = .ok (.bipush 13, 2) := by decide +kernel
theorem dX4_readMilestone_103 : decode cX4_readMilestone 103 = .ok (.invokevirtual 108, 3) := by decide +kernel
theorem dX4_readMilestone_106 : decode cX4_readMilestone 106 = .ok (.ifCond .eq 20, 3) := by decide +kernel
theorem dX4_readMilestone_109 : decode cX4_readMilestone 109 = .ok (.aload_n 0, 1) := by decide +kernel
theorem dX4_readMilestone_110 : decode cX4_readMilestone 110 = .ok (.iconst 0, 1) := by decide +kernel
theorem dX4_readMilestone_111 : decode cX4_readMilestone 111 = .ok (.invokevirtual 131, 3) := by decide +kernel
theorem dX4_readMilestone_114 : decode cX4_readMilestone 114 = .ok (.ifCond .eq 12, 3) := by decide +kernel
theorem dX4_readMilestone_117 : decode cX4_readMilestone 117 = .ok (.aload_n 0, 1) := by decide +kernel
theorem dX4_readMilestone_118 : decode cX4_readMilestone 118 = .ok (.bipush 7, 2) := by decide +kernel
theorem dX4_readMilestone_120 : decode cX4_readMilestone 120 = .ok (.invokevirtual 108, 3) := by decide +kernel
theorem dX4_readMilestone_123 : decode cX4_readMilestone 123 = .ok (.ifCond .ne 5, 3) := by decide +kernel
theorem dX4_readMilestone_126 : decode cX4_readMilestone 126 = .ok (.iconst 0, 1) := by decide +kernel
theorem dX4_readMilestone_127 : decode cX4_readMilestone 127 = .ok (.ireturn, 1) := by decide +kernel
theorem dX4_readMilestone_128 : decode cX4_readMilestone 128 = .ok (.aload_n 0, 1) := by decide +kernel
theorem dX4_readMilestone_129 : decode cX4_readMilestone 129 = .ok (.getfield 25, 3) := by decide +kernel
theorem dX4_readMilestone_132 : decode cX4_readMilestone 132 = .ok (.lload_n 1, 1) := by decide +kernel
theorem dX4_readMilestone_133 : decode cX4_readMilestone 133 = .ok (.iload_n 3, 1) := by decide +kernel
theorem dX4_readMilestone_134 : decode cX4_readMilestone 134 = .ok (.iload 4, 2) := by decide +kernel
theorem dX4_readMilestone_136 : decode cX4_readMilestone 136 = .ok (.invokevirtual 134, 3) := by decide +kernel
theorem dX4_readMilestone_139 : decode cX4_readMilestone 139 = .ok (.iconst 1, 1) := by decide +kernel
theorem dX4_readMilestone_140 : decode cX4_readMilestone 140 = .ok (.ireturn, 1) := by decide +kernel
theorem dX4_readProofName_0 : decode cX4_readProofName 0 = .ok (.aload_n 0, 1) := by decide +kernel
theorem dX4_readProofName_1 : decode cX4_readProofName 1 = .ok (.getfield 42, 3) := by decide +kernel
theorem dX4_readProofName_4 : decode cX4_readProofName 4 = .ok (.iconst 4, 1) := by decide +kernel
theorem dX4_readProofName_5 : decode cX4_readProofName 5 = .ok (.if_icmp .eq 9, 3) := by decide +kernel
theorem dX4_readProofName_8 : decode cX4_readProofName 8 = .ok (.aload_n 0, 1) := by decide +kernel
theorem dX4_readProofName_9 : decode cX4_readProofName 9 = .ok (.iconst 2, 1) := by decide +kernel
theorem dX4_readProofName_10 : decode cX4_readProofName 10 = .ok (.invokevirtual 63, 3) := by decide +kernel
theorem dX4_readProofName_13 : decode cX4_readProofName 13 = .ok (.ireturn, 1) := by decide +kernel
theorem dX4_readProofName_14 : decode cX4_readProofName 14 = .ok (.aload_n 0, 1) := by decide +kernel
theorem dX4_readProofName_15 : decode cX4_readProofName 15 = .ok (.getfield 25, 3) := by decide +kernel
theorem dX4_readProofName_18 : decode cX4_readProofName 18 = .ok (.aload_n 0, 1) := by decide +kernel
theorem dX4_readProofName_19 : decode cX4_readProofName 19 = .ok (.getfield 87, 3) := by decide +kernel
theorem dX4_readProofName_22 : decode cX4_readProofName 22 = .ok (.invokevirtual 156, 3) := by decide +kernel
theorem dX4_readProofName_25 : decode cX4_readProofName 25 = .ok (.istore_n 1, 1) := by decide +kernel
theorem dX4_readProofName_26 : decode cX4_readProofName 26 = .ok (.iload_n 1, 1) := by decide +kernel
theorem dX4_readProofName_27 : decode cX4_readProofName 27 = .ok (.iconst (-1), 1) := by decide +kernel
theorem dX4_readProofName_28 : decode cX4_readProofName 28 = .ok (.if_icmp .ne 9, 3) := by decide +kernel
theorem dX4_readProofName_31 : decode cX4_readProofName 31 = .ok (.aload_n 0, 1) := by decide +kernel
theorem dX4_readProofName_32 : decode cX4_readProofName 32 = .ok (.iconst 5, 1) := by decide +kernel
theorem dX4_readProofName_33 : decode cX4_readProofName 33 = .ok (.invokevirtual 63, 3) := by decide +kernel
theorem dX4_readProofName_36 : decode cX4_readProofName 36 = .ok (.ireturn, 1) := by decide +kernel
theorem dX4_readProofName_37 : decode cX4_readProofName 37 = .ok (.aload_n 0, 1) := by decide +kernel
theorem dX4_readProofName_38 : decode cX4_readProofName 38 = .ok (.aload_n 0, 1) := by decide +kernel
theorem dX4_readProofName_39 : decode cX4_readProofName 39 = .ok (.getfield 70, 3) := by decide +kernel
theorem dX4_readProofName_42 : decode cX4_readProofName 42 = .ok (.iconst 1, 1) := by decide +kernel
theorem dX4_readProofName_43 : decode cX4_readProofName 43 = .ok (.iadd, 1) := by decide +kernel
theorem dX4_readProofName_44 : decode cX4_readProofName 44 = .ok (.invokevirtual 38, 3) := by decide +kernel
theorem dX4_readProofName_47 : decode cX4_readProofName 47 = .ok (.aload_n 0, 1) := by decide +kernel
theorem dX4_readProofName_48 : decode cX4_readProofName 48 = .ok (.getfield 25, 3) := by decide +kernel
theorem dX4_readProofName_51 : decode cX4_readProofName 51 = .ok (.bipush 18, 2) := by decide +kernel
theorem dX4_readProofName_53 : decode cX4_readProofName 53 = .ok (.iload_n 1, 1) := by decide +kernel
theorem dX4_readProofName_54 : decode cX4_readProofName 54 = .ok (.invokevirtual 141, 3) := by decide +kernel
theorem dX4_readProofName_57 : decode cX4_readProofName 57 = .ok (.ireturn, 1) := by decide +kernel
theorem dX4_readRate_0 : decode cX4_readRate 0 = .ok (.aload_n 0, 1) := by decide +kernel
theorem dX4_readRate_1 : decode cX4_readRate 1 = .ok (.aload_n 0, 1) := by decide +kernel
theorem dX4_readRate_2 : decode cX4_readRate 2 = .ok (.getfield 70, 3) := by decide +kernel
theorem dX4_readRate_5 : decode cX4_readRate 5 = .ok (.iconst 1, 1) := by decide +kernel
theorem dX4_readRate_6 : decode cX4_readRate 6 = .ok (.iadd, 1) := by decide +kernel
theorem dX4_readRate_7 : decode cX4_readRate 7 = .ok (.invokevirtual 38, 3) := by decide +kernel
theorem dX4_readRate_10 : decode cX4_readRate 10 = .ok (.aload_n 0, 1) := by decide +kernel
theorem dX4_readRate_11 : decode cX4_readRate 11 = .ok (.iconst 0, 1) := by decide +kernel
theorem dX4_readRate_12 : decode cX4_readRate 12 = .ok (.sipush 3000, 3) := by decide +kernel
theorem dX4_readRate_15 : decode cX4_readRate 15 = .ok (.invokevirtual 94, 3) := by decide +kernel
theorem dX4_readRate_18 : decode cX4_readRate 18 = .ok (.ifCond .ne 5, 3) := by decide +kernel
theorem dX4_readRate_21 : decode cX4_readRate 21 = .ok (.iconst 0, 1) := by decide +kernel
theorem dX4_readRate_22 : decode cX4_readRate 22 = .ok (.ireturn, 1) := by decide +kernel
theorem dX4_readRate_23 : decode cX4_readRate 23 = .ok (.aload_n 0, 1) := by decide +kernel
theorem dX4_readRate_24 : decode cX4_readRate 24 = .ok (.getfield 25, 3) := by decide +kernel
theorem dX4_readRate_27 : decode cX4_readRate 27 = .ok (.aload_n 0, 1) := by decide +kernel
theorem dX4_readRate_28 : decode cX4_readRate 28 = .ok (.getfield 91, 3) := by decide +kernel
theorem dX4_readRate_31 : decode cX4_readRate 31 = .ok (.putfield 98, 3) := by decide +kernel
theorem dX4_readRate_34 : decode cX4_readRate 34 = .ok (.aload_n 0, 1) := by decide +kernel
theorem dX4_readRate_35 : decode cX4_readRate 35 = .ok (.getfield 42, 3) := by decide +kernel
theorem dX4_readRate_38 : decode cX4_readRate 38 = .ok (.iconst 3, 1) := by decide +kernel
theorem dX4_readRate_39 : decode cX4_readRate 39 = .ok (.if_icmp .ne 19, 3) := by decide +kernel
theorem dX4_readRate_42 : decode cX4_readRate 42 = .ok (.aload_n 0, 1) := by decide +kernel
theorem dX4_readRate_43 : decode cX4_readRate 43 = .ok (.getfield 87, 3) := by decide +kernel
theorem dX4_readRate_46 : decode cX4_readRate 46 = .ok (.invokestatic 101, 3) := by decide +kernel
theorem dX4_readRate_49 : decode cX4_readRate 49 = .ok (.ifCond .ne 9, 3) := by decide +kernel
theorem dX4_readRate_52 : decode cX4_readRate 52 = .ok (.aload_n 0, 1) := by decide +kernel
theorem dX4_readRate_53 : decode cX4_readRate 53 = .ok (.iconst 3, 1) := by decide +kernel
theorem dX4_readRate_54 : decode cX4_readRate 54 = .ok (.invokevirtual 63, 3) := by decide +kernel
theorem dX4_readRate_57 : decode cX4_readRate 57 = .ok (.ireturn, 1) := by decide +kernel
theorem dX4_readRate_58 : decode cX4_readRate 58 = .ok (.aload_n 0, 1) := by decide +kernel
theorem dX4_readRate_59 : decode cX4_readRate 59 = .ok (.sipush 360, 3) := by decide +kernel
theorem dX4_readRate_62 : decode cX4_readRate 62 = .ok (.sipush 365, 3) := by decide +kernel
theorem dX4_readRate_65 : decode cX4_readRate 65 = .ok (.invokevirtual 94, 3) := by decide +kernel
theorem dX4_readRate_68 : decode cX4_readRate 68 = .ok (.ifCond .ne 5, 3) := by decide +kernel
theorem dX4_readRate_71 : decode cX4_readRate 71 = .ok (.iconst 0, 1) := by decide +kernel
theorem dX4_readRate_72 : decode cX4_readRate 72 = .ok (.ireturn, 1) := by decide +kernel
theorem dX4_readRate_73 : decode cX4_readRate 73 = .ok (.aload_n 0, 1) := by decide +kernel
theorem dX4_readRate_74 : decode cX4_readRate 74 = .ok (.getfield 25, 3) := by decide +kernel
theorem dX4_readRate_77 : decode cX4_readRate 77 = .ok (.aload_n 0, 1) := by decide +kernel
theorem dX4_readRate_78 : decode cX4_readRate 78 = .ok (.getfield 91, 3) := by decide +kernel
theorem dX4_readRate_81 : decode cX4_readRate 81 = .ok (.putfield 105, 3) := by decide +kernel
theorem dX4_readRate_84 : decode cX4_readRate 84 = .ok (.aload_n 0, 1) := by decide +kernel
theorem dX4_readRate_85 : decode cX4_readRate 85 = .ok (.bipush 7, 2) := by decide +kernel
theorem dX4_readRate_87 : decode cX4_readRate 87 = .ok (.invokevirtual 108, 3) := by decide +kernel
theorem dX4_readRate_90 : decode cX4_readRate 90 = .ok (.ireturn, 1) := by decide +kernel
theorem dX4_readText_0 : decode cX4_readText 0 = .ok (.aload_n 0, 1) := by decide +kernel
theorem dX4_readText_1 : decode cX4_readText 1 = .ok (.getfield 12, 3) := by decide +kernel
theorem dX4_readText_4 : decode cX4_readText 4 = .ok (.aload_n 1, 1) := by decide +kernel
theorem dX4_readText_5 : decode cX4_readText 5 = .ok (.iload_n 2, 1) := by decide +kernel
theorem dX4_readText_6 : decode cX4_readText 6 = .ok (.invokevirtual 29, 3) := by decide +kernel
theorem dX4_readText_9 : decode cX4_readText 9 = .ok (.aload_n 0, 1) := by decide +kernel
theorem dX4_readText_10 : decode cX4_readText 10 = .ok (.aload_n 3, 1) := by decide +kernel
theorem dX4_readText_11 : decode cX4_readText 11 = .ok (.putfield 25, 3) := by decide +kernel
theorem dX4_readText_14 : decode cX4_readText 14 = .ok (.aload_n 0, 1) := by decide +kernel
theorem dX4_readText_15 : decode cX4_readText 15 = .ok (.getfield 25, 3) := by decide +kernel
theorem dX4_readText_18 : decode cX4_readText 18 = .ok (.invokevirtual 33, 3) := by decide +kernel
theorem dX4_readText_21 : decode cX4_readText 21 = .ok (.aload_n 0, 1) := by decide +kernel
theorem dX4_readText_22 : decode cX4_readText 22 = .ok (.iconst 0, 1) := by decide +kernel
theorem dX4_readText_23 : decode cX4_readText 23 = .ok (.putfield 18, 3) := by decide +kernel
theorem dX4_readText_26 : decode cX4_readText 26 = .ok (.aload_n 0, 1) := by decide +kernel
theorem dX4_readText_27 : decode cX4_readText 27 = .ok (.iconst (-1), 1) := by decide +kernel
theorem dX4_readText_28 : decode cX4_readText 28 = .ok (.putfield 22, 3) := by decide +kernel
theorem dX4_readText_31 : decode cX4_readText 31 = .ok (.aload_n 0, 1) := by decide +kernel
theorem dX4_readText_32 : decode cX4_readText 32 = .ok (.iconst 0, 1) := by decide +kernel
theorem dX4_readText_33 : decode cX4_readText 33 = .ok (.invokevirtual 38, 3) := by decide +kernel
theorem dX4_readText_36 : decode cX4_readText 36 = .ok (.iconst 1, 1) := by decide +kernel
theorem dX4_readText_37 : decode cX4_readText 37 = .ok (.istore 4, 2) := by decide +kernel
theorem dX4_readText_39 : decode cX4_readText 39 = .ok (.iconst 0, 1) := by decide +kernel
theorem dX4_readText_40 : decode cX4_readText 40 = .ok (.istore 5, 2) := by decide +kernel
theorem dX4_readText_42 : decode cX4_readText 42 = .ok (.iload 4, 2) := by decide +kernel
theorem dX4_readText_44 : decode cX4_readText 44 = .ok (.ifCond .eq 114, 3) := by decide +kernel
theorem dX4_readText_47 : decode cX4_readText 47 = .ok (.iload 5, 2) := by decide +kernel
theorem dX4_readText_49 : decode cX4_readText 49 = .ok (.sipush 700, 3) := by decide +kernel
theorem dX4_readText_52 : decode cX4_readText 52 = .ok (.if_icmp .ge 106, 3) := by decide +kernel
theorem dX4_readText_55 : decode cX4_readText 55 = .ok (.aload_n 0, 1) := by decide +kernel
theorem dX4_readText_56 : decode cX4_readText 56 = .ok (.getfield 42, 3) := by decide +kernel
theorem dX4_readText_59 : decode cX4_readText 59 = .ok (.iconst 1, 1) := by decide +kernel
theorem dX4_readText_60 : decode cX4_readText 60 = .ok (.if_icmp .eq 98, 3) := by decide +kernel
theorem dX4_readText_63 : decode cX4_readText 63 = .ok (.aload_n 0, 1) := by decide +kernel
theorem dX4_readText_64 : decode cX4_readText 64 = .ok (.getfield 42, 3) := by decide +kernel
theorem dX4_readText_67 : decode cX4_readText 67 = .ok (.tableswitch 78 8 12 #[33, 42, 51, 60, 69], 33) := by decide +kernel
theorem dX4_readText_100 : decode cX4_readText 100 = .ok (.aload_n 0, 1) := by decide +kernel
theorem dX4_readText_101 : decode cX4_readText 101 = .ok (.invokevirtual 47, 3) := by decide +kernel
theorem dX4_readText_104 : decode cX4_readText 104 = .ok (.istore 4, 2) := by decide +kernel
theorem dX4_readText_106 : decode cX4_readText 106 = .ok (.goto 46, 3) := by decide +kernel
theorem dX4_readText_109 : decode cX4_readText 109 = .ok (.aload_n 0, 1) := by decide +kernel
theorem dX4_readText_110 : decode cX4_readText 110 = .ok (.invokevirtual 51, 3) := by decide +kernel
theorem dX4_readText_113 : decode cX4_readText 113 = .ok (.istore 4, 2) := by decide +kernel
theorem dX4_readText_115 : decode cX4_readText 115 = .ok (.goto 37, 3) := by decide +kernel
theorem dX4_readText_118 : decode cX4_readText 118 = .ok (.aload_n 0, 1) := by decide +kernel
theorem dX4_readText_119 : decode cX4_readText 119 = .ok (.invokevirtual 54, 3) := by decide +kernel
theorem dX4_readText_122 : decode cX4_readText 122 = .ok (.istore 4, 2) := by decide +kernel
theorem dX4_readText_124 : decode cX4_readText 124 = .ok (.goto 28, 3) := by decide +kernel
theorem dX4_readText_127 : decode cX4_readText 127 = .ok (.aload_n 0, 1) := by decide +kernel
theorem dX4_readText_128 : decode cX4_readText 128 = .ok (.invokevirtual 57, 3) := by decide +kernel
theorem dX4_readText_131 : decode cX4_readText 131 = .ok (.istore 4, 2) := by decide +kernel
theorem dX4_readText_133 : decode cX4_readText 133 = .ok (.goto 19, 3) := by decide +kernel
theorem dX4_readText_136 : decode cX4_readText 136 = .ok (.aload_n 0, 1) := by decide +kernel
theorem dX4_readText_137 : decode cX4_readText 137 = .ok (.invokevirtual 60, 3) := by decide +kernel
theorem dX4_readText_140 : decode cX4_readText 140 = .ok (.istore 4, 2) := by decide +kernel
theorem dX4_readText_142 : decode cX4_readText 142 = .ok (.goto 10, 3) := by decide +kernel
theorem dX4_readText_145 : decode cX4_readText 145 = .ok (.aload_n 0, 1) := by decide +kernel
theorem dX4_readText_146 : decode cX4_readText 146 = .ok (.iconst 2, 1) := by decide +kernel
theorem dX4_readText_147 : decode cX4_readText 147 = .ok (.invokevirtual 63, 3) := by decide +kernel
theorem dX4_readText_150 : decode cX4_readText 150 = .ok (.istore 4, 2) := by decide +kernel
theorem dX4_readText_152 : decode cX4_readText 152 = .ok (.iinc 5 1, 3) := by decide +kernel
theorem dX4_readText_155 : decode cX4_readText 155 = .ok (.goto (-113), 3) := by decide +kernel
theorem dX4_readText_158 : decode cX4_readText 158 = .ok (.iload 4, 2) := by decide +kernel
theorem dX4_readText_160 : decode cX4_readText 160 = .ok (.ireturn, 1) := by decide +kernel
theorem dX4_take_0 : decode cX4_take 0 = .ok (.aload_n 0, 1) := by decide +kernel
theorem dX4_take_1 : decode cX4_take 1 = .ok (.getfield 42, 3) := by decide +kernel
theorem dX4_take_4 : decode cX4_take 4 = .ok (.iload_n 1, 1) := by decide +kernel
theorem dX4_take_5 : decode cX4_take 5 = .ok (.if_icmp .eq 9, 3) := by decide +kernel
theorem dX4_take_8 : decode cX4_take 8 = .ok (.aload_n 0, 1) := by decide +kernel
theorem dX4_take_9 : decode cX4_take 9 = .ok (.iconst 2, 1) := by decide +kernel
theorem dX4_take_10 : decode cX4_take 10 = .ok (.invokevirtual 63, 3) := by decide +kernel
theorem dX4_take_13 : decode cX4_take 13 = .ok (.ireturn, 1) := by decide +kernel
theorem dX4_take_14 : decode cX4_take 14 = .ok (.aload_n 0, 1) := by decide +kernel
theorem dX4_take_15 : decode cX4_take 15 = .ok (.aload_n 0, 1) := by decide +kernel
theorem dX4_take_16 : decode cX4_take 16 = .ok (.getfield 70, 3) := by decide +kernel
theorem dX4_take_19 : decode cX4_take 19 = .ok (.iconst 1, 1) := by decide +kernel
theorem dX4_take_20 : decode cX4_take 20 = .ok (.iadd, 1) := by decide +kernel
theorem dX4_take_21 : decode cX4_take 21 = .ok (.invokevirtual 38, 3) := by decide +kernel
theorem dX4_take_24 : decode cX4_take 24 = .ok (.iconst 1, 1) := by decide +kernel
theorem dX4_take_25 : decode cX4_take 25 = .ok (.ireturn, 1) := by decide +kernel
theorem dX4_takeNumber_0 : decode cX4_takeNumber 0 = .ok (.aload_n 0, 1) := by decide +kernel
theorem dX4_takeNumber_1 : decode cX4_takeNumber 1 = .ok (.getfield 42, 3) := by decide +kernel
theorem dX4_takeNumber_4 : decode cX4_takeNumber 4 = .ok (.iconst 3, 1) := by decide +kernel
theorem dX4_takeNumber_5 : decode cX4_takeNumber 5 = .ok (.if_icmp .eq 9, 3) := by decide +kernel
theorem dX4_takeNumber_8 : decode cX4_takeNumber 8 = .ok (.aload_n 0, 1) := by decide +kernel
theorem dX4_takeNumber_9 : decode cX4_takeNumber 9 = .ok (.iconst 2, 1) := by decide +kernel
theorem dX4_takeNumber_10 : decode cX4_takeNumber 10 = .ok (.invokevirtual 63, 3) := by decide +kernel
theorem dX4_takeNumber_13 : decode cX4_takeNumber 13 = .ok (.ireturn, 1) := by decide +kernel
theorem dX4_takeNumber_14 : decode cX4_takeNumber 14 = .ok (.aload_n 0, 1) := by decide +kernel
theorem dX4_takeNumber_15 : decode cX4_takeNumber 15 = .ok (.getfield 87, 3) := by decide +kernel
theorem dX4_takeNumber_18 : decode cX4_takeNumber 18 = .ok (.iload_n 1, 1) := by decide +kernel
theorem dX4_takeNumber_19 : decode cX4_takeNumber 19 = .ok (.i2l, 1) := by decide +kernel
theorem dX4_takeNumber_20 : decode cX4_takeNumber 20 = .ok (.lcmp, 1) := by decide +kernel
theorem dX4_takeNumber_21 : decode cX4_takeNumber 21 = .ok (.ifCond .lt 13, 3) := by decide +kernel
theorem dX4_takeNumber_24 : decode cX4_takeNumber 24 = .ok (.aload_n 0, 1) := by decide +kernel
theorem dX4_takeNumber_25 : decode cX4_takeNumber 25 = .ok (.getfield 87, 3) := by decide +kernel
theorem dX4_takeNumber_28 : decode cX4_takeNumber 28 = .ok (.iload_n 2, 1) := by decide +kernel
theorem dX4_takeNumber_29 : decode cX4_takeNumber 29 = .ok (.i2l, 1) := by decide +kernel
theorem dX4_takeNumber_30 : decode cX4_takeNumber 30 = .ok (.lcmp, 1) := by decide +kernel
theorem dX4_takeNumber_31 : decode cX4_takeNumber 31 = .ok (.ifCond .le 9, 3) := by decide +kernel
theorem dX4_takeNumber_34 : decode cX4_takeNumber 34 = .ok (.aload_n 0, 1) := by decide +kernel
theorem dX4_takeNumber_35 : decode cX4_takeNumber 35 = .ok (.iconst 3, 1) := by decide +kernel
theorem dX4_takeNumber_36 : decode cX4_takeNumber 36 = .ok (.invokevirtual 63, 3) := by decide +kernel
theorem dX4_takeNumber_39 : decode cX4_takeNumber 39 = .ok (.ireturn, 1) := by decide +kernel
theorem dX4_takeNumber_40 : decode cX4_takeNumber 40 = .ok (.aload_n 0, 1) := by decide +kernel
theorem dX4_takeNumber_41 : decode cX4_takeNumber 41 = .ok (.aload_n 0, 1) := by decide +kernel
theorem dX4_takeNumber_42 : decode cX4_takeNumber 42 = .ok (.getfield 87, 3) := by decide +kernel
theorem dX4_takeNumber_45 : decode cX4_takeNumber 45 = .ok (.l2i, 1) := by decide +kernel
theorem dX4_takeNumber_46 : decode cX4_takeNumber 46 = .ok (.putfield 91, 3) := by decide +kernel
theorem dX4_takeNumber_49 : decode cX4_takeNumber 49 = .ok (.aload_n 0, 1) := by decide +kernel
theorem dX4_takeNumber_50 : decode cX4_takeNumber 50 = .ok (.aload_n 0, 1) := by decide +kernel
theorem dX4_takeNumber_51 : decode cX4_takeNumber 51 = .ok (.getfield 70, 3) := by decide +kernel
theorem dX4_takeNumber_54 : decode cX4_takeNumber 54 = .ok (.iconst 1, 1) := by decide +kernel
theorem dX4_takeNumber_55 : decode cX4_takeNumber 55 = .ok (.iadd, 1) := by decide +kernel
theorem dX4_takeNumber_56 : decode cX4_takeNumber 56 = .ok (.invokevirtual 38, 3) := by decide +kernel
theorem dX4_takeNumber_59 : decode cX4_takeNumber 59 = .ok (.iconst 1, 1) := by decide +kernel
theorem dX4_takeNumber_60 : decode cX4_takeNumber 60 = .ok (.ireturn, 1) := by decide +kernel
theorem dX5_add_0 : decode cX5_add 0 = .ok (.aload_n 0, 1) := by decide +kernel
theorem dX5_add_1 : decode cX5_add 1 = .ok (.getfield 22, 3) := by decide +kernel
theorem dX5_add_4 : decode cX5_add 4 = .ok (.aload_n 0, 1) := by decide +kernel
theorem dX5_add_5 : decode cX5_add 5 = .ok (.getfield 9, 3) := by decide +kernel
theorem dX5_add_8 : decode cX5_add 8 = .ok (.arraylength, 1) := by decide +kernel
theorem dX5_add_9 : decode cX5_add 9 = .ok (.if_icmp .ge 43, 3) := by decide +kernel
theorem dX5_add_12 : decode cX5_add 12 = .ok (.aload_n 0, 1) := by decide +kernel
theorem dX5_add_13 : decode cX5_add 13 = .ok (.getfield 9, 3) := by decide +kernel
theorem dX5_add_16 : decode cX5_add 16 = .ok (.aload_n 0, 1) := by decide +kernel
theorem dX5_add_17 : decode cX5_add 17 = .ok (.getfield 22, 3) := by decide +kernel
theorem dX5_add_20 : decode cX5_add 20 = .ok (.iload_n 1, 1) := by decide +kernel
theorem dX5_add_21 : decode cX5_add 21 = .ok (.iastore, 1) := by decide +kernel
theorem dX5_add_22 : decode cX5_add 22 = .ok (.aload_n 0, 1) := by decide +kernel
theorem dX5_add_23 : decode cX5_add 23 = .ok (.getfield 15, 3) := by decide +kernel
theorem dX5_add_26 : decode cX5_add 26 = .ok (.aload_n 0, 1) := by decide +kernel
theorem dX5_add_27 : decode cX5_add 27 = .ok (.getfield 22, 3) := by decide +kernel
theorem dX5_add_30 : decode cX5_add 30 = .ok (.iload_n 2, 1) := by decide +kernel
theorem dX5_add_31 : decode cX5_add 31 = .ok (.iastore, 1) := by decide +kernel
theorem dX5_add_32 : decode cX5_add 32 = .ok (.aload_n 0, 1) := by decide +kernel
theorem dX5_add_33 : decode cX5_add 33 = .ok (.getfield 18, 3) := by decide +kernel
theorem dX5_add_36 : decode cX5_add 36 = .ok (.aload_n 0, 1) := by decide +kernel
theorem dX5_add_37 : decode cX5_add 37 = .ok (.getfield 22, 3) := by decide +kernel
theorem dX5_add_40 : decode cX5_add 40 = .ok (.lload_n 3, 1) := by decide +kernel
theorem dX5_add_41 : decode cX5_add 41 = .ok (.lastore, 1) := by decide +kernel
theorem dX5_add_42 : decode cX5_add 42 = .ok (.aload_n 0, 1) := by decide +kernel
theorem dX5_add_43 : decode cX5_add 43 = .ok (.dup, 1) := by decide +kernel
theorem dX5_add_44 : decode cX5_add 44 = .ok (.getfield 22, 3) := by decide +kernel
theorem dX5_add_47 : decode cX5_add 47 = .ok (.iconst 1, 1) := by decide +kernel
theorem dX5_add_48 : decode cX5_add 48 = .ok (.iadd, 1) := by decide +kernel
theorem dX5_add_49 : decode cX5_add 49 = .ok (.putfield 22, 3) := by decide +kernel
theorem dX5_add_52 : decode cX5_add 52 = .ok (.return_, 1) := by decide +kernel
theorem dX5_extendLast_0 : decode cX5_extendLast 0 = .ok (.aload_n 0, 1) := by decide +kernel
theorem dX5_extendLast_1 : decode cX5_extendLast 1 = .ok (.getfield 22, 3) := by decide +kernel
theorem dX5_extendLast_4 : decode cX5_extendLast 4 = .ok (.iconst 1, 1) := by decide +kernel
theorem dX5_extendLast_5 : decode cX5_extendLast 5 = .ok (.isub, 1) := by decide +kernel
theorem dX5_extendLast_6 : decode cX5_extendLast 6 = .ok (.istore 4, 2) := by decide +kernel
theorem dX5_extendLast_8 : decode cX5_extendLast 8 = .ok (.iload 4, 2) := by decide +kernel
theorem dX5_extendLast_10 : decode cX5_extendLast 10 = .ok (.ifCond .ge 4, 3) := by decide +kernel
theorem dX5_extendLast_13 : decode cX5_extendLast 13 = .ok (.return_, 1) := by decide +kernel
theorem dX5_extendLast_14 : decode cX5_extendLast 14 = .ok (.aload_n 0, 1) := by decide +kernel
theorem dX5_extendLast_15 : decode cX5_extendLast 15 = .ok (.getfield 18, 3) := by decide +kernel
theorem dX5_extendLast_18 : decode cX5_extendLast 18 = .ok (.iload 4, 2) := by decide +kernel
theorem dX5_extendLast_20 : decode cX5_extendLast 20 = .ok (.iload_n 1, 1) := by decide +kernel
theorem dX5_extendLast_21 : decode cX5_extendLast 21 = .ok (.aload_n 0, 1) := by decide +kernel
theorem dX5_extendLast_22 : decode cX5_extendLast 22 = .ok (.getfield 18, 3) := by decide +kernel
theorem dX5_extendLast_25 : decode cX5_extendLast 25 = .ok (.iload 4, 2) := by decide +kernel
theorem dX5_extendLast_27 : decode cX5_extendLast 27 = .ok (.laload, 1) := by decide +kernel
theorem dX5_extendLast_28 : decode cX5_extendLast 28 = .ok (.iload_n 2, 1) := by decide +kernel
theorem dX5_extendLast_29 : decode cX5_extendLast 29 = .ok (.invokestatic 36, 3) := by decide +kernel
theorem dX5_extendLast_32 : decode cX5_extendLast 32 = .ok (.lastore, 1) := by decide +kernel
theorem dX5_extendLast_33 : decode cX5_extendLast 33 = .ok (.iload_n 3, 1) := by decide +kernel
theorem dX5_extendLast_34 : decode cX5_extendLast 34 = .ok (.iload_n 1, 1) := by decide +kernel
theorem dX5_extendLast_35 : decode cX5_extendLast 35 = .ok (.iconst 4, 1) := by decide +kernel
theorem dX5_extendLast_36 : decode cX5_extendLast 36 = .ok (.if_icmp .ne 8, 3) := by decide +kernel
theorem dX5_extendLast_39 : decode cX5_extendLast 39 = .ok (.bipush 9, 2) := by decide +kernel
theorem dX5_extendLast_41 : decode cX5_extendLast 41 = .ok (.goto 4, 3) := by decide +kernel
theorem dX5_extendLast_44 : decode cX5_extendLast 44 = .ok (.iconst 5, 1) := by decide +kernel
theorem dX5_extendLast_45 : decode cX5_extendLast 45 = .ok (.if_icmp .le 11, 3) := by decide +kernel
theorem dX5_extendLast_48 : decode cX5_extendLast 48 = .ok (.aload_n 0, 1) := by decide +kernel
theorem dX5_extendLast_49 : decode cX5_extendLast 49 = .ok (.getfield 9, 3) := by decide +kernel
theorem dX5_extendLast_52 : decode cX5_extendLast 52 = .ok (.iload 4, 2) := by decide +kernel
theorem dX5_extendLast_54 : decode cX5_extendLast 54 = .ok (.iconst 2, 1) := by decide +kernel
theorem dX5_extendLast_55 : decode cX5_extendLast 55 = .ok (.iastore, 1) := by decide +kernel
theorem dX5_extendLast_56 : decode cX5_extendLast 56 = .ok (.return_, 1) := by decide +kernel
theorem dX5_extended_0 : decode cX5_extended 0 = .ok (.iload_n 0, 1) := by decide +kernel
theorem dX5_extended_1 : decode cX5_extended 1 = .ok (.iconst 4, 1) := by decide +kernel
theorem dX5_extended_2 : decode cX5_extended 2 = .ok (.if_icmp .ne 9, 3) := by decide +kernel
theorem dX5_extended_5 : decode cX5_extended 5 = .ok (.lload_n 1, 1) := by decide +kernel
theorem dX5_extended_6 : decode cX5_extended 6 = .ok (.iload_n 3, 1) := by decide +kernel
theorem dX5_extended_7 : decode cX5_extended 7 = .ok (.invokestatic 47, 3) := by decide +kernel
theorem dX5_extended_10 : decode cX5_extended 10 = .ok (.lreturn, 1) := by decide +kernel
theorem dX5_extended_11 : decode cX5_extended 11 = .ok (.iload_n 0, 1) := by decide +kernel
theorem dX5_extended_12 : decode cX5_extended 12 = .ok (.iconst 3, 1) := by decide +kernel
theorem dX5_extended_13 : decode cX5_extended 13 = .ok (.if_icmp .ne 17, 3) := by decide +kernel
theorem dX5_extended_16 : decode cX5_extended 16 = .ok (.lload_n 1, 1) := by decide +kernel
theorem dX5_extended_17 : decode cX5_extended 17 = .ok (.ldc2_w 53, 3) := by decide +kernel
theorem dX5_extended_20 : decode cX5_extended 20 = .ok (.lmul, 1) := by decide +kernel
theorem dX5_extended_21 : decode cX5_extended 21 = .ok (.iload_n 3, 1) := by decide +kernel
theorem dX5_extended_22 : decode cX5_extended 22 = .ok (.bipush 48, 2) := by decide +kernel
theorem dX5_extended_24 : decode cX5_extended 24 = .ok (.isub, 1) := by decide +kernel
theorem dX5_extended_25 : decode cX5_extended 25 = .ok (.i2l, 1) := by decide +kernel
theorem dX5_extended_26 : decode cX5_extended 26 = .ok (.ladd, 1) := by decide +kernel
theorem dX5_extended_27 : decode cX5_extended 27 = .ok (.goto 4, 3) := by decide +kernel
theorem dX5_extended_30 : decode cX5_extended 30 = .ok (.lconst 0, 1) := by decide +kernel
theorem dX5_extended_31 : decode cX5_extended 31 = .ok (.lreturn, 1) := by decide +kernel
theorem dX5_kindOf_0 : decode cX5_kindOf 0 = .ok (.iload_n 0, 1) := by decide +kernel
theorem dX5_kindOf_1 : decode cX5_kindOf 1 = .ok (.bipush 97, 2) := by decide +kernel
theorem dX5_kindOf_3 : decode cX5_kindOf 3 = .ok (.if_icmp .lt 11, 3) := by decide +kernel
theorem dX5_kindOf_6 : decode cX5_kindOf 6 = .ok (.iload_n 0, 1) := by decide +kernel
theorem dX5_kindOf_7 : decode cX5_kindOf 7 = .ok (.bipush 122, 2) := by decide +kernel
theorem dX5_kindOf_9 : decode cX5_kindOf 9 = .ok (.if_icmp .gt 5, 3) := by decide +kernel
theorem dX5_kindOf_12 : decode cX5_kindOf 12 = .ok (.iconst 4, 1) := by decide +kernel
theorem dX5_kindOf_13 : decode cX5_kindOf 13 = .ok (.ireturn, 1) := by decide +kernel
theorem dX5_kindOf_14 : decode cX5_kindOf 14 = .ok (.iload_n 0, 1) := by decide +kernel
theorem dX5_kindOf_15 : decode cX5_kindOf 15 = .ok (.bipush 48, 2) := by decide +kernel
theorem dX5_kindOf_17 : decode cX5_kindOf 17 = .ok (.if_icmp .lt 11, 3) := by decide +kernel
theorem dX5_kindOf_20 : decode cX5_kindOf 20 = .ok (.iload_n 0, 1) := by decide +kernel
theorem dX5_kindOf_21 : decode cX5_kindOf 21 = .ok (.bipush 57, 2) := by decide +kernel
theorem dX5_kindOf_23 : decode cX5_kindOf 23 = .ok (.if_icmp .gt 5, 3) := by decide +kernel
theorem dX5_kindOf_26 : decode cX5_kindOf 26 = .ok (.iconst 3, 1) := by decide +kernel
theorem dX5_kindOf_27 : decode cX5_kindOf 27 = .ok (.ireturn, 1) := by decide +kernel
theorem dX5_kindOf_28 : decode cX5_kindOf 28 = .ok (.iload_n 0, 1) := by decide +kernel
theorem dX5_kindOf_29 : decode cX5_kindOf 29 = .ok (.bipush 32, 2) := by decide +kernel
theorem dX5_kindOf_31 : decode cX5_kindOf 31 = .ok (.if_icmp .eq 9, 3) := by decide +kernel
theorem dX5_kindOf_34 : decode cX5_kindOf 34 = .ok (.iload_n 0, 1) := by decide +kernel
theorem dX5_kindOf_35 : decode cX5_kindOf 35 = .ok (.bipush 10, 2) := by decide +kernel
theorem dX5_kindOf_37 : decode cX5_kindOf 37 = .ok (.if_icmp .ne 5, 3) := by decide +kernel
theorem dX5_kindOf_40 : decode cX5_kindOf 40 = .ok (.iconst 0, 1) := by decide +kernel
theorem dX5_kindOf_41 : decode cX5_kindOf 41 = .ok (.ireturn, 1) := by decide +kernel
theorem dX5_kindOf_42 : decode cX5_kindOf 42 = .ok (.iload_n 0, 1) := by decide +kernel
theorem dX5_kindOf_43 : decode cX5_kindOf 43 = .ok (.bipush 40, 2) := by decide +kernel
theorem dX5_kindOf_45 : decode cX5_kindOf 45 = .ok (.if_icmp .ne 5, 3) := by decide +kernel
theorem dX5_kindOf_48 : decode cX5_kindOf 48 = .ok (.iconst 5, 1) := by decide +kernel
theorem dX5_kindOf_49 : decode cX5_kindOf 49 = .ok (.ireturn, 1) := by decide +kernel
theorem dX5_kindOf_50 : decode cX5_kindOf 50 = .ok (.iload_n 0, 1) := by decide +kernel
theorem dX5_kindOf_51 : decode cX5_kindOf 51 = .ok (.bipush 41, 2) := by decide +kernel
theorem dX5_kindOf_53 : decode cX5_kindOf 53 = .ok (.if_icmp .ne 6, 3) := by decide +kernel
theorem dX5_kindOf_56 : decode cX5_kindOf 56 = .ok (.bipush 6, 2) := by decide +kernel
theorem dX5_kindOf_58 : decode cX5_kindOf 58 = .ok (.ireturn, 1) := by decide +kernel
theorem dX5_kindOf_59 : decode cX5_kindOf 59 = .ok (.iload_n 0, 1) := by decide +kernel
theorem dX5_kindOf_60 : decode cX5_kindOf 60 = .ok (.bipush 59, 2) := by decide +kernel
theorem dX5_kindOf_62 : decode cX5_kindOf 62 = .ok (.if_icmp .ne 8, 3) := by decide +kernel
theorem dX5_kindOf_65 : decode cX5_kindOf 65 = .ok (.bipush 7, 2) := by decide +kernel
theorem dX5_kindOf_67 : decode cX5_kindOf 67 = .ok (.goto 4, 3) := by decide +kernel
theorem dX5_kindOf_70 : decode cX5_kindOf 70 = .ok (.iconst 2, 1) := by decide +kernel
theorem dX5_kindOf_71 : decode cX5_kindOf 71 = .ok (.ireturn, 1) := by decide +kernel
theorem dX5_markKeywords_0 : decode cX5_markKeywords 0 = .ok (.bipush 8, 2) := by decide +kernel
theorem dX5_markKeywords_2 : decode cX5_markKeywords 2 = .ok (.istore_n 1, 1) := by decide +kernel
theorem dX5_markKeywords_3 : decode cX5_markKeywords 3 = .ok (.iload_n 1, 1) := by decide +kernel
theorem dX5_markKeywords_4 : decode cX5_markKeywords 4 = .ok (.bipush 22, 2) := by decide +kernel
theorem dX5_markKeywords_6 : decode cX5_markKeywords 6 = .ok (.if_icmp .gt 66, 3) := by decide +kernel
theorem dX5_markKeywords_9 : decode cX5_markKeywords 9 = .ok (.iload_n 1, 1) := by decide +kernel
theorem dX5_markKeywords_10 : decode cX5_markKeywords 10 = .ok (.invokestatic 55, 3) := by decide +kernel
theorem dX5_markKeywords_13 : decode cX5_markKeywords 13 = .ok (.invokestatic 59, 3) := by decide +kernel
theorem dX5_markKeywords_16 : decode cX5_markKeywords 16 = .ok (.lstore_n 2, 1) := by decide +kernel
theorem dX5_markKeywords_17 : decode cX5_markKeywords 17 = .ok (.iconst 0, 1) := by decide +kernel
theorem dX5_markKeywords_18 : decode cX5_markKeywords 18 = .ok (.istore 4, 2) := by decide +kernel
theorem dX5_markKeywords_20 : decode cX5_markKeywords 20 = .ok (.iload 4, 2) := by decide +kernel
theorem dX5_markKeywords_22 : decode cX5_markKeywords 22 = .ok (.aload_n 0, 1) := by decide +kernel
theorem dX5_markKeywords_23 : decode cX5_markKeywords 23 = .ok (.getfield 22, 3) := by decide +kernel
theorem dX5_markKeywords_26 : decode cX5_markKeywords 26 = .ok (.if_icmp .ge 40, 3) := by decide +kernel
theorem dX5_markKeywords_29 : decode cX5_markKeywords 29 = .ok (.aload_n 0, 1) := by decide +kernel
theorem dX5_markKeywords_30 : decode cX5_markKeywords 30 = .ok (.getfield 9, 3) := by decide +kernel
theorem dX5_markKeywords_33 : decode cX5_markKeywords 33 = .ok (.iload 4, 2) := by decide +kernel
theorem dX5_markKeywords_35 : decode cX5_markKeywords 35 = .ok (.iaload, 1) := by decide +kernel
theorem dX5_markKeywords_36 : decode cX5_markKeywords 36 = .ok (.iconst 4, 1) := by decide +kernel
theorem dX5_markKeywords_37 : decode cX5_markKeywords 37 = .ok (.if_icmp .ne 23, 3) := by decide +kernel
theorem dX5_markKeywords_40 : decode cX5_markKeywords 40 = .ok (.aload_n 0, 1) := by decide +kernel
theorem dX5_markKeywords_41 : decode cX5_markKeywords 41 = .ok (.getfield 18, 3) := by decide +kernel
theorem dX5_markKeywords_44 : decode cX5_markKeywords 44 = .ok (.iload 4, 2) := by decide +kernel
theorem dX5_markKeywords_46 : decode cX5_markKeywords 46 = .ok (.laload, 1) := by decide +kernel
theorem dX5_markKeywords_47 : decode cX5_markKeywords 47 = .ok (.lload_n 2, 1) := by decide +kernel
theorem dX5_markKeywords_48 : decode cX5_markKeywords 48 = .ok (.lcmp, 1) := by decide +kernel
theorem dX5_markKeywords_49 : decode cX5_markKeywords 49 = .ok (.ifCond .ne 11, 3) := by decide +kernel
theorem dX5_markKeywords_52 : decode cX5_markKeywords 52 = .ok (.aload_n 0, 1) := by decide +kernel
theorem dX5_markKeywords_53 : decode cX5_markKeywords 53 = .ok (.getfield 9, 3) := by decide +kernel
theorem dX5_markKeywords_56 : decode cX5_markKeywords 56 = .ok (.iload 4, 2) := by decide +kernel
theorem dX5_markKeywords_58 : decode cX5_markKeywords 58 = .ok (.iload_n 1, 1) := by decide +kernel
theorem dX5_markKeywords_59 : decode cX5_markKeywords 59 = .ok (.iastore, 1) := by decide +kernel
theorem dX5_markKeywords_60 : decode cX5_markKeywords 60 = .ok (.iinc 4 1, 3) := by decide +kernel
theorem dX5_markKeywords_63 : decode cX5_markKeywords 63 = .ok (.goto (-43), 3) := by decide +kernel
theorem dX5_markKeywords_66 : decode cX5_markKeywords 66 = .ok (.iinc 1 1, 3) := by decide +kernel
theorem dX5_markKeywords_69 : decode cX5_markKeywords 69 = .ok (.goto (-66), 3) := by decide +kernel
theorem dX5_markKeywords_72 : decode cX5_markKeywords 72 = .ok (.return_, 1) := by decide +kernel
theorem dX5_split_0 : decode cX5_split 0 = .ok (.aload_n 0, 1) := by decide +kernel
theorem dX5_split_1 : decode cX5_split 1 = .ok (.iconst 0, 1) := by decide +kernel
theorem dX5_split_2 : decode cX5_split 2 = .ok (.putfield 22, 3) := by decide +kernel
theorem dX5_split_5 : decode cX5_split 5 = .ok (.iconst 0, 1) := by decide +kernel
theorem dX5_split_6 : decode cX5_split 6 = .ok (.istore_n 3, 1) := by decide +kernel
theorem dX5_split_7 : decode cX5_split 7 = .ok (.iconst 0, 1) := by decide +kernel
theorem dX5_split_8 : decode cX5_split 8 = .ok (.istore 4, 2) := by decide +kernel
theorem dX5_split_10 : decode cX5_split 10 = .ok (.iconst 0, 1) := by decide +kernel
theorem dX5_split_11 : decode cX5_split 11 = .ok (.istore 5, 2) := by decide +kernel
theorem dX5_split_13 : decode cX5_split 13 = .ok (.iload 5, 2) := by decide +kernel
theorem dX5_split_15 : decode cX5_split 15 = .ok (.iload_n 2, 1) := by decide +kernel
theorem dX5_split_16 : decode cX5_split 16 = .ok (.if_icmp .ge 110, 3) := by decide +kernel
theorem dX5_split_19 : decode cX5_split 19 = .ok (.iload 5, 2) := by decide +kernel
theorem dX5_split_21 : decode cX5_split 21 = .ok (.aload_n 1, 1) := by decide +kernel
theorem dX5_split_22 : decode cX5_split 22 = .ok (.arraylength, 1) := by decide +kernel
theorem dX5_split_23 : decode cX5_split 23 = .ok (.if_icmp .ge 103, 3) := by decide +kernel
theorem dX5_split_26 : decode cX5_split 26 = .ok (.aload_n 1, 1) := by decide +kernel
theorem dX5_split_27 : decode cX5_split 27 = .ok (.iload 5, 2) := by decide +kernel
theorem dX5_split_29 : decode cX5_split 29 = .ok (.caload, 1) := by decide +kernel
theorem dX5_split_30 : decode cX5_split 30 = .ok (.invokestatic 28, 3) := by decide +kernel
theorem dX5_split_33 : decode cX5_split 33 = .ok (.istore 6, 2) := by decide +kernel
theorem dX5_split_35 : decode cX5_split 35 = .ok (.iload 6, 2) := by decide +kernel
theorem dX5_split_37 : decode cX5_split 37 = .ok (.iload 4, 2) := by decide +kernel
theorem dX5_split_39 : decode cX5_split 39 = .ok (.if_icmp .ne 19, 3) := by decide +kernel
theorem dX5_split_42 : decode cX5_split 42 = .ok (.iload 6, 2) := by decide +kernel
theorem dX5_split_44 : decode cX5_split 44 = .ok (.iconst 4, 1) := by decide +kernel
theorem dX5_split_45 : decode cX5_split 45 = .ok (.if_icmp .eq 9, 3) := by decide +kernel
theorem dX5_split_48 : decode cX5_split 48 = .ok (.iload 6, 2) := by decide +kernel
theorem dX5_split_50 : decode cX5_split 50 = .ok (.iconst 3, 1) := by decide +kernel
theorem dX5_split_51 : decode cX5_split 51 = .ok (.if_icmp .ne 7, 3) := by decide +kernel
theorem dX5_split_54 : decode cX5_split 54 = .ok (.iconst 1, 1) := by decide +kernel
theorem dX5_split_55 : decode cX5_split 55 = .ok (.goto 4, 3) := by decide +kernel
theorem dX5_split_58 : decode cX5_split 58 = .ok (.iconst 0, 1) := by decide +kernel
theorem dX5_split_59 : decode cX5_split 59 = .ok (.istore 7, 2) := by decide +kernel
theorem dX5_split_61 : decode cX5_split 61 = .ok (.iload 7, 2) := by decide +kernel
theorem dX5_split_63 : decode cX5_split 63 = .ok (.ifCond .eq 9, 3) := by decide +kernel
theorem dX5_split_66 : decode cX5_split 66 = .ok (.iload_n 3, 1) := by decide +kernel
theorem dX5_split_67 : decode cX5_split 67 = .ok (.iconst 1, 1) := by decide +kernel
theorem dX5_split_68 : decode cX5_split 68 = .ok (.iadd, 1) := by decide +kernel
theorem dX5_split_69 : decode cX5_split 69 = .ok (.goto 4, 3) := by decide +kernel
theorem dX5_split_72 : decode cX5_split 72 = .ok (.iconst 1, 1) := by decide +kernel
theorem dX5_split_73 : decode cX5_split 73 = .ok (.istore_n 3, 1) := by decide +kernel
theorem dX5_split_74 : decode cX5_split 74 = .ok (.iload 7, 2) := by decide +kernel
theorem dX5_split_76 : decode cX5_split 76 = .ok (.ifCond .eq 17, 3) := by decide +kernel
theorem dX5_split_79 : decode cX5_split 79 = .ok (.aload_n 0, 1) := by decide +kernel
theorem dX5_split_80 : decode cX5_split 80 = .ok (.iload 6, 2) := by decide +kernel
theorem dX5_split_82 : decode cX5_split 82 = .ok (.aload_n 1, 1) := by decide +kernel
theorem dX5_split_83 : decode cX5_split 83 = .ok (.iload 5, 2) := by decide +kernel
theorem dX5_split_85 : decode cX5_split 85 = .ok (.caload, 1) := by decide +kernel
theorem dX5_split_86 : decode cX5_split 86 = .ok (.iload_n 3, 1) := by decide +kernel
theorem dX5_split_87 : decode cX5_split 87 = .ok (.invokevirtual 32, 3) := by decide +kernel
theorem dX5_split_90 : decode cX5_split 90 = .ok (.goto 26, 3) := by decide +kernel
theorem dX5_split_93 : decode cX5_split 93 = .ok (.iload 6, 2) := by decide +kernel
theorem dX5_split_95 : decode cX5_split 95 = .ok (.ifCond .eq 21, 3) := by decide +kernel
theorem dX5_split_98 : decode cX5_split 98 = .ok (.aload_n 0, 1) := by decide +kernel
theorem dX5_split_99 : decode cX5_split 99 = .ok (.iload 6, 2) := by decide +kernel
theorem dX5_split_101 : decode cX5_split 101 = .ok (.iload 5, 2) := by decide +kernel
theorem dX5_split_103 : decode cX5_split 103 = .ok (.iload 6, 2) := by decide +kernel
theorem dX5_split_105 : decode cX5_split 105 = .ok (.lconst 0, 1) := by decide +kernel
theorem dX5_split_106 : decode cX5_split 106 = .ok (.aload_n 1, 1) := by decide +kernel
theorem dX5_split_107 : decode cX5_split 107 = .ok (.iload 5, 2) := by decide +kernel
theorem dX5_split_109 : decode cX5_split 109 = .ok (.caload, 1) := by decide +kernel
theorem dX5_split_110 : decode cX5_split 110 = .ok (.invokestatic 36, 3) := by decide +kernel
theorem dX5_split_113 : decode cX5_split 113 = .ok (.invokevirtual 40, 3) := by decide +kernel
theorem dX5_split_116 : decode cX5_split 116 = .ok (.iload 6, 2) := by decide +kernel
theorem dX5_split_118 : decode cX5_split 118 = .ok (.istore 4, 2) := by decide +kernel
theorem dX5_split_120 : decode cX5_split 120 = .ok (.iinc 5 1, 3) := by decide +kernel
theorem dX5_split_123 : decode cX5_split 123 = .ok (.goto (-110), 3) := by decide +kernel
theorem dX5_split_126 : decode cX5_split 126 = .ok (.aload_n 0, 1) := by decide +kernel
theorem dX5_split_127 : decode cX5_split 127 = .ok (.iconst 1, 1) := by decide +kernel
theorem dX5_split_128 : decode cX5_split 128 = .ok (.iload_n 2, 1) := by decide +kernel
theorem dX5_split_129 : decode cX5_split 129 = .ok (.lconst 0, 1) := by decide +kernel
theorem dX5_split_130 : decode cX5_split 130 = .ok (.invokevirtual 40, 3) := by decide +kernel
theorem dX5_split_133 : decode cX5_split 133 = .ok (.aload_n 0, 1) := by decide +kernel
theorem dX5_split_134 : decode cX5_split 134 = .ok (.invokevirtual 44, 3) := by decide +kernel
theorem dX5_split_137 : decode cX5_split 137 = .ok (.return_, 1) := by decide +kernel
theorem dX7_beginsFact_0 : decode cX7_beginsFact 0 = .ok (.iload_n 0, 1) := by decide +kernel
theorem dX7_beginsFact_1 : decode cX7_beginsFact 1 = .ok (.iconst 5, 1) := by decide +kernel
theorem dX7_beginsFact_2 : decode cX7_beginsFact 2 = .ok (.if_icmp .eq 15, 3) := by decide +kernel
theorem dX7_beginsFact_5 : decode cX7_beginsFact 5 = .ok (.iload_n 0, 1) := by decide +kernel
theorem dX7_beginsFact_6 : decode cX7_beginsFact 6 = .ok (.bipush 16, 2) := by decide +kernel
theorem dX7_beginsFact_8 : decode cX7_beginsFact 8 = .ok (.if_icmp .lt 13, 3) := by decide +kernel
theorem dX7_beginsFact_11 : decode cX7_beginsFact 11 = .ok (.iload_n 0, 1) := by decide +kernel
theorem dX7_beginsFact_12 : decode cX7_beginsFact 12 = .ok (.bipush 22, 2) := by decide +kernel
theorem dX7_beginsFact_14 : decode cX7_beginsFact 14 = .ok (.if_icmp .gt 7, 3) := by decide +kernel
theorem dX7_beginsFact_17 : decode cX7_beginsFact 17 = .ok (.iconst 1, 1) := by decide +kernel
theorem dX7_beginsFact_18 : decode cX7_beginsFact 18 = .ok (.goto 4, 3) := by decide +kernel
theorem dX7_beginsFact_21 : decode cX7_beginsFact 21 = .ok (.iconst 0, 1) := by decide +kernel
theorem dX7_beginsFact_22 : decode cX7_beginsFact 22 = .ok (.ireturn, 1) := by decide +kernel
theorem dX7_spelling_0 : decode cX7_spelling 0 = .ok (.iload_n 0, 1) := by decide +kernel
theorem dX7_spelling_1 : decode cX7_spelling 1 = .ok (.tableswitch 120 8 22 #[75, 78, 81, 84, 87, 90, 93, 96, 99, 102, 105, 108, 111, 114, 117], 75) := by decide +kernel
theorem dX7_spelling_76 : decode cX7_spelling 76 = .ok (.ldc 9, 2) := by decide +kernel
theorem dX7_spelling_78 : decode cX7_spelling 78 = .ok (.areturn, 1) := by decide +kernel
theorem dX7_spelling_79 : decode cX7_spelling 79 = .ok (.ldc 11, 2) := by decide +kernel
theorem dX7_spelling_81 : decode cX7_spelling 81 = .ok (.areturn, 1) := by decide +kernel
theorem dX7_spelling_82 : decode cX7_spelling 82 = .ok (.ldc 13, 2) := by decide +kernel
theorem dX7_spelling_84 : decode cX7_spelling 84 = .ok (.areturn, 1) := by decide +kernel
theorem dX7_spelling_85 : decode cX7_spelling 85 = .ok (.ldc 15, 2) := by decide +kernel
theorem dX7_spelling_87 : decode cX7_spelling 87 = .ok (.areturn, 1) := by decide +kernel
theorem dX7_spelling_88 : decode cX7_spelling 88 = .ok (.ldc 17, 2) := by decide +kernel
theorem dX7_spelling_90 : decode cX7_spelling 90 = .ok (.areturn, 1) := by decide +kernel
theorem dX7_spelling_91 : decode cX7_spelling 91 = .ok (.ldc 19, 2) := by decide +kernel
theorem dX7_spelling_93 : decode cX7_spelling 93 = .ok (.areturn, 1) := by decide +kernel
theorem dX7_spelling_94 : decode cX7_spelling 94 = .ok (.ldc 21, 2) := by decide +kernel
theorem dX7_spelling_96 : decode cX7_spelling 96 = .ok (.areturn, 1) := by decide +kernel
theorem dX7_spelling_97 : decode cX7_spelling 97 = .ok (.ldc 23, 2) := by decide +kernel
theorem dX7_spelling_99 : decode cX7_spelling 99 = .ok (.areturn, 1) := by decide +kernel
theorem dX7_spelling_100 : decode cX7_spelling 100 = .ok (.ldc 25, 2) := by decide +kernel
theorem dX7_spelling_102 : decode cX7_spelling 102 = .ok (.areturn, 1) := by decide +kernel
theorem dX7_spelling_103 : decode cX7_spelling 103 = .ok (.ldc 27, 2) := by decide +kernel
theorem dX7_spelling_105 : decode cX7_spelling 105 = .ok (.areturn, 1) := by decide +kernel
theorem dX7_spelling_106 : decode cX7_spelling 106 = .ok (.ldc 29, 2) := by decide +kernel
theorem dX7_spelling_108 : decode cX7_spelling 108 = .ok (.areturn, 1) := by decide +kernel
theorem dX7_spelling_109 : decode cX7_spelling 109 = .ok (.ldc 31, 2) := by decide +kernel
theorem dX7_spelling_111 : decode cX7_spelling 111 = .ok (.areturn, 1) := by decide +kernel
theorem dX7_spelling_112 : decode cX7_spelling 112 = .ok (.ldc 33, 2) := by decide +kernel
theorem dX7_spelling_114 : decode cX7_spelling 114 = .ok (.areturn, 1) := by decide +kernel
theorem dX7_spelling_115 : decode cX7_spelling 115 = .ok (.ldc 35, 2) := by decide +kernel
theorem dX7_spelling_117 : decode cX7_spelling 117 = .ok (.areturn, 1) := by decide +kernel
theorem dX7_spelling_118 : decode cX7_spelling 118 = .ok (.ldc 37, 2) := by decide +kernel
theorem dX7_spelling_120 : decode cX7_spelling 120 = .ok (.areturn, 1) := by decide +kernel
theorem dX7_spelling_121 : decode cX7_spelling 121 = .ok (.ldc 39, 2) := by decide +kernel
theorem dX7_spelling_123 : decode cX7_spelling 123 = .ok (.areturn, 1) := by decide +kernel
theorem dX8_packed_0 : decode cX8_packed 0 = .ok (.lconst 0, 1) := by decide +kernel
theorem dX8_packed_1 : decode cX8_packed 1 = .ok (.lstore_n 1, 1) := by decide +kernel
theorem dX8_packed_2 : decode cX8_packed 2 = .ok (.iconst 0, 1) := by decide +kernel
theorem dX8_packed_3 : decode cX8_packed 3 = .ok (.istore_n 3, 1) := by decide +kernel
theorem dX8_packed_4 : decode cX8_packed 4 = .ok (.iload_n 3, 1) := by decide +kernel
theorem dX8_packed_5 : decode cX8_packed 5 = .ok (.aload_n 0, 1) := by decide +kernel
theorem dX8_packed_6 : decode cX8_packed 6 = .ok (.invokevirtual 9, 3) := by decide +kernel
theorem dX8_packed_9 : decode cX8_packed 9 = .ok (.if_icmp .ge 19, 3) := by decide +kernel
theorem dX8_packed_12 : decode cX8_packed 12 = .ok (.lload_n 1, 1) := by decide +kernel
theorem dX8_packed_13 : decode cX8_packed 13 = .ok (.aload_n 0, 1) := by decide +kernel
theorem dX8_packed_14 : decode cX8_packed 14 = .ok (.iload_n 3, 1) := by decide +kernel
theorem dX8_packed_15 : decode cX8_packed 15 = .ok (.invokevirtual 15, 3) := by decide +kernel
theorem dX8_packed_18 : decode cX8_packed 18 = .ok (.invokestatic 19, 3) := by decide +kernel
theorem dX8_packed_21 : decode cX8_packed 21 = .ok (.lstore_n 1, 1) := by decide +kernel
theorem dX8_packed_22 : decode cX8_packed 22 = .ok (.iinc 3 1, 3) := by decide +kernel
theorem dX8_packed_25 : decode cX8_packed 25 = .ok (.goto (-21), 3) := by decide +kernel
theorem dX8_packed_28 : decode cX8_packed 28 = .ok (.lload_n 1, 1) := by decide +kernel
theorem dX8_packed_29 : decode cX8_packed 29 = .ok (.lreturn, 1) := by decide +kernel
theorem dX8_withLetter_0 : decode cX8_withLetter 0 = .ok (.lload_n 0, 1) := by decide +kernel
theorem dX8_withLetter_1 : decode cX8_withLetter 1 = .ok (.iconst 5, 1) := by decide +kernel
theorem dX8_withLetter_2 : decode cX8_withLetter 2 = .ok (.lshl, 1) := by decide +kernel
theorem dX8_withLetter_3 : decode cX8_withLetter 3 = .ok (.iload_n 2, 1) := by decide +kernel
theorem dX8_withLetter_4 : decode cX8_withLetter 4 = .ok (.bipush 97, 2) := by decide +kernel
theorem dX8_withLetter_6 : decode cX8_withLetter 6 = .ok (.isub, 1) := by decide +kernel
theorem dX8_withLetter_7 : decode cX8_withLetter 7 = .ok (.iconst 1, 1) := by decide +kernel
theorem dX8_withLetter_8 : decode cX8_withLetter 8 = .ok (.iadd, 1) := by decide +kernel
theorem dX8_withLetter_9 : decode cX8_withLetter 9 = .ok (.i2l, 1) := by decide +kernel
theorem dX8_withLetter_10 : decode cX8_withLetter 10 = .ok (.lor, 1) := by decide +kernel
theorem dX8_withLetter_11 : decode cX8_withLetter 11 = .ok (.lreturn, 1) := by decide +kernel
theorem dX9_appendBytes_0 : decode cX9_appendBytes 0 = .ok (.bipush 24, 2) := by decide +kernel
theorem dX9_appendBytes_2 : decode cX9_appendBytes 2 = .ok (.istore_n 2, 1) := by decide +kernel
theorem dX9_appendBytes_3 : decode cX9_appendBytes 3 = .ok (.iload_n 2, 1) := by decide +kernel
theorem dX9_appendBytes_4 : decode cX9_appendBytes 4 = .ok (.ifCond .lt 48, 3) := by decide +kernel
theorem dX9_appendBytes_7 : decode cX9_appendBytes 7 = .ok (.aload_n 0, 1) := by decide +kernel
theorem dX9_appendBytes_8 : decode cX9_appendBytes 8 = .ok (.getfield 59, 3) := by decide +kernel
theorem dX9_appendBytes_11 : decode cX9_appendBytes 11 = .ok (.aload_n 0, 1) := by decide +kernel
theorem dX9_appendBytes_12 : decode cX9_appendBytes 12 = .ok (.getfield 9, 3) := by decide +kernel
theorem dX9_appendBytes_15 : decode cX9_appendBytes 15 = .ok (.arraylength, 1) := by decide +kernel
theorem dX9_appendBytes_16 : decode cX9_appendBytes 16 = .ok (.if_icmp .ge 30, 3) := by decide +kernel
theorem dX9_appendBytes_19 : decode cX9_appendBytes 19 = .ok (.aload_n 0, 1) := by decide +kernel
theorem dX9_appendBytes_20 : decode cX9_appendBytes 20 = .ok (.getfield 9, 3) := by decide +kernel
theorem dX9_appendBytes_23 : decode cX9_appendBytes 23 = .ok (.aload_n 0, 1) := by decide +kernel
theorem dX9_appendBytes_24 : decode cX9_appendBytes 24 = .ok (.getfield 59, 3) := by decide +kernel
theorem dX9_appendBytes_27 : decode cX9_appendBytes 27 = .ok (.iload_n 1, 1) := by decide +kernel
theorem dX9_appendBytes_28 : decode cX9_appendBytes 28 = .ok (.iload_n 2, 1) := by decide +kernel
theorem dX9_appendBytes_29 : decode cX9_appendBytes 29 = .ok (.iushr, 1) := by decide +kernel
theorem dX9_appendBytes_30 : decode cX9_appendBytes 30 = .ok (.sipush 255, 3) := by decide +kernel
theorem dX9_appendBytes_33 : decode cX9_appendBytes 33 = .ok (.iand, 1) := by decide +kernel
theorem dX9_appendBytes_34 : decode cX9_appendBytes 34 = .ok (.i2c, 1) := by decide +kernel
theorem dX9_appendBytes_35 : decode cX9_appendBytes 35 = .ok (.castore, 1) := by decide +kernel
theorem dX9_appendBytes_36 : decode cX9_appendBytes 36 = .ok (.aload_n 0, 1) := by decide +kernel
theorem dX9_appendBytes_37 : decode cX9_appendBytes 37 = .ok (.dup, 1) := by decide +kernel
theorem dX9_appendBytes_38 : decode cX9_appendBytes 38 = .ok (.getfield 59, 3) := by decide +kernel
theorem dX9_appendBytes_41 : decode cX9_appendBytes 41 = .ok (.iconst 1, 1) := by decide +kernel
theorem dX9_appendBytes_42 : decode cX9_appendBytes 42 = .ok (.iadd, 1) := by decide +kernel
theorem dX9_appendBytes_43 : decode cX9_appendBytes 43 = .ok (.putfield 59, 3) := by decide +kernel
theorem dX9_appendBytes_46 : decode cX9_appendBytes 46 = .ok (.iinc 2 (-8), 3) := by decide +kernel
theorem dX9_appendBytes_49 : decode cX9_appendBytes 49 = .ok (.goto (-46), 3) := by decide +kernel
theorem dX9_appendBytes_52 : decode cX9_appendBytes 52 = .ok (.return_, 1) := by decide +kernel
theorem dX9_feed_0 : decode cX9_feed 0 = .ok (.aload_n 0, 1) := by decide +kernel
theorem dX9_feed_1 : decode cX9_feed 1 = .ok (.getfield 59, 3) := by decide +kernel
theorem dX9_feed_4 : decode cX9_feed 4 = .ok (.bipush 20, 2) := by decide +kernel
theorem dX9_feed_6 : decode cX9_feed 6 = .ok (.iadd, 1) := by decide +kernel
theorem dX9_feed_7 : decode cX9_feed 7 = .ok (.sipush 700, 3) := by decide +kernel
theorem dX9_feed_10 : decode cX9_feed 10 = .ok (.if_icmp .le 6, 3) := by decide +kernel
theorem dX9_feed_13 : decode cX9_feed 13 = .ok (.bipush (-2), 2) := by decide +kernel
theorem dX9_feed_15 : decode cX9_feed 15 = .ok (.ireturn, 1) := by decide +kernel
theorem dX9_feed_16 : decode cX9_feed 16 = .ok (.aload_n 0, 1) := by decide +kernel
theorem dX9_feed_17 : decode cX9_feed 17 = .ok (.iload_n 1, 1) := by decide +kernel
theorem dX9_feed_18 : decode cX9_feed 18 = .ok (.invokevirtual 63, 3) := by decide +kernel
theorem dX9_feed_21 : decode cX9_feed 21 = .ok (.aload_n 0, 1) := by decide +kernel
theorem dX9_feed_22 : decode cX9_feed 22 = .ok (.iload_n 2, 1) := by decide +kernel
theorem dX9_feed_23 : decode cX9_feed 23 = .ok (.invokevirtual 63, 3) := by decide +kernel
theorem dX9_feed_26 : decode cX9_feed 26 = .ok (.aload_n 0, 1) := by decide +kernel
theorem dX9_feed_27 : decode cX9_feed 27 = .ok (.iload_n 3, 1) := by decide +kernel
theorem dX9_feed_28 : decode cX9_feed 28 = .ok (.invokevirtual 63, 3) := by decide +kernel
theorem dX9_feed_31 : decode cX9_feed 31 = .ok (.aload_n 0, 1) := by decide +kernel
theorem dX9_feed_32 : decode cX9_feed 32 = .ok (.iload 4, 2) := by decide +kernel
theorem dX9_feed_34 : decode cX9_feed 34 = .ok (.invokevirtual 63, 3) := by decide +kernel
theorem dX9_feed_37 : decode cX9_feed 37 = .ok (.aload_n 0, 1) := by decide +kernel
theorem dX9_feed_38 : decode cX9_feed 38 = .ok (.iload 5, 2) := by decide +kernel
theorem dX9_feed_40 : decode cX9_feed 40 = .ok (.invokevirtual 63, 3) := by decide +kernel
theorem dX9_feed_43 : decode cX9_feed 43 = .ok (.aload_n 0, 1) := by decide +kernel
theorem dX9_feed_44 : decode cX9_feed 44 = .ok (.getfield 59, 3) := by decide +kernel
theorem dX9_feed_47 : decode cX9_feed 47 = .ok (.ireturn, 1) := by decide +kernel
theorem dX9_isBasis_0 : decode cX9_isBasis 0 = .ok (.lload_n 0, 1) := by decide +kernel
theorem dX9_isBasis_1 : decode cX9_isBasis 1 = .ok (.ldc2_w 374, 3) := by decide +kernel
theorem dX9_isBasis_4 : decode cX9_isBasis 4 = .ok (.lcmp, 1) := by decide +kernel
theorem dX9_isBasis_5 : decode cX9_isBasis 5 = .ok (.ifCond .eq 11, 3) := by decide +kernel
theorem dX9_isBasis_8 : decode cX9_isBasis 8 = .ok (.lload_n 0, 1) := by decide +kernel
theorem dX9_isBasis_9 : decode cX9_isBasis 9 = .ok (.ldc2_w 376, 3) := by decide +kernel
theorem dX9_isBasis_12 : decode cX9_isBasis 12 = .ok (.lcmp, 1) := by decide +kernel
theorem dX9_isBasis_13 : decode cX9_isBasis 13 = .ok (.ifCond .ne 7, 3) := by decide +kernel
theorem dX9_isBasis_16 : decode cX9_isBasis 16 = .ok (.iconst 1, 1) := by decide +kernel
theorem dX9_isBasis_17 : decode cX9_isBasis 17 = .ok (.goto 4, 3) := by decide +kernel
theorem dX9_isBasis_20 : decode cX9_isBasis 20 = .ok (.iconst 0, 1) := by decide +kernel
theorem dX9_isBasis_21 : decode cX9_isBasis 21 = .ok (.ireturn, 1) := by decide +kernel
theorem dX9_load_0 : decode cX9_load 0 = .ok (.iload_n 1, 1) := by decide +kernel
theorem dX9_load_1 : decode cX9_load 1 = .ok (.iconst 0, 1) := by decide +kernel
theorem dX9_load_2 : decode cX9_load 2 = .ok (.aload_n 0, 1) := by decide +kernel
theorem dX9_load_3 : decode cX9_load 3 = .ok (.getfield 59, 3) := by decide +kernel
theorem dX9_load_6 : decode cX9_load 6 = .ok (.invokestatic 67, 3) := by decide +kernel
theorem dX9_load_9 : decode cX9_load 9 = .ok (.aload_n 0, 1) := by decide +kernel
theorem dX9_load_10 : decode cX9_load 10 = .ok (.getfield 28, 3) := by decide +kernel
theorem dX9_load_13 : decode cX9_load 13 = .ok (.aload_n 0, 1) := by decide +kernel
theorem dX9_load_14 : decode cX9_load 14 = .ok (.getfield 9, 3) := by decide +kernel
theorem dX9_load_17 : decode cX9_load 17 = .ok (.iload_n 1, 1) := by decide +kernel
theorem dX9_load_18 : decode cX9_load 18 = .ok (.aload_n 0, 1) := by decide +kernel
theorem dX9_load_19 : decode cX9_load 19 = .ok (.getfield 20, 3) := by decide +kernel
theorem dX9_load_22 : decode cX9_load 22 = .ok (.invokevirtual 71, 3) := by decide +kernel
theorem dX9_load_25 : decode cX9_load 25 = .ok (.istore_n 2, 1) := by decide +kernel
theorem dX9_load_26 : decode cX9_load 26 = .ok (.aload_n 0, 1) := by decide +kernel
theorem dX9_load_27 : decode cX9_load 27 = .ok (.iconst 0, 1) := by decide +kernel
theorem dX9_load_28 : decode cX9_load 28 = .ok (.putfield 59, 3) := by decide +kernel
theorem dX9_load_31 : decode cX9_load 31 = .ok (.iload_n 2, 1) := by decide +kernel
theorem dX9_load_32 : decode cX9_load 32 = .ok (.ifCond .ne 6, 3) := by decide +kernel
theorem dX9_load_35 : decode cX9_load 35 = .ok (.bipush (-3), 2) := by decide +kernel
theorem dX9_load_37 : decode cX9_load 37 = .ok (.ireturn, 1) := by decide +kernel
theorem dX9_load_38 : decode cX9_load 38 = .ok (.aload_n 0, 1) := by decide +kernel
theorem dX9_load_39 : decode cX9_load 39 = .ok (.getfield 20, 3) := by decide +kernel
theorem dX9_load_42 : decode cX9_load 42 = .ok (.astore_n 3, 1) := by decide +kernel
theorem dX9_load_43 : decode cX9_load 43 = .ok (.aload_n 0, 1) := by decide +kernel
theorem dX9_load_44 : decode cX9_load 44 = .ok (.aload_n 0, 1) := by decide +kernel
theorem dX9_load_45 : decode cX9_load 45 = .ok (.getfield 16, 3) := by decide +kernel
theorem dX9_load_48 : decode cX9_load 48 = .ok (.putfield 20, 3) := by decide +kernel
theorem dX9_load_51 : decode cX9_load 51 = .ok (.aload_n 0, 1) := by decide +kernel
theorem dX9_load_52 : decode cX9_load 52 = .ok (.aload_n 3, 1) := by decide +kernel
theorem dX9_load_53 : decode cX9_load 53 = .ok (.putfield 16, 3) := by decide +kernel
theorem dX9_load_56 : decode cX9_load 56 = .ok (.aload_n 0, 1) := by decide +kernel
theorem dX9_load_57 : decode cX9_load 57 = .ok (.getfield 35, 3) := by decide +kernel
theorem dX9_load_60 : decode cX9_load 60 = .ok (.aload_n 0, 1) := by decide +kernel
theorem dX9_load_61 : decode cX9_load 61 = .ok (.getfield 16, 3) := by decide +kernel
theorem dX9_load_64 : decode cX9_load 64 = .ok (.invokevirtual 56, 3) := by decide +kernel
theorem dX9_load_67 : decode cX9_load 67 = .ok (.aload_n 0, 1) := by decide +kernel
theorem dX9_load_68 : decode cX9_load 68 = .ok (.getfield 45, 3) := by decide +kernel
theorem dX9_load_71 : decode cX9_load 71 = .ok (.invokevirtual 75, 3) := by decide +kernel
theorem dX9_load_74 : decode cX9_load 74 = .ok (.aload_n 0, 1) := by decide +kernel
theorem dX9_load_75 : decode cX9_load 75 = .ok (.getfield 16, 3) := by decide +kernel
theorem dX9_load_78 : decode cX9_load 78 = .ok (.getfield 78, 3) := by decide +kernel
theorem dX9_load_81 : decode cX9_load 81 = .ok (.ireturn, 1) := by decide +kernel
