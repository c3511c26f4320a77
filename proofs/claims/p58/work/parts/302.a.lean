set_option maxRecDepth 20000 in
theorem ggX3_addDeposit_X3_hasRoomForDeposit : GoodIn wsX3_addDeposit wsX3_hasRoomForDeposit := goodIn_r _ [7, 2, 1, 8, 9, 10, 11, 12, 13, 14, 15, 16, 17, 18, 19, 20, 21, 22, 23, 24] rfl (by decide +kernel)
set_option maxRecDepth 20000 in
theorem gX3_addDeposit_X3_hasRoomForDeposit : GoodIn wsX3_addDeposit (wsV RX3 65 RX3 yX3_hasRoomForDeposit wsX3_hasRoomForDeposit) := goodIn_app (goodIn_r _ [3, 4, 5, 6] rfl (by decide +kernel)) ggX3_addDeposit_X3_hasRoomForDeposit
set_option maxRecDepth 20000 in
theorem ggX4_readBoth_X3_addStep : GoodIn wsX4_readBoth wsX3_addStep := goodIn_r _ [19, 20, 21, 22, 84, 85, 86, 87, 88, 89, 90, 91, 92, 93, 94, 95, 96, 97, 98, 99, 100] rfl (by decide +kernel)
set_option maxRecDepth 20000 in
theorem gX4_readBoth_X3_addStep : GoodIn wsX4_readBoth (wsV RX4 141 RX3 yX3_addStep wsX3_addStep) := goodIn_app (goodIn_r _ [15, 16, 17, 18] rfl (by decide +kernel)) ggX4_readBoth_X3_addStep
set_option maxRecDepth 20000 in
theorem ggX4_readBoth_X4_lookAt : GoodIn wsX4_readBoth wsX4_lookAt := goodIn_r _ [11, 12, 2, 1, 13, 14, 71, 72, 73, 74, 75, 76, 77, 78, 79, 80, 81, 82, 83] rfl (by decide +kernel)
set_option maxRecDepth 20000 in
theorem gX4_readBoth_X4_lookAt : GoodIn wsX4_readBoth (wsV RX4 38 RX4 yX4_lookAt wsX4_lookAt) := goodIn_app (goodIn_r _ [8, 9, 10, 7] rfl (by decide +kernel)) ggX4_readBoth_X4_lookAt
set_option maxRecDepth 20000 in
theorem ggX4_readBoth_X4_readFact : GoodIn wsX4_readBoth wsX4_readFact := goodIn_r _ [27, 1, 2, 3, 28, 29, 30, 31, 32, 7, 33, 34, 13, 35, 36, 37, 38, 39, 8, 9, 10, 11, 12, 14, 40, 41, 42, 43, 44, 45, 46, 4, 5, 6, 15, 16, 17, 18, 19, 20, 21, 22, 47, 48, 49, 50, 51, 52, 53, 54, 55, 56, 57, 58, 59, 60, 61, 62, 63, 64, 65, 66, 67, 68, 69, 70, 0, 23, 24, 25, 26, 71, 72, 73, 74, 75, 76, 77, 78, 79, 80, 81, 82, 83, 84, 85, 86, 87, 88, 89, 90, 91, 92, 93, 94, 95, 96, 97, 98, 99, 100] rfl (by decide +kernel)
set_option maxRecDepth 20000 in
theorem gX4_readBoth_X4_readFact : GoodIn wsX4_readBoth (wsV RX4 144 RX4 yX4_readFact wsX4_readFact) := goodIn_app (goodIn_r _ [4, 5, 6, 7] rfl (by decide +kernel)) ggX4_readBoth_X4_readFact
set_option maxRecDepth 20000 in
theorem ggX4_readCondition_X3_addStep : GoodIn wsX4_readCondition wsX3_addStep := goodIn_r _ [19, 20, 21, 22, 84, 85, 86, 87, 88, 89, 90, 91, 92, 93, 94, 95, 96, 97, 98, 99, 100] rfl (by decide +kernel)
set_option maxRecDepth 20000 in
theorem gX4_readCondition_X3_addStep : GoodIn wsX4_readCondition (wsV RX4 141 RX3 yX3_addStep wsX3_addStep) := goodIn_app (goodIn_r _ [15, 16, 17, 18] rfl (by decide +kernel)) ggX4_readCondition_X3_addStep
set_option maxRecDepth 20000 in
theorem ggX4_readCondition_X4_lookAt : GoodIn wsX4_readCondition wsX4_lookAt := goodIn_r _ [11, 12, 2, 1, 13, 14, 71, 72, 73, 74, 75, 76, 77, 78, 79, 80, 81, 82, 83] rfl (by decide +kernel)
set_option maxRecDepth 20000 in
theorem gX4_readCondition_X4_lookAt : GoodIn wsX4_readCondition (wsV RX4 38 RX4 yX4_lookAt wsX4_lookAt) := goodIn_app (goodIn_r _ [8, 9, 10, 7] rfl (by decide +kernel)) ggX4_readCondition_X4_lookAt
set_option maxRecDepth 20000 in
theorem ggX4_readCondition_X4_readBoth : GoodIn wsX4_readCondition wsX4_readBoth := goodIn_r _ [23, 1, 2, 3, 24, 25, 26, 7, 8, 9, 10, 11, 12, 13, 14, 15, 16, 17, 18, 19, 20, 21, 22, 0, 4, 5, 6, 27, 28, 29, 30, 31, 32, 33, 34, 35, 36, 37, 38, 39, 40, 41, 42, 43, 44, 45, 46, 47, 48, 49, 50, 51, 52, 53, 54, 55, 56, 57, 58, 59, 60, 61, 62, 63, 64, 65, 66, 67, 68, 69, 70, 71, 72, 73, 74, 75, 76, 77, 78, 79, 80, 81, 82, 83, 84, 85, 86, 87, 88, 89, 90, 91, 92, 93, 94, 95, 96, 97, 98, 99, 100] rfl (by decide +kernel)
set_option maxRecDepth 20000 in
theorem gX4_readCondition_X4_readBoth : GoodIn wsX4_readCondition (wsV RX4 138 RX4 yX4_readBoth wsX4_readBoth) := goodIn_app (goodIn_r _ [4, 5, 6, 7] rfl (by decide +kernel)) ggX4_readCondition_X4_readBoth
set_option maxRecDepth 20000 in
theorem ggX4_readDeposit_X3_addDeposit : GoodIn wsX4_readDeposit wsX3_addDeposit := goodIn_r _ [34, 11, 10, 35, 6, 7, 8, 9, 49, 50, 51, 52, 53, 54, 55, 56, 57, 58, 59, 60, 61, 62, 63, 64, 65] rfl (by decide +kernel)
set_option maxRecDepth 20000 in
theorem gX4_readDeposit_X3_addDeposit : GoodIn wsX4_readDeposit (wsV RX4 121 RX3 yX3_addDeposit wsX3_addDeposit) := goodIn_app (goodIn_r _ [31, 32, 33, 8] rfl (by decide +kernel)) ggX4_readDeposit_X3_addDeposit
set_option maxRecDepth 20000 in
theorem ggX4_readDeposit_X3_hasRoomForDeposit : GoodIn wsX4_readDeposit wsX3_hasRoomForDeposit := goodIn_r _ [9, 10, 11, 49, 50, 51, 52, 53, 54, 55, 56, 57, 58, 59, 60, 61, 62, 63, 64, 65] rfl (by decide +kernel)
set_option maxRecDepth 20000 in
theorem gX4_readDeposit_X3_hasRoomForDeposit : GoodIn wsX4_readDeposit (wsV RX4 117 RX3 yX3_hasRoomForDeposit wsX3_hasRoomForDeposit) := goodIn_app (goodIn_r _ [5, 6, 7, 8] rfl (by decide +kernel)) ggX4_readDeposit_X3_hasRoomForDeposit
set_option maxRecDepth 20000 in
theorem ggX4_readDeposit_X4_fail : GoodIn wsX4_readDeposit wsX4_fail := goodIn_r _ [16, 17, 18, 19, 20, 40, 41, 42, 43, 44, 45, 46, 47, 48] rfl (by decide +kernel)
set_option maxRecDepth 20000 in
theorem gX4_readDeposit_X4_fail : GoodIn wsX4_readDeposit (wsV RX4 63 RX4 yX4_fail wsX4_fail) := goodIn_app (goodIn_r _ [12, 13, 14, 15] rfl (by decide +kernel)) ggX4_readDeposit_X4_fail
set_option maxRecDepth 20000 in
theorem ggX4_readDeposit_X4_lookAt : GoodIn wsX4_readDeposit wsX4_lookAt := goodIn_r _ [24, 25, 2, 17, 19, 26, 40, 41, 42, 43, 44, 45, 46, 47, 48, 66, 67, 68, 69] rfl (by decide +kernel)
set_option maxRecDepth 20000 in
theorem gX4_readDeposit_X4_lookAt : GoodIn wsX4_readDeposit (wsV RX4 38 RX4 yX4_lookAt wsX4_lookAt) := goodIn_app (goodIn_r _ [21, 22, 23, 15] rfl (by decide +kernel)) ggX4_readDeposit_X4_lookAt
set_option maxRecDepth 20000 in
theorem ggX4_readDeposit_X4_take : GoodIn wsX4_readDeposit wsX4_take := goodIn_r _ [39, 17, 2, 12, 13, 14, 15, 16, 18, 19, 20, 21, 22, 23, 24, 25, 26, 40, 41, 42, 43, 44, 45, 46, 47, 48, 66, 67, 68, 69] rfl (by decide +kernel)
set_option maxRecDepth 20000 in
theorem gX4_readDeposit_X4_take : GoodIn wsX4_readDeposit (wsV RX4 108 RX4 yX4_take wsX4_take) := goodIn_app (goodIn_r _ [36, 37, 38, 15] rfl (by decide +kernel)) ggX4_readDeposit_X4_take
set_option maxRecDepth 20000 in
theorem ggX4_readDeposit_X4_takeNumber : GoodIn wsX4_readDeposit wsX4_takeNumber := goodIn_r _ [30, 17, 26, 4, 2, 12, 13, 14, 15, 16, 18, 19, 20, 21, 22, 23, 24, 25, 40, 41, 42, 43, 44, 45, 46, 47, 48, 66, 67, 68, 69] rfl (by decide +kernel)
set_option maxRecDepth 20000 in
theorem gX4_readDeposit_X4_takeNumber : GoodIn wsX4_readDeposit (wsV RX4 94 RX4 yX4_takeNumber wsX4_takeNumber) := goodIn_app (goodIn_r _ [27, 28, 29, 15] rfl (by decide +kernel)) ggX4_readDeposit_X4_takeNumber
set_option maxRecDepth 20000 in
theorem ggX4_readDoneName_X3_addStep : GoodIn wsX4_readDoneName wsX3_addStep := goodIn_r _ [28, 29, 30, 31, 41, 42, 43, 44, 45, 46, 47, 48, 49, 50, 51, 52, 53, 54, 55, 56, 57] rfl (by decide +kernel)
set_option maxRecDepth 20000 in
theorem gX4_readDoneName_X3_addStep : GoodIn wsX4_readDoneName (wsV RX4 141 RX3 yX3_addStep wsX3_addStep) := goodIn_app (goodIn_r _ [25, 26, 27, 16] rfl (by decide +kernel)) ggX4_readDoneName_X3_addStep
set_option maxRecDepth 20000 in
theorem ggX4_readDoneName_X3_milestoneNamed : GoodIn wsX4_readDoneName wsX3_milestoneNamed := goodIn_r _ [17, 18, 19, 41, 42, 43, 44, 45, 46, 47, 48, 49, 50, 51, 52, 53, 54, 55, 56, 57] rfl (by decide +kernel)
set_option maxRecDepth 20000 in
theorem gX4_readDoneName_X3_milestoneNamed : GoodIn wsX4_readDoneName (wsV RX4 127 RX3 yX3_milestoneNamed wsX3_milestoneNamed) := goodIn_app (goodIn_r _ [13, 14, 15, 16] rfl (by decide +kernel)) ggX4_readDoneName_X3_milestoneNamed
set_option maxRecDepth 20000 in
theorem ggX4_readDoneName_X4_fail : GoodIn wsX4_readDoneName wsX4_fail := goodIn_r _ [9, 1, 10, 11, 12, 32, 33, 34, 35, 36, 37, 38, 39, 40] rfl (by decide +kernel)
set_option maxRecDepth 20000 in
theorem gX4_readDoneName_X4_fail : GoodIn wsX4_readDoneName (wsV RX4 63 RX4 yX4_fail wsX4_fail) := goodIn_app (goodIn_r _ [5, 6, 7, 8] rfl (by decide +kernel)) ggX4_readDoneName_X4_fail
set_option maxRecDepth 20000 in
theorem ggX4_readDoneName_X4_lookAt : GoodIn wsX4_readDoneName wsX4_lookAt := goodIn_r _ [23, 24, 4, 1, 11, 3, 32, 33, 34, 35, 36, 37, 38, 39, 40, 58, 59, 60, 61] rfl (by decide +kernel)
set_option maxRecDepth 20000 in
theorem gX4_readDoneName_X4_lookAt : GoodIn wsX4_readDoneName (wsV RX4 38 RX4 yX4_lookAt wsX4_lookAt) := goodIn_app (goodIn_r _ [20, 21, 22, 8] rfl (by decide +kernel)) ggX4_readDoneName_X4_lookAt
set_option maxRecDepth 20000 in
theorem ggX4_readFact_X3_addStep : GoodIn wsX4_readFact wsX3_addStep := goodIn_r _ [38, 39, 40, 41, 84, 85, 86, 87, 88, 89, 90, 91, 92, 93, 94, 95, 96, 97, 98, 99, 100] rfl (by decide +kernel)
set_option maxRecDepth 20000 in
theorem gX4_readFact_X3_addStep : GoodIn wsX4_readFact (wsV RX4 141 RX3 yX3_addStep wsX3_addStep) := goodIn_app (goodIn_r _ [34, 35, 36, 37] rfl (by decide +kernel)) ggX4_readFact_X3_addStep
set_option maxRecDepth 20000 in
theorem ggX4_readFact_X4_fail : GoodIn wsX4_readFact wsX4_fail := goodIn_r _ [10, 1, 11, 12, 13, 71, 72, 73, 74, 75, 76, 77, 78, 79] rfl (by decide +kernel)
set_option maxRecDepth 20000 in
theorem gX4_readFact_X4_fail : GoodIn wsX4_readFact (wsV RX4 63 RX4 yX4_fail wsX4_fail) := goodIn_app (goodIn_r _ [6, 7, 8, 9] rfl (by decide +kernel)) ggX4_readFact_X4_fail
set_option maxRecDepth 20000 in
theorem ggX4_readFact_X4_lookAt : GoodIn wsX4_readFact wsX4_lookAt := goodIn_r _ [21, 22, 2, 1, 12, 23, 71, 72, 73, 74, 75, 76, 77, 78, 79, 80, 81, 82, 83] rfl (by decide +kernel)
set_option maxRecDepth 20000 in
theorem gX4_readFact_X4_lookAt : GoodIn wsX4_readFact (wsV RX4 38 RX4 yX4_lookAt wsX4_lookAt) := goodIn_app (goodIn_r _ [18, 19, 20, 9] rfl (by decide +kernel)) ggX4_readFact_X4_lookAt
set_option maxRecDepth 20000 in
theorem ggX4_readFact_X4_readCondition : GoodIn wsX4_readFact wsX4_readCondition := goodIn_r _ [67, 1, 2, 3, 68, 69, 70, 9, 18, 19, 20, 21, 22, 12, 23, 34, 35, 36, 37, 38, 39, 40, 41, 66, 31, 32, 33, 0, 4, 5, 6, 7, 8, 10, 11, 13, 14, 15, 16, 17, 24, 25, 26, 27, 28, 29, 30, 42, 43, 44, 45, 46, 47, 48, 49, 50, 51, 52, 53, 54, 55, 56, 57, 58, 59, 60, 61, 62, 63, 64, 65, 71, 72, 73, 74, 75, 76, 77, 78, 79, 80, 81, 82, 83, 84, 85, 86, 87, 88, 89, 90, 91, 92, 93, 94, 95, 96, 97, 98, 99, 100] rfl (by decide +kernel)
set_option maxRecDepth 20000 in
theorem gX4_readFact_X4_readCondition : GoodIn wsX4_readFact (wsV RX4 131 RX4 yX4_readCondition wsX4_readCondition) := goodIn_app (goodIn_r _ [24, 25, 26, 9] rfl (by decide +kernel)) ggX4_readFact_X4_readCondition
set_option maxRecDepth 20000 in
theorem ggX4_readFact_X4_readDoneName : GoodIn wsX4_readFact wsX4_readDoneName := goodIn_r _ [59, 1, 3, 23, 2, 6, 7, 8, 9, 10, 11, 12, 13, 60, 61, 62, 37, 63, 64, 65, 18, 19, 20, 21, 22, 34, 35, 36, 38, 39, 40, 41, 71, 72, 73, 74, 75, 76, 77, 78, 79, 84, 85, 86, 87, 88, 89, 90, 91, 92, 93, 94, 95, 96, 97, 98, 99, 100, 80, 81, 82, 83] rfl (by decide +kernel)
set_option maxRecDepth 20000 in
theorem gX4_readFact_X4_readDoneName : GoodIn wsX4_readFact (wsV RX4 153 RX4 yX4_readDoneName wsX4_readDoneName) := goodIn_app (goodIn_r _ [56, 57, 58, 9] rfl (by decide +kernel)) ggX4_readFact_X4_readDoneName
set_option maxRecDepth 20000 in
theorem ggX4_readFact_X4_readFact : GoodIn wsX4_readFact wsX4_readFact := goodIn_r _ [0, 1, 2, 3, 4, 5, 6, 7, 8, 9, 10, 11, 12, 13, 14, 15, 16, 17, 18, 19, 20, 21, 22, 23, 24, 25, 26, 27, 28, 29, 30, 31, 32, 33, 34, 35, 36, 37, 38, 39, 40, 41, 42, 43, 44, 45, 46, 47, 48, 49, 50, 51, 52, 53, 54, 55, 56, 57, 58, 59, 60, 61, 62, 63, 64, 65, 66, 67, 68, 69, 70, 71, 72, 73, 74, 75, 76, 77, 78, 79, 80, 81, 82, 83, 84, 85, 86, 87, 88, 89, 90, 91, 92, 93, 94, 95, 96, 97, 98, 99, 100] rfl (by decide +kernel)
set_option maxRecDepth 20000 in
theorem gX4_readFact_X4_readFact : GoodIn wsX4_readFact (wsV RX4 144 RX4 yX4_readFact wsX4_readFact) := goodIn_app (goodIn_r _ [31, 32, 33, 9] rfl (by decide +kernel)) ggX4_readFact_X4_readFact
set_option maxRecDepth 20000 in
theorem ggX4_readFact_X4_readProofName : GoodIn wsX4_readFact wsX4_readProofName := goodIn_r _ [49, 1, 3, 23, 2, 6, 7, 8, 9, 10, 11, 12, 13, 50, 51, 52, 37, 53, 54, 55, 18, 19, 20, 21, 22, 34, 35, 36, 38, 39, 40, 41, 71, 72, 73, 74, 75, 76, 77, 78, 79, 84, 85, 86, 87, 88, 89, 90, 91, 92, 93, 94, 95, 96, 97, 98, 99, 100, 80, 81, 82, 83] rfl (by decide +kernel)
set_option maxRecDepth 20000 in
theorem gX4_readFact_X4_readProofName : GoodIn wsX4_readFact (wsV RX4 150 RX4 yX4_readProofName wsX4_readProofName) := goodIn_app (goodIn_r _ [46, 47, 48, 9] rfl (by decide +kernel)) ggX4_readFact_X4_readProofName
set_option maxRecDepth 20000 in
theorem ggX4_readFact_X4_take : GoodIn wsX4_readFact wsX4_take := goodIn_r _ [30, 1, 2, 6, 7, 8, 9, 10, 11, 12, 13, 18, 19, 20, 21, 22, 23, 71, 72, 73, 74, 75, 76, 77, 78, 79, 80, 81, 82, 83] rfl (by decide +kernel)
set_option maxRecDepth 20000 in
theorem gX4_readFact_X4_take : GoodIn wsX4_readFact (wsV RX4 108 RX4 yX4_take wsX4_take) := goodIn_app (goodIn_r _ [27, 28, 29, 9] rfl (by decide +kernel)) ggX4_readFact_X4_take
set_option maxRecDepth 20000 in
theorem ggX4_readFact_X4_takeNumber : GoodIn wsX4_readFact wsX4_takeNumber := goodIn_r _ [45, 1, 23, 4, 2, 6, 7, 8, 9, 10, 11, 12, 13, 18, 19, 20, 21, 22, 71, 72, 73, 74, 75, 76, 77, 78, 79, 80, 81, 82, 83] rfl (by decide +kernel)
set_option maxRecDepth 20000 in
theorem gX4_readFact_X4_takeNumber : GoodIn wsX4_readFact (wsV RX4 94 RX4 yX4_takeNumber wsX4_takeNumber) := goodIn_app (goodIn_r _ [42, 43, 44, 9] rfl (by decide +kernel)) ggX4_readFact_X4_takeNumber
set_option maxRecDepth 20000 in
theorem ggX4_readFact_X7_beginsFact : GoodIn wsX4_readFact wsX7_beginsFact := goodIn_r _ [17] rfl (by decide +kernel)
set_option maxRecDepth 20000 in
theorem gX4_readFact_X7_beginsFact : GoodIn wsX4_readFact (va_wsS RX4 147 yX7_beginsFact wsX7_beginsFact) := goodIn_app (goodIn_r _ [14, 15, 16] rfl (by decide +kernel)) ggX4_readFact_X7_beginsFact
set_option maxRecDepth 20000 in
theorem ggX4_readFee_X4_lookAt : GoodIn wsX4_readFee wsX4_lookAt := goodIn_r _ [8, 9, 1, 10, 11, 12, 27, 28, 29, 30, 31, 32, 33, 34, 35, 53, 54, 55, 56] rfl (by decide +kernel)
set_option maxRecDepth 20000 in
theorem gX4_readFee_X4_lookAt : GoodIn wsX4_readFee (wsV RX4 38 RX4 yX4_lookAt wsX4_lookAt) := goodIn_app (goodIn_r _ [4, 5, 6, 7] rfl (by decide +kernel)) ggX4_readFee_X4_lookAt
set_option maxRecDepth 20000 in
theorem ggX4_readFee_X4_take : GoodIn wsX4_readFee wsX4_take := goodIn_r _ [26, 10, 1, 17, 18, 19, 7, 20, 21, 11, 22, 4, 5, 6, 8, 9, 12, 27, 28, 29, 30, 31, 32, 33, 34, 35, 53, 54, 55, 56] rfl (by decide +kernel)
set_option maxRecDepth 20000 in
theorem gX4_readFee_X4_take : GoodIn wsX4_readFee (wsV RX4 108 RX4 yX4_take wsX4_take) := goodIn_app (goodIn_r _ [23, 24, 25, 7] rfl (by decide +kernel)) ggX4_readFee_X4_take
set_option maxRecDepth 20000 in
theorem ggX4_readFee_X4_takeNumber : GoodIn wsX4_readFee wsX4_takeNumber := goodIn_r _ [16, 10, 12, 3, 1, 17, 18, 19, 7, 20, 21, 11, 22, 4, 5, 6, 8, 9, 27, 28, 29, 30, 31, 32, 33, 34, 35, 53, 54, 55, 56] rfl (by decide +kernel)
set_option maxRecDepth 20000 in
theorem gX4_readFee_X4_takeNumber : GoodIn wsX4_readFee (wsV RX4 94 RX4 yX4_takeNumber wsX4_takeNumber) := goodIn_app (goodIn_r _ [13, 14, 15, 7] rfl (by decide +kernel)) ggX4_readFee_X4_takeNumber
set_option maxRecDepth 20000 in
theorem ggX4_readGrace_X4_lookAt : GoodIn wsX4_readGrace wsX4_lookAt := goodIn_r _ [8, 9, 1, 10, 11, 12, 27, 28, 29, 30, 31, 32, 33, 34, 35, 53, 54, 55, 56] rfl (by decide +kernel)
set_option maxRecDepth 20000 in
theorem gX4_readGrace_X4_lookAt : GoodIn wsX4_readGrace (wsV RX4 38 RX4 yX4_lookAt wsX4_lookAt) := goodIn_app (goodIn_r _ [4, 5, 6, 7] rfl (by decide +kernel)) ggX4_readGrace_X4_lookAt
set_option maxRecDepth 20000 in
theorem ggX4_readGrace_X4_take : GoodIn wsX4_readGrace wsX4_take := goodIn_r _ [26, 10, 1, 17, 18, 19, 7, 20, 21, 11, 22, 4, 5, 6, 8, 9, 12, 27, 28, 29, 30, 31, 32, 33, 34, 35, 53, 54, 55, 56] rfl (by decide +kernel)
set_option maxRecDepth 20000 in
theorem gX4_readGrace_X4_take : GoodIn wsX4_readGrace (wsV RX4 108 RX4 yX4_take wsX4_take) := goodIn_app (goodIn_r _ [23, 24, 25, 7] rfl (by decide +kernel)) ggX4_readGrace_X4_take
set_option maxRecDepth 20000 in
theorem ggX4_readGrace_X4_takeNumber : GoodIn wsX4_readGrace wsX4_takeNumber := goodIn_r _ [16, 10, 12, 3, 1, 17, 18, 19, 7, 20, 21, 11, 22, 4, 5, 6, 8, 9, 27, 28, 29, 30, 31, 32, 33, 34, 35, 53, 54, 55, 56] rfl (by decide +kernel)
set_option maxRecDepth 20000 in
theorem gX4_readGrace_X4_takeNumber : GoodIn wsX4_readGrace (wsV RX4 94 RX4 yX4_takeNumber wsX4_takeNumber) := goodIn_app (goodIn_r _ [13, 14, 15, 7] rfl (by decide +kernel)) ggX4_readGrace_X4_takeNumber
set_option maxRecDepth 20000 in
theorem ggX4_readProofName_X3_addStep : GoodIn wsX4_readProofName wsX3_addStep := goodIn_r _ [28, 29, 30, 31, 41, 42, 43, 44, 45, 46, 47, 48, 49, 50, 51, 52, 53, 54, 55, 56, 57] rfl (by decide +kernel)
set_option maxRecDepth 20000 in
theorem gX4_readProofName_X3_addStep : GoodIn wsX4_readProofName (wsV RX4 141 RX3 yX3_addStep wsX3_addStep) := goodIn_app (goodIn_r _ [25, 26, 27, 16] rfl (by decide +kernel)) ggX4_readProofName_X3_addStep
set_option maxRecDepth 20000 in
theorem ggX4_readProofName_X3_proofNamed : GoodIn wsX4_readProofName wsX3_proofNamed := goodIn_r _ [17, 18, 19, 41, 42, 43, 44, 45, 46, 47, 48, 49, 50, 51, 52, 53, 54, 55, 56, 57] rfl (by decide +kernel)
set_option maxRecDepth 20000 in
theorem gX4_readProofName_X3_proofNamed : GoodIn wsX4_readProofName (wsV RX4 156 RX3 yX3_proofNamed wsX3_proofNamed) := goodIn_app (goodIn_r _ [13, 14, 15, 16] rfl (by decide +kernel)) ggX4_readProofName_X3_proofNamed
set_option maxRecDepth 20000 in
theorem ggX4_readProofName_X4_fail : GoodIn wsX4_readProofName wsX4_fail := goodIn_r _ [9, 1, 10, 11, 12, 32, 33, 34, 35, 36, 37, 38, 39, 40] rfl (by decide +kernel)
set_option maxRecDepth 20000 in
theorem gX4_readProofName_X4_fail : GoodIn wsX4_readProofName (wsV RX4 63 RX4 yX4_fail wsX4_fail) := goodIn_app (goodIn_r _ [5, 6, 7, 8] rfl (by decide +kernel)) ggX4_readProofName_X4_fail
set_option maxRecDepth 20000 in
theorem ggX4_readProofName_X4_lookAt : GoodIn wsX4_readProofName wsX4_lookAt := goodIn_r _ [23, 24, 4, 1, 11, 3, 32, 33, 34, 35, 36, 37, 38, 39, 40, 58, 59, 60, 61] rfl (by decide +kernel)
set_option maxRecDepth 20000 in
theorem gX4_readProofName_X4_lookAt : GoodIn wsX4_readProofName (wsV RX4 38 RX4 yX4_lookAt wsX4_lookAt) := goodIn_app (goodIn_r _ [20, 21, 22, 8] rfl (by decide +kernel)) ggX4_readProofName_X4_lookAt
set_option maxRecDepth 20000 in
theorem ggX4_readRate_X4_fail : GoodIn wsX4_readRate wsX4_fail := goodIn_r _ [20, 4, 21, 12, 22, 32, 33, 34, 35, 36, 37, 38, 39, 40] rfl (by decide +kernel)
set_option maxRecDepth 20000 in
theorem gX4_readRate_X4_fail : GoodIn wsX4_readRate (wsV RX4 63 RX4 yX4_fail wsX4_fail) := goodIn_app (goodIn_r _ [17, 18, 19, 9] rfl (by decide +kernel)) ggX4_readRate_X4_fail
set_option maxRecDepth 20000 in
theorem ggX4_readRate_X4_lookAt : GoodIn wsX4_readRate wsX4_lookAt := goodIn_r _ [10, 11, 1, 4, 12, 5, 32, 33, 34, 35, 36, 37, 38, 39, 40, 58, 59, 60, 61] rfl (by decide +kernel)
set_option maxRecDepth 20000 in
theorem gX4_readRate_X4_lookAt : GoodIn wsX4_readRate (wsV RX4 38 RX4 yX4_lookAt wsX4_lookAt) := goodIn_app (goodIn_r _ [6, 7, 8, 9] rfl (by decide +kernel)) ggX4_readRate_X4_lookAt
set_option maxRecDepth 20000 in
theorem ggX4_readRate_X4_take : GoodIn wsX4_readRate wsX4_take := goodIn_r _ [31, 4, 1, 17, 18, 19, 9, 20, 21, 12, 22, 6, 7, 8, 10, 11, 5, 32, 33, 34, 35, 36, 37, 38, 39, 40, 58, 59, 60, 61] rfl (by decide +kernel)
set_option maxRecDepth 20000 in
theorem gX4_readRate_X4_take : GoodIn wsX4_readRate (wsV RX4 108 RX4 yX4_take wsX4_take) := goodIn_app (goodIn_r _ [28, 29, 30, 9] rfl (by decide +kernel)) ggX4_readRate_X4_take
set_option maxRecDepth 20000 in
theorem ggX4_readRate_X4_takeNumber : GoodIn wsX4_readRate wsX4_takeNumber := goodIn_r _ [16, 4, 5, 3, 1, 17, 18, 19, 9, 20, 21, 12, 22, 6, 7, 8, 10, 11, 32, 33, 34, 35, 36, 37, 38, 39, 40, 58, 59, 60, 61] rfl (by decide +kernel)
set_option maxRecDepth 20000 in
theorem gX4_readRate_X4_takeNumber : GoodIn wsX4_readRate (wsV RX4 94 RX4 yX4_takeNumber wsX4_takeNumber) := goodIn_app (goodIn_r _ [13, 14, 15, 9] rfl (by decide +kernel)) ggX4_readRate_X4_takeNumber
set_option maxRecDepth 20000 in
theorem ggX4_readRate_X9_isBasis : GoodIn wsX4_readRate wsX9_isBasis := goodIn_r _ [25, 26, 27] rfl (by decide +kernel)
set_option maxRecDepth 20000 in
theorem gX4_readRate_X9_isBasis_n101 : GoodIn wsX4_readRate (wsX9_isBasis) := ggX4_readRate_X9_isBasis
set_option maxRecDepth 20000 in
theorem ggX4_takeNumber_X4_fail : GoodIn wsX4_takeNumber wsX4_fail := goodIn_r _ [9, 1, 10, 11, 12, 18, 19, 20, 21, 22, 23, 24, 25, 26] rfl (by decide +kernel)
set_option maxRecDepth 20000 in
theorem gX4_takeNumber_X4_fail : GoodIn wsX4_takeNumber (wsV RX4 63 RX4 yX4_fail wsX4_fail) := goodIn_app (goodIn_r _ [5, 6, 7, 8] rfl (by decide +kernel)) ggX4_takeNumber_X4_fail
set_option maxRecDepth 20000 in
theorem ggX4_takeNumber_X4_lookAt : GoodIn wsX4_takeNumber wsX4_lookAt := goodIn_r _ [16, 17, 4, 1, 11, 2, 18, 19, 20, 21, 22, 23, 24, 25, 26, 27, 28, 29, 30] rfl (by decide +kernel)
set_option maxRecDepth 20000 in
theorem gX4_takeNumber_X4_lookAt : GoodIn wsX4_takeNumber (wsV RX4 38 RX4 yX4_lookAt wsX4_lookAt) := goodIn_app (goodIn_r _ [13, 14, 15, 8] rfl (by decide +kernel)) ggX4_takeNumber_X4_lookAt
set_option maxRecDepth 20000 in
theorem ggX4_take_X4_fail : GoodIn wsX4_take wsX4_fail := goodIn_r _ [7, 1, 8, 9, 10, 17, 18, 19, 20, 21, 22, 23, 24, 25] rfl (by decide +kernel)
set_option maxRecDepth 20000 in
theorem gX4_take_X4_fail : GoodIn wsX4_take (wsV RX4 63 RX4 yX4_fail wsX4_fail) := goodIn_app (goodIn_r _ [3, 4, 5, 6] rfl (by decide +kernel)) ggX4_take_X4_fail
set_option maxRecDepth 20000 in
theorem ggX4_take_X4_lookAt : GoodIn wsX4_take wsX4_lookAt := goodIn_r _ [14, 15, 2, 1, 9, 16, 17, 18, 19, 20, 21, 22, 23, 24, 25, 26, 27, 28, 29] rfl (by decide +kernel)
set_option maxRecDepth 20000 in
theorem gX4_take_X4_lookAt : GoodIn wsX4_take (wsV RX4 38 RX4 yX4_lookAt wsX4_lookAt) := goodIn_app (goodIn_r _ [11, 12, 13, 6] rfl (by decide +kernel)) ggX4_take_X4_lookAt
set_option maxRecDepth 20000 in
theorem ggX5_split_X5_extendLast : GoodIn wsX5_split wsX5_extendLast := goodIn_r _ [9, 1, 10, 11, 12, 13, 4, 14, 15, 16, 17, 18, 19, 86, 87, 88, 89] rfl (by decide +kernel)
set_option maxRecDepth 20000 in
theorem gX5_split_X5_extendLast : GoodIn wsX5_split (wsV RX5 32 RX5 yX5_extendLast wsX5_extendLast) := goodIn_app (goodIn_r _ [6, 7, 8, 4] rfl (by decide +kernel)) ggX5_split_X5_extendLast
set_option maxRecDepth 20000 in
theorem ggX5_split_X5_extended : GoodIn wsX5_split wsX5_extended := goodIn_r _ [14, 15, 16, 17, 18, 19] rfl (by decide +kernel)
set_option maxRecDepth 20000 in
theorem gX5_split_X5_extended : GoodIn wsX5_split (va_wsS RX5 36 yX5_extended wsX5_extended) := goodIn_app (goodIn_r _ [12, 13, 4] rfl (by decide +kernel)) ggX5_split_X5_extended
set_option maxRecDepth 20000 in
theorem ggX5_split_X5_kindOf : GoodIn wsX5_split wsX5_kindOf := goodIn_r _ [5] rfl (by decide +kernel)
set_option maxRecDepth 20000 in
theorem gX5_split_X5_kindOf : GoodIn wsX5_split (va_wsS RX5 28 yX5_kindOf wsX5_kindOf) := goodIn_app (goodIn_r _ [2, 3, 4] rfl (by decide +kernel)) ggX5_split_X5_kindOf
theorem dX3_addDeposit_0 : decode cX3_addDeposit 0 = .ok (.aload_n 0, 1) := by decide +kernel
theorem dX3_addDeposit_1 : decode cX3_addDeposit 1 = .ok (.invokevirtual 65, 3) := by decide +kernel
theorem dX3_addDeposit_4 : decode cX3_addDeposit 4 = .ok (.ifCond .eq 23, 3) := by decide +kernel
theorem dX3_addDeposit_7 : decode cX3_addDeposit 7 = .ok (.aload_n 0, 1) := by decide +kernel
theorem dX3_addDeposit_8 : decode cX3_addDeposit 8 = .ok (.getfield 15, 3) := by decide +kernel
theorem dX3_addDeposit_11 : decode cX3_addDeposit 11 = .ok (.aload_n 0, 1) := by decide +kernel
theorem dX3_addDeposit_12 : decode cX3_addDeposit 12 = .ok (.getfield 53, 3) := by decide +kernel
theorem dX3_addDeposit_15 : decode cX3_addDeposit 15 = .ok (.iload_n 1, 1) := by decide +kernel
theorem dX3_addDeposit_16 : decode cX3_addDeposit 16 = .ok (.iastore, 1) := by decide +kernel
theorem dX3_addDeposit_17 : decode cX3_addDeposit 17 = .ok (.aload_n 0, 1) := by decide +kernel
theorem dX3_addDeposit_18 : decode cX3_addDeposit 18 = .ok (.dup, 1) := by decide +kernel
theorem dX3_addDeposit_19 : decode cX3_addDeposit 19 = .ok (.getfield 53, 3) := by decide +kernel
theorem dX3_addDeposit_22 : decode cX3_addDeposit 22 = .ok (.iconst 1, 1) := by decide +kernel
theorem dX3_addDeposit_23 : decode cX3_addDeposit 23 = .ok (.iadd, 1) := by decide +kernel
theorem dX3_addDeposit_24 : decode cX3_addDeposit 24 = .ok (.putfield 53, 3) := by decide +kernel
theorem dX3_addDeposit_27 : decode cX3_addDeposit 27 = .ok (.return_, 1) := by decide +kernel
theorem dX3_addStep_0 : decode cX3_addStep 0 = .ok (.aload_n 0, 1) := by decide +kernel
theorem dX3_addStep_1 : decode cX3_addStep 1 = .ok (.getfield 62, 3) := by decide +kernel
theorem dX3_addStep_4 : decode cX3_addStep 4 = .ok (.sipush 350, 3) := by decide +kernel
theorem dX3_addStep_7 : decode cX3_addStep 7 = .ok (.if_icmp .lt 5, 3) := by decide +kernel
theorem dX3_addStep_10 : decode cX3_addStep 10 = .ok (.iconst 0, 1) := by decide +kernel
theorem dX3_addStep_11 : decode cX3_addStep 11 = .ok (.ireturn, 1) := by decide +kernel
theorem dX3_addStep_12 : decode cX3_addStep 12 = .ok (.aload_n 0, 1) := by decide +kernel
theorem dX3_addStep_13 : decode cX3_addStep 13 = .ok (.getfield 35, 3) := by decide +kernel
theorem dX3_addStep_16 : decode cX3_addStep 16 = .ok (.aload_n 0, 1) := by decide +kernel
theorem dX3_addStep_17 : decode cX3_addStep 17 = .ok (.getfield 62, 3) := by decide +kernel
theorem dX3_addStep_20 : decode cX3_addStep 20 = .ok (.iload_n 1, 1) := by decide +kernel
theorem dX3_addStep_21 : decode cX3_addStep 21 = .ok (.iastore, 1) := by decide +kernel
theorem dX3_addStep_22 : decode cX3_addStep 22 = .ok (.aload_n 0, 1) := by decide +kernel
theorem dX3_addStep_23 : decode cX3_addStep 23 = .ok (.getfield 38, 3) := by decide +kernel
theorem dX3_addStep_26 : decode cX3_addStep 26 = .ok (.aload_n 0, 1) := by decide +kernel
theorem dX3_addStep_27 : decode cX3_addStep 27 = .ok (.getfield 62, 3) := by decide +kernel
theorem dX3_addStep_30 : decode cX3_addStep 30 = .ok (.iload_n 2, 1) := by decide +kernel
theorem dX3_addStep_31 : decode cX3_addStep 31 = .ok (.iastore, 1) := by decide +kernel
theorem dX3_addStep_32 : decode cX3_addStep 32 = .ok (.aload_n 0, 1) := by decide +kernel
theorem dX3_addStep_33 : decode cX3_addStep 33 = .ok (.dup, 1) := by decide +kernel
theorem dX3_addStep_34 : decode cX3_addStep 34 = .ok (.getfield 62, 3) := by decide +kernel
theorem dX3_addStep_37 : decode cX3_addStep 37 = .ok (.iconst 1, 1) := by decide +kernel
theorem dX3_addStep_38 : decode cX3_addStep 38 = .ok (.iadd, 1) := by decide +kernel
theorem dX3_addStep_39 : decode cX3_addStep 39 = .ok (.putfield 62, 3) := by decide +kernel
theorem dX3_addStep_42 : decode cX3_addStep 42 = .ok (.iconst 1, 1) := by decide +kernel
theorem dX3_addStep_43 : decode cX3_addStep 43 = .ok (.ireturn, 1) := by decide +kernel
theorem dX3_hasRoomForDeposit_0 : decode cX3_hasRoomForDeposit 0 = .ok (.aload_n 0, 1) := by decide +kernel
theorem dX3_hasRoomForDeposit_1 : decode cX3_hasRoomForDeposit 1 = .ok (.getfield 53, 3) := by decide +kernel
theorem dX3_hasRoomForDeposit_4 : decode cX3_hasRoomForDeposit 4 = .ok (.aload_n 0, 1) := by decide +kernel
theorem dX3_hasRoomForDeposit_5 : decode cX3_hasRoomForDeposit 5 = .ok (.getfield 15, 3) := by decide +kernel
theorem dX3_hasRoomForDeposit_8 : decode cX3_hasRoomForDeposit 8 = .ok (.arraylength, 1) := by decide +kernel
theorem dX3_hasRoomForDeposit_9 : decode cX3_hasRoomForDeposit 9 = .ok (.if_icmp .ge 7, 3) := by decide +kernel
theorem dX3_hasRoomForDeposit_12 : decode cX3_hasRoomForDeposit 12 = .ok (.iconst 1, 1) := by decide +kernel
theorem dX3_hasRoomForDeposit_13 : decode cX3_hasRoomForDeposit 13 = .ok (.goto 4, 3) := by decide +kernel
theorem dX3_hasRoomForDeposit_16 : decode cX3_hasRoomForDeposit 16 = .ok (.iconst 0, 1) := by decide +kernel
theorem dX3_hasRoomForDeposit_17 : decode cX3_hasRoomForDeposit 17 = .ok (.ireturn, 1) := by decide +kernel
theorem dX3_hasRoomForMilestone_0 : decode cX3_hasRoomForMilestone 0 = .ok (.aload_n 0, 1) := by decide +kernel
theorem dX3_hasRoomForMilestone_1 : decode cX3_hasRoomForMilestone 1 = .ok (.getfield 56, 3) := by decide +kernel
theorem dX3_hasRoomForMilestone_4 : decode cX3_hasRoomForMilestone 4 = .ok (.bipush 10, 2) := by decide +kernel
theorem dX3_hasRoomForMilestone_6 : decode cX3_hasRoomForMilestone 6 = .ok (.if_icmp .ge 7, 3) := by decide +kernel
theorem dX3_hasRoomForMilestone_9 : decode cX3_hasRoomForMilestone 9 = .ok (.iconst 1, 1) := by decide +kernel
theorem dX3_hasRoomForMilestone_10 : decode cX3_hasRoomForMilestone 10 = .ok (.goto 4, 3) := by decide +kernel
theorem dX3_hasRoomForMilestone_13 : decode cX3_hasRoomForMilestone 13 = .ok (.iconst 0, 1) := by decide +kernel
theorem dX3_hasRoomForMilestone_14 : decode cX3_hasRoomForMilestone 14 = .ok (.ireturn, 1) := by decide +kernel
theorem dX3_milestoneNamed_0 : decode cX3_milestoneNamed 0 = .ok (.iconst 0, 1) := by decide +kernel
theorem dX3_milestoneNamed_1 : decode cX3_milestoneNamed 1 = .ok (.istore_n 3, 1) := by decide +kernel
theorem dX3_milestoneNamed_2 : decode cX3_milestoneNamed 2 = .ok (.iload_n 3, 1) := by decide +kernel
theorem dX3_milestoneNamed_3 : decode cX3_milestoneNamed 3 = .ok (.aload_n 0, 1) := by decide +kernel
theorem dX3_milestoneNamed_4 : decode cX3_milestoneNamed 4 = .ok (.getfield 56, 3) := by decide +kernel
theorem dX3_milestoneNamed_7 : decode cX3_milestoneNamed 7 = .ok (.if_icmp .ge 22, 3) := by decide +kernel
theorem dX3_milestoneNamed_10 : decode cX3_milestoneNamed 10 = .ok (.aload_n 0, 1) := by decide +kernel
theorem dX3_milestoneNamed_11 : decode cX3_milestoneNamed 11 = .ok (.getfield 19, 3) := by decide +kernel
theorem dX3_milestoneNamed_14 : decode cX3_milestoneNamed 14 = .ok (.iload_n 3, 1) := by decide +kernel
theorem dX3_milestoneNamed_15 : decode cX3_milestoneNamed 15 = .ok (.laload, 1) := by decide +kernel
theorem dX3_milestoneNamed_16 : decode cX3_milestoneNamed 16 = .ok (.lload_n 1, 1) := by decide +kernel
theorem dX3_milestoneNamed_17 : decode cX3_milestoneNamed 17 = .ok (.lcmp, 1) := by decide +kernel
theorem dX3_milestoneNamed_18 : decode cX3_milestoneNamed 18 = .ok (.ifCond .ne 5, 3) := by decide +kernel
theorem dX3_milestoneNamed_21 : decode cX3_milestoneNamed 21 = .ok (.iload_n 3, 1) := by decide +kernel
theorem dX3_milestoneNamed_22 : decode cX3_milestoneNamed 22 = .ok (.ireturn, 1) := by decide +kernel
theorem dX3_milestoneNamed_23 : decode cX3_milestoneNamed 23 = .ok (.iinc 3 1, 3) := by decide +kernel
theorem dX3_milestoneNamed_26 : decode cX3_milestoneNamed 26 = .ok (.goto (-24), 3) := by decide +kernel
theorem dX3_milestoneNamed_29 : decode cX3_milestoneNamed 29 = .ok (.iconst (-1), 1) := by decide +kernel
theorem dX3_milestoneNamed_30 : decode cX3_milestoneNamed 30 = .ok (.ireturn, 1) := by decide +kernel
theorem dX3_proofNamed_0 : decode cX3_proofNamed 0 = .ok (.iconst 0, 1) := by decide +kernel
theorem dX3_proofNamed_1 : decode cX3_proofNamed 1 = .ok (.istore_n 3, 1) := by decide +kernel
theorem dX3_proofNamed_2 : decode cX3_proofNamed 2 = .ok (.iload_n 3, 1) := by decide +kernel
theorem dX3_proofNamed_3 : decode cX3_proofNamed 3 = .ok (.aload_n 0, 1) := by decide +kernel
theorem dX3_proofNamed_4 : decode cX3_proofNamed 4 = .ok (.getfield 59, 3) := by decide +kernel
theorem dX3_proofNamed_7 : decode cX3_proofNamed 7 = .ok (.if_icmp .ge 22, 3) := by decide +kernel
theorem dX3_proofNamed_10 : decode cX3_proofNamed 10 = .ok (.aload_n 0, 1) := by decide +kernel
theorem dX3_proofNamed_11 : decode cX3_proofNamed 11 = .ok (.getfield 32, 3) := by decide +kernel
theorem dX3_proofNamed_14 : decode cX3_proofNamed 14 = .ok (.iload_n 3, 1) := by decide +kernel
theorem dX3_proofNamed_15 : decode cX3_proofNamed 15 = .ok (.laload, 1) := by decide +kernel
theorem dX3_proofNamed_16 : decode cX3_proofNamed 16 = .ok (.lload_n 1, 1) := by decide +kernel
theorem dX3_proofNamed_17 : decode cX3_proofNamed 17 = .ok (.lcmp, 1) := by decide +kernel
theorem dX3_proofNamed_18 : decode cX3_proofNamed 18 = .ok (.ifCond .ne 5, 3) := by decide +kernel
theorem dX3_proofNamed_21 : decode cX3_proofNamed 21 = .ok (.iload_n 3, 1) := by decide +kernel
theorem dX3_proofNamed_22 : decode cX3_proofNamed 22 = .ok (.ireturn, 1) := by decide +kernel
theorem dX3_proofNamed_23 : decode cX3_proofNamed 23 = .ok (.iinc 3 1, 3) := by decide +kernel
theorem dX3_proofNamed_26 : decode cX3_proofNamed 26 = .ok (.goto (-24), 3) := by decide +kernel
theorem dX3_proofNamed_29 : decode cX3_proofNamed 29 = .ok (.aload_n 0, 1) := by decide +kernel
theorem dX3_proofNamed_30 : decode cX3_proofNamed 30 = .ok (.getfield 59, 3) := by decide +kernel
theorem dX3_proofNamed_33 : decode cX3_proofNamed 33 = .ok (.bipush 8, 2) := by decide +kernel
theorem dX3_proofNamed_35 : decode cX3_proofNamed 35 = .ok (.if_icmp .lt 5, 3) := by decide +kernel
theorem dX3_proofNamed_38 : decode cX3_proofNamed 38 = .ok (.iconst (-1), 1) := by decide +kernel
theorem dX3_proofNamed_39 : decode cX3_proofNamed 39 = .ok (.ireturn, 1) := by decide +kernel
theorem dX3_proofNamed_40 : decode cX3_proofNamed 40 = .ok (.aload_n 0, 1) := by decide +kernel
theorem dX3_proofNamed_41 : decode cX3_proofNamed 41 = .ok (.getfield 32, 3) := by decide +kernel
theorem dX3_proofNamed_44 : decode cX3_proofNamed 44 = .ok (.aload_n 0, 1) := by decide +kernel
theorem dX3_proofNamed_45 : decode cX3_proofNamed 45 = .ok (.getfield 59, 3) := by decide +kernel
theorem dX3_proofNamed_48 : decode cX3_proofNamed 48 = .ok (.lload_n 1, 1) := by decide +kernel
theorem dX3_proofNamed_49 : decode cX3_proofNamed 49 = .ok (.lastore, 1) := by decide +kernel
theorem dX3_proofNamed_50 : decode cX3_proofNamed 50 = .ok (.aload_n 0, 1) := by decide +kernel
theorem dX3_proofNamed_51 : decode cX3_proofNamed 51 = .ok (.dup, 1) := by decide +kernel
theorem dX3_proofNamed_52 : decode cX3_proofNamed 52 = .ok (.getfield 59, 3) := by decide +kernel
theorem dX3_proofNamed_55 : decode cX3_proofNamed 55 = .ok (.iconst 1, 1) := by decide +kernel
theorem dX3_proofNamed_56 : decode cX3_proofNamed 56 = .ok (.iadd, 1) := by decide +kernel
theorem dX3_proofNamed_57 : decode cX3_proofNamed 57 = .ok (.putfield 59, 3) := by decide +kernel
theorem dX3_proofNamed_60 : decode cX3_proofNamed 60 = .ok (.aload_n 0, 1) := by decide +kernel
theorem dX3_proofNamed_61 : decode cX3_proofNamed 61 = .ok (.getfield 59, 3) := by decide +kernel
theorem dX3_proofNamed_64 : decode cX3_proofNamed 64 = .ok (.iconst 1, 1) := by decide +kernel
theorem dX3_proofNamed_65 : decode cX3_proofNamed 65 = .ok (.isub, 1) := by decide +kernel
theorem dX3_proofNamed_66 : decode cX3_proofNamed 66 = .ok (.ireturn, 1) := by decide +kernel
theorem dX4_fail_0 : decode cX4_fail 0 = .ok (.aload_n 0, 1) := by decide +kernel
theorem dX4_fail_1 : decode cX4_fail 1 = .ok (.aload_n 0, 1) := by decide +kernel
theorem dX4_fail_2 : decode cX4_fail 2 = .ok (.getfield 42, 3) := by decide +kernel
theorem dX4_fail_5 : decode cX4_fail 5 = .ok (.iconst 2, 1) := by decide +kernel
theorem dX4_fail_6 : decode cX4_fail 6 = .ok (.if_icmp .ne 7, 3) := by decide +kernel
theorem dX4_fail_9 : decode cX4_fail 9 = .ok (.iconst 1, 1) := by decide +kernel
theorem dX4_fail_10 : decode cX4_fail 10 = .ok (.goto 4, 3) := by decide +kernel
theorem dX4_fail_13 : decode cX4_fail 13 = .ok (.iload_n 1, 1) := by decide +kernel
theorem dX4_fail_14 : decode cX4_fail 14 = .ok (.putfield 18, 3) := by decide +kernel
theorem dX4_fail_17 : decode cX4_fail 17 = .ok (.aload_n 0, 1) := by decide +kernel
theorem dX4_fail_18 : decode cX4_fail 18 = .ok (.aload_n 0, 1) := by decide +kernel
theorem dX4_fail_19 : decode cX4_fail 19 = .ok (.getfield 80, 3) := by decide +kernel
theorem dX4_fail_22 : decode cX4_fail 22 = .ok (.putfield 22, 3) := by decide +kernel
theorem dX4_fail_25 : decode cX4_fail 25 = .ok (.iconst 0, 1) := by decide +kernel
theorem dX4_fail_26 : decode cX4_fail 26 = .ok (.ireturn, 1) := by decide +kernel
theorem dX4_readBoth_0 : decode cX4_readBoth 0 = .ok (.aload_n 0, 1) := by decide +kernel
theorem dX4_readBoth_1 : decode cX4_readBoth 1 = .ok (.iload_n 1, 1) := by decide +kernel
theorem dX4_readBoth_2 : decode cX4_readBoth 2 = .ok (.invokevirtual 144, 3) := by decide +kernel
theorem dX4_readBoth_5 : decode cX4_readBoth 5 = .ok (.istore_n 2, 1) := by decide +kernel
theorem dX4_readBoth_6 : decode cX4_readBoth 6 = .ok (.iconst 0, 1) := by decide +kernel
theorem dX4_readBoth_7 : decode cX4_readBoth 7 = .ok (.istore_n 3, 1) := by decide +kernel
theorem dX4_readBoth_8 : decode cX4_readBoth 8 = .ok (.iload_n 2, 1) := by decide +kernel
theorem dX4_readBoth_9 : decode cX4_readBoth 9 = .ok (.ifCond .eq 62, 3) := by decide +kernel
theorem dX4_readBoth_12 : decode cX4_readBoth 12 = .ok (.iload_n 3, 1) := by decide +kernel
theorem dX4_readBoth_13 : decode cX4_readBoth 13 = .ok (.sipush 700, 3) := by decide +kernel
theorem dX4_readBoth_16 : decode cX4_readBoth 16 = .ok (.if_icmp .ge 55, 3) := by decide +kernel
theorem dX4_readBoth_19 : decode cX4_readBoth 19 = .ok (.aload_n 0, 1) := by decide +kernel
theorem dX4_readBoth_20 : decode cX4_readBoth 20 = .ok (.getfield 42, 3) := by decide +kernel
theorem dX4_readBoth_23 : decode cX4_readBoth 23 = .ok (.bipush 15, 2) := by decide +kernel
theorem dX4_readBoth_25 : decode cX4_readBoth 25 = .ok (.if_icmp .ne 46, 3) := by decide +kernel
theorem dX4_readBoth_28 : decode cX4_readBoth 28 = .ok (.aload_n 0, 1) := by decide +kernel
theorem dX4_readBoth_29 : decode cX4_readBoth 29 = .ok (.aload_n 0, 1) := by decide +kernel
theorem dX4_readBoth_30 : decode cX4_readBoth 30 = .ok (.getfield 70, 3) := by decide +kernel
theorem dX4_readBoth_33 : decode cX4_readBoth 33 = .ok (.iconst 1, 1) := by decide +kernel
theorem dX4_readBoth_34 : decode cX4_readBoth 34 = .ok (.iadd, 1) := by decide +kernel
theorem dX4_readBoth_35 : decode cX4_readBoth 35 = .ok (.invokevirtual 38, 3) := by decide +kernel
theorem dX4_readBoth_38 : decode cX4_readBoth 38 = .ok (.aload_n 0, 1) := by decide +kernel
theorem dX4_readBoth_39 : decode cX4_readBoth 39 = .ok (.iload_n 1, 1) := by decide +kernel
theorem dX4_readBoth_40 : decode cX4_readBoth 40 = .ok (.invokevirtual 144, 3) := by decide +kernel
theorem dX4_readBoth_43 : decode cX4_readBoth 43 = .ok (.ifCond .eq 20, 3) := by decide +kernel
theorem dX4_readBoth_46 : decode cX4_readBoth 46 = .ok (.aload_n 0, 1) := by decide +kernel
theorem dX4_readBoth_47 : decode cX4_readBoth 47 = .ok (.getfield 25, 3) := by decide +kernel
theorem dX4_readBoth_50 : decode cX4_readBoth 50 = .ok (.bipush 15, 2) := by decide +kernel
theorem dX4_readBoth_52 : decode cX4_readBoth 52 = .ok (.iconst 0, 1) := by decide +kernel
theorem dX4_readBoth_53 : decode cX4_readBoth 53 = .ok (.invokevirtual 141, 3) := by decide +kernel
theorem dX4_readBoth_56 : decode cX4_readBoth 56 = .ok (.ifCond .eq 7, 3) := by decide +kernel
theorem dX4_readBoth_59 : decode cX4_readBoth 59 = .ok (.iconst 1, 1) := by decide +kernel
theorem dX4_readBoth_60 : decode cX4_readBoth 60 = .ok (.goto 4, 3) := by decide +kernel
theorem dX4_readBoth_63 : decode cX4_readBoth 63 = .ok (.iconst 0, 1) := by decide +kernel
theorem dX4_readBoth_64 : decode cX4_readBoth 64 = .ok (.istore_n 2, 1) := by decide +kernel
theorem dX4_readBoth_65 : decode cX4_readBoth 65 = .ok (.iinc 3 1, 3) := by decide +kernel
theorem dX4_readBoth_68 : decode cX4_readBoth 68 = .ok (.goto (-60), 3) := by decide +kernel
theorem dX4_readBoth_71 : decode cX4_readBoth 71 = .ok (.iload_n 2, 1) := by decide +kernel
theorem dX4_readBoth_72 : decode cX4_readBoth 72 = .ok (.ireturn, 1) := by decide +kernel
theorem dX4_readCondition_0 : decode cX4_readCondition 0 = .ok (.aload_n 0, 1) := by decide +kernel
theorem dX4_readCondition_1 : decode cX4_readCondition 1 = .ok (.iload_n 1, 1) := by decide +kernel
theorem dX4_readCondition_2 : decode cX4_readCondition 2 = .ok (.invokevirtual 138, 3) := by decide +kernel
theorem dX4_readCondition_5 : decode cX4_readCondition 5 = .ok (.istore_n 2, 1) := by decide +kernel
theorem dX4_readCondition_6 : decode cX4_readCondition 6 = .ok (.iconst 0, 1) := by decide +kernel
theorem dX4_readCondition_7 : decode cX4_readCondition 7 = .ok (.istore_n 3, 1) := by decide +kernel
theorem dX4_readCondition_8 : decode cX4_readCondition 8 = .ok (.iload_n 2, 1) := by decide +kernel
theorem dX4_readCondition_9 : decode cX4_readCondition 9 = .ok (.ifCond .eq 62, 3) := by decide +kernel
theorem dX4_readCondition_12 : decode cX4_readCondition 12 = .ok (.iload_n 3, 1) := by decide +kernel
theorem dX4_readCondition_13 : decode cX4_readCondition 13 = .ok (.sipush 700, 3) := by decide +kernel
theorem dX4_readCondition_16 : decode cX4_readCondition 16 = .ok (.if_icmp .ge 55, 3) := by decide +kernel
theorem dX4_readCondition_19 : decode cX4_readCondition 19 = .ok (.aload_n 0, 1) := by decide +kernel
theorem dX4_readCondition_20 : decode cX4_readCondition 20 = .ok (.getfield 42, 3) := by decide +kernel
theorem dX4_readCondition_23 : decode cX4_readCondition 23 = .ok (.bipush 14, 2) := by decide +kernel
theorem dX4_readCondition_25 : decode cX4_readCondition 25 = .ok (.if_icmp .ne 46, 3) := by decide +kernel
theorem dX4_readCondition_28 : decode cX4_readCondition 28 = .ok (.aload_n 0, 1) := by decide +kernel
theorem dX4_readCondition_29 : decode cX4_readCondition 29 = .ok (.aload_n 0, 1) := by decide +kernel
theorem dX4_readCondition_30 : decode cX4_readCondition 30 = .ok (.getfield 70, 3) := by decide +kernel
theorem dX4_readCondition_33 : decode cX4_readCondition 33 = .ok (.iconst 1, 1) := by decide +kernel
theorem dX4_readCondition_34 : decode cX4_readCondition 34 = .ok (.iadd, 1) := by decide +kernel
theorem dX4_readCondition_35 : decode cX4_readCondition 35 = .ok (.invokevirtual 38, 3) := by decide +kernel
theorem dX4_readCondition_38 : decode cX4_readCondition 38 = .ok (.aload_n 0, 1) := by decide +kernel
theorem dX4_readCondition_39 : decode cX4_readCondition 39 = .ok (.iload_n 1, 1) := by decide +kernel
theorem dX4_readCondition_40 : decode cX4_readCondition 40 = .ok (.invokevirtual 138, 3) := by decide +kernel
theorem dX4_readCondition_43 : decode cX4_readCondition 43 = .ok (.ifCond .eq 20, 3) := by decide +kernel
theorem dX4_readCondition_46 : decode cX4_readCondition 46 = .ok (.aload_n 0, 1) := by decide +kernel
theorem dX4_readCondition_47 : decode cX4_readCondition 47 = .ok (.getfield 25, 3) := by decide +kernel
theorem dX4_readCondition_50 : decode cX4_readCondition 50 = .ok (.bipush 14, 2) := by decide +kernel
theorem dX4_readCondition_52 : decode cX4_readCondition 52 = .ok (.iconst 0, 1) := by decide +kernel
theorem dX4_readCondition_53 : decode cX4_readCondition 53 = .ok (.invokevirtual 141, 3) := by decide +kernel
theorem dX4_readCondition_56 : decode cX4_readCondition 56 = .ok (.ifCond .eq 7, 3) := by decide +kernel
theorem dX4_readCondition_59 : decode cX4_readCondition 59 = .ok (.iconst 1, 1) := by decide +kernel
theorem dX4_readCondition_60 : decode cX4_readCondition 60 = .ok (.goto 4, 3) := by decide +kernel
theorem dX4_readCondition_63 : decode cX4_readCondition 63 = .ok (.iconst 0, 1) := by decide +kernel
theorem dX4_readCondition_64 : decode cX4_readCondition 64 = .ok (.istore_n 2, 1) := by decide +kernel
theorem dX4_readCondition_65 : decode cX4_readCondition 65 = .ok (.iinc 3 1, 3) := by decide +kernel
theorem dX4_readCondition_68 : decode cX4_readCondition 68 = .ok (.goto (-60), 3) := by decide +kernel
theorem dX4_readCondition_71 : decode cX4_readCondition 71 = .ok (.iload_n 2, 1) := by decide +kernel
theorem dX4_readCondition_72 : decode cX4_readCondition 72 = .ok (.ireturn, 1) := by decide +kernel
theorem dX4_readDeposit_0 : decode cX4_readDeposit 0 = .ok (.aload_n 0, 1) := by decide +kernel
theorem dX4_readDeposit_1 : decode cX4_readDeposit 1 = .ok (.getfield 25, 3) := by decide +kernel
theorem dX4_readDeposit_4 : decode cX4_readDeposit 4 = .ok (.invokevirtual 117, 3) := by decide +kernel
theorem dX4_readDeposit_7 : decode cX4_readDeposit 7 = .ok (.ifCond .ne 9, 3) := by decide +kernel
theorem dX4_readDeposit_10 : decode cX4_readDeposit 10 = .ok (.aload_n 0, 1) := by decide +kernel
theorem dX4_readDeposit_11 : decode cX4_readDeposit 11 = .ok (.iconst 5, 1) := by decide +kernel
theorem dX4_readDeposit_12 : decode cX4_readDeposit 12 = .ok (.invokevirtual 63, 3) := by decide +kernel
theorem dX4_readDeposit_15 : decode cX4_readDeposit 15 = .ok (.ireturn, 1) := by decide +kernel
theorem dX4_readDeposit_16 : decode cX4_readDeposit 16 = .ok (.aload_n 0, 1) := by decide +kernel
theorem dX4_readDeposit_17 : decode cX4_readDeposit 17 = .ok (.aload_n 0, 1) := by decide +kernel
theorem dX4_readDeposit_18 : decode cX4_readDeposit 18 = .ok (.getfield 70, 3) := by decide +kernel
theorem dX4_readDeposit_21 : decode cX4_readDeposit 21 = .ok (.iconst 1, 1) := by decide +kernel
theorem dX4_readDeposit_22 : decode cX4_readDeposit 22 = .ok (.iadd, 1) := by decide +kernel
theorem dX4_readDeposit_23 : decode cX4_readDeposit 23 = .ok (.invokevirtual 38, 3) := by decide +kernel
theorem dX4_readDeposit_26 : decode cX4_readDeposit 26 = .ok (.aload_n 0, 1) := by decide +kernel
theorem dX4_readDeposit_27 : decode cX4_readDeposit 27 = .ok (.iconst 1, 1) := by decide +kernel
theorem dX4_readDeposit_28 : decode cX4_readDeposit 28 = .ok (.ldc 120, 2) := by decide +kernel
theorem dX4_readDeposit_30 : decode cX4_readDeposit 30 = .ok (.invokevirtual 94, 3) := by decide +kernel
theorem dX4_readDeposit_33 : decode cX4_readDeposit 33 = .ok (.ifCond .ne 5, 3) := by decide +kernel
theorem dX4_readDeposit_36 : decode cX4_readDeposit 36 = .ok (.iconst 0, 1) := by decide +kernel
theorem dX4_readDeposit_37 : decode cX4_readDeposit 37 = .ok (.ireturn, 1) := by decide +kernel
theorem dX4_readDeposit_38 : decode cX4_readDeposit 38 = .ok (.aload_n 0, 1) := by decide +kernel
theorem dX4_readDeposit_39 : decode cX4_readDeposit 39 = .ok (.getfield 25, 3) := by decide +kernel
theorem dX4_readDeposit_42 : decode cX4_readDeposit 42 = .ok (.aload_n 0, 1) := by decide +kernel
theorem dX4_readDeposit_43 : decode cX4_readDeposit 43 = .ok (.getfield 91, 3) := by decide +kernel
theorem dX4_readDeposit_46 : decode cX4_readDeposit 46 = .ok (.invokevirtual 121, 3) := by decide +kernel
theorem dX4_readDeposit_49 : decode cX4_readDeposit 49 = .ok (.aload_n 0, 1) := by decide +kernel
theorem dX4_readDeposit_50 : decode cX4_readDeposit 50 = .ok (.bipush 7, 2) := by decide +kernel
theorem dX4_readDeposit_52 : decode cX4_readDeposit 52 = .ok (.invokevirtual 108, 3) := by decide +kernel
theorem dX4_readDeposit_55 : decode cX4_readDeposit 55 = .ok (.ireturn, 1) := by decide +kernel
theorem dX4_readDoneName_0 : decode cX4_readDoneName 0 = .ok (.aload_n 0, 1) := by decide +kernel
theorem dX4_readDoneName_1 : decode cX4_readDoneName 1 = .ok (.getfield 42, 3) := by decide +kernel
theorem dX4_readDoneName_4 : decode cX4_readDoneName 4 = .ok (.iconst 4, 1) := by decide +kernel
theorem dX4_readDoneName_5 : decode cX4_readDoneName 5 = .ok (.if_icmp .eq 9, 3) := by decide +kernel
theorem dX4_readDoneName_8 : decode cX4_readDoneName 8 = .ok (.aload_n 0, 1) := by decide +kernel
theorem dX4_readDoneName_9 : decode cX4_readDoneName 9 = .ok (.iconst 2, 1) := by decide +kernel
theorem dX4_readDoneName_10 : decode cX4_readDoneName 10 = .ok (.invokevirtual 63, 3) := by decide +kernel
theorem dX4_readDoneName_13 : decode cX4_readDoneName 13 = .ok (.ireturn, 1) := by decide +kernel
theorem dX4_readDoneName_14 : decode cX4_readDoneName 14 = .ok (.aload_n 0, 1) := by decide +kernel
theorem dX4_readDoneName_15 : decode cX4_readDoneName 15 = .ok (.getfield 25, 3) := by decide +kernel
theorem dX4_readDoneName_18 : decode cX4_readDoneName 18 = .ok (.aload_n 0, 1) := by decide +kernel
theorem dX4_readDoneName_19 : decode cX4_readDoneName 19 = .ok (.getfield 87, 3) := by decide +kernel
theorem dX4_readDoneName_22 : decode cX4_readDoneName 22 = .ok (.invokevirtual 127, 3) := by decide +kernel
theorem dX4_readDoneName_25 : decode cX4_readDoneName 25 = .ok (.istore_n 1, 1) := by decide +kernel
theorem dX4_readDoneName_26 : decode cX4_readDoneName 26 = .ok (.iload_n 1, 1) := by decide +kernel
theorem dX4_readDoneName_27 : decode cX4_readDoneName 27 = .ok (.iconst (-1), 1) := by decide +kernel
theorem dX4_readDoneName_28 : decode cX4_readDoneName 28 = .ok (.if_icmp .ne 9, 3) := by decide +kernel
theorem dX4_readDoneName_31 : decode cX4_readDoneName 31 = .ok (.aload_n 0, 1) := by decide +kernel
theorem dX4_readDoneName_32 : decode cX4_readDoneName 32 = .ok (.iconst 4, 1) := by decide +kernel
theorem dX4_readDoneName_33 : decode cX4_readDoneName 33 = .ok (.invokevirtual 63, 3) := by decide +kernel
theorem dX4_readDoneName_36 : decode cX4_readDoneName 36 = .ok (.ireturn, 1) := by decide +kernel
theorem dX4_readDoneName_37 : decode cX4_readDoneName 37 = .ok (.aload_n 0, 1) := by decide +kernel
theorem dX4_readDoneName_38 : decode cX4_readDoneName 38 = .ok (.aload_n 0, 1) := by decide +kernel
theorem dX4_readDoneName_39 : decode cX4_readDoneName 39 = .ok (.getfield 70, 3) := by decide +kernel
theorem dX4_readDoneName_42 : decode cX4_readDoneName 42 = .ok (.iconst 1, 1) := by decide +kernel
theorem dX4_readDoneName_43 : decode cX4_readDoneName 43 = .ok (.iadd, 1) := by decide +kernel
theorem dX4_readDoneName_44 : decode cX4_readDoneName 44 = .ok (.invokevirtual 38, 3) := by decide +kernel
theorem dX4_readDoneName_47 : decode cX4_readDoneName 47 = .ok (.aload_n 0, 1) := by decide +kernel
theorem dX4_readDoneName_48 : decode cX4_readDoneName 48 = .ok (.getfield 25, 3) := by decide +kernel
theorem dX4_readDoneName_51 : decode cX4_readDoneName 51 = .ok (.bipush 19, 2) := by decide +kernel
theorem dX4_readDoneName_53 : decode cX4_readDoneName 53 = .ok (.iload_n 1, 1) := by decide +kernel
theorem dX4_readDoneName_54 : decode cX4_readDoneName 54 = .ok (.invokevirtual 141, 3) := by decide +kernel
theorem dX4_readDoneName_57 : decode cX4_readDoneName 57 = .ok (.ireturn, 1) := by decide +kernel
theorem dX4_readFact_0 : decode cX4_readFact 0 = .ok (.aload_n 0, 1) := by decide +kernel
theorem dX4_readFact_1 : decode cX4_readFact 1 = .ok (.getfield 42, 3) := by decide +kernel
theorem dX4_readFact_4 : decode cX4_readFact 4 = .ok (.istore_n 2, 1) := by decide +kernel
theorem dX4_readFact_5 : decode cX4_readFact 5 = .ok (.iload_n 2, 1) := by decide +kernel
theorem dX4_readFact_6 : decode cX4_readFact 6 = .ok (.bipush 16, 2) := by decide +kernel
theorem dX4_readFact_8 : decode cX4_readFact 8 = .ok (.if_icmp .eq 8, 3) := by decide +kernel
theorem dX4_readFact_11 : decode cX4_readFact 11 = .ok (.iload_n 2, 1) := by decide +kernel
theorem dX4_readFact_12 : decode cX4_readFact 12 = .ok (.iconst 5, 1) := by decide +kernel
theorem dX4_readFact_13 : decode cX4_readFact 13 = .ok (.if_icmp .ne 15, 3) := by decide +kernel
theorem dX4_readFact_16 : decode cX4_readFact 16 = .ok (.iload_n 1, 1) := by decide +kernel
theorem dX4_readFact_17 : decode cX4_readFact 17 = .ok (.bipush 8, 2) := by decide +kernel
theorem dX4_readFact_19 : decode cX4_readFact 19 = .ok (.if_icmp .lt 9, 3) := by decide +kernel
theorem dX4_readFact_22 : decode cX4_readFact 22 = .ok (.aload_n 0, 1) := by decide +kernel
theorem dX4_readFact_23 : decode cX4_readFact 23 = .ok (.iconst 5, 1) := by decide +kernel
theorem dX4_readFact_24 : decode cX4_readFact 24 = .ok (.invokevirtual 63, 3) := by decide +kernel
theorem dX4_readFact_27 : decode cX4_readFact 27 = .ok (.ireturn, 1) := by decide +kernel
theorem dX4_readFact_28 : decode cX4_readFact 28 = .ok (.iload_n 2, 1) := by decide +kernel
theorem dX4_readFact_29 : decode cX4_readFact 29 = .ok (.invokestatic 147, 3) := by decide +kernel
theorem dX4_readFact_32 : decode cX4_readFact 32 = .ok (.ifCond .ne 9, 3) := by decide +kernel
theorem dX4_readFact_35 : decode cX4_readFact 35 = .ok (.aload_n 0, 1) := by decide +kernel
theorem dX4_readFact_36 : decode cX4_readFact 36 = .ok (.iconst 2, 1) := by decide +kernel
theorem dX4_readFact_37 : decode cX4_readFact 37 = .ok (.invokevirtual 63, 3) := by decide +kernel
theorem dX4_readFact_40 : decode cX4_readFact 40 = .ok (.ireturn, 1) := by decide +kernel
theorem dX4_readFact_41 : decode cX4_readFact 41 = .ok (.aload_n 0, 1) := by decide +kernel
theorem dX4_readFact_42 : decode cX4_readFact 42 = .ok (.aload_n 0, 1) := by decide +kernel
theorem dX4_readFact_43 : decode cX4_readFact 43 = .ok (.getfield 70, 3) := by decide +kernel
theorem dX4_readFact_46 : decode cX4_readFact 46 = .ok (.iconst 1, 1) := by decide +kernel
theorem dX4_readFact_47 : decode cX4_readFact 47 = .ok (.iadd, 1) := by decide +kernel
theorem dX4_readFact_48 : decode cX4_readFact 48 = .ok (.invokevirtual 38, 3) := by decide +kernel
theorem dX4_readFact_51 : decode cX4_readFact 51 = .ok (.iload_n 2, 1) := by decide +kernel
theorem dX4_readFact_52 : decode cX4_readFact 52 = .ok (.tableswitch 206 5 20 #[80, 206, 206, 206, 206, 206, 206, 206, 206, 206, 206, 105, 133, 196, 201, 165], 80) := by decide +kernel
theorem dX4_readFact_132 : decode cX4_readFact 132 = .ok (.aload_n 0, 1) := by decide +kernel
theorem dX4_readFact_133 : decode cX4_readFact 133 = .ok (.iload_n 1, 1) := by decide +kernel
theorem dX4_readFact_134 : decode cX4_readFact 134 = .ok (.iconst 1, 1) := by decide +kernel
theorem dX4_readFact_135 : decode cX4_readFact 135 = .ok (.iadd, 1) := by decide +kernel
theorem dX4_readFact_136 : decode cX4_readFact 136 = .ok (.invokevirtual 131, 3) := by decide +kernel
theorem dX4_readFact_139 : decode cX4_readFact 139 = .ok (.ifCond .eq 16, 3) := by decide +kernel
theorem dX4_readFact_142 : decode cX4_readFact 142 = .ok (.aload_n 0, 1) := by decide +kernel
theorem dX4_readFact_143 : decode cX4_readFact 143 = .ok (.bipush 6, 2) := by decide +kernel
theorem dX4_readFact_145 : decode cX4_readFact 145 = .ok (.invokevirtual 108, 3) := by decide +kernel
theorem dX4_readFact_148 : decode cX4_readFact 148 = .ok (.ifCond .eq 7, 3) := by decide +kernel
theorem dX4_readFact_151 : decode cX4_readFact 151 = .ok (.iconst 1, 1) := by decide +kernel
theorem dX4_readFact_152 : decode cX4_readFact 152 = .ok (.goto 4, 3) := by decide +kernel
theorem dX4_readFact_155 : decode cX4_readFact 155 = .ok (.iconst 0, 1) := by decide +kernel
theorem dX4_readFact_156 : decode cX4_readFact 156 = .ok (.ireturn, 1) := by decide +kernel
theorem dX4_readFact_157 : decode cX4_readFact 157 = .ok (.aload_n 0, 1) := by decide +kernel
theorem dX4_readFact_158 : decode cX4_readFact 158 = .ok (.iload_n 1, 1) := by decide +kernel
theorem dX4_readFact_159 : decode cX4_readFact 159 = .ok (.iconst 1, 1) := by decide +kernel
theorem dX4_readFact_160 : decode cX4_readFact 160 = .ok (.iadd, 1) := by decide +kernel
theorem dX4_readFact_161 : decode cX4_readFact 161 = .ok (.invokevirtual 144, 3) := by decide +kernel
theorem dX4_readFact_164 : decode cX4_readFact 164 = .ok (.ifCond .eq 19, 3) := by decide +kernel
theorem dX4_readFact_167 : decode cX4_readFact 167 = .ok (.aload_n 0, 1) := by decide +kernel
theorem dX4_readFact_168 : decode cX4_readFact 168 = .ok (.getfield 25, 3) := by decide +kernel
theorem dX4_readFact_171 : decode cX4_readFact 171 = .ok (.iload_n 2, 1) := by decide +kernel
theorem dX4_readFact_172 : decode cX4_readFact 172 = .ok (.iconst 0, 1) := by decide +kernel
theorem dX4_readFact_173 : decode cX4_readFact 173 = .ok (.invokevirtual 141, 3) := by decide +kernel
theorem dX4_readFact_176 : decode cX4_readFact 176 = .ok (.ifCond .eq 7, 3) := by decide +kernel
theorem dX4_readFact_179 : decode cX4_readFact 179 = .ok (.iconst 1, 1) := by decide +kernel
theorem dX4_readFact_180 : decode cX4_readFact 180 = .ok (.goto 4, 3) := by decide +kernel
theorem dX4_readFact_183 : decode cX4_readFact 183 = .ok (.iconst 0, 1) := by decide +kernel
theorem dX4_readFact_184 : decode cX4_readFact 184 = .ok (.ireturn, 1) := by decide +kernel
theorem dX4_readFact_185 : decode cX4_readFact 185 = .ok (.aload_n 0, 1) := by decide +kernel
theorem dX4_readFact_186 : decode cX4_readFact 186 = .ok (.iconst 0, 1) := by decide +kernel
theorem dX4_readFact_187 : decode cX4_readFact 187 = .ok (.sipush 999, 3) := by decide +kernel
theorem dX4_readFact_190 : decode cX4_readFact 190 = .ok (.invokevirtual 94, 3) := by decide +kernel
theorem dX4_readFact_193 : decode cX4_readFact 193 = .ok (.ifCond .eq 22, 3) := by decide +kernel
theorem dX4_readFact_196 : decode cX4_readFact 196 = .ok (.aload_n 0, 1) := by decide +kernel
theorem dX4_readFact_197 : decode cX4_readFact 197 = .ok (.getfield 25, 3) := by decide +kernel
theorem dX4_readFact_200 : decode cX4_readFact 200 = .ok (.iload_n 2, 1) := by decide +kernel
theorem dX4_readFact_201 : decode cX4_readFact 201 = .ok (.aload_n 0, 1) := by decide +kernel
theorem dX4_readFact_202 : decode cX4_readFact 202 = .ok (.getfield 91, 3) := by decide +kernel
theorem dX4_readFact_205 : decode cX4_readFact 205 = .ok (.invokevirtual 141, 3) := by decide +kernel
theorem dX4_readFact_208 : decode cX4_readFact 208 = .ok (.ifCond .eq 7, 3) := by decide +kernel
theorem dX4_readFact_211 : decode cX4_readFact 211 = .ok (.iconst 1, 1) := by decide +kernel
theorem dX4_readFact_212 : decode cX4_readFact 212 = .ok (.goto 4, 3) := by decide +kernel
theorem dX4_readFact_215 : decode cX4_readFact 215 = .ok (.iconst 0, 1) := by decide +kernel
theorem dX4_readFact_216 : decode cX4_readFact 216 = .ok (.ireturn, 1) := by decide +kernel
theorem dX4_readFact_217 : decode cX4_readFact 217 = .ok (.aload_n 0, 1) := by decide +kernel
theorem dX4_readFact_218 : decode cX4_readFact 218 = .ok (.iconst 0, 1) := by decide +kernel
theorem dX4_readFact_219 : decode cX4_readFact 219 = .ok (.ldc 120, 2) := by decide +kernel
theorem dX4_readFact_221 : decode cX4_readFact 221 = .ok (.invokevirtual 94, 3) := by decide +kernel
theorem dX4_readFact_224 : decode cX4_readFact 224 = .ok (.ifCond .eq 22, 3) := by decide +kernel
theorem dX4_readFact_227 : decode cX4_readFact 227 = .ok (.aload_n 0, 1) := by decide +kernel
theorem dX4_readFact_228 : decode cX4_readFact 228 = .ok (.getfield 25, 3) := by decide +kernel
theorem dX4_readFact_231 : decode cX4_readFact 231 = .ok (.iload_n 2, 1) := by decide +kernel
theorem dX4_readFact_232 : decode cX4_readFact 232 = .ok (.aload_n 0, 1) := by decide +kernel
theorem dX4_readFact_233 : decode cX4_readFact 233 = .ok (.getfield 91, 3) := by decide +kernel
theorem dX4_readFact_236 : decode cX4_readFact 236 = .ok (.invokevirtual 141, 3) := by decide +kernel
theorem dX4_readFact_239 : decode cX4_readFact 239 = .ok (.ifCond .eq 7, 3) := by decide +kernel
theorem dX4_readFact_242 : decode cX4_readFact 242 = .ok (.iconst 1, 1) := by decide +kernel
theorem dX4_readFact_243 : decode cX4_readFact 243 = .ok (.goto 4, 3) := by decide +kernel
theorem dX4_readFact_246 : decode cX4_readFact 246 = .ok (.iconst 0, 1) := by decide +kernel
theorem dX4_readFact_247 : decode cX4_readFact 247 = .ok (.ireturn, 1) := by decide +kernel
theorem dX4_readFact_248 : decode cX4_readFact 248 = .ok (.aload_n 0, 1) := by decide +kernel
theorem dX4_readFact_249 : decode cX4_readFact 249 = .ok (.invokevirtual 150, 3) := by decide +kernel
theorem dX4_readFact_252 : decode cX4_readFact 252 = .ok (.ireturn, 1) := by decide +kernel
theorem dX4_readFact_253 : decode cX4_readFact 253 = .ok (.aload_n 0, 1) := by decide +kernel
theorem dX4_readFact_254 : decode cX4_readFact 254 = .ok (.invokevirtual 153, 3) := by decide +kernel
theorem dX4_readFact_257 : decode cX4_readFact 257 = .ok (.ireturn, 1) := by decide +kernel
theorem dX4_readFact_258 : decode cX4_readFact 258 = .ok (.aload_n 0, 1) := by decide +kernel
theorem dX4_readFact_259 : decode cX4_readFact 259 = .ok (.getfield 25, 3) := by decide +kernel
theorem dX4_readFact_262 : decode cX4_readFact 262 = .ok (.iload_n 2, 1) := by decide +kernel
theorem dX4_readFact_263 : decode cX4_readFact 263 = .ok (.iconst 0, 1) := by decide +kernel
theorem dX4_readFact_264 : decode cX4_readFact 264 = .ok (.invokevirtual 141, 3) := by decide +kernel
theorem dX4_readFact_267 : decode cX4_readFact 267 = .ok (.ireturn, 1) := by decide +kernel
theorem dX4_readFee_0 : decode cX4_readFee 0 = .ok (.aload_n 0, 1) := by decide +kernel
theorem dX4_readFee_1 : decode cX4_readFee 1 = .ok (.aload_n 0, 1) := by decide +kernel
theorem dX4_readFee_2 : decode cX4_readFee 2 = .ok (.getfield 70, 3) := by decide +kernel
theorem dX4_readFee_5 : decode cX4_readFee 5 = .ok (.iconst 1, 1) := by decide +kernel
theorem dX4_readFee_6 : decode cX4_readFee 6 = .ok (.iadd, 1) := by decide +kernel
theorem dX4_readFee_7 : decode cX4_readFee 7 = .ok (.invokevirtual 38, 3) := by decide +kernel
theorem dX4_readFee_10 : decode cX4_readFee 10 = .ok (.aload_n 0, 1) := by decide +kernel
theorem dX4_readFee_11 : decode cX4_readFee 11 = .ok (.iconst 0, 1) := by decide +kernel
theorem dX4_readFee_12 : decode cX4_readFee 12 = .ok (.sipush 2000, 3) := by decide +kernel
theorem dX4_readFee_15 : decode cX4_readFee 15 = .ok (.invokevirtual 94, 3) := by decide +kernel
theorem dX4_readFee_18 : decode cX4_readFee 18 = .ok (.ifCond .ne 5, 3) := by decide +kernel
theorem dX4_readFee_21 : decode cX4_readFee 21 = .ok (.iconst 0, 1) := by decide +kernel
theorem dX4_readFee_22 : decode cX4_readFee 22 = .ok (.ireturn, 1) := by decide +kernel
theorem dX4_readFee_23 : decode cX4_readFee 23 = .ok (.aload_n 0, 1) := by decide +kernel
theorem dX4_readFee_24 : decode cX4_readFee 24 = .ok (.getfield 25, 3) := by decide +kernel
theorem dX4_readFee_27 : decode cX4_readFee 27 = .ok (.aload_n 0, 1) := by decide +kernel
theorem dX4_readFee_28 : decode cX4_readFee 28 = .ok (.getfield 91, 3) := by decide +kernel
theorem dX4_readFee_31 : decode cX4_readFee 31 = .ok (.putfield 111, 3) := by decide +kernel
theorem dX4_readFee_34 : decode cX4_readFee 34 = .ok (.aload_n 0, 1) := by decide +kernel
theorem dX4_readFee_35 : decode cX4_readFee 35 = .ok (.bipush 7, 2) := by decide +kernel
theorem dX4_readFee_37 : decode cX4_readFee 37 = .ok (.invokevirtual 108, 3) := by decide +kernel
theorem dX4_readFee_40 : decode cX4_readFee 40 = .ok (.ireturn, 1) := by decide +kernel
theorem dX4_readGrace_0 : decode cX4_readGrace 0 = .ok (.aload_n 0, 1) := by decide +kernel
theorem dX4_readGrace_1 : decode cX4_readGrace 1 = .ok (.aload_n 0, 1) := by decide +kernel
theorem dX4_readGrace_2 : decode cX4_readGrace 2 = .ok (.getfield 70, 3) := by decide +kernel
theorem dX4_readGrace_5 : decode cX4_readGrace 5 = .ok (.iconst 1, 1) := by decide +kernel
theorem dX4_readGrace_6 : decode cX4_readGrace 6 = .ok (.iadd, 1) := by decide +kernel
theorem dX4_readGrace_7 : decode cX4_readGrace 7 = .ok (.invokevirtual 38, 3) := by decide +kernel
theorem dX4_readGrace_10 : decode cX4_readGrace 10 = .ok (.aload_n 0, 1) := by decide +kernel
theorem dX4_readGrace_11 : decode cX4_readGrace 11 = .ok (.iconst 0, 1) := by decide +kernel
theorem dX4_readGrace_12 : decode cX4_readGrace 12 = .ok (.bipush 60, 2) := by decide +kernel
theorem dX4_readGrace_14 : decode cX4_readGrace 14 = .ok (.invokevirtual 94, 3) := by decide +kernel
theorem dX4_readGrace_17 : decode cX4_readGrace 17 = .ok (.ifCond .ne 5, 3) := by decide +kernel
theorem dX4_readGrace_20 : decode cX4_readGrace 20 = .ok (.iconst 0, 1) := by decide +kernel
theorem dX4_readGrace_21 : decode cX4_readGrace 21 = .ok (.ireturn, 1) := by decide +kernel
theorem dX4_readGrace_22 : decode cX4_readGrace 22 = .ok (.aload_n 0, 1) := by decide +kernel
theorem dX4_readGrace_23 : decode cX4_readGrace 23 = .ok (.getfield 25, 3) := by decide +kernel
theorem dX4_readGrace_26 : decode cX4_readGrace 26 = .ok (.aload_n 0, 1) := by decide +kernel
theorem dX4_readGrace_27 : decode cX4_readGrace 27 = .ok (.getfield 91, 3) := by decide +kernel
theorem dX4_readGrace_30 : decode cX4_readGrace 30 = .ok (.putfield 114, 3) := by decide +kernel
theorem dX4_readGrace_33 : decode cX4_readGrace 33 = .ok (.aload_n 0, 1) := by decide +kernel
theorem dX4_readGrace_34 : decode cX4_readGrace 34 = .ok (.bipush 7, 2) := by decide +kernel
theorem dX4_readGrace_36 : decode cX4_readGrace 36 = .ok (.invokevirtual 108, 3) := by decide +kernel
theorem dX4_readGrace_39 : decode cX4_readGrace 39 = .ok (.ireturn, 1) := by decide +kernel
theorem dX4_readProofName_0 : decode cX4_readProofName 0 = .ok (.aload_n 0, 1) := by decide +kernel
theorem dX4_readProofName_1 : decode cX4_readProofName 1 = .ok (.getfield 42, 3) := by decide +kernel
theorem dX4_readProofName_4 : decode cX4_readProofName 4 = .ok (.iconst 4, 1) := by decide +kernel
theorem dX4_readProofName_5 : decode cX4_readProofName 5 = .ok (.if_icmp .eq 9, 3) := by decide +kernel
theorem dX4_readProofName_8 : decode cX4_readProofName 8 = .ok (.aload_n 0, 1) := by decide +kernel
theorem dX4_readProofName_9 : decode cX4_readProofName 9 = .ok (.iconst 2, 1) := by decide +kernel
theorem dX4_readProofName_10 : decode cX4_readProofName 10 = .ok (.invokevirtual 63, 3) := by decide +kernel
theorem dX4_readProofName_13 : decode cX4_readProofName 13 = .ok (.ireturn, 1) := by decide +kernel
theorem dX4_readProofName_14 : decode cX4_readProofName 14 = .ok (.aload_n 0, 1) := by decide +kernel
theorem dX4_readProofName_15 : decode cX4_readProofName 15 = .ok (.getfield 25, 3) := by decide +kernel
theorem dX4_readProofName_18 : decode cX4_readProofName 18 = .ok (.aload_n 0, 1) := by decide +kernel
theorem dX4_readProofName_19 : decode cX4_readProofName 19 = .ok (.getfield 87, 3) := by decide +kernel
theorem dX4_readProofName_22 : decode cX4_readProofName 22 = .ok (.invokevirtual 156, 3) := by decide +kernel
theorem dX4_readProofName_25 : decode cX4_readProofName 25 = .ok (.istore_n 1, 1) := by decide +kernel
theorem dX4_readProofName_26 : decode cX4_readProofName 26 = .ok (.iload_n 1, 1) := by decide +kernel
theorem dX4_readProofName_27 : decode cX4_readProofName 27 = .ok (.iconst (-1), 1) := by decide +kernel
theorem dX4_readProofName_28 : decode cX4_readProofName 28 = .ok (.if_icmp .ne 9, 3) := by decide +kernel
theorem dX4_readProofName_31 : decode cX4_readProofName 31 = .ok (.aload_n 0, 1) := by decide +kernel
theorem dX4_readProofName_32 : decode cX4_readProofName 32 = .ok (.iconst 5, 1) := by decide +kernel
theorem dX4_readProofName_33 : decode cX4_readProofName 33 = .ok (.invokevirtual 63, 3) := by decide +kernel
theorem dX4_readProofName_36 : decode cX4_readProofName 36 = .ok (.ireturn, 1) := by decide +kernel
theorem dX4_readProofName_37 : decode cX4_readProofName 37 = .ok (.aload_n 0, 1) := by decide +kernel
theorem dX4_readProofName_38 : decode cX4_readProofName 38 = .ok (.aload_n 0, 1) := by decide +kernel
theorem dX4_readProofName_39 : decode cX4_readProofName 39 = .ok (.getfield 70, 3) := by decide +kernel
theorem dX4_readProofName_42 : decode cX4_readProofName 42 = .ok (.iconst 1, 1) := by decide +kernel
theorem dX4_readProofName_43 : decode cX4_readProofName 43 = .ok (.iadd, 1) := by decide +kernel
theorem dX4_readProofName_44 : decode cX4_readProofName 44 = .ok (.invokevirtual 38, 3) := by decide +kernel
theorem dX4_readProofName_47 : decode cX4_readProofName 47 = .ok (.aload_n 0, 1) := by decide +kernel
theorem dX4_readProofName_48 : decode cX4_readProofName 48 = .ok (.getfield 25, 3) := by decide +kernel
theorem dX4_readProofName_51 : decode cX4_readProofName 51 = .ok (.bipush 18, 2) := by decide +kernel
theorem dX4_readProofName_53 : decode cX4_readProofName 53 = .ok (.iload_n 1, 1) := by decide +kernel
theorem dX4_readProofName_54 : decode cX4_readProofName 54 = .ok (.invokevirtual 141, 3) := by decide +kernel
theorem dX4_readProofName_57 : decode cX4_readProofName 57 = .ok (.ireturn, 1) := by decide +kernel
theorem dX4_readRate_0 : decode cX4_readRate 0 = .ok (.aload_n 0, 1) := by decide +kernel
theorem dX4_readRate_1 : decode cX4_readRate 1 = .ok (.aload_n 0, 1) := by decide +kernel
theorem dX4_readRate_2 : decode cX4_readRate 2 = .ok (.getfield 70, 3) := by decide +kernel
theorem dX4_readRate_5 : decode cX4_readRate 5 = .ok (.iconst 1, 1) := by decide +kernel
theorem dX4_readRate_6 : decode cX4_readRate 6 = .ok (.iadd, 1) := by decide +kernel
theorem dX4_readRate_7 : decode cX4_readRate 7 = .ok (.invokevirtual 38, 3) := by decide +kernel
theorem dX4_readRate_10 : decode cX4_readRate 10 = .ok (.aload_n 0, 1) := by decide +kernel
theorem dX4_readRate_11 : decode cX4_readRate 11 = .ok (.iconst 0, 1) := by decide +kernel
theorem dX4_readRate_12 : decode cX4_readRate 12 = .ok (.sipush 3000, 3) := by decide +kernel
theorem dX4_readRate_15 : decode cX4_readRate 15 = .ok (.invokevirtual 94, 3) := by decide +kernel
theorem dX4_readRate_18 : decode cX4_readRate 18 = .ok (.ifCond .ne 5, 3) := by decide +kernel
theorem dX4_readRate_21 : decode cX4_readRate 21 = .ok (.iconst 0, 1) := by decide +kernel
theorem dX4_readRate_22 : decode cX4_readRate 22 = .ok (.ireturn, 1) := by decide +kernel
theorem dX4_readRate_23 : decode cX4_readRate 23 = .ok (.aload_n 0, 1) := by decide +kernel
theorem dX4_readRate_24 : decode cX4_readRate 24 = .ok (.getfield 25, 3) := by decide +kernel
theorem dX4_readRate_27 : decode cX4_readRate 27 = .ok (.aload_n 0, 1) := by decide +kernel
theorem dX4_readRate_28 : decode cX4_readRate 28 = .ok (.getfield 91, 3) := by decide +kernel
theorem dX4_readRate_31 : decode cX4_readRate 31 = .ok (.putfield 98, 3) := by decide +kernel
theorem dX4_readRate_34 : decode cX4_readRate 34 = .ok (.aload_n 0, 1) := by decide +kernel
theorem dX4_readRate_35 : decode cX4_readRate 35 = .ok (.getfield 42, 3) := by decide +kernel
theorem dX4_readRate_38 : decode cX4_readRate 38 = .ok (.iconst 3, 1) := by decide +kernel
theorem dX4_readRate_39 : decode cX4_readRate 39 = .ok (.if_icmp .ne 19, 3) := by decide +kernel
theorem dX4_readRate_42 : decode cX4_readRate 42 = .ok (.aload_n 0, 1) := by decide +kernel
theorem dX4_readRate_43 : decode cX4_readRate 43 = .ok (.getfield 87, 3) := by decide +kernel
theorem dX4_readRate_46 : decode cX4_readRate 46 = .ok (.invokestatic 101, 3) := by decide +kernel
theorem dX4_readRate_49 : decode cX4_readRate 49 = .ok (.ifCond .ne 9, 3) := by decide +kernel
theorem dX4_readRate_52 : decode cX4_readRate 52 = .ok (.aload_n 0, 1) := by decide +kernel
theorem dX4_readRate_53 : decode cX4_readRate 53 = .ok (.iconst 3, 1) := by decide +kernel
theorem dX4_readRate_54 : decode cX4_readRate 54 = .ok (.invokevirtual 63, 3) := by decide +kernel
theorem dX4_readRate_57 : decode cX4_readRate 57 = .ok (.ireturn, 1) := by decide +kernel
theorem dX4_readRate_58 : decode cX4_readRate 58 = .ok (.aload_n 0, 1) := by decide +kernel
theorem dX4_readRate_59 : decode cX4_readRate 59 = .ok (.sipush 360, 3) := by decide +kernel
theorem dX4_readRate_62 : decode cX4_readRate 62 = .ok (.sipush 365, 3) := by decide +kernel
theorem dX4_readRate_65 : decode cX4_readRate 65 = .ok (.invokevirtual 94, 3) := by decide +kernel
theorem dX4_readRate_68 : decode cX4_readRate 68 = .ok (.ifCond .ne 5, 3) := by decide +kernel
theorem dX4_readRate_71 : decode cX4_readRate 71 = .ok (.iconst 0, 1) := by decide +kernel
theorem dX4_readRate_72 : decode cX4_readRate 72 = .ok (.ireturn, 1) := by decide +kernel
theorem dX4_readRate_73 : decode cX4_readRate 73 = .ok (.aload_n 0, 1) := by decide +kernel
theorem dX4_readRate_74 : decode cX4_readRate 74 = .ok (.getfield 25, 3) := by decide +kernel
theorem dX4_readRate_77 : decode cX4_readRate 77 = .ok (.aload_n 0, 1) := by decide +kernel
theorem dX4_readRate_78 : decode cX4_readRate 78 = .ok (.getfield 91, 3) := by decide +kernel
theorem dX4_readRate_81 : decode cX4_readRate 81 = .ok (.putfield 105, 3) := by decide +kernel
theorem dX4_readRate_84 : decode cX4_readRate 84 = .ok (.aload_n 0, 1) := by decide +kernel
theorem dX4_readRate_85 : decode cX4_readRate 85 = .ok (.bipush 7, 2) := by decide +kernel
theorem dX4_readRate_87 : decode cX4_readRate 87 = .ok (.invokevirtual 108, 3) := by decide +kernel
theorem dX4_readRate_90 : decode cX4_readRate 90 = .ok (.ireturn, 1) := by decide +kernel
theorem dX4_take_0 : decode cX4_take 0 = .ok (.aload_n 0, 1) := by decide +kernel
theorem dX4_take_1 : decode cX4_take 1 = .ok (.getfield 42, 3) := by decide +kernel
theorem dX4_take_4 : decode cX4_take 4 = .ok (.iload_n 1, 1) := by decide +kernel
theorem dX4_take_5 : decode cX4_take 5 = .ok (.if_icmp .eq 9, 3) := by decide +kernel
theorem dX4_take_8 : decode cX4_take 8 = .ok (.aload_n 0, 1) := by decide +kernel
theorem dX4_take_9 : decode cX4_take 9 = .ok (.iconst 2, 1) := by decide +kernel
theorem dX4_take_10 : decode cX4_take 10 = .ok (.invokevirtual 63, 3) := by decide +kernel
theorem dX4_take_13 : decode cX4_take 13 = .ok (.ireturn, 1) := by decide +kernel
theorem dX4_take_14 : decode cX4_take 14 = .ok (.aload_n 0, 1) := by decide +kernel
theorem dX4_take_15 : decode cX4_take 15 = .ok (.aload_n 0, 1) := by decide +kernel
theorem dX4_take_16 : decode cX4_take 16 = .ok (.getfield 70, 3) := by decide +kernel
theorem dX4_take_19 : decode cX4_take 19 = .ok (.iconst 1, 1) := by decide +kernel
theorem dX4_take_20 : decode cX4_take 20 = .ok (.iadd, 1) := by decide +kernel
theorem dX4_take_21 : decode cX4_take 21 = .ok (.invokevirtual 38, 3) := by decide +kernel
theorem dX4_take_24 : decode cX4_take 24 = .ok (.iconst 1, 1) := by decide +kernel
theorem dX4_take_25 : decode cX4_take 25 = .ok (.ireturn, 1) := by decide +kernel
theorem dX4_takeNumber_0 : decode cX4_takeNumber 0 = .ok (.aload_n 0, 1) := by decide +kernel
theorem dX4_takeNumber_1 : decode cX4_takeNumber 1 = .ok (.getfield 42, 3) := by decide +kernel
theorem dX4_takeNumber_4 : decode cX4_takeNumber 4 = .ok (.iconst 3, 1) := by decide +kernel
theorem dX4_takeNumber_5 : decode cX4_takeNumber 5 = .ok (.if_icmp .eq 9, 3) := by decide +kernel
theorem dX4_takeNumber_8 : decode cX4_takeNumber 8 = .ok (.aload_n 0, 1) := by decide +kernel
theorem dX4_takeNumber_9 : decode cX4_takeNumber 9 = .ok (.iconst 2, 1) := by decide +kernel
theorem dX4_takeNumber_10 : decode cX4_takeNumber 10 = .ok (.invokevirtual 63, 3) := by decide +kernel
theorem dX4_takeNumber_13 : decode cX4_takeNumber 13 = .ok (.ireturn, 1) := by decide +kernel
theorem dX4_takeNumber_14 : decode cX4_takeNumber 14 = .ok (.aload_n 0, 1) := by decide +kernel
theorem dX4_takeNumber_15 : decode cX4_takeNumber 15 = .ok (.getfield 87, 3) := by decide +kernel
theorem dX4_takeNumber_18 : decode cX4_takeNumber 18 = .ok (.iload_n 1, 1) := by decide +kernel
theorem dX4_takeNumber_19 : decode cX4_takeNumber 19 = .ok (.i2l, 1) := by decide +kernel
theorem dX4_takeNumber_20 : decode cX4_takeNumber 20 = .ok (.lcmp, 1) := by decide +kernel
theorem dX4_takeNumber_21 : decode cX4_takeNumber 21 = .ok (.ifCond .lt 13, 3) := by decide +kernel
theorem dX4_takeNumber_24 : decode cX4_takeNumber 24 = .ok (.aload_n 0, 1) := by decide +kernel
theorem dX4_takeNumber_25 : decode cX4_takeNumber 25 = .ok (.getfield 87, 3) := by decide +kernel
theorem dX4_takeNumber_28 : decode cX4_takeNumber 28 = .ok (.iload_n 2, 1) := by decide +kernel
theorem dX4_takeNumber_29 : decode cX4_takeNumber 29 = .ok (.i2l, 1) := by decide +kernel
theorem dX4_takeNumber_30 : decode cX4_takeNumber 30 = .ok (.lcmp, 1) := by decide +kernel
theorem dX4_takeNumber_31 : decode cX4_takeNumber 31 = .ok (.ifCond .le 9, 3) := by decide +kernel
theorem dX4_takeNumber_34 : decode cX4_takeNumber 34 = .ok (.aload_n 0, 1) := by decide +kernel
theorem dX4_takeNumber_35 : decode cX4_takeNumber 35 = .ok (.iconst 3, 1) := by decide +kernel
theorem dX4_takeNumber_36 : decode cX4_takeNumber 36 = .ok (.invokevirtual 63, 3) := by decide +kernel
theorem dX4_takeNumber_39 : decode cX4_takeNumber 39 = .ok (.ireturn, 1) := by decide +kernel
theorem dX4_takeNumber_40 : decode cX4_takeNumber 40 = .ok (.aload_n 0, 1) := by decide +kernel
theorem dX4_takeNumber_41 : decode cX4_takeNumber 41 = .ok (.aload_n 0, 1) := by decide +kernel
theorem dX4_takeNumber_42 : decode cX4_takeNumber 42 = .ok (.getfield 87, 3) := by decide +kernel
theorem dX4_takeNumber_45 : decode cX4_takeNumber 45 = .ok (.l2i, 1) := by decide +kernel
theorem dX4_takeNumber_46 : decode cX4_takeNumber 46 = .ok (.putfield 91, 3) := by decide +kernel
theorem dX4_takeNumber_49 : decode cX4_takeNumber 49 = .ok (.aload_n 0, 1) := by decide +kernel
theorem dX4_takeNumber_50 : decode cX4_takeNumber 50 = .ok (.aload_n 0, 1) := by decide +kernel
theorem dX4_takeNumber_51 : decode cX4_takeNumber 51 = .ok (.getfield 70, 3) := by decide +kernel
theorem dX4_takeNumber_54 : decode cX4_takeNumber 54 = .ok (.iconst 1, 1) := by decide +kernel
theorem dX4_takeNumber_55 : decode cX4_takeNumber 55 = .ok (.iadd, 1) := by decide +kernel
theorem dX4_takeNumber_56 : decode cX4_takeNumber 56 = .ok (.invokevirtual 38, 3) := by decide +kernel
theorem dX4_takeNumber_59 : decode cX4_takeNumber 59 = .ok (.iconst 1, 1) := by decide +kernel
theorem dX4_takeNumber_60 : decode cX4_takeNumber 60 = .ok (.ireturn, 1) := by decide +kernel
theorem dX7_beginsFact_0 : decode cX7_beginsFact 0 = .ok (.iload_n 0, 1) := by decide +kernel
theorem dX7_beginsFact_1 : decode cX7_beginsFact 1 = .ok (.iconst 5, 1) := by decide +kernel
theorem dX7_beginsFact_2 : decode cX7_beginsFact 2 = .ok (.if_icmp .eq 15, 3) := by decide +kernel
theorem dX7_beginsFact_5 : decode cX7_beginsFact 5 = .ok (.iload_n 0, 1) := by decide +kernel
theorem dX7_beginsFact_6 : decode cX7_beginsFact 6 = .ok (.bipush 16, 2) := by decide +kernel
theorem dX7_beginsFact_8 : decode cX7_beginsFact 8 = .ok (.if_icmp .lt 13, 3) := by decide +kernel
theorem dX7_beginsFact_11 : decode cX7_beginsFact 11 = .ok (.iload_n 0, 1) := by decide +kernel
theorem dX7_beginsFact_12 : decode cX7_beginsFact 12 = .ok (.bipush 22, 2) := by decide +kernel
theorem dX7_beginsFact_14 : decode cX7_beginsFact 14 = .ok (.if_icmp .gt 7, 3) := by decide +kernel
theorem dX7_beginsFact_17 : decode cX7_beginsFact 17 = .ok (.iconst 1, 1) := by decide +kernel
theorem dX7_beginsFact_18 : decode cX7_beginsFact 18 = .ok (.goto 4, 3) := by decide +kernel
theorem dX7_beginsFact_21 : decode cX7_beginsFact 21 = .ok (.iconst 0, 1) := by decide +kernel
theorem dX7_beginsFact_22 : decode cX7_beginsFact 22 = .ok (.ireturn, 1) := by decide +kernel
