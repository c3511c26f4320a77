set_option maxRecDepth 20000 in
theorem ggX10_feed_X10_append : GoodIn wsX10_feed wsX10_append := goodIn_r _ [7, 8, 2, 9, 10, 11, 12, 13, 14, 15, 16, 17, 18, 19, 20, 21, 22, 23, 24, 25, 26, 27, 28, 29, 30, 31, 32, 33, 34, 35, 36, 37, 38, 39, 40, 41, 42, 43, 44, 45, 46, 47] (by decide +kernel) (by decide +kernel)
set_option maxRecDepth 20000 in
theorem gX10_feed_X10_append : GoodIn wsX10_feed (wsV RX10 93 RX10 yX10_append wsX10_append) := goodIn_app (goodIn_of _ (by decide +kernel)) ggX10_feed_X10_append
set_option maxRecDepth 20000 in
theorem ggX10_refund_X10_enter : GoodIn wsX10_refund wsX10_enter := goodIn_r _ [5] (by decide +kernel) (by decide +kernel)
set_option maxRecDepth 20000 in
theorem gX10_refund_X10_enter : GoodIn wsX10_refund (va_wsS RX10 229 yX10_enter wsX10_enter) := goodIn_app (goodIn_of _ (by decide +kernel)) ggX10_refund_X10_enter
set_option maxRecDepth 20000 in
theorem ggX10_credit_X10_enter : GoodIn wsX10_credit wsX10_enter := goodIn_r _ [7] (by decide +kernel) (by decide +kernel)
set_option maxRecDepth 20000 in
theorem gX10_credit_X10_enter : GoodIn wsX10_credit (va_wsS RX10 229 yX10_enter wsX10_enter) := goodIn_app (goodIn_of _ (by decide +kernel)) ggX10_credit_X10_enter
set_option maxRecDepth 20000 in
theorem ggX10_passDay_X10_credit : GoodIn wsX10_passDay wsX10_credit := goodIn_r _ [7, 8, 2, 1, 9, 10, 6, 11, 85, 86, 87, 88, 89, 90, 91, 92, 93, 94, 95, 96, 97, 98, 99, 100, 101, 102, 103, 104, 105, 106, 107, 108, 109, 110, 111, 112, 113, 114, 115, 116, 117, 118, 119, 120, 121, 122, 123] (by decide +kernel) (by decide +kernel)
set_option maxRecDepth 20000 in
theorem gX10_passDay_X10_credit : GoodIn wsX10_passDay (wsV RX10 315 RX10 yX10_credit wsX10_credit) := goodIn_app (goodIn_of _ (by decide +kernel)) ggX10_passDay_X10_credit
set_option maxRecDepth 20000 in
theorem ggX10_passDay_X10_becomeDue : GoodIn wsX10_passDay wsX10_becomeDue := goodIn_r _ [15, 2, 16, 17, 18, 6, 19, 20, 21, 22, 23, 24, 25, 26, 27, 28, 29, 30, 31, 32, 33, 34, 35, 36, 37, 38, 39, 85, 86, 87, 88, 89, 90, 91, 92, 93, 94, 95, 96, 97, 98, 99, 100, 101, 102, 103, 104, 105, 106, 107, 108, 109, 110, 111, 112, 113, 114, 115, 116, 117, 118, 119, 120, 121, 122, 123] (by decide +kernel) (by decide +kernel)
set_option maxRecDepth 20000 in
theorem gX10_passDay_X10_becomeDue : GoodIn wsX10_passDay (wsV RX10 318 RX10 yX10_becomeDue wsX10_becomeDue) := goodIn_app (goodIn_of _ (by decide +kernel)) ggX10_passDay_X10_becomeDue
set_option maxRecDepth 20000 in
theorem ggX10_passDay_X10_payDue : GoodIn wsX10_passDay wsX10_payDue := goodIn_r _ [43, 44, 45, 46, 47, 48, 49, 50, 51, 6, 52, 2, 20, 21, 22, 23, 53, 54, 55, 56, 57, 58, 59, 60, 61, 62, 63, 64, 65, 66, 67, 68, 69, 70, 71, 72, 73, 74, 75, 76, 77, 78, 79, 80, 8, 36, 37, 38, 39, 9, 10, 11, 81, 82, 83, 84, 85, 86, 87, 88, 89, 90, 91, 92, 93, 94, 95, 96, 97, 98, 99, 100, 101, 102, 103, 104, 105, 106, 107, 108, 109, 110, 111, 112, 113, 114, 115, 116, 117, 118, 119, 120, 121, 122, 123] (by decide +kernel) (by decide +kernel)
set_option maxRecDepth 20000 in
theorem gX10_passDay_X10_payDue : GoodIn wsX10_passDay (wsV RX10 321 RX10 yX10_payDue wsX10_payDue) := goodIn_app (goodIn_of _ (by decide +kernel)) ggX10_passDay_X10_payDue
set_option maxRecDepth 20000 in
theorem ggX10_passDays_X10_passDay : GoodIn wsX10_passDays wsX10_passDay := goodIn_r _ [5, 6, 7, 8, 9, 10, 4, 11, 12, 13, 14, 15, 16, 17, 18, 19, 20, 21, 22, 23, 24, 25, 26, 27, 28, 29, 30, 31, 32, 33, 34, 35, 36, 37, 38, 39, 40, 41, 42, 43, 44, 45, 46, 47, 48, 49, 50, 51, 52, 53, 54, 55, 56, 57, 58, 59, 60, 61, 62, 63, 64, 65, 66, 67, 68, 69, 70, 71, 72, 73, 74, 75, 76, 77, 78, 79, 80, 81, 82, 83, 84, 85, 86, 87, 88, 89, 90, 91, 92, 93, 94, 95, 96, 97, 98, 99, 100, 101, 102, 103, 104, 105, 106, 107, 108, 109, 110, 111, 112, 113, 114, 115, 116, 117, 118, 119, 120, 121, 122, 123, 124, 125, 126, 127] (by decide +kernel) (by decide +kernel)
set_option maxRecDepth 20000 in
theorem gX10_passDays_X10_passDay : GoodIn wsX10_passDays (wsV RX10 324 RX10 yX10_passDay wsX10_passDay) := goodIn_app (goodIn_of _ (by decide +kernel)) ggX10_passDays_X10_passDay
set_option maxRecDepth 20000 in
theorem ggX10_beginTrial_X10_copy : GoodIn wsX10_beginTrial wsX10_copy := goodIn_r _ [8] (by decide +kernel) (by decide +kernel)
set_option maxRecDepth 20000 in
theorem gX10_beginTrial_X10_copy : GoodIn wsX10_beginTrial (va_wsS RX10 245 yX10_copy wsX10_copy) := goodIn_app (goodIn_of _ (by decide +kernel)) ggX10_beginTrial_X10_copy
set_option maxRecDepth 20000 in
theorem ggX10_endTrial_X10_copy : GoodIn wsX10_endTrial wsX10_copy := goodIn_r _ [8] (by decide +kernel) (by decide +kernel)
set_option maxRecDepth 20000 in
theorem gX10_endTrial_X10_copy : GoodIn wsX10_endTrial (va_wsS RX10 245 yX10_copy wsX10_copy) := goodIn_app (goodIn_of _ (by decide +kernel)) ggX10_endTrial_X10_copy
set_option maxRecDepth 20000 in
theorem ggX10_paymentsAfter_X10_isTrial : GoodIn wsX10_paymentsAfter wsX10_isTrial := goodIn_r _ [5, 6, 7, 8, 4, 9] (by decide +kernel) (by decide +kernel)
set_option maxRecDepth 20000 in
theorem gX10_paymentsAfter_X10_isTrial : GoodIn wsX10_paymentsAfter (va_wsS RX10 363 yX10_isTrial wsX10_isTrial) := goodIn_app (goodIn_of _ (by decide +kernel)) ggX10_paymentsAfter_X10_isTrial
set_option maxRecDepth 20000 in
theorem ggX10_paymentsAfter_X10_good : GoodIn wsX10_paymentsAfter wsX10_good := goodIn_r _ [13, 14, 118, 119, 120, 121, 122, 123, 124, 125, 126, 127, 128, 129, 130, 131, 132, 133, 134, 135, 136, 137, 138, 139, 140, 141, 142, 143, 144, 145, 146, 147, 148, 149, 150, 151, 152, 153, 154, 155, 156] (by decide +kernel) (by decide +kernel)
set_option maxRecDepth 20000 in
theorem gX10_paymentsAfter_X10_good : GoodIn wsX10_paymentsAfter (wsV RX10 333 RX10 yX10_good wsX10_good) := goodIn_app (goodIn_of _ (by decide +kernel)) ggX10_paymentsAfter_X10_good
set_option maxRecDepth 20000 in
theorem ggX10_paymentsAfter_X10_beginTrial : GoodIn wsX10_paymentsAfter wsX10_beginTrial := goodIn_r _ [18, 1, 19, 20, 21, 22, 23, 4, 24, 118, 119, 120, 121, 122, 123, 124, 125, 126, 127, 128, 129, 130, 131, 132, 133, 134, 135, 136, 137, 138, 139, 140, 141, 142, 143, 144, 145, 146, 147, 148, 149, 150, 151, 152, 153, 154, 155, 156] (by decide +kernel) (by decide +kernel)
set_option maxRecDepth 20000 in
theorem gX10_paymentsAfter_X10_beginTrial : GoodIn wsX10_paymentsAfter (wsV RX10 366 RX10 yX10_beginTrial wsX10_beginTrial) := goodIn_app (goodIn_of _ (by decide +kernel)) ggX10_paymentsAfter_X10_beginTrial
set_option maxRecDepth 20000 in
theorem ggX10_paymentsAfter_X10_passDays : GoodIn wsX10_paymentsAfter wsX10_passDays := goodIn_r _ [28, 29, 30, 31, 4, 32, 20, 1, 33, 34, 35, 36, 37, 38, 39, 40, 41, 42, 43, 44, 45, 46, 47, 48, 49, 50, 51, 52, 53, 54, 55, 56, 57, 58, 59, 60, 61, 62, 63, 64, 65, 66, 67, 68, 69, 70, 71, 72, 73, 74, 75, 76, 77, 78, 79, 80, 81, 82, 83, 84, 85, 86, 87, 88, 89, 90, 91, 92, 93, 94, 95, 96, 97, 98, 99, 100, 101, 102, 103, 104, 105, 106, 107, 108, 109, 110, 111, 112, 113, 118, 119, 120, 121, 122, 123, 124, 125, 126, 127, 128, 129, 130, 131, 132, 133, 134, 135, 136, 137, 138, 139, 140, 141, 142, 143, 144, 145, 146, 147, 148, 149, 150, 151, 152, 153, 154, 155, 156] (by decide +kernel) (by decide +kernel)
set_option maxRecDepth 20000 in
theorem gX10_paymentsAfter_X10_passDays : GoodIn wsX10_paymentsAfter (wsV RX10 369 RX10 yX10_passDays wsX10_passDays) := goodIn_app (goodIn_of _ (by decide +kernel)) ggX10_paymentsAfter_X10_passDays
set_option maxRecDepth 20000 in
theorem ggX10_paymentsAfter_X10_endTrial : GoodIn wsX10_paymentsAfter wsX10_endTrial := goodIn_r _ [117, 19, 1, 21, 20, 22, 23, 4, 24, 118, 119, 120, 121, 122, 123, 124, 125, 126, 127, 128, 129, 130, 131, 132, 133, 134, 135, 136, 137, 138, 139, 140, 141, 142, 143, 144, 145, 146, 147, 148, 149, 150, 151, 152, 153, 154, 155, 156] (by decide +kernel) (by decide +kernel)
set_option maxRecDepth 20000 in
theorem gX10_paymentsAfter_X10_endTrial : GoodIn wsX10_paymentsAfter (wsV RX10 372 RX10 yX10_endTrial wsX10_endTrial) := goodIn_app (goodIn_of _ (by decide +kernel)) ggX10_paymentsAfter_X10_endTrial
set_option maxRecDepth 20000 in
theorem ggX10_creditedAfter_X10_isTrial : GoodIn wsX10_creditedAfter wsX10_isTrial := goodIn_r _ [5, 6, 7, 8, 4, 9] (by decide +kernel) (by decide +kernel)
set_option maxRecDepth 20000 in
theorem gX10_creditedAfter_X10_isTrial : GoodIn wsX10_creditedAfter (va_wsS RX10 363 yX10_isTrial wsX10_isTrial) := goodIn_app (goodIn_of _ (by decide +kernel)) ggX10_creditedAfter_X10_isTrial
set_option maxRecDepth 20000 in
theorem ggX10_creditedAfter_X10_good : GoodIn wsX10_creditedAfter wsX10_good := goodIn_r _ [13, 14, 118, 119, 120, 121, 122, 123, 124, 125, 126, 127, 128, 129, 130, 131, 132, 133, 134, 135, 136, 137, 138, 139, 140, 141, 142, 143, 144, 145, 146, 147, 148, 149, 150, 151, 152, 153, 154, 155, 156] (by decide +kernel) (by decide +kernel)
set_option maxRecDepth 20000 in
theorem gX10_creditedAfter_X10_good : GoodIn wsX10_creditedAfter (wsV RX10 333 RX10 yX10_good wsX10_good) := goodIn_app (goodIn_of _ (by decide +kernel)) ggX10_creditedAfter_X10_good
set_option maxRecDepth 20000 in
theorem ggX10_creditedAfter_X10_beginTrial : GoodIn wsX10_creditedAfter wsX10_beginTrial := goodIn_r _ [18, 1, 19, 20, 21, 22, 23, 4, 24, 118, 119, 120, 121, 122, 123, 124, 125, 126, 127, 128, 129, 130, 131, 132, 133, 134, 135, 136, 137, 138, 139, 140, 141, 142, 143, 144, 145, 146, 147, 148, 149, 150, 151, 152, 153, 154, 155, 156] (by decide +kernel) (by decide +kernel)
set_option maxRecDepth 20000 in
theorem gX10_creditedAfter_X10_beginTrial : GoodIn wsX10_creditedAfter (wsV RX10 366 RX10 yX10_beginTrial wsX10_beginTrial) := goodIn_app (goodIn_of _ (by decide +kernel)) ggX10_creditedAfter_X10_beginTrial
set_option maxRecDepth 20000 in
theorem ggX10_creditedAfter_X10_passDays : GoodIn wsX10_creditedAfter wsX10_passDays := goodIn_r _ [28, 29, 30, 31, 4, 32, 20, 1, 33, 34, 35, 36, 37, 38, 39, 40, 41, 42, 43, 44, 45, 46, 47, 48, 49, 50, 51, 52, 53, 54, 55, 56, 57, 58, 59, 60, 61, 62, 63, 64, 65, 66, 67, 68, 69, 70, 71, 72, 73, 74, 75, 76, 77, 78, 79, 80, 81, 82, 83, 84, 85, 86, 87, 88, 89, 90, 91, 92, 93, 94, 95, 96, 97, 98, 99, 100, 101, 102, 103, 104, 105, 106, 107, 108, 109, 110, 111, 112, 113, 118, 119, 120, 121, 122, 123, 124, 125, 126, 127, 128, 129, 130, 131, 132, 133, 134, 135, 136, 137, 138, 139, 140, 141, 142, 143, 144, 145, 146, 147, 148, 149, 150, 151, 152, 153, 154, 155, 156] (by decide +kernel) (by decide +kernel)
set_option maxRecDepth 20000 in
theorem gX10_creditedAfter_X10_passDays : GoodIn wsX10_creditedAfter (wsV RX10 369 RX10 yX10_passDays wsX10_passDays) := goodIn_app (goodIn_of _ (by decide +kernel)) ggX10_creditedAfter_X10_passDays
set_option maxRecDepth 20000 in
theorem ggX10_creditedAfter_X10_endTrial : GoodIn wsX10_creditedAfter wsX10_endTrial := goodIn_r _ [117, 19, 1, 21, 20, 22, 23, 4, 24, 118, 119, 120, 121, 122, 123, 124, 125, 126, 127, 128, 129, 130, 131, 132, 133, 134, 135, 136, 137, 138, 139, 140, 141, 142, 143, 144, 145, 146, 147, 148, 149, 150, 151, 152, 153, 154, 155, 156] (by decide +kernel) (by decide +kernel)
set_option maxRecDepth 20000 in
theorem gX10_creditedAfter_X10_endTrial : GoodIn wsX10_creditedAfter (wsV RX10 372 RX10 yX10_endTrial wsX10_endTrial) := goodIn_app (goodIn_of _ (by decide +kernel)) ggX10_creditedAfter_X10_endTrial
set_option maxRecDepth 20000 in
theorem ggX10_shortDay_X10_isTrial : GoodIn wsX10_shortDay wsX10_isTrial := goodIn_r _ [5, 6, 7, 8, 4, 9] (by decide +kernel) (by decide +kernel)
set_option maxRecDepth 20000 in
theorem gX10_shortDay_X10_isTrial : GoodIn wsX10_shortDay (va_wsS RX10 363 yX10_isTrial wsX10_isTrial) := goodIn_app (goodIn_of _ (by decide +kernel)) ggX10_shortDay_X10_isTrial
set_option maxRecDepth 20000 in
theorem ggX10_shortDay_X10_good : GoodIn wsX10_shortDay wsX10_good := goodIn_r _ [13, 14, 118, 119, 120, 121, 122, 123, 124, 125, 126, 127, 128, 129, 130, 131, 132, 133, 134, 135, 136, 137, 138, 139, 140, 141, 142, 143, 144, 145, 146, 147, 148, 149, 150, 151, 152, 153, 154, 155, 156] (by decide +kernel) (by decide +kernel)
set_option maxRecDepth 20000 in
theorem gX10_shortDay_X10_good : GoodIn wsX10_shortDay (wsV RX10 333 RX10 yX10_good wsX10_good) := goodIn_app (goodIn_of _ (by decide +kernel)) ggX10_shortDay_X10_good
set_option maxRecDepth 20000 in
theorem ggX10_shortDay_X10_beginTrial : GoodIn wsX10_shortDay wsX10_beginTrial := goodIn_r _ [18, 1, 19, 20, 21, 22, 23, 4, 24, 118, 119, 120, 121, 122, 123, 124, 125, 126, 127, 128, 129, 130, 131, 132, 133, 134, 135, 136, 137, 138, 139, 140, 141, 142, 143, 144, 145, 146, 147, 148, 149, 150, 151, 152, 153, 154, 155, 156] (by decide +kernel) (by decide +kernel)
set_option maxRecDepth 20000 in
theorem gX10_shortDay_X10_beginTrial : GoodIn wsX10_shortDay (wsV RX10 366 RX10 yX10_beginTrial wsX10_beginTrial) := goodIn_app (goodIn_of _ (by decide +kernel)) ggX10_shortDay_X10_beginTrial
set_option maxRecDepth 20000 in
theorem ggX10_shortDay_X10_passDay : GoodIn wsX10_shortDay wsX10_passDay := goodIn_r _ [28, 20, 1, 29, 30, 31, 4, 32, 33, 34, 35, 36, 37, 38, 39, 40, 41, 42, 43, 44, 45, 46, 47, 48, 49, 50, 51, 52, 53, 54, 55, 56, 57, 58, 59, 60, 61, 62, 63, 64, 65, 66, 67, 68, 69, 70, 71, 72, 73, 74, 75, 76, 77, 78, 79, 80, 81, 82, 83, 84, 85, 86, 87, 88, 89, 90, 91, 92, 93, 94, 95, 96, 97, 98, 99, 100, 101, 102, 103, 104, 105, 106, 107, 108, 109, 118, 119, 120, 121, 122, 123, 124, 125, 126, 127, 128, 129, 130, 131, 132, 133, 134, 135, 136, 137, 138, 139, 140, 141, 142, 143, 144, 145, 146, 147, 148, 149, 150, 151, 152, 153, 154, 155, 156] (by decide +kernel) (by decide +kernel)
set_option maxRecDepth 20000 in
theorem gX10_shortDay_X10_passDay : GoodIn wsX10_shortDay (wsV RX10 324 RX10 yX10_passDay wsX10_passDay) := goodIn_app (goodIn_of _ (by decide +kernel)) ggX10_shortDay_X10_passDay
set_option maxRecDepth 20000 in
theorem ggX10_shortDay_X10_isShort : GoodIn wsX10_shortDay wsX10_isShort := goodIn_r _ [113, 1, 94, 95, 96, 4, 97, 45, 46, 47, 48, 82, 83, 84, 85, 86, 87, 88, 89, 118, 119, 120, 121, 122, 123, 124, 125, 126, 127, 128, 129, 130, 131, 132, 133, 134, 135, 136, 137, 138, 139, 140, 141, 142, 143, 144, 145, 146, 147, 148, 149, 150, 151, 152, 153, 154, 155, 156] (by decide +kernel) (by decide +kernel)
set_option maxRecDepth 20000 in
theorem gX10_shortDay_X10_isShort : GoodIn wsX10_shortDay (wsV RX10 390 RX10 yX10_isShort wsX10_isShort) := goodIn_app (goodIn_of _ (by decide +kernel)) ggX10_shortDay_X10_isShort
set_option maxRecDepth 20000 in
theorem ggX10_shortDay_X10_endTrial : GoodIn wsX10_shortDay wsX10_endTrial := goodIn_r _ [117, 19, 1, 21, 20, 22, 23, 4, 24, 118, 119, 120, 121, 122, 123, 124, 125, 126, 127, 128, 129, 130, 131, 132, 133, 134, 135, 136, 137, 138, 139, 140, 141, 142, 143, 144, 145, 146, 147, 148, 149, 150, 151, 152, 153, 154, 155, 156] (by decide +kernel) (by decide +kernel)
set_option maxRecDepth 20000 in
theorem gX10_shortDay_X10_endTrial : GoodIn wsX10_shortDay (wsV RX10 372 RX10 yX10_endTrial wsX10_endTrial) := goodIn_app (goodIn_of _ (by decide +kernel)) ggX10_shortDay_X10_endTrial
set_option maxRecDepth 20000 in
theorem ggX10_deposit_X10_between : GoodIn wsX10_deposit wsX10_between := goodIn_r _ [7] (by decide +kernel) (by decide +kernel)
set_option maxRecDepth 20000 in
theorem gX10_deposit_X10_between : GoodIn wsX10_deposit (va_wsS RX10 152 yX10_between wsX10_between) := goodIn_app (goodIn_of _ (by decide +kernel)) ggX10_deposit_X10_between
set_option maxRecDepth 20000 in
theorem ggX10_deposit_X10_good_ : GoodIn wsX10_deposit wsX10_good_ := goodIn_r _ [11, 12, 24, 25, 26, 27, 28, 29, 30, 31, 32, 33, 34, 35, 36, 37, 38, 39, 40, 41, 42, 43, 44, 45, 46, 47, 48, 49, 50, 51, 52, 53, 54, 55, 56, 57, 58, 59, 60, 61, 62] (by decide +kernel) (by decide +kernel)
set_option maxRecDepth 20000 in
theorem gX10_deposit_X10_good_ : GoodIn wsX10_deposit (wsV RX10 358 RX10 yX10_good_ wsX10_good_) := goodIn_app (goodIn_of _ (by decide +kernel)) ggX10_deposit_X10_good_
set_option maxRecDepth 20000 in
theorem ggX10_deposit_X10_remember : GoodIn wsX10_deposit wsX10_remember := goodIn_r _ [16, 17, 18, 19, 2, 20, 24, 25, 26, 27, 28, 29, 30, 31, 32, 33, 34, 35, 36, 37, 38, 39, 40, 41, 42, 43, 44, 45, 46, 47, 48, 49, 50, 51, 52, 53, 54, 55, 56, 57, 58, 59, 60, 61, 62] (by decide +kernel) (by decide +kernel)
set_option maxRecDepth 20000 in
theorem gX10_deposit_X10_remember : GoodIn wsX10_deposit (wsV RX10 395 RX10 yX10_remember wsX10_remember) := goodIn_app (goodIn_of _ (by decide +kernel)) ggX10_deposit_X10_remember
set_option maxRecDepth 20000 in
theorem ggX10_deposit_X10_enter : GoodIn wsX10_deposit wsX10_enter := goodIn_r _ [23] (by decide +kernel) (by decide +kernel)
set_option maxRecDepth 20000 in
theorem gX10_deposit_X10_enter : GoodIn wsX10_deposit (va_wsS RX10 229 yX10_enter wsX10_enter) := goodIn_app (goodIn_of _ (by decide +kernel)) ggX10_deposit_X10_enter
set_option maxRecDepth 20000 in
theorem ggX10_close_X10_areAllClosed : GoodIn wsX10_close wsX10_areAllClosed := goodIn_r _ [6, 1, 7, 8, 9, 5, 10, 11, 12, 13, 14, 35, 36, 37, 38, 39, 40, 41, 42, 43, 44, 45, 46, 47, 48, 49, 50, 51, 52, 53, 54, 55, 56, 57, 58, 59, 60, 61, 62, 63, 64, 65, 66, 67, 68, 69, 70, 71, 72, 73] (by decide +kernel) (by decide +kernel)
set_option maxRecDepth 20000 in
theorem gX10_close_X10_areAllClosed : GoodIn wsX10_close (wsV RX10 405 RX10 yX10_areAllClosed wsX10_areAllClosed) := goodIn_app (goodIn_of _ (by decide +kernel)) ggX10_close_X10_areAllClosed
set_option maxRecDepth 20000 in
theorem ggX10_close_X10_good : GoodIn wsX10_close wsX10_good := goodIn_r _ [18, 19, 35, 36, 37, 38, 39, 40, 41, 42, 43, 44, 45, 46, 47, 48, 49, 50, 51, 52, 53, 54, 55, 56, 57, 58, 59, 60, 61, 62, 63, 64, 65, 66, 67, 68, 69, 70, 71, 72, 73] (by decide +kernel) (by decide +kernel)
set_option maxRecDepth 20000 in
theorem gX10_close_X10_good : GoodIn wsX10_close (wsV RX10 333 RX10 yX10_good wsX10_good) := goodIn_app (goodIn_of _ (by decide +kernel)) ggX10_close_X10_good
set_option maxRecDepth 20000 in
theorem ggX10_close_X10_remember : GoodIn wsX10_close wsX10_remember := goodIn_r _ [23, 24, 25, 26, 1, 27, 35, 36, 37, 38, 39, 40, 41, 42, 43, 44, 45, 46, 47, 48, 49, 50, 51, 52, 53, 54, 55, 56, 57, 58, 59, 60, 61, 62, 63, 64, 65, 66, 67, 68, 69, 70, 71, 72, 73] (by decide +kernel) (by decide +kernel)
set_option maxRecDepth 20000 in
theorem gX10_close_X10_remember : GoodIn wsX10_close (wsV RX10 395 RX10 yX10_remember wsX10_remember) := goodIn_app (goodIn_of _ (by decide +kernel)) ggX10_close_X10_remember
set_option maxRecDepth 20000 in
theorem ggX10_close_X10_refund : GoodIn wsX10_close wsX10_refund := goodIn_r _ [31, 1, 32, 33, 5, 34, 35, 36, 37, 38, 39, 40, 41, 42, 43, 44, 45, 46, 47, 48, 49, 50, 51, 52, 53, 54, 55, 56, 57, 58, 59, 60, 61, 62, 63, 64, 65, 66, 67, 68, 69, 70, 71, 72, 73] (by decide +kernel) (by decide +kernel)
set_option maxRecDepth 20000 in
theorem gX10_close_X10_refund : GoodIn wsX10_close (wsV RX10 401 RX10 yX10_refund wsX10_refund) := goodIn_app (goodIn_of _ (by decide +kernel)) ggX10_close_X10_refund
set_option maxRecDepth 20000 in
theorem ggX10_setRate_X10_between : GoodIn wsX10_setRate wsX10_between := goodIn_r _ [6] (by decide +kernel) (by decide +kernel)
set_option maxRecDepth 20000 in
theorem gX10_setRate_X10_between : GoodIn wsX10_setRate (va_wsS RX10 152 yX10_between wsX10_between) := goodIn_app (goodIn_of _ (by decide +kernel)) ggX10_setRate_X10_between
set_option maxRecDepth 20000 in
theorem ggX10_setRate_X10_good : GoodIn wsX10_setRate wsX10_good := goodIn_r _ [10, 11, 20, 21, 22, 23, 24, 25, 26, 27, 28, 29, 30, 31, 32, 33, 34, 35, 36, 37, 38, 39, 40, 41, 42, 43, 44, 45, 46, 47, 48, 49, 50, 51, 52, 53, 54, 55, 56, 57, 58] (by decide +kernel) (by decide +kernel)
set_option maxRecDepth 20000 in
theorem gX10_setRate_X10_good : GoodIn wsX10_setRate (wsV RX10 333 RX10 yX10_good wsX10_good) := goodIn_app (goodIn_of _ (by decide +kernel)) ggX10_setRate_X10_good
set_option maxRecDepth 20000 in
theorem ggX10_setRate_X10_remember : GoodIn wsX10_setRate wsX10_remember := goodIn_r _ [15, 16, 17, 18, 2, 19, 20, 21, 22, 23, 24, 25, 26, 27, 28, 29, 30, 31, 32, 33, 34, 35, 36, 37, 38, 39, 40, 41, 42, 43, 44, 45, 46, 47, 48, 49, 50, 51, 52, 53, 54, 55, 56, 57, 58] (by decide +kernel) (by decide +kernel)
set_option maxRecDepth 20000 in
theorem gX10_setRate_X10_remember : GoodIn wsX10_setRate (wsV RX10 395 RX10 yX10_remember wsX10_remember) := goodIn_app (goodIn_of _ (by decide +kernel)) ggX10_setRate_X10_remember
set_option maxRecDepth 20000 in
theorem ggX10_setGrace_X10_between : GoodIn wsX10_setGrace wsX10_between := goodIn_r _ [6] (by decide +kernel) (by decide +kernel)
set_option maxRecDepth 20000 in
theorem gX10_setGrace_X10_between : GoodIn wsX10_setGrace (va_wsS RX10 152 yX10_between wsX10_between) := goodIn_app (goodIn_of _ (by decide +kernel)) ggX10_setGrace_X10_between
set_option maxRecDepth 20000 in
theorem ggX10_setGrace_X10_good : GoodIn wsX10_setGrace wsX10_good := goodIn_r _ [10, 11, 20, 21, 22, 23, 24, 25, 26, 27, 28, 29, 30, 31, 32, 33, 34, 35, 36, 37, 38, 39, 40, 41, 42, 43, 44, 45, 46, 47, 48, 49, 50, 51, 52, 53, 54, 55, 56, 57, 58] (by decide +kernel) (by decide +kernel)
set_option maxRecDepth 20000 in
theorem gX10_setGrace_X10_good : GoodIn wsX10_setGrace (wsV RX10 333 RX10 yX10_good wsX10_good) := goodIn_app (goodIn_of _ (by decide +kernel)) ggX10_setGrace_X10_good
set_option maxRecDepth 20000 in
theorem ggX10_setGrace_X10_remember : GoodIn wsX10_setGrace wsX10_remember := goodIn_r _ [15, 16, 17, 18, 2, 19, 20, 21, 22, 23, 24, 25, 26, 27, 28, 29, 30, 31, 32, 33, 34, 35, 36, 37, 38, 39, 40, 41, 42, 43, 44, 45, 46, 47, 48, 49, 50, 51, 52, 53, 54, 55, 56, 57, 58] (by decide +kernel) (by decide +kernel)
set_option maxRecDepth 20000 in
theorem gX10_setGrace_X10_remember : GoodIn wsX10_setGrace (wsV RX10 395 RX10 yX10_remember wsX10_remember) := goodIn_app (goodIn_of _ (by decide +kernel)) ggX10_setGrace_X10_remember
set_option maxRecDepth 20000 in
theorem ggX10_pass_X10_isTrial : GoodIn wsX10_pass wsX10_isTrial := goodIn_r _ [5, 6, 7, 8, 4, 9] (by decide +kernel) (by decide +kernel)
set_option maxRecDepth 20000 in
theorem gX10_pass_X10_isTrial : GoodIn wsX10_pass (va_wsS RX10 363 yX10_isTrial wsX10_isTrial) := goodIn_app (goodIn_of _ (by decide +kernel)) ggX10_pass_X10_isTrial
set_option maxRecDepth 20000 in
theorem ggX10_pass_X10_good_ : GoodIn wsX10_pass wsX10_good_ := goodIn_r _ [13, 14, 112, 113, 114, 115, 116, 117, 118, 119, 120, 121, 122, 123, 124, 125, 126, 127, 128, 129, 130, 131, 132, 133, 134, 135, 136, 137, 138, 139, 140, 141, 142, 143, 144, 145, 146, 147, 148, 149, 150] (by decide +kernel) (by decide +kernel)
set_option maxRecDepth 20000 in
theorem gX10_pass_X10_good_ : GoodIn wsX10_pass (wsV RX10 358 RX10 yX10_good_ wsX10_good_) := goodIn_app (goodIn_of _ (by decide +kernel)) ggX10_pass_X10_good_
set_option maxRecDepth 20000 in
theorem ggX10_pass_X10_remember : GoodIn wsX10_pass wsX10_remember := goodIn_r _ [18, 19, 20, 21, 1, 22, 112, 113, 114, 115, 116, 117, 118, 119, 120, 121, 122, 123, 124, 125, 126, 127, 128, 129, 130, 131, 132, 133, 134, 135, 136, 137, 138, 139, 140, 141, 142, 143, 144, 145, 146, 147, 148, 149, 150] (by decide +kernel) (by decide +kernel)
set_option maxRecDepth 20000 in
theorem gX10_pass_X10_remember : GoodIn wsX10_pass (wsV RX10 395 RX10 yX10_remember wsX10_remember) := goodIn_app (goodIn_of _ (by decide +kernel)) ggX10_pass_X10_remember
set_option maxRecDepth 20000 in
theorem ggX10_pass_X10_passDays : GoodIn wsX10_pass wsX10_passDays := goodIn_r _ [26, 27, 28, 29, 4, 30, 22, 1, 31, 32, 33, 34, 35, 36, 37, 38, 39, 40, 41, 42, 43, 44, 45, 46, 47, 48, 49, 50, 51, 52, 53, 54, 55, 56, 57, 58, 59, 60, 61, 62, 63, 64, 65, 66, 67, 68, 69, 70, 71, 72, 73, 74, 75, 76, 77, 78, 79, 80, 81, 82, 83, 84, 85, 86, 87, 88, 89, 90, 91, 92, 93, 94, 95, 96, 97, 98, 99, 100, 101, 102, 103, 104, 105, 106, 107, 108, 109, 110, 111, 112, 113, 114, 115, 116, 117, 118, 119, 120, 121, 122, 123, 124, 125, 126, 127, 128, 129, 130, 131, 132, 133, 134, 135, 136, 137, 138, 139, 140, 141, 142, 143, 144, 145, 146, 147, 148, 149, 150] (by decide +kernel) (by decide +kernel)
set_option maxRecDepth 20000 in
theorem gX10_pass_X10_passDays : GoodIn wsX10_pass (wsV RX10 369 RX10 yX10_passDays wsX10_passDays) := goodIn_app (goodIn_of _ (by decide +kernel)) ggX10_pass_X10_passDays
theorem dX10_append_0 : decode cX10_append 0 = .ok (.bipush 24, 2) := by decide +kernel
theorem dX10_append_2 : decode cX10_append 2 = .ok (.istore_n 2, 1) := by decide +kernel
theorem dX10_append_3 : decode cX10_append 3 = .ok (.iload_n 2, 1) := by decide +kernel
theorem dX10_append_4 : decode cX10_append 4 = .ok (.ifCond .lt 35, 3) := by decide +kernel
theorem dX10_append_7 : decode cX10_append 7 = .ok (.aload_n 0, 1) := by decide +kernel
theorem dX10_append_8 : decode cX10_append 8 = .ok (.getfield 26, 3) := by decide +kernel
theorem dX10_append_11 : decode cX10_append 11 = .ok (.aload_n 0, 1) := by decide +kernel
theorem dX10_append_12 : decode cX10_append 12 = .ok (.getfield 90, 3) := by decide +kernel
theorem dX10_append_15 : decode cX10_append 15 = .ok (.iload_n 1, 1) := by decide +kernel
theorem dX10_append_16 : decode cX10_append 16 = .ok (.iload_n 2, 1) := by decide +kernel
theorem dX10_append_17 : decode cX10_append 17 = .ok (.iushr, 1) := by decide +kernel
theorem dX10_append_18 : decode cX10_append 18 = .ok (.sipush 255, 3) := by decide +kernel
theorem dX10_append_21 : decode cX10_append 21 = .ok (.iand, 1) := by decide +kernel
theorem dX10_append_22 : decode cX10_append 22 = .ok (.iastore, 1) := by decide +kernel
theorem dX10_append_23 : decode cX10_append 23 = .ok (.aload_n 0, 1) := by decide +kernel
theorem dX10_append_24 : decode cX10_append 24 = .ok (.dup, 1) := by decide +kernel
theorem dX10_append_25 : decode cX10_append 25 = .ok (.getfield 90, 3) := by decide +kernel
theorem dX10_append_28 : decode cX10_append 28 = .ok (.iconst 1, 1) := by decide +kernel
theorem dX10_append_29 : decode cX10_append 29 = .ok (.iadd, 1) := by decide +kernel
theorem dX10_append_30 : decode cX10_append 30 = .ok (.putfield 90, 3) := by decide +kernel
theorem dX10_append_33 : decode cX10_append 33 = .ok (.iinc 2 (-8), 3) := by decide +kernel
theorem dX10_append_36 : decode cX10_append 36 = .ok (.goto (-33), 3) := by decide +kernel
theorem dX10_append_39 : decode cX10_append 39 = .ok (.return_, 1) := by decide +kernel
theorem dX10_beginTrial_0 : decode cX10_beginTrial 0 = .ok (.aload_n 0, 1) := by decide +kernel
theorem dX10_beginTrial_1 : decode cX10_beginTrial 1 = .ok (.getfield 7, 3) := by decide +kernel
theorem dX10_beginTrial_4 : decode cX10_beginTrial 4 = .ok (.aload_n 0, 1) := by decide +kernel
theorem dX10_beginTrial_5 : decode cX10_beginTrial 5 = .ok (.getfield 16, 3) := by decide +kernel
theorem dX10_beginTrial_8 : decode cX10_beginTrial 8 = .ok (.invokestatic 245, 3) := by decide +kernel
theorem dX10_beginTrial_11 : decode cX10_beginTrial 11 = .ok (.aload_n 0, 1) := by decide +kernel
theorem dX10_beginTrial_12 : decode cX10_beginTrial 12 = .ok (.aload_n 0, 1) := by decide +kernel
theorem dX10_beginTrial_13 : decode cX10_beginTrial 13 = .ok (.getfield 86, 3) := by decide +kernel
theorem dX10_beginTrial_16 : decode cX10_beginTrial 16 = .ok (.putfield 327, 3) := by decide +kernel
theorem dX10_beginTrial_19 : decode cX10_beginTrial 19 = .ok (.return_, 1) := by decide +kernel
theorem dX10_close_0 : decode cX10_close 0 = .ok (.aload_n 0, 1) := by decide +kernel
theorem dX10_close_1 : decode cX10_close 1 = .ok (.aload_n 0, 1) := by decide +kernel
theorem dX10_close_2 : decode cX10_close 2 = .ok (.invokevirtual 405, 3) := by decide +kernel
theorem dX10_close_5 : decode cX10_close 5 = .ok (.invokevirtual 333, 3) := by decide +kernel
theorem dX10_close_8 : decode cX10_close 8 = .ok (.ifCond .ne 5, 3) := by decide +kernel
theorem dX10_close_11 : decode cX10_close 11 = .ok (.iconst 0, 1) := by decide +kernel
theorem dX10_close_12 : decode cX10_close 12 = .ok (.ireturn, 1) := by decide +kernel
theorem dX10_close_13 : decode cX10_close 13 = .ok (.aload_n 0, 1) := by decide +kernel
theorem dX10_close_14 : decode cX10_close 14 = .ok (.invokevirtual 395, 3) := by decide +kernel
theorem dX10_close_17 : decode cX10_close 17 = .ok (.aload_n 0, 1) := by decide +kernel
theorem dX10_close_18 : decode cX10_close 18 = .ok (.getfield 7, 3) := by decide +kernel
theorem dX10_close_21 : decode cX10_close 21 = .ok (.bipush 6, 2) := by decide +kernel
theorem dX10_close_23 : decode cX10_close 23 = .ok (.iaload, 1) := by decide +kernel
theorem dX10_close_24 : decode cX10_close 24 = .ok (.istore_n 1, 1) := by decide +kernel
theorem dX10_close_25 : decode cX10_close 25 = .ok (.aload_n 0, 1) := by decide +kernel
theorem dX10_close_26 : decode cX10_close 26 = .ok (.iload_n 1, 1) := by decide +kernel
theorem dX10_close_27 : decode cX10_close 27 = .ok (.iconst (-1), 1) := by decide +kernel
theorem dX10_close_28 : decode cX10_close 28 = .ok (.invokevirtual 401, 3) := by decide +kernel
theorem dX10_close_31 : decode cX10_close 31 = .ok (.iload_n 1, 1) := by decide +kernel
theorem dX10_close_32 : decode cX10_close 32 = .ok (.ireturn, 1) := by decide +kernel
theorem dX10_copy_0 : decode cX10_copy 0 = .ok (.iconst 0, 1) := by decide +kernel
theorem dX10_copy_1 : decode cX10_copy 1 = .ok (.istore_n 2, 1) := by decide +kernel
theorem dX10_copy_2 : decode cX10_copy 2 = .ok (.iload_n 2, 1) := by decide +kernel
theorem dX10_copy_3 : decode cX10_copy 3 = .ok (.sipush 326, 3) := by decide +kernel
theorem dX10_copy_6 : decode cX10_copy 6 = .ok (.if_icmp .ge 15, 3) := by decide +kernel
theorem dX10_copy_9 : decode cX10_copy 9 = .ok (.aload_n 1, 1) := by decide +kernel
theorem dX10_copy_10 : decode cX10_copy 10 = .ok (.iload_n 2, 1) := by decide +kernel
theorem dX10_copy_11 : decode cX10_copy 11 = .ok (.aload_n 0, 1) := by decide +kernel
theorem dX10_copy_12 : decode cX10_copy 12 = .ok (.iload_n 2, 1) := by decide +kernel
theorem dX10_copy_13 : decode cX10_copy 13 = .ok (.iaload, 1) := by decide +kernel
theorem dX10_copy_14 : decode cX10_copy 14 = .ok (.iastore, 1) := by decide +kernel
theorem dX10_copy_15 : decode cX10_copy 15 = .ok (.iinc 2 1, 3) := by decide +kernel
theorem dX10_copy_18 : decode cX10_copy 18 = .ok (.goto (-16), 3) := by decide +kernel
theorem dX10_copy_21 : decode cX10_copy 21 = .ok (.return_, 1) := by decide +kernel
theorem dX10_credit_0 : decode cX10_credit 0 = .ok (.ldc2_w 268, 3) := by decide +kernel
theorem dX10_credit_3 : decode cX10_credit 3 = .ok (.aload_n 0, 1) := by decide +kernel
theorem dX10_credit_4 : decode cX10_credit 4 = .ok (.getfield 7, 3) := by decide +kernel
theorem dX10_credit_7 : decode cX10_credit 7 = .ok (.iconst 1, 1) := by decide +kernel
theorem dX10_credit_8 : decode cX10_credit 8 = .ok (.iaload, 1) := by decide +kernel
theorem dX10_credit_9 : decode cX10_credit 9 = .ok (.i2l, 1) := by decide +kernel
theorem dX10_credit_10 : decode cX10_credit 10 = .ok (.lmul, 1) := by decide +kernel
theorem dX10_credit_11 : decode cX10_credit 11 = .ok (.lstore_n 1, 1) := by decide +kernel
theorem dX10_credit_12 : decode cX10_credit 12 = .ok (.aload_n 0, 1) := by decide +kernel
theorem dX10_credit_13 : decode cX10_credit 13 = .ok (.getfield 86, 3) := by decide +kernel
theorem dX10_credit_16 : decode cX10_credit 16 = .ok (.lload_n 1, 1) := by decide +kernel
theorem dX10_credit_17 : decode cX10_credit 17 = .ok (.ldiv, 1) := by decide +kernel
theorem dX10_credit_18 : decode cX10_credit 18 = .ok (.l2i, 1) := by decide +kernel
theorem dX10_credit_19 : decode cX10_credit 19 = .ok (.istore_n 3, 1) := by decide +kernel
theorem dX10_credit_20 : decode cX10_credit 20 = .ok (.aload_n 0, 1) := by decide +kernel
theorem dX10_credit_21 : decode cX10_credit 21 = .ok (.aload_n 0, 1) := by decide +kernel
theorem dX10_credit_22 : decode cX10_credit 22 = .ok (.getfield 86, 3) := by decide +kernel
theorem dX10_credit_25 : decode cX10_credit 25 = .ok (.lload_n 1, 1) := by decide +kernel
theorem dX10_credit_26 : decode cX10_credit 26 = .ok (.lrem, 1) := by decide +kernel
theorem dX10_credit_27 : decode cX10_credit 27 = .ok (.putfield 86, 3) := by decide +kernel
theorem dX10_credit_30 : decode cX10_credit 30 = .ok (.aload_n 0, 1) := by decide +kernel
theorem dX10_credit_31 : decode cX10_credit 31 = .ok (.getfield 7, 3) := by decide +kernel
theorem dX10_credit_34 : decode cX10_credit 34 = .ok (.bipush 7, 2) := by decide +kernel
theorem dX10_credit_36 : decode cX10_credit 36 = .ok (.dup2, 1) := by decide +kernel
theorem dX10_credit_37 : decode cX10_credit 37 = .ok (.iaload, 1) := by decide +kernel
theorem dX10_credit_38 : decode cX10_credit 38 = .ok (.iload_n 3, 1) := by decide +kernel
theorem dX10_credit_39 : decode cX10_credit 39 = .ok (.iadd, 1) := by decide +kernel
theorem dX10_credit_40 : decode cX10_credit 40 = .ok (.iastore, 1) := by decide +kernel
theorem dX10_credit_41 : decode cX10_credit 41 = .ok (.aload_n 0, 1) := by decide +kernel
theorem dX10_credit_42 : decode cX10_credit 42 = .ok (.getfield 7, 3) := by decide +kernel
theorem dX10_credit_45 : decode cX10_credit 45 = .ok (.bipush 8, 2) := by decide +kernel
theorem dX10_credit_47 : decode cX10_credit 47 = .ok (.dup2, 1) := by decide +kernel
theorem dX10_credit_48 : decode cX10_credit 48 = .ok (.iaload, 1) := by decide +kernel
theorem dX10_credit_49 : decode cX10_credit 49 = .ok (.iload_n 3, 1) := by decide +kernel
theorem dX10_credit_50 : decode cX10_credit 50 = .ok (.iadd, 1) := by decide +kernel
theorem dX10_credit_51 : decode cX10_credit 51 = .ok (.iastore, 1) := by decide +kernel
theorem dX10_credit_52 : decode cX10_credit 52 = .ok (.aload_n 0, 1) := by decide +kernel
theorem dX10_credit_53 : decode cX10_credit 53 = .ok (.getfield 7, 3) := by decide +kernel
theorem dX10_credit_56 : decode cX10_credit 56 = .ok (.iconst 3, 1) := by decide +kernel
theorem dX10_credit_57 : decode cX10_credit 57 = .ok (.iload_n 3, 1) := by decide +kernel
theorem dX10_credit_58 : decode cX10_credit 58 = .ok (.iconst (-1), 1) := by decide +kernel
theorem dX10_credit_59 : decode cX10_credit 59 = .ok (.invokestatic 229, 3) := by decide +kernel
theorem dX10_credit_62 : decode cX10_credit 62 = .ok (.return_, 1) := by decide +kernel
theorem dX10_creditedAfter_0 : decode cX10_creditedAfter 0 = .ok (.aload_n 0, 1) := by decide +kernel
theorem dX10_creditedAfter_1 : decode cX10_creditedAfter 1 = .ok (.iload_n 1, 1) := by decide +kernel
theorem dX10_creditedAfter_2 : decode cX10_creditedAfter 2 = .ok (.invokestatic 363, 3) := by decide +kernel
theorem dX10_creditedAfter_5 : decode cX10_creditedAfter 5 = .ok (.invokevirtual 333, 3) := by decide +kernel
theorem dX10_creditedAfter_8 : decode cX10_creditedAfter 8 = .ok (.ifCond .ne 5, 3) := by decide +kernel
theorem dX10_creditedAfter_11 : decode cX10_creditedAfter 11 = .ok (.iconst 0, 1) := by decide +kernel
theorem dX10_creditedAfter_12 : decode cX10_creditedAfter 12 = .ok (.ireturn, 1) := by decide +kernel
theorem dX10_creditedAfter_13 : decode cX10_creditedAfter 13 = .ok (.aload_n 0, 1) := by decide +kernel
theorem dX10_creditedAfter_14 : decode cX10_creditedAfter 14 = .ok (.invokevirtual 366, 3) := by decide +kernel
theorem dX10_creditedAfter_17 : decode cX10_creditedAfter 17 = .ok (.aload_n 0, 1) := by decide +kernel
theorem dX10_creditedAfter_18 : decode cX10_creditedAfter 18 = .ok (.iload_n 1, 1) := by decide +kernel
theorem dX10_creditedAfter_19 : decode cX10_creditedAfter 19 = .ok (.invokevirtual 369, 3) := by decide +kernel
theorem dX10_creditedAfter_22 : decode cX10_creditedAfter 22 = .ok (.aload_n 0, 1) := by decide +kernel
theorem dX10_creditedAfter_23 : decode cX10_creditedAfter 23 = .ok (.getfield 7, 3) := by decide +kernel
theorem dX10_creditedAfter_26 : decode cX10_creditedAfter 26 = .ok (.bipush 8, 2) := by decide +kernel
theorem dX10_creditedAfter_28 : decode cX10_creditedAfter 28 = .ok (.iaload, 1) := by decide +kernel
theorem dX10_creditedAfter_29 : decode cX10_creditedAfter 29 = .ok (.istore_n 2, 1) := by decide +kernel
theorem dX10_creditedAfter_30 : decode cX10_creditedAfter 30 = .ok (.aload_n 0, 1) := by decide +kernel
theorem dX10_creditedAfter_31 : decode cX10_creditedAfter 31 = .ok (.invokevirtual 372, 3) := by decide +kernel
theorem dX10_creditedAfter_34 : decode cX10_creditedAfter 34 = .ok (.iload_n 2, 1) := by decide +kernel
theorem dX10_creditedAfter_35 : decode cX10_creditedAfter 35 = .ok (.ireturn, 1) := by decide +kernel
theorem dX10_deposit_0 : decode cX10_deposit 0 = .ok (.aload_n 0, 1) := by decide +kernel
theorem dX10_deposit_1 : decode cX10_deposit 1 = .ok (.iload_n 1, 1) := by decide +kernel
theorem dX10_deposit_2 : decode cX10_deposit 2 = .ok (.i2l, 1) := by decide +kernel
theorem dX10_deposit_3 : decode cX10_deposit 3 = .ok (.lconst 1, 1) := by decide +kernel
theorem dX10_deposit_4 : decode cX10_deposit 4 = .ok (.ldc2_w 388, 3) := by decide +kernel
theorem dX10_deposit_7 : decode cX10_deposit 7 = .ok (.invokestatic 152, 3) := by decide +kernel
theorem dX10_deposit_10 : decode cX10_deposit 10 = .ok (.aload_n 0, 1) := by decide +kernel
theorem dX10_deposit_11 : decode cX10_deposit 11 = .ok (.getfield 7, 3) := by decide +kernel
theorem dX10_deposit_14 : decode cX10_deposit 14 = .ok (.iconst 5, 1) := by decide +kernel
theorem dX10_deposit_15 : decode cX10_deposit 15 = .ok (.iaload, 1) := by decide +kernel
theorem dX10_deposit_16 : decode cX10_deposit 16 = .ok (.i2l, 1) := by decide +kernel
theorem dX10_deposit_17 : decode cX10_deposit 17 = .ok (.iload_n 1, 1) := by decide +kernel
theorem dX10_deposit_18 : decode cX10_deposit 18 = .ok (.i2l, 1) := by decide +kernel
theorem dX10_deposit_19 : decode cX10_deposit 19 = .ok (.ladd, 1) := by decide +kernel
theorem dX10_deposit_20 : decode cX10_deposit 20 = .ok (.ldc2_w 393, 3) := by decide +kernel
theorem dX10_deposit_23 : decode cX10_deposit 23 = .ok (.lcmp, 1) := by decide +kernel
theorem dX10_deposit_24 : decode cX10_deposit 24 = .ok (.ifCond .gt 7, 3) := by decide +kernel
theorem dX10_deposit_27 : decode cX10_deposit 27 = .ok (.iconst 1, 1) := by decide +kernel
theorem dX10_deposit_28 : decode cX10_deposit 28 = .ok (.goto 4, 3) := by decide +kernel
theorem dX10_deposit_31 : decode cX10_deposit 31 = .ok (.iconst 0, 1) := by decide +kernel
theorem dX10_deposit_32 : decode cX10_deposit 32 = .ok (.invokevirtual 358, 3) := by decide +kernel
theorem dX10_deposit_35 : decode cX10_deposit 35 = .ok (.ifCond .ne 5, 3) := by decide +kernel
theorem dX10_deposit_38 : decode cX10_deposit 38 = .ok (.iconst 0, 1) := by decide +kernel
theorem dX10_deposit_39 : decode cX10_deposit 39 = .ok (.ireturn, 1) := by decide +kernel
theorem dX10_deposit_40 : decode cX10_deposit 40 = .ok (.aload_n 0, 1) := by decide +kernel
theorem dX10_deposit_41 : decode cX10_deposit 41 = .ok (.invokevirtual 395, 3) := by decide +kernel
theorem dX10_deposit_44 : decode cX10_deposit 44 = .ok (.aload_n 0, 1) := by decide +kernel
theorem dX10_deposit_45 : decode cX10_deposit 45 = .ok (.getfield 7, 3) := by decide +kernel
theorem dX10_deposit_48 : decode cX10_deposit 48 = .ok (.iconst 5, 1) := by decide +kernel
theorem dX10_deposit_49 : decode cX10_deposit 49 = .ok (.dup2, 1) := by decide +kernel
theorem dX10_deposit_50 : decode cX10_deposit 50 = .ok (.iaload, 1) := by decide +kernel
theorem dX10_deposit_51 : decode cX10_deposit 51 = .ok (.iload_n 1, 1) := by decide +kernel
theorem dX10_deposit_52 : decode cX10_deposit 52 = .ok (.iadd, 1) := by decide +kernel
theorem dX10_deposit_53 : decode cX10_deposit 53 = .ok (.iastore, 1) := by decide +kernel
theorem dX10_deposit_54 : decode cX10_deposit 54 = .ok (.aload_n 0, 1) := by decide +kernel
theorem dX10_deposit_55 : decode cX10_deposit 55 = .ok (.getfield 7, 3) := by decide +kernel
theorem dX10_deposit_58 : decode cX10_deposit 58 = .ok (.bipush 6, 2) := by decide +kernel
theorem dX10_deposit_60 : decode cX10_deposit 60 = .ok (.dup2, 1) := by decide +kernel
theorem dX10_deposit_61 : decode cX10_deposit 61 = .ok (.iaload, 1) := by decide +kernel
theorem dX10_deposit_62 : decode cX10_deposit 62 = .ok (.iload_n 1, 1) := by decide +kernel
theorem dX10_deposit_63 : decode cX10_deposit 63 = .ok (.iadd, 1) := by decide +kernel
theorem dX10_deposit_64 : decode cX10_deposit 64 = .ok (.iastore, 1) := by decide +kernel
theorem dX10_deposit_65 : decode cX10_deposit 65 = .ok (.aload_n 0, 1) := by decide +kernel
theorem dX10_deposit_66 : decode cX10_deposit 66 = .ok (.getfield 7, 3) := by decide +kernel
theorem dX10_deposit_69 : decode cX10_deposit 69 = .ok (.iconst 0, 1) := by decide +kernel
theorem dX10_deposit_70 : decode cX10_deposit 70 = .ok (.iload_n 1, 1) := by decide +kernel
theorem dX10_deposit_71 : decode cX10_deposit 71 = .ok (.iconst (-1), 1) := by decide +kernel
theorem dX10_deposit_72 : decode cX10_deposit 72 = .ok (.invokestatic 229, 3) := by decide +kernel
theorem dX10_deposit_75 : decode cX10_deposit 75 = .ok (.aload_n 0, 1) := by decide +kernel
theorem dX10_deposit_76 : decode cX10_deposit 76 = .ok (.getfield 7, 3) := by decide +kernel
theorem dX10_deposit_79 : decode cX10_deposit 79 = .ok (.bipush 6, 2) := by decide +kernel
theorem dX10_deposit_81 : decode cX10_deposit 81 = .ok (.iaload, 1) := by decide +kernel
theorem dX10_deposit_82 : decode cX10_deposit 82 = .ok (.ireturn, 1) := by decide +kernel
theorem dX10_endTrial_0 : decode cX10_endTrial 0 = .ok (.aload_n 0, 1) := by decide +kernel
theorem dX10_endTrial_1 : decode cX10_endTrial 1 = .ok (.getfield 16, 3) := by decide +kernel
theorem dX10_endTrial_4 : decode cX10_endTrial 4 = .ok (.aload_n 0, 1) := by decide +kernel
theorem dX10_endTrial_5 : decode cX10_endTrial 5 = .ok (.getfield 7, 3) := by decide +kernel
theorem dX10_endTrial_8 : decode cX10_endTrial 8 = .ok (.invokestatic 245, 3) := by decide +kernel
theorem dX10_endTrial_11 : decode cX10_endTrial 11 = .ok (.aload_n 0, 1) := by decide +kernel
theorem dX10_endTrial_12 : decode cX10_endTrial 12 = .ok (.aload_n 0, 1) := by decide +kernel
theorem dX10_endTrial_13 : decode cX10_endTrial 13 = .ok (.getfield 327, 3) := by decide +kernel
theorem dX10_endTrial_16 : decode cX10_endTrial 16 = .ok (.putfield 86, 3) := by decide +kernel
theorem dX10_endTrial_19 : decode cX10_endTrial 19 = .ok (.return_, 1) := by decide +kernel
theorem dX10_enter_0 : decode cX10_enter 0 = .ok (.iload_n 2, 1) := by decide +kernel
theorem dX10_enter_1 : decode cX10_enter 1 = .ok (.ifCond .ne 4, 3) := by decide +kernel
theorem dX10_enter_4 : decode cX10_enter 4 = .ok (.return_, 1) := by decide +kernel
theorem dX10_enter_5 : decode cX10_enter 5 = .ok (.aload_n 0, 1) := by decide +kernel
theorem dX10_enter_6 : decode cX10_enter 6 = .ok (.bipush 15, 2) := by decide +kernel
theorem dX10_enter_8 : decode cX10_enter 8 = .ok (.iaload, 1) := by decide +kernel
theorem dX10_enter_9 : decode cX10_enter 9 = .ok (.bipush 60, 2) := by decide +kernel
theorem dX10_enter_11 : decode cX10_enter 11 = .ok (.if_icmp .ne 39, 3) := by decide +kernel
theorem dX10_enter_14 : decode cX10_enter 14 = .ok (.bipush 90, 2) := by decide +kernel
theorem dX10_enter_16 : decode cX10_enter 16 = .ok (.istore 4, 2) := by decide +kernel
theorem dX10_enter_18 : decode cX10_enter 18 = .ok (.iload 4, 2) := by decide +kernel
theorem dX10_enter_20 : decode cX10_enter 20 = .ok (.sipush 326, 3) := by decide +kernel
theorem dX10_enter_23 : decode cX10_enter 23 = .ok (.if_icmp .ge 19, 3) := by decide +kernel
theorem dX10_enter_26 : decode cX10_enter 26 = .ok (.aload_n 0, 1) := by decide +kernel
theorem dX10_enter_27 : decode cX10_enter 27 = .ok (.iload 4, 2) := by decide +kernel
theorem dX10_enter_29 : decode cX10_enter 29 = .ok (.iconst 4, 1) := by decide +kernel
theorem dX10_enter_30 : decode cX10_enter 30 = .ok (.isub, 1) := by decide +kernel
theorem dX10_enter_31 : decode cX10_enter 31 = .ok (.aload_n 0, 1) := by decide +kernel
theorem dX10_enter_32 : decode cX10_enter 32 = .ok (.iload 4, 2) := by decide +kernel
theorem dX10_enter_34 : decode cX10_enter 34 = .ok (.iaload, 1) := by decide +kernel
theorem dX10_enter_35 : decode cX10_enter 35 = .ok (.iastore, 1) := by decide +kernel
theorem dX10_enter_36 : decode cX10_enter 36 = .ok (.iinc 4 1, 3) := by decide +kernel
theorem dX10_enter_39 : decode cX10_enter 39 = .ok (.goto (-21), 3) := by decide +kernel
theorem dX10_enter_42 : decode cX10_enter 42 = .ok (.aload_n 0, 1) := by decide +kernel
theorem dX10_enter_43 : decode cX10_enter 43 = .ok (.bipush 15, 2) := by decide +kernel
theorem dX10_enter_45 : decode cX10_enter 45 = .ok (.dup2, 1) := by decide +kernel
theorem dX10_enter_46 : decode cX10_enter 46 = .ok (.iaload, 1) := by decide +kernel
theorem dX10_enter_47 : decode cX10_enter 47 = .ok (.iconst 1, 1) := by decide +kernel
theorem dX10_enter_48 : decode cX10_enter 48 = .ok (.isub, 1) := by decide +kernel
theorem dX10_enter_49 : decode cX10_enter 49 = .ok (.iastore, 1) := by decide +kernel
theorem dX10_enter_50 : decode cX10_enter 50 = .ok (.bipush 86, 2) := by decide +kernel
theorem dX10_enter_52 : decode cX10_enter 52 = .ok (.iconst 4, 1) := by decide +kernel
theorem dX10_enter_53 : decode cX10_enter 53 = .ok (.aload_n 0, 1) := by decide +kernel
theorem dX10_enter_54 : decode cX10_enter 54 = .ok (.bipush 15, 2) := by decide +kernel
theorem dX10_enter_56 : decode cX10_enter 56 = .ok (.iaload, 1) := by decide +kernel
theorem dX10_enter_57 : decode cX10_enter 57 = .ok (.imul, 1) := by decide +kernel
theorem dX10_enter_58 : decode cX10_enter 58 = .ok (.iadd, 1) := by decide +kernel
theorem dX10_enter_59 : decode cX10_enter 59 = .ok (.istore 4, 2) := by decide +kernel
theorem dX10_enter_61 : decode cX10_enter 61 = .ok (.aload_n 0, 1) := by decide +kernel
theorem dX10_enter_62 : decode cX10_enter 62 = .ok (.iload 4, 2) := by decide +kernel
theorem dX10_enter_64 : decode cX10_enter 64 = .ok (.iload_n 1, 1) := by decide +kernel
theorem dX10_enter_65 : decode cX10_enter 65 = .ok (.iastore, 1) := by decide +kernel
theorem dX10_enter_66 : decode cX10_enter 66 = .ok (.aload_n 0, 1) := by decide +kernel
theorem dX10_enter_67 : decode cX10_enter 67 = .ok (.iload 4, 2) := by decide +kernel
theorem dX10_enter_69 : decode cX10_enter 69 = .ok (.iconst 1, 1) := by decide +kernel
theorem dX10_enter_70 : decode cX10_enter 70 = .ok (.iadd, 1) := by decide +kernel
theorem dX10_enter_71 : decode cX10_enter 71 = .ok (.aload_n 0, 1) := by decide +kernel
theorem dX10_enter_72 : decode cX10_enter 72 = .ok (.iconst 4, 1) := by decide +kernel
theorem dX10_enter_73 : decode cX10_enter 73 = .ok (.iaload, 1) := by decide +kernel
theorem dX10_enter_74 : decode cX10_enter 74 = .ok (.iastore, 1) := by decide +kernel
theorem dX10_enter_75 : decode cX10_enter 75 = .ok (.aload_n 0, 1) := by decide +kernel
theorem dX10_enter_76 : decode cX10_enter 76 = .ok (.iload 4, 2) := by decide +kernel
theorem dX10_enter_78 : decode cX10_enter 78 = .ok (.iconst 2, 1) := by decide +kernel
theorem dX10_enter_79 : decode cX10_enter 79 = .ok (.iadd, 1) := by decide +kernel
theorem dX10_enter_80 : decode cX10_enter 80 = .ok (.iload_n 2, 1) := by decide +kernel
theorem dX10_enter_81 : decode cX10_enter 81 = .ok (.iastore, 1) := by decide +kernel
theorem dX10_enter_82 : decode cX10_enter 82 = .ok (.aload_n 0, 1) := by decide +kernel
theorem dX10_enter_83 : decode cX10_enter 83 = .ok (.iload 4, 2) := by decide +kernel
theorem dX10_enter_85 : decode cX10_enter 85 = .ok (.iconst 3, 1) := by decide +kernel
theorem dX10_enter_86 : decode cX10_enter 86 = .ok (.iadd, 1) := by decide +kernel
theorem dX10_enter_87 : decode cX10_enter 87 = .ok (.iload_n 3, 1) := by decide +kernel
theorem dX10_enter_88 : decode cX10_enter 88 = .ok (.iastore, 1) := by decide +kernel
theorem dX10_enter_89 : decode cX10_enter 89 = .ok (.aload_n 0, 1) := by decide +kernel
theorem dX10_enter_90 : decode cX10_enter 90 = .ok (.bipush 15, 2) := by decide +kernel
theorem dX10_enter_92 : decode cX10_enter 92 = .ok (.dup2, 1) := by decide +kernel
theorem dX10_enter_93 : decode cX10_enter 93 = .ok (.iaload, 1) := by decide +kernel
theorem dX10_enter_94 : decode cX10_enter 94 = .ok (.iconst 1, 1) := by decide +kernel
theorem dX10_enter_95 : decode cX10_enter 95 = .ok (.iadd, 1) := by decide +kernel
theorem dX10_enter_96 : decode cX10_enter 96 = .ok (.iastore, 1) := by decide +kernel
theorem dX10_enter_97 : decode cX10_enter 97 = .ok (.return_, 1) := by decide +kernel
theorem dX10_feed_0 : decode cX10_feed 0 = .ok (.aload_n 0, 1) := by decide +kernel
theorem dX10_feed_1 : decode cX10_feed 1 = .ok (.iconst 0, 1) := by decide +kernel
theorem dX10_feed_2 : decode cX10_feed 2 = .ok (.putfield 80, 3) := by decide +kernel
theorem dX10_feed_5 : decode cX10_feed 5 = .ok (.aload_n 0, 1) := by decide +kernel
theorem dX10_feed_6 : decode cX10_feed 6 = .ok (.getfield 90, 3) := by decide +kernel
theorem dX10_feed_9 : decode cX10_feed 9 = .ok (.bipush 20, 2) := by decide +kernel
theorem dX10_feed_11 : decode cX10_feed 11 = .ok (.iadd, 1) := by decide +kernel
theorem dX10_feed_12 : decode cX10_feed 12 = .ok (.sipush 700, 3) := by decide +kernel
theorem dX10_feed_15 : decode cX10_feed 15 = .ok (.if_icmp .le 6, 3) := by decide +kernel
theorem dX10_feed_18 : decode cX10_feed 18 = .ok (.bipush (-2), 2) := by decide +kernel
theorem dX10_feed_20 : decode cX10_feed 20 = .ok (.ireturn, 1) := by decide +kernel
theorem dX10_feed_21 : decode cX10_feed 21 = .ok (.aload_n 0, 1) := by decide +kernel
theorem dX10_feed_22 : decode cX10_feed 22 = .ok (.iload_n 1, 1) := by decide +kernel
theorem dX10_feed_23 : decode cX10_feed 23 = .ok (.invokevirtual 93, 3) := by decide +kernel
theorem dX10_feed_26 : decode cX10_feed 26 = .ok (.aload_n 0, 1) := by decide +kernel
theorem dX10_feed_27 : decode cX10_feed 27 = .ok (.iload_n 2, 1) := by decide +kernel
theorem dX10_feed_28 : decode cX10_feed 28 = .ok (.invokevirtual 93, 3) := by decide +kernel
theorem dX10_feed_31 : decode cX10_feed 31 = .ok (.aload_n 0, 1) := by decide +kernel
theorem dX10_feed_32 : decode cX10_feed 32 = .ok (.iload_n 3, 1) := by decide +kernel
theorem dX10_feed_33 : decode cX10_feed 33 = .ok (.invokevirtual 93, 3) := by decide +kernel
theorem dX10_feed_36 : decode cX10_feed 36 = .ok (.aload_n 0, 1) := by decide +kernel
theorem dX10_feed_37 : decode cX10_feed 37 = .ok (.iload 4, 2) := by decide +kernel
theorem dX10_feed_39 : decode cX10_feed 39 = .ok (.invokevirtual 93, 3) := by decide +kernel
theorem dX10_feed_42 : decode cX10_feed 42 = .ok (.aload_n 0, 1) := by decide +kernel
theorem dX10_feed_43 : decode cX10_feed 43 = .ok (.iload 5, 2) := by decide +kernel
theorem dX10_feed_45 : decode cX10_feed 45 = .ok (.invokevirtual 93, 3) := by decide +kernel
theorem dX10_feed_48 : decode cX10_feed 48 = .ok (.aload_n 0, 1) := by decide +kernel
theorem dX10_feed_49 : decode cX10_feed 49 = .ok (.getfield 90, 3) := by decide +kernel
theorem dX10_feed_52 : decode cX10_feed 52 = .ok (.ireturn, 1) := by decide +kernel
theorem dX10_pass_0 : decode cX10_pass 0 = .ok (.aload_n 0, 1) := by decide +kernel
theorem dX10_pass_1 : decode cX10_pass 1 = .ok (.iload_n 1, 1) := by decide +kernel
theorem dX10_pass_2 : decode cX10_pass 2 = .ok (.invokestatic 363, 3) := by decide +kernel
theorem dX10_pass_5 : decode cX10_pass 5 = .ok (.aload_n 0, 1) := by decide +kernel
theorem dX10_pass_6 : decode cX10_pass 6 = .ok (.getfield 7, 3) := by decide +kernel
theorem dX10_pass_9 : decode cX10_pass 9 = .ok (.iconst 4, 1) := by decide +kernel
theorem dX10_pass_10 : decode cX10_pass 10 = .ok (.iaload, 1) := by decide +kernel
theorem dX10_pass_11 : decode cX10_pass 11 = .ok (.iload_n 1, 1) := by decide +kernel
theorem dX10_pass_12 : decode cX10_pass 12 = .ok (.iadd, 1) := by decide +kernel
theorem dX10_pass_13 : decode cX10_pass 13 = .ok (.sipush 9999, 3) := by decide +kernel
theorem dX10_pass_16 : decode cX10_pass 16 = .ok (.if_icmp .gt 7, 3) := by decide +kernel
theorem dX10_pass_19 : decode cX10_pass 19 = .ok (.iconst 1, 1) := by decide +kernel
theorem dX10_pass_20 : decode cX10_pass 20 = .ok (.goto 4, 3) := by decide +kernel
theorem dX10_pass_23 : decode cX10_pass 23 = .ok (.iconst 0, 1) := by decide +kernel
theorem dX10_pass_24 : decode cX10_pass 24 = .ok (.invokevirtual 358, 3) := by decide +kernel
theorem dX10_pass_27 : decode cX10_pass 27 = .ok (.ifCond .ne 5, 3) := by decide +kernel
theorem dX10_pass_30 : decode cX10_pass 30 = .ok (.iconst 0, 1) := by decide +kernel
theorem dX10_pass_31 : decode cX10_pass 31 = .ok (.ireturn, 1) := by decide +kernel
theorem dX10_pass_32 : decode cX10_pass 32 = .ok (.aload_n 0, 1) := by decide +kernel
theorem dX10_pass_33 : decode cX10_pass 33 = .ok (.invokevirtual 395, 3) := by decide +kernel
theorem dX10_pass_36 : decode cX10_pass 36 = .ok (.aload_n 0, 1) := by decide +kernel
theorem dX10_pass_37 : decode cX10_pass 37 = .ok (.getfield 7, 3) := by decide +kernel
theorem dX10_pass_40 : decode cX10_pass 40 = .ok (.bipush 10, 2) := by decide +kernel
theorem dX10_pass_42 : decode cX10_pass 42 = .ok (.iaload, 1) := by decide +kernel
theorem dX10_pass_43 : decode cX10_pass 43 = .ok (.istore_n 2, 1) := by decide +kernel
theorem dX10_pass_44 : decode cX10_pass 44 = .ok (.aload_n 0, 1) := by decide +kernel
theorem dX10_pass_45 : decode cX10_pass 45 = .ok (.iload_n 1, 1) := by decide +kernel
theorem dX10_pass_46 : decode cX10_pass 46 = .ok (.invokevirtual 369, 3) := by decide +kernel
theorem dX10_pass_49 : decode cX10_pass 49 = .ok (.aload_n 0, 1) := by decide +kernel
theorem dX10_pass_50 : decode cX10_pass 50 = .ok (.getfield 7, 3) := by decide +kernel
theorem dX10_pass_53 : decode cX10_pass 53 = .ok (.bipush 10, 2) := by decide +kernel
theorem dX10_pass_55 : decode cX10_pass 55 = .ok (.iaload, 1) := by decide +kernel
theorem dX10_pass_56 : decode cX10_pass 56 = .ok (.iload_n 2, 1) := by decide +kernel
theorem dX10_pass_57 : decode cX10_pass 57 = .ok (.isub, 1) := by decide +kernel
theorem dX10_pass_58 : decode cX10_pass 58 = .ok (.ireturn, 1) := by decide +kernel
theorem dX10_passDay_0 : decode cX10_passDay 0 = .ok (.aload_n 0, 1) := by decide +kernel
theorem dX10_passDay_1 : decode cX10_passDay 1 = .ok (.dup, 1) := by decide +kernel
theorem dX10_passDay_2 : decode cX10_passDay 2 = .ok (.getfield 86, 3) := by decide +kernel
theorem dX10_passDay_5 : decode cX10_passDay 5 = .ok (.aload_n 0, 1) := by decide +kernel
theorem dX10_passDay_6 : decode cX10_passDay 6 = .ok (.getfield 7, 3) := by decide +kernel
theorem dX10_passDay_9 : decode cX10_passDay 9 = .ok (.bipush 6, 2) := by decide +kernel
theorem dX10_passDay_11 : decode cX10_passDay 11 = .ok (.iaload, 1) := by decide +kernel
theorem dX10_passDay_12 : decode cX10_passDay 12 = .ok (.aload_n 0, 1) := by decide +kernel
theorem dX10_passDay_13 : decode cX10_passDay 13 = .ok (.getfield 7, 3) := by decide +kernel
theorem dX10_passDay_16 : decode cX10_passDay 16 = .ok (.bipush 7, 2) := by decide +kernel
theorem dX10_passDay_18 : decode cX10_passDay 18 = .ok (.iaload, 1) := by decide +kernel
theorem dX10_passDay_19 : decode cX10_passDay 19 = .ok (.iadd, 1) := by decide +kernel
theorem dX10_passDay_20 : decode cX10_passDay 20 = .ok (.i2l, 1) := by decide +kernel
theorem dX10_passDay_21 : decode cX10_passDay 21 = .ok (.aload_n 0, 1) := by decide +kernel
theorem dX10_passDay_22 : decode cX10_passDay 22 = .ok (.getfield 7, 3) := by decide +kernel
theorem dX10_passDay_25 : decode cX10_passDay 25 = .ok (.iconst 0, 1) := by decide +kernel
theorem dX10_passDay_26 : decode cX10_passDay 26 = .ok (.iaload, 1) := by decide +kernel
theorem dX10_passDay_27 : decode cX10_passDay 27 = .ok (.i2l, 1) := by decide +kernel
theorem dX10_passDay_28 : decode cX10_passDay 28 = .ok (.lmul, 1) := by decide +kernel
theorem dX10_passDay_29 : decode cX10_passDay 29 = .ok (.ladd, 1) := by decide +kernel
theorem dX10_passDay_30 : decode cX10_passDay 30 = .ok (.putfield 86, 3) := by decide +kernel
theorem dX10_passDay_33 : decode cX10_passDay 33 = .ok (.aload_n 0, 1) := by decide +kernel
theorem dX10_passDay_34 : decode cX10_passDay 34 = .ok (.getfield 7, 3) := by decide +kernel
theorem dX10_passDay_37 : decode cX10_passDay 37 = .ok (.iconst 4, 1) := by decide +kernel
theorem dX10_passDay_38 : decode cX10_passDay 38 = .ok (.dup2, 1) := by decide +kernel
theorem dX10_passDay_39 : decode cX10_passDay 39 = .ok (.iaload, 1) := by decide +kernel
theorem dX10_passDay_40 : decode cX10_passDay 40 = .ok (.iconst 1, 1) := by decide +kernel
theorem dX10_passDay_41 : decode cX10_passDay 41 = .ok (.iadd, 1) := by decide +kernel
theorem dX10_passDay_42 : decode cX10_passDay 42 = .ok (.iastore, 1) := by decide +kernel
theorem dX10_passDay_43 : decode cX10_passDay 43 = .ok (.aload_n 0, 1) := by decide +kernel
theorem dX10_passDay_44 : decode cX10_passDay 44 = .ok (.getfield 7, 3) := by decide +kernel
theorem dX10_passDay_47 : decode cX10_passDay 47 = .ok (.iconst 4, 1) := by decide +kernel
theorem dX10_passDay_48 : decode cX10_passDay 48 = .ok (.iaload, 1) := by decide +kernel
theorem dX10_passDay_49 : decode cX10_passDay 49 = .ok (.bipush 30, 2) := by decide +kernel
theorem dX10_passDay_51 : decode cX10_passDay 51 = .ok (.irem, 1) := by decide +kernel
theorem dX10_passDay_52 : decode cX10_passDay 52 = .ok (.ifCond .ne 7, 3) := by decide +kernel
theorem dX10_passDay_55 : decode cX10_passDay 55 = .ok (.aload_n 0, 1) := by decide +kernel
theorem dX10_passDay_56 : decode cX10_passDay 56 = .ok (.invokevirtual 315, 3) := by decide +kernel
theorem dX10_passDay_59 : decode cX10_passDay 59 = .ok (.aload_n 0, 1) := by decide +kernel
theorem dX10_passDay_60 : decode cX10_passDay 60 = .ok (.invokevirtual 318, 3) := by decide +kernel
theorem dX10_passDay_63 : decode cX10_passDay 63 = .ok (.aload_n 0, 1) := by decide +kernel
theorem dX10_passDay_64 : decode cX10_passDay 64 = .ok (.invokevirtual 321, 3) := by decide +kernel
theorem dX10_passDay_67 : decode cX10_passDay 67 = .ok (.return_, 1) := by decide +kernel
theorem dX10_passDays_0 : decode cX10_passDays 0 = .ok (.iconst 0, 1) := by decide +kernel
theorem dX10_passDays_1 : decode cX10_passDays 1 = .ok (.istore_n 2, 1) := by decide +kernel
theorem dX10_passDays_2 : decode cX10_passDays 2 = .ok (.iload_n 2, 1) := by decide +kernel
theorem dX10_passDays_3 : decode cX10_passDays 3 = .ok (.iload_n 1, 1) := by decide +kernel
theorem dX10_passDays_4 : decode cX10_passDays 4 = .ok (.if_icmp .ge 13, 3) := by decide +kernel
theorem dX10_passDays_7 : decode cX10_passDays 7 = .ok (.aload_n 0, 1) := by decide +kernel
theorem dX10_passDays_8 : decode cX10_passDays 8 = .ok (.invokevirtual 324, 3) := by decide +kernel
theorem dX10_passDays_11 : decode cX10_passDays 11 = .ok (.iinc 2 1, 3) := by decide +kernel
theorem dX10_passDays_14 : decode cX10_passDays 14 = .ok (.goto (-12), 3) := by decide +kernel
theorem dX10_passDays_17 : decode cX10_passDays 17 = .ok (.return_, 1) := by decide +kernel
theorem dX10_paymentsAfter_0 : decode cX10_paymentsAfter 0 = .ok (.aload_n 0, 1) := by decide +kernel
theorem dX10_paymentsAfter_1 : decode cX10_paymentsAfter 1 = .ok (.iload_n 1, 1) := by decide +kernel
theorem dX10_paymentsAfter_2 : decode cX10_paymentsAfter 2 = .ok (.invokestatic 363, 3) := by decide +kernel
theorem dX10_paymentsAfter_5 : decode cX10_paymentsAfter 5 = .ok (.invokevirtual 333, 3) := by decide +kernel
theorem dX10_paymentsAfter_8 : decode cX10_paymentsAfter 8 = .ok (.ifCond .ne 5, 3) := by decide +kernel
theorem dX10_paymentsAfter_11 : decode cX10_paymentsAfter 11 = .ok (.iconst 0, 1) := by decide +kernel
theorem dX10_paymentsAfter_12 : decode cX10_paymentsAfter 12 = .ok (.ireturn, 1) := by decide +kernel
theorem dX10_paymentsAfter_13 : decode cX10_paymentsAfter 13 = .ok (.aload_n 0, 1) := by decide +kernel
theorem dX10_paymentsAfter_14 : decode cX10_paymentsAfter 14 = .ok (.invokevirtual 366, 3) := by decide +kernel
theorem dX10_paymentsAfter_17 : decode cX10_paymentsAfter 17 = .ok (.aload_n 0, 1) := by decide +kernel
theorem dX10_paymentsAfter_18 : decode cX10_paymentsAfter 18 = .ok (.iload_n 1, 1) := by decide +kernel
theorem dX10_paymentsAfter_19 : decode cX10_paymentsAfter 19 = .ok (.invokevirtual 369, 3) := by decide +kernel
theorem dX10_paymentsAfter_22 : decode cX10_paymentsAfter 22 = .ok (.aload_n 0, 1) := by decide +kernel
theorem dX10_paymentsAfter_23 : decode cX10_paymentsAfter 23 = .ok (.getfield 7, 3) := by decide +kernel
theorem dX10_paymentsAfter_26 : decode cX10_paymentsAfter 26 = .ok (.bipush 10, 2) := by decide +kernel
theorem dX10_paymentsAfter_28 : decode cX10_paymentsAfter 28 = .ok (.iaload, 1) := by decide +kernel
theorem dX10_paymentsAfter_29 : decode cX10_paymentsAfter 29 = .ok (.istore_n 2, 1) := by decide +kernel
theorem dX10_paymentsAfter_30 : decode cX10_paymentsAfter 30 = .ok (.aload_n 0, 1) := by decide +kernel
theorem dX10_paymentsAfter_31 : decode cX10_paymentsAfter 31 = .ok (.invokevirtual 372, 3) := by decide +kernel
theorem dX10_paymentsAfter_34 : decode cX10_paymentsAfter 34 = .ok (.iload_n 2, 1) := by decide +kernel
theorem dX10_paymentsAfter_35 : decode cX10_paymentsAfter 35 = .ok (.ireturn, 1) := by decide +kernel
theorem dX10_refund_0 : decode cX10_refund 0 = .ok (.aload_n 0, 1) := by decide +kernel
theorem dX10_refund_1 : decode cX10_refund 1 = .ok (.getfield 7, 3) := by decide +kernel
theorem dX10_refund_4 : decode cX10_refund 4 = .ok (.bipush 6, 2) := by decide +kernel
theorem dX10_refund_6 : decode cX10_refund 6 = .ok (.dup2, 1) := by decide +kernel
theorem dX10_refund_7 : decode cX10_refund 7 = .ok (.iaload, 1) := by decide +kernel
theorem dX10_refund_8 : decode cX10_refund 8 = .ok (.iload_n 1, 1) := by decide +kernel
theorem dX10_refund_9 : decode cX10_refund 9 = .ok (.isub, 1) := by decide +kernel
theorem dX10_refund_10 : decode cX10_refund 10 = .ok (.iastore, 1) := by decide +kernel
theorem dX10_refund_11 : decode cX10_refund 11 = .ok (.aload_n 0, 1) := by decide +kernel
theorem dX10_refund_12 : decode cX10_refund 12 = .ok (.getfield 7, 3) := by decide +kernel
theorem dX10_refund_15 : decode cX10_refund 15 = .ok (.bipush 11, 2) := by decide +kernel
theorem dX10_refund_17 : decode cX10_refund 17 = .ok (.dup2, 1) := by decide +kernel
theorem dX10_refund_18 : decode cX10_refund 18 = .ok (.iaload, 1) := by decide +kernel
theorem dX10_refund_19 : decode cX10_refund 19 = .ok (.iload_n 1, 1) := by decide +kernel
theorem dX10_refund_20 : decode cX10_refund 20 = .ok (.iadd, 1) := by decide +kernel
theorem dX10_refund_21 : decode cX10_refund 21 = .ok (.iastore, 1) := by decide +kernel
theorem dX10_refund_22 : decode cX10_refund 22 = .ok (.aload_n 0, 1) := by decide +kernel
theorem dX10_refund_23 : decode cX10_refund 23 = .ok (.getfield 7, 3) := by decide +kernel
theorem dX10_refund_26 : decode cX10_refund 26 = .ok (.iconst 2, 1) := by decide +kernel
theorem dX10_refund_27 : decode cX10_refund 27 = .ok (.iload_n 1, 1) := by decide +kernel
theorem dX10_refund_28 : decode cX10_refund 28 = .ok (.iload_n 2, 1) := by decide +kernel
theorem dX10_refund_29 : decode cX10_refund 29 = .ok (.invokestatic 229, 3) := by decide +kernel
theorem dX10_refund_32 : decode cX10_refund 32 = .ok (.return_, 1) := by decide +kernel
theorem dX10_remember_0 : decode cX10_remember 0 = .ok (.aload_n 0, 1) := by decide +kernel
theorem dX10_remember_1 : decode cX10_remember 1 = .ok (.getfield 83, 3) := by decide +kernel
theorem dX10_remember_4 : decode cX10_remember 4 = .ok (.bipush 10, 2) := by decide +kernel
theorem dX10_remember_6 : decode cX10_remember 6 = .ok (.if_icmp .ne 74, 3) := by decide +kernel
theorem dX10_remember_9 : decode cX10_remember 9 = .ok (.sipush 326, 3) := by decide +kernel
theorem dX10_remember_12 : decode cX10_remember 12 = .ok (.istore_n 1, 1) := by decide +kernel
theorem dX10_remember_13 : decode cX10_remember 13 = .ok (.iload_n 1, 1) := by decide +kernel
theorem dX10_remember_14 : decode cX10_remember 14 = .ok (.sipush 3260, 3) := by decide +kernel
theorem dX10_remember_17 : decode cX10_remember 17 = .ok (.if_icmp .ge 25, 3) := by decide +kernel
theorem dX10_remember_20 : decode cX10_remember 20 = .ok (.aload_n 0, 1) := by decide +kernel
theorem dX10_remember_21 : decode cX10_remember 21 = .ok (.getfield 19, 3) := by decide +kernel
theorem dX10_remember_24 : decode cX10_remember 24 = .ok (.iload_n 1, 1) := by decide +kernel
theorem dX10_remember_25 : decode cX10_remember 25 = .ok (.sipush 326, 3) := by decide +kernel
theorem dX10_remember_28 : decode cX10_remember 28 = .ok (.isub, 1) := by decide +kernel
theorem dX10_remember_29 : decode cX10_remember 29 = .ok (.aload_n 0, 1) := by decide +kernel
theorem dX10_remember_30 : decode cX10_remember 30 = .ok (.getfield 19, 3) := by decide +kernel
theorem dX10_remember_33 : decode cX10_remember 33 = .ok (.iload_n 1, 1) := by decide +kernel
theorem dX10_remember_34 : decode cX10_remember 34 = .ok (.iaload, 1) := by decide +kernel
theorem dX10_remember_35 : decode cX10_remember 35 = .ok (.iastore, 1) := by decide +kernel
theorem dX10_remember_36 : decode cX10_remember 36 = .ok (.iinc 1 1, 3) := by decide +kernel
theorem dX10_remember_39 : decode cX10_remember 39 = .ok (.goto (-26), 3) := by decide +kernel
theorem dX10_remember_42 : decode cX10_remember 42 = .ok (.iconst 1, 1) := by decide +kernel
theorem dX10_remember_43 : decode cX10_remember 43 = .ok (.istore_n 1, 1) := by decide +kernel
theorem dX10_remember_44 : decode cX10_remember 44 = .ok (.iload_n 1, 1) := by decide +kernel
theorem dX10_remember_45 : decode cX10_remember 45 = .ok (.bipush 10, 2) := by decide +kernel
theorem dX10_remember_47 : decode cX10_remember 47 = .ok (.if_icmp .ge 23, 3) := by decide +kernel
theorem dX10_remember_50 : decode cX10_remember 50 = .ok (.aload_n 0, 1) := by decide +kernel
theorem dX10_remember_51 : decode cX10_remember 51 = .ok (.getfield 22, 3) := by decide +kernel
theorem dX10_remember_54 : decode cX10_remember 54 = .ok (.iload_n 1, 1) := by decide +kernel
theorem dX10_remember_55 : decode cX10_remember 55 = .ok (.iconst 1, 1) := by decide +kernel
theorem dX10_remember_56 : decode cX10_remember 56 = .ok (.isub, 1) := by decide +kernel
theorem dX10_remember_57 : decode cX10_remember 57 = .ok (.aload_n 0, 1) := by decide +kernel
theorem dX10_remember_58 : decode cX10_remember 58 = .ok (.getfield 22, 3) := by decide +kernel
theorem dX10_remember_61 : decode cX10_remember 61 = .ok (.iload_n 1, 1) := by decide +kernel
theorem dX10_remember_62 : decode cX10_remember 62 = .ok (.laload, 1) := by decide +kernel
theorem dX10_remember_63 : decode cX10_remember 63 = .ok (.lastore, 1) := by decide +kernel
theorem dX10_remember_64 : decode cX10_remember 64 = .ok (.iinc 1 1, 3) := by decide +kernel
theorem dX10_remember_67 : decode cX10_remember 67 = .ok (.goto (-23), 3) := by decide +kernel
theorem dX10_remember_70 : decode cX10_remember 70 = .ok (.aload_n 0, 1) := by decide +kernel
theorem dX10_remember_71 : decode cX10_remember 71 = .ok (.dup, 1) := by decide +kernel
theorem dX10_remember_72 : decode cX10_remember 72 = .ok (.getfield 83, 3) := by decide +kernel
theorem dX10_remember_75 : decode cX10_remember 75 = .ok (.iconst 1, 1) := by decide +kernel
theorem dX10_remember_76 : decode cX10_remember 76 = .ok (.isub, 1) := by decide +kernel
theorem dX10_remember_77 : decode cX10_remember 77 = .ok (.putfield 83, 3) := by decide +kernel
theorem dX10_remember_80 : decode cX10_remember 80 = .ok (.iconst 0, 1) := by decide +kernel
theorem dX10_remember_81 : decode cX10_remember 81 = .ok (.istore_n 1, 1) := by decide +kernel
theorem dX10_remember_82 : decode cX10_remember 82 = .ok (.iload_n 1, 1) := by decide +kernel
theorem dX10_remember_83 : decode cX10_remember 83 = .ok (.sipush 326, 3) := by decide +kernel
theorem dX10_remember_86 : decode cX10_remember 86 = .ok (.if_icmp .ge 30, 3) := by decide +kernel
theorem dX10_remember_89 : decode cX10_remember 89 = .ok (.aload_n 0, 1) := by decide +kernel
theorem dX10_remember_90 : decode cX10_remember 90 = .ok (.getfield 19, 3) := by decide +kernel
theorem dX10_remember_93 : decode cX10_remember 93 = .ok (.sipush 326, 3) := by decide +kernel
theorem dX10_remember_96 : decode cX10_remember 96 = .ok (.aload_n 0, 1) := by decide +kernel
theorem dX10_remember_97 : decode cX10_remember 97 = .ok (.getfield 83, 3) := by decide +kernel
theorem dX10_remember_100 : decode cX10_remember 100 = .ok (.imul, 1) := by decide +kernel
theorem dX10_remember_101 : decode cX10_remember 101 = .ok (.iload_n 1, 1) := by decide +kernel
theorem dX10_remember_102 : decode cX10_remember 102 = .ok (.iadd, 1) := by decide +kernel
theorem dX10_remember_103 : decode cX10_remember 103 = .ok (.aload_n 0, 1) := by decide +kernel
theorem dX10_remember_104 : decode cX10_remember 104 = .ok (.getfield 7, 3) := by decide +kernel
theorem dX10_remember_107 : decode cX10_remember 107 = .ok (.iload_n 1, 1) := by decide +kernel
theorem dX10_remember_108 : decode cX10_remember 108 = .ok (.iaload, 1) := by decide +kernel
theorem dX10_remember_109 : decode cX10_remember 109 = .ok (.iastore, 1) := by decide +kernel
theorem dX10_remember_110 : decode cX10_remember 110 = .ok (.iinc 1 1, 3) := by decide +kernel
theorem dX10_remember_113 : decode cX10_remember 113 = .ok (.goto (-31), 3) := by decide +kernel
theorem dX10_remember_116 : decode cX10_remember 116 = .ok (.aload_n 0, 1) := by decide +kernel
theorem dX10_remember_117 : decode cX10_remember 117 = .ok (.getfield 22, 3) := by decide +kernel
theorem dX10_remember_120 : decode cX10_remember 120 = .ok (.aload_n 0, 1) := by decide +kernel
theorem dX10_remember_121 : decode cX10_remember 121 = .ok (.getfield 83, 3) := by decide +kernel
theorem dX10_remember_124 : decode cX10_remember 124 = .ok (.aload_n 0, 1) := by decide +kernel
theorem dX10_remember_125 : decode cX10_remember 125 = .ok (.getfield 86, 3) := by decide +kernel
theorem dX10_remember_128 : decode cX10_remember 128 = .ok (.lastore, 1) := by decide +kernel
theorem dX10_remember_129 : decode cX10_remember 129 = .ok (.aload_n 0, 1) := by decide +kernel
theorem dX10_remember_130 : decode cX10_remember 130 = .ok (.dup, 1) := by decide +kernel
theorem dX10_remember_131 : decode cX10_remember 131 = .ok (.getfield 83, 3) := by decide +kernel
theorem dX10_remember_134 : decode cX10_remember 134 = .ok (.iconst 1, 1) := by decide +kernel
theorem dX10_remember_135 : decode cX10_remember 135 = .ok (.iadd, 1) := by decide +kernel
theorem dX10_remember_136 : decode cX10_remember 136 = .ok (.putfield 83, 3) := by decide +kernel
theorem dX10_remember_139 : decode cX10_remember 139 = .ok (.return_, 1) := by decide +kernel
theorem dX10_reset_0 : decode cX10_reset 0 = .ok (.iconst 0, 1) := by decide +kernel
theorem dX10_reset_1 : decode cX10_reset 1 = .ok (.istore_n 1, 1) := by decide +kernel
theorem dX10_reset_2 : decode cX10_reset 2 = .ok (.iload_n 1, 1) := by decide +kernel
theorem dX10_reset_3 : decode cX10_reset 3 = .ok (.sipush 326, 3) := by decide +kernel
theorem dX10_reset_6 : decode cX10_reset 6 = .ok (.if_icmp .ge 13, 3) := by decide +kernel
theorem dX10_reset_9 : decode cX10_reset 9 = .ok (.aload_n 0, 1) := by decide +kernel
theorem dX10_reset_10 : decode cX10_reset 10 = .ok (.iload_n 1, 1) := by decide +kernel
theorem dX10_reset_11 : decode cX10_reset 11 = .ok (.iconst 0, 1) := by decide +kernel
theorem dX10_reset_12 : decode cX10_reset 12 = .ok (.iastore, 1) := by decide +kernel
theorem dX10_reset_13 : decode cX10_reset 13 = .ok (.iinc 1 1, 3) := by decide +kernel
theorem dX10_reset_16 : decode cX10_reset 16 = .ok (.goto (-14), 3) := by decide +kernel
theorem dX10_reset_19 : decode cX10_reset 19 = .ok (.aload_n 0, 1) := by decide +kernel
theorem dX10_reset_20 : decode cX10_reset 20 = .ok (.iconst 1, 1) := by decide +kernel
theorem dX10_reset_21 : decode cX10_reset 21 = .ok (.sipush 365, 3) := by decide +kernel
theorem dX10_reset_24 : decode cX10_reset 24 = .ok (.iastore, 1) := by decide +kernel
theorem dX10_reset_25 : decode cX10_reset 25 = .ok (.return_, 1) := by decide +kernel
theorem dX10_setGrace_0 : decode cX10_setGrace 0 = .ok (.aload_n 0, 1) := by decide +kernel
theorem dX10_setGrace_1 : decode cX10_setGrace 1 = .ok (.iload_n 1, 1) := by decide +kernel
theorem dX10_setGrace_2 : decode cX10_setGrace 2 = .ok (.i2l, 1) := by decide +kernel
theorem dX10_setGrace_3 : decode cX10_setGrace 3 = .ok (.lconst 0, 1) := by decide +kernel
theorem dX10_setGrace_4 : decode cX10_setGrace 4 = .ok (.ldc2_w 410, 3) := by decide +kernel
theorem dX10_setGrace_7 : decode cX10_setGrace 7 = .ok (.invokestatic 152, 3) := by decide +kernel
theorem dX10_setGrace_10 : decode cX10_setGrace 10 = .ok (.invokevirtual 333, 3) := by decide +kernel
theorem dX10_setGrace_13 : decode cX10_setGrace 13 = .ok (.ifCond .ne 5, 3) := by decide +kernel
theorem dX10_setGrace_16 : decode cX10_setGrace 16 = .ok (.iconst 0, 1) := by decide +kernel
theorem dX10_setGrace_17 : decode cX10_setGrace 17 = .ok (.ireturn, 1) := by decide +kernel
theorem dX10_setGrace_18 : decode cX10_setGrace 18 = .ok (.aload_n 0, 1) := by decide +kernel
theorem dX10_setGrace_19 : decode cX10_setGrace 19 = .ok (.invokevirtual 395, 3) := by decide +kernel
theorem dX10_setGrace_22 : decode cX10_setGrace 22 = .ok (.aload_n 0, 1) := by decide +kernel
theorem dX10_setGrace_23 : decode cX10_setGrace 23 = .ok (.getfield 7, 3) := by decide +kernel
theorem dX10_setGrace_26 : decode cX10_setGrace 26 = .ok (.iconst 3, 1) := by decide +kernel
theorem dX10_setGrace_27 : decode cX10_setGrace 27 = .ok (.iaload, 1) := by decide +kernel
theorem dX10_setGrace_28 : decode cX10_setGrace 28 = .ok (.istore_n 2, 1) := by decide +kernel
theorem dX10_setGrace_29 : decode cX10_setGrace 29 = .ok (.aload_n 0, 1) := by decide +kernel
theorem dX10_setGrace_30 : decode cX10_setGrace 30 = .ok (.getfield 7, 3) := by decide +kernel
theorem dX10_setGrace_33 : decode cX10_setGrace 33 = .ok (.iconst 3, 1) := by decide +kernel
theorem dX10_setGrace_34 : decode cX10_setGrace 34 = .ok (.iload_n 1, 1) := by decide +kernel
theorem dX10_setGrace_35 : decode cX10_setGrace 35 = .ok (.iastore, 1) := by decide +kernel
theorem dX10_setGrace_36 : decode cX10_setGrace 36 = .ok (.iload_n 2, 1) := by decide +kernel
theorem dX10_setGrace_37 : decode cX10_setGrace 37 = .ok (.ireturn, 1) := by decide +kernel
theorem dX10_setRate_0 : decode cX10_setRate 0 = .ok (.aload_n 0, 1) := by decide +kernel
theorem dX10_setRate_1 : decode cX10_setRate 1 = .ok (.iload_n 1, 1) := by decide +kernel
theorem dX10_setRate_2 : decode cX10_setRate 2 = .ok (.i2l, 1) := by decide +kernel
theorem dX10_setRate_3 : decode cX10_setRate 3 = .ok (.lconst 0, 1) := by decide +kernel
theorem dX10_setRate_4 : decode cX10_setRate 4 = .ok (.ldc2_w 408, 3) := by decide +kernel
theorem dX10_setRate_7 : decode cX10_setRate 7 = .ok (.invokestatic 152, 3) := by decide +kernel
theorem dX10_setRate_10 : decode cX10_setRate 10 = .ok (.ifCond .eq 21, 3) := by decide +kernel
theorem dX10_setRate_13 : decode cX10_setRate 13 = .ok (.iload_n 2, 1) := by decide +kernel
theorem dX10_setRate_14 : decode cX10_setRate 14 = .ok (.sipush 360, 3) := by decide +kernel
theorem dX10_setRate_17 : decode cX10_setRate 17 = .ok (.if_icmp .eq 10, 3) := by decide +kernel
theorem dX10_setRate_20 : decode cX10_setRate 20 = .ok (.iload_n 2, 1) := by decide +kernel
theorem dX10_setRate_21 : decode cX10_setRate 21 = .ok (.sipush 365, 3) := by decide +kernel
theorem dX10_setRate_24 : decode cX10_setRate 24 = .ok (.if_icmp .ne 7, 3) := by decide +kernel
theorem dX10_setRate_27 : decode cX10_setRate 27 = .ok (.iconst 1, 1) := by decide +kernel
theorem dX10_setRate_28 : decode cX10_setRate 28 = .ok (.goto 4, 3) := by decide +kernel
theorem dX10_setRate_31 : decode cX10_setRate 31 = .ok (.iconst 0, 1) := by decide +kernel
theorem dX10_setRate_32 : decode cX10_setRate 32 = .ok (.invokevirtual 333, 3) := by decide +kernel
theorem dX10_setRate_35 : decode cX10_setRate 35 = .ok (.ifCond .ne 5, 3) := by decide +kernel
theorem dX10_setRate_38 : decode cX10_setRate 38 = .ok (.iconst 0, 1) := by decide +kernel
theorem dX10_setRate_39 : decode cX10_setRate 39 = .ok (.ireturn, 1) := by decide +kernel
theorem dX10_setRate_40 : decode cX10_setRate 40 = .ok (.aload_n 0, 1) := by decide +kernel
theorem dX10_setRate_41 : decode cX10_setRate 41 = .ok (.invokevirtual 395, 3) := by decide +kernel
theorem dX10_setRate_44 : decode cX10_setRate 44 = .ok (.aload_n 0, 1) := by decide +kernel
theorem dX10_setRate_45 : decode cX10_setRate 45 = .ok (.getfield 7, 3) := by decide +kernel
theorem dX10_setRate_48 : decode cX10_setRate 48 = .ok (.iconst 0, 1) := by decide +kernel
theorem dX10_setRate_49 : decode cX10_setRate 49 = .ok (.iaload, 1) := by decide +kernel
theorem dX10_setRate_50 : decode cX10_setRate 50 = .ok (.istore_n 3, 1) := by decide +kernel
theorem dX10_setRate_51 : decode cX10_setRate 51 = .ok (.aload_n 0, 1) := by decide +kernel
theorem dX10_setRate_52 : decode cX10_setRate 52 = .ok (.getfield 7, 3) := by decide +kernel
theorem dX10_setRate_55 : decode cX10_setRate 55 = .ok (.iconst 0, 1) := by decide +kernel
theorem dX10_setRate_56 : decode cX10_setRate 56 = .ok (.iload_n 1, 1) := by decide +kernel
theorem dX10_setRate_57 : decode cX10_setRate 57 = .ok (.iastore, 1) := by decide +kernel
theorem dX10_setRate_58 : decode cX10_setRate 58 = .ok (.aload_n 0, 1) := by decide +kernel
theorem dX10_setRate_59 : decode cX10_setRate 59 = .ok (.getfield 7, 3) := by decide +kernel
theorem dX10_setRate_62 : decode cX10_setRate 62 = .ok (.iconst 1, 1) := by decide +kernel
theorem dX10_setRate_63 : decode cX10_setRate 63 = .ok (.iload_n 2, 1) := by decide +kernel
theorem dX10_setRate_64 : decode cX10_setRate 64 = .ok (.iastore, 1) := by decide +kernel
theorem dX10_setRate_65 : decode cX10_setRate 65 = .ok (.iload_n 3, 1) := by decide +kernel
theorem dX10_setRate_66 : decode cX10_setRate 66 = .ok (.ireturn, 1) := by decide +kernel
theorem dX10_shortDay_0 : decode cX10_shortDay 0 = .ok (.aload_n 0, 1) := by decide +kernel
theorem dX10_shortDay_1 : decode cX10_shortDay 1 = .ok (.iload_n 1, 1) := by decide +kernel
theorem dX10_shortDay_2 : decode cX10_shortDay 2 = .ok (.invokestatic 363, 3) := by decide +kernel
theorem dX10_shortDay_5 : decode cX10_shortDay 5 = .ok (.invokevirtual 333, 3) := by decide +kernel
theorem dX10_shortDay_8 : decode cX10_shortDay 8 = .ok (.ifCond .ne 5, 3) := by decide +kernel
theorem dX10_shortDay_11 : decode cX10_shortDay 11 = .ok (.iconst 0, 1) := by decide +kernel
theorem dX10_shortDay_12 : decode cX10_shortDay 12 = .ok (.ireturn, 1) := by decide +kernel
theorem dX10_shortDay_13 : decode cX10_shortDay 13 = .ok (.aload_n 0, 1) := by decide +kernel
theorem dX10_shortDay_14 : decode cX10_shortDay 14 = .ok (.invokevirtual 366, 3) := by decide +kernel
theorem dX10_shortDay_17 : decode cX10_shortDay 17 = .ok (.iconst (-1), 1) := by decide +kernel
theorem dX10_shortDay_18 : decode cX10_shortDay 18 = .ok (.istore_n 2, 1) := by decide +kernel
theorem dX10_shortDay_19 : decode cX10_shortDay 19 = .ok (.iconst 0, 1) := by decide +kernel
theorem dX10_shortDay_20 : decode cX10_shortDay 20 = .ok (.istore_n 3, 1) := by decide +kernel
theorem dX10_shortDay_21 : decode cX10_shortDay 21 = .ok (.iload_n 3, 1) := by decide +kernel
theorem dX10_shortDay_22 : decode cX10_shortDay 22 = .ok (.iload_n 1, 1) := by decide +kernel
theorem dX10_shortDay_23 : decode cX10_shortDay 23 = .ok (.if_icmp .ge 36, 3) := by decide +kernel
theorem dX10_shortDay_26 : decode cX10_shortDay 26 = .ok (.iload_n 2, 1) := by decide +kernel
theorem dX10_shortDay_27 : decode cX10_shortDay 27 = .ok (.iconst (-1), 1) := by decide +kernel
theorem dX10_shortDay_28 : decode cX10_shortDay 28 = .ok (.if_icmp .ne 31, 3) := by decide +kernel
theorem dX10_shortDay_31 : decode cX10_shortDay 31 = .ok (.aload_n 0, 1) := by decide +kernel
theorem dX10_shortDay_32 : decode cX10_shortDay 32 = .ok (.invokevirtual 324, 3) := by decide +kernel
theorem dX10_shortDay_35 : decode cX10_shortDay 35 = .ok (.aload_n 0, 1) := by decide +kernel
theorem dX10_shortDay_36 : decode cX10_shortDay 36 = .ok (.invokevirtual 390, 3) := by decide +kernel
theorem dX10_shortDay_39 : decode cX10_shortDay 39 = .ok (.ifCond .eq 12, 3) := by decide +kernel
theorem dX10_shortDay_42 : decode cX10_shortDay 42 = .ok (.aload_n 0, 1) := by decide +kernel
theorem dX10_shortDay_43 : decode cX10_shortDay 43 = .ok (.getfield 7, 3) := by decide +kernel
theorem dX10_shortDay_46 : decode cX10_shortDay 46 = .ok (.iconst 4, 1) := by decide +kernel
theorem dX10_shortDay_47 : decode cX10_shortDay 47 = .ok (.iaload, 1) := by decide +kernel
theorem dX10_shortDay_48 : decode cX10_shortDay 48 = .ok (.goto 4, 3) := by decide +kernel
theorem dX10_shortDay_51 : decode cX10_shortDay 51 = .ok (.iconst (-1), 1) := by decide +kernel
theorem dX10_shortDay_52 : decode cX10_shortDay 52 = .ok (.istore_n 2, 1) := by decide +kernel
theorem dX10_shortDay_53 : decode cX10_shortDay 53 = .ok (.iinc 3 1, 3) := by decide +kernel
theorem dX10_shortDay_56 : decode cX10_shortDay 56 = .ok (.goto (-35), 3) := by decide +kernel
theorem dX10_shortDay_59 : decode cX10_shortDay 59 = .ok (.aload_n 0, 1) := by decide +kernel
theorem dX10_shortDay_60 : decode cX10_shortDay 60 = .ok (.invokevirtual 372, 3) := by decide +kernel
theorem dX10_shortDay_63 : decode cX10_shortDay 63 = .ok (.iload_n 2, 1) := by decide +kernel
theorem dX10_shortDay_64 : decode cX10_shortDay 64 = .ok (.ireturn, 1) := by decide +kernel
