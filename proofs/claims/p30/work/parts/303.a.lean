set_option maxRecDepth 20000 in
theorem ggX5_extendLast_X5_extended : GoodIn wsX5_extendLast wsX5_extended := goodIn_r _ [7, 8, 9, 10, 11, 12] rfl (by decide +kernel)
set_option maxRecDepth 20000 in
theorem gX5_extendLast_X5_extended : GoodIn wsX5_extendLast (va_wsS RX5 36 yX5_extended wsX5_extended) := goodIn_app (goodIn_r _ [4, 5, 6] rfl (by decide +kernel)) ggX5_extendLast_X5_extended
set_option maxRecDepth 20000 in
theorem ggX5_extended_X8_withLetter : GoodIn wsX5_extended wsX8_withLetter := goodIn_r _ [5] rfl (by decide +kernel)
set_option maxRecDepth 20000 in
theorem gX5_extended_X8_withLetter : GoodIn wsX5_extended (va_wsS RX5 47 yX8_withLetter wsX8_withLetter) := goodIn_app (goodIn_r _ [2, 3, 4] rfl (by decide +kernel)) ggX5_extended_X8_withLetter
set_option maxRecDepth 20000 in
theorem ggX9_approve_X0_holdsOn : GoodIn wsX9_approve wsX0_holdsOn := goodIn_r _ [76, 62, 77, 78, 79, 17, 80, 41, 19, 81, 82, 83, 84, 63, 85, 86, 87, 88, 89, 90, 91, 92, 56, 57, 93, 94, 95, 96, 97, 98, 99, 100, 101, 102, 103, 104, 105, 106, 107, 117, 118, 119, 120, 121, 122, 123, 124, 125, 126, 127, 128, 129, 130, 131, 132, 133, 134, 135, 136, 137, 138, 139, 140, 141, 142, 143, 144, 145, 146, 147, 148, 149, 150, 151, 152, 153] rfl (by decide +kernel)
set_option maxRecDepth 20000 in
theorem gX9_approve_X0_holdsOn : GoodIn wsX9_approve (wsV RX9 139 RX0 yX0_holdsOn wsX0_holdsOn) := goodIn_app (goodIn_r _ [73, 74, 75, 17] rfl (by decide +kernel)) ggX9_approve_X0_holdsOn
set_option maxRecDepth 20000 in
theorem ggX9_approve_X0_isClosed : GoodIn wsX9_approve wsX0_isClosed := goodIn_r _ [18, 19, 117, 118, 119, 120, 121, 122, 123, 124, 125, 126, 127, 128, 129, 130, 131, 132, 133, 134, 135, 136] rfl (by decide +kernel)
set_option maxRecDepth 20000 in
theorem gX9_approve_X0_isClosed : GoodIn wsX9_approve (wsV RX9 161 RX0 yX0_isClosed wsX0_isClosed) := goodIn_app (goodIn_r _ [14, 15, 16, 17] rfl (by decide +kernel)) ggX9_approve_X0_isClosed
set_option maxRecDepth 20000 in
theorem ggX9_approve_X1_remember : GoodIn wsX9_approve wsX1_remember := goodIn_r _ [29, 30, 31, 32, 33, 34, 35, 36, 37, 38, 39, 17, 40, 41, 42, 19, 43, 44, 45, 46, 47, 48, 49, 50, 51, 52, 53, 54, 55, 56, 57, 58, 59, 60, 61, 62, 63, 64, 65, 66, 67, 68, 69, 70, 71, 72, 154, 155, 156, 117, 118, 119, 120, 121, 122, 123, 124, 125, 126, 127, 128, 129, 130, 131, 132, 133, 134, 135, 136, 157, 158, 159] rfl (by decide +kernel)
set_option maxRecDepth 20000 in
theorem gX9_approve_X1_remember : GoodIn wsX9_approve (wsV RX9 255 RX1 yX1_remember wsX1_remember) := goodIn_app (goodIn_r _ [25, 26, 27, 28] rfl (by decide +kernel)) ggX9_approve_X1_remember
set_option maxRecDepth 20000 in
theorem ggX9_approve_X9_needPossible : GoodIn wsX9_approve wsX9_needPossible := goodIn_ca (goodIn_r _ [22, 23, 24] rfl (by decide +kernel)) (goodIn_sub (fun _ h => List.mem_cons_of_mem _ (List.mem_append_right _ h)) (by decide +kernel))
set_option maxRecDepth 20000 in
theorem gX9_approve_X9_needPossible : GoodIn wsX9_approve (va_wsS RX9 251 yX9_needPossible wsX9_needPossible) := goodIn_app (goodIn_r _ [20, 21, 6] rfl (by decide +kernel)) ggX9_approve_X9_needPossible
set_option maxRecDepth 20000 in
theorem ggX9_cancel_X0_isOpenOrDue : GoodIn wsX9_cancel wsX0_isOpenOrDue := goodIn_r _ [18, 19, 90, 91, 92, 93, 94, 95, 96, 97, 98, 99, 100, 101, 102, 103, 104, 105, 106, 107, 108, 109] rfl (by decide +kernel)
set_option maxRecDepth 20000 in
theorem gX9_cancel_X0_isOpenOrDue : GoodIn wsX9_cancel (wsV RX9 264 RX0 yX0_isOpenOrDue wsX0_isOpenOrDue) := goodIn_app (goodIn_r _ [14, 15, 16, 17] rfl (by decide +kernel)) ggX9_cancel_X0_isOpenOrDue
set_option maxRecDepth 20000 in
theorem ggX9_cancel_X0_remainingOf : GoodIn wsX9_cancel wsX0_remainingOf := goodIn_r _ [76, 41, 47, 77, 78, 79, 17, 80, 19, 90, 91, 92, 93, 94, 95, 96, 97, 98, 99, 100, 101, 102, 103, 104, 105, 106, 107, 108, 109, 110, 111, 112, 113, 114, 115, 116, 117, 118, 119, 120, 121, 122, 123, 124, 125, 126] rfl (by decide +kernel)
set_option maxRecDepth 20000 in
theorem gX9_cancel_X0_remainingOf : GoodIn wsX9_cancel (wsV RX9 129 RX0 yX0_remainingOf wsX0_remainingOf) := goodIn_app (goodIn_r _ [73, 74, 75, 17] rfl (by decide +kernel)) ggX9_cancel_X0_remainingOf
set_option maxRecDepth 20000 in
theorem ggX9_cancel_X1_remember : GoodIn wsX9_cancel wsX1_remember := goodIn_r _ [29, 30, 31, 32, 33, 34, 35, 36, 37, 38, 39, 17, 40, 41, 42, 19, 43, 44, 45, 46, 47, 48, 49, 50, 51, 52, 53, 54, 55, 56, 57, 58, 59, 60, 61, 62, 63, 64, 65, 66, 67, 68, 69, 70, 71, 72, 127, 128, 129, 90, 91, 92, 93, 94, 95, 96, 97, 98, 99, 100, 101, 102, 103, 104, 105, 106, 107, 108, 109, 130, 131, 132] rfl (by decide +kernel)
set_option maxRecDepth 20000 in
theorem gX9_cancel_X1_remember : GoodIn wsX9_cancel (wsV RX9 255 RX1 yX1_remember wsX1_remember) := goodIn_app (goodIn_r _ [25, 26, 27, 28] rfl (by decide +kernel)) ggX9_cancel_X1_remember
set_option maxRecDepth 20000 in
theorem ggX9_cancel_X9_needPossible : GoodIn wsX9_cancel wsX9_needPossible := goodIn_ca (goodIn_r _ [22, 23, 24] rfl (by decide +kernel)) (goodIn_sub (fun _ h => List.mem_cons_of_mem _ (List.mem_append_right _ h)) (by decide +kernel))
set_option maxRecDepth 20000 in
theorem gX9_cancel_X9_needPossible : GoodIn wsX9_cancel (va_wsS RX9 251 yX9_needPossible wsX9_needPossible) := goodIn_app (goodIn_r _ [20, 21, 6] rfl (by decide +kernel)) ggX9_cancel_X9_needPossible
set_option maxRecDepth 20000 in
theorem ggX9_dispute_X0_freeze : GoodIn wsX9_dispute wsX0_freeze := goodIn_r _ [76, 77, 34, 35, 36, 19, 48, 78, 79, 80, 17, 81, 41, 47, 82, 83, 84, 85, 86, 87, 88, 89, 52, 116, 117, 118, 119, 120, 121, 122, 123, 124, 125, 126, 127, 128, 129, 130, 131, 132, 133, 134, 135, 99, 100, 101, 102, 103, 104, 105, 106, 107, 108, 109, 110, 111, 112, 113, 114, 115] rfl (by decide +kernel)
set_option maxRecDepth 20000 in
theorem gX9_dispute_X0_freeze : GoodIn wsX9_dispute (wsV RX9 270 RX0 yX0_freeze wsX0_freeze) := goodIn_app (goodIn_r _ [73, 74, 75, 17] rfl (by decide +kernel)) ggX9_dispute_X0_freeze
set_option maxRecDepth 20000 in
theorem ggX9_dispute_X0_isOpenOrDue : GoodIn wsX9_dispute wsX0_isOpenOrDue := goodIn_r _ [18, 19, 116, 117, 118, 119, 120, 121, 122, 123, 124, 125, 126, 127, 128, 129, 130, 131, 132, 133, 134, 135] rfl (by decide +kernel)
set_option maxRecDepth 20000 in
theorem gX9_dispute_X0_isOpenOrDue : GoodIn wsX9_dispute (wsV RX9 264 RX0 yX0_isOpenOrDue wsX0_isOpenOrDue) := goodIn_app (goodIn_r _ [14, 15, 16, 17] rfl (by decide +kernel)) ggX9_dispute_X0_isOpenOrDue
set_option maxRecDepth 20000 in
theorem ggX9_dispute_X1_remember : GoodIn wsX9_dispute wsX1_remember := goodIn_r _ [29, 30, 31, 32, 33, 34, 35, 36, 37, 38, 39, 17, 40, 41, 42, 19, 43, 44, 45, 46, 47, 48, 49, 50, 51, 52, 53, 54, 55, 56, 57, 58, 59, 60, 61, 62, 63, 64, 65, 66, 67, 68, 69, 70, 71, 72, 136, 137, 138, 116, 117, 118, 119, 120, 121, 122, 123, 124, 125, 126, 127, 128, 129, 130, 131, 132, 133, 134, 135, 139, 140, 141] rfl (by decide +kernel)
set_option maxRecDepth 20000 in
theorem gX9_dispute_X1_remember : GoodIn wsX9_dispute (wsV RX9 255 RX1 yX1_remember wsX1_remember) := goodIn_app (goodIn_r _ [25, 26, 27, 28] rfl (by decide +kernel)) ggX9_dispute_X1_remember
set_option maxRecDepth 20000 in
theorem ggX9_dispute_X9_needPossible : GoodIn wsX9_dispute wsX9_needPossible := goodIn_ca (goodIn_r _ [22, 23, 24] rfl (by decide +kernel)) (goodIn_sub (fun _ h => List.mem_cons_of_mem _ (List.mem_append_right _ h)) (by decide +kernel))
set_option maxRecDepth 20000 in
theorem gX9_dispute_X9_needPossible : GoodIn wsX9_dispute (va_wsS RX9 251 yX9_needPossible wsX9_needPossible) := goodIn_app (goodIn_r _ [20, 21, 6] rfl (by decide +kernel)) ggX9_dispute_X9_needPossible
set_option maxRecDepth 20000 in
theorem ggX9_payInterest_X0_payOutInterest : GoodIn wsX9_payInterest wsX0_payOutInterest := goodIn_r _ [58, 35, 23, 32, 59, 60, 61, 49, 62, 53, 51, 54, 63, 14, 15, 16, 73, 74, 75, 76, 77, 78, 79, 80, 81, 82, 83, 84, 85, 86, 87, 88, 89, 90, 91, 92, 96, 97, 98] rfl (by decide +kernel)
set_option maxRecDepth 20000 in
theorem gX9_payInterest_X0_payOutInterest : GoodIn wsX9_payInterest (wsV RX9 284 RX0 yX0_payOutInterest wsX0_payOutInterest) := goodIn_app (goodIn_r _ [55, 56, 57, 20] rfl (by decide +kernel)) ggX9_payInterest_X0_payOutInterest
set_option maxRecDepth 20000 in
theorem ggX9_payInterest_X1_remember : GoodIn wsX9_payInterest wsX1_remember := goodIn_r _ [9, 10, 11, 12, 13, 14, 15, 16, 17, 18, 19, 20, 21, 22, 23, 24, 25, 26, 27, 28, 29, 30, 31, 32, 33, 34, 35, 36, 37, 38, 39, 40, 41, 42, 43, 44, 45, 46, 47, 48, 49, 50, 51, 52, 53, 54, 93, 94, 95, 73, 74, 75, 76, 77, 78, 79, 80, 81, 82, 83, 84, 85, 86, 87, 88, 89, 90, 91, 92, 96, 97, 98] rfl (by decide +kernel)
set_option maxRecDepth 20000 in
theorem gX9_payInterest_X1_remember : GoodIn wsX9_payInterest (wsV RX9 255 RX1 yX1_remember wsX1_remember) := goodIn_app (goodIn_r _ [5, 6, 7, 8] rfl (by decide +kernel)) ggX9_payInterest_X1_remember
set_option maxRecDepth 20000 in
theorem ggX9_pay_X0_availableMoney : GoodIn wsX9_pay wsX0_availableMoney := goodIn_r _ [38, 39, 19, 40, 132, 133, 134, 135, 136, 137, 138, 139, 140, 141, 142, 143, 144, 145, 146, 147, 148, 149, 150, 151, 115, 116, 117, 118, 119, 120, 121, 122, 123, 124, 125, 126, 127, 128, 129, 130, 131] rfl (by decide +kernel)
set_option maxRecDepth 20000 in
theorem gX9_pay_X0_availableMoney : GoodIn wsX9_pay (wsV RX9 96 RX0 yX0_availableMoney wsX0_availableMoney) := goodIn_app (goodIn_r _ [35, 36, 37, 17] rfl (by decide +kernel)) ggX9_pay_X0_availableMoney
set_option maxRecDepth 20000 in
theorem ggX9_pay_X0_isOpenOrDue : GoodIn wsX9_pay wsX0_isOpenOrDue := goodIn_r _ [34, 25, 132, 133, 134, 135, 136, 137, 138, 139, 140, 141, 142, 143, 144, 145, 146, 147, 148, 149, 150, 151] rfl (by decide +kernel)
set_option maxRecDepth 20000 in
theorem gX9_pay_X0_isOpenOrDue : GoodIn wsX9_pay (wsV RX9 264 RX0 yX0_isOpenOrDue wsX0_isOpenOrDue) := goodIn_app (goodIn_r _ [31, 32, 33, 17] rfl (by decide +kernel)) ggX9_pay_X0_isOpenOrDue
set_option maxRecDepth 20000 in
theorem ggX9_pay_X0_makePayment : GoodIn wsX9_pay wsX0_makePayment := goodIn_r _ [93, 19, 39, 20, 74, 73, 62, 68, 25, 94, 95, 96, 97, 98, 99, 100, 101, 102, 84, 103, 88, 86, 89, 104, 55, 56, 57, 21, 22, 23, 17, 24, 105, 15, 16, 18, 132, 133, 134, 135, 136, 137, 138, 139, 140, 141, 142, 143, 144, 145, 146, 147, 148, 149, 150, 151, 115, 116, 117, 118, 119, 120, 121, 122, 123, 124, 125, 126, 127, 128, 129, 130, 131, 155, 156, 157] rfl (by decide +kernel)
set_option maxRecDepth 20000 in
theorem gX9_pay_X0_makePayment : GoodIn wsX9_pay (wsV RX9 267 RX0 yX0_makePayment wsX0_makePayment) := goodIn_app (goodIn_r _ [90, 91, 92, 17] rfl (by decide +kernel)) ggX9_pay_X0_makePayment
set_option maxRecDepth 20000 in
theorem ggX9_pay_X0_remainingOf : GoodIn wsX9_pay wsX0_remainingOf := goodIn_r _ [18, 19, 20, 21, 22, 23, 17, 24, 25, 132, 133, 134, 135, 136, 137, 138, 139, 140, 141, 142, 143, 144, 145, 146, 147, 148, 149, 150, 151, 115, 116, 117, 118, 119, 120, 121, 122, 123, 124, 125, 126, 127, 128, 129, 130, 131] rfl (by decide +kernel)
set_option maxRecDepth 20000 in
theorem gX9_pay_X0_remainingOf : GoodIn wsX9_pay (wsV RX9 129 RX0 yX0_remainingOf wsX0_remainingOf) := goodIn_app (goodIn_r _ [14, 15, 16, 17] rfl (by decide +kernel)) ggX9_pay_X0_remainingOf
set_option maxRecDepth 20000 in
theorem ggX9_pay_X1_remember : GoodIn wsX9_pay wsX1_remember := goodIn_r _ [50, 51, 52, 53, 54, 55, 56, 57, 58, 59, 60, 17, 61, 19, 62, 25, 63, 64, 65, 66, 20, 40, 67, 68, 69, 39, 70, 71, 72, 73, 74, 75, 76, 77, 78, 79, 80, 81, 82, 83, 84, 85, 86, 87, 88, 89, 152, 153, 154, 132, 133, 134, 135, 136, 137, 138, 139, 140, 141, 142, 143, 144, 145, 146, 147, 148, 149, 150, 151, 155, 156, 157] rfl (by decide +kernel)
set_option maxRecDepth 20000 in
theorem gX9_pay_X1_remember : GoodIn wsX9_pay (wsV RX9 255 RX1 yX1_remember wsX1_remember) := goodIn_app (goodIn_r _ [46, 47, 48, 49] rfl (by decide +kernel)) ggX9_pay_X1_remember
set_option maxRecDepth 20000 in
theorem ggX9_pay_X9_needPossible : GoodIn wsX9_pay wsX9_needPossible := goodIn_ca (goodIn_r _ [43, 44, 45] rfl (by decide +kernel)) (goodIn_sub (fun _ h => List.mem_cons_of_mem _ (List.mem_append_right _ h)) (by decide +kernel))
set_option maxRecDepth 20000 in
theorem gX9_pay_X9_needPossible : GoodIn wsX9_pay (va_wsS RX9 251 yX9_needPossible wsX9_needPossible) := goodIn_app (goodIn_r _ [41, 42, 6] rfl (by decide +kernel)) ggX9_pay_X9_needPossible
set_option maxRecDepth 20000 in
theorem ggX9_pay_X9_needRange : GoodIn wsX9_pay wsX9_needRange := goodIn_ca (goodIn_r _ [28, 29, 30] rfl (by decide +kernel)) (goodIn_sub (fun _ h => List.mem_cons_of_mem _ (List.mem_append_left _ (List.mem_append_right _ h))) (by decide +kernel))
set_option maxRecDepth 20000 in
theorem gX9_pay_X9_needRange : GoodIn wsX9_pay (va_wsS RX9 67 yX9_needRange wsX9_needRange) := goodIn_app (goodIn_r _ [26, 27, 6] rfl (by decide +kernel)) ggX9_pay_X9_needRange
set_option maxRecDepth 20000 in
theorem ggX9_resolve_X0_settle : GoodIn wsX9_resolve wsX0_settle := goodIn_r _ [81, 82, 83, 84, 43, 85, 53, 86, 37, 38, 39, 87, 88, 89, 90, 45, 52, 91, 92, 93, 94, 47, 95, 96, 97, 98, 57, 99, 100, 101, 102, 103, 104, 105, 106, 107, 108, 109, 62, 61, 46, 55, 110, 111, 112, 113, 114, 115, 116, 117, 118, 72, 119, 76, 74, 77, 120, 121, 122, 123, 124, 63, 151, 152, 153, 154, 155, 156, 157, 158, 159, 160, 161, 162, 163, 164, 165, 166, 167, 168, 169, 170, 134, 135, 136, 137, 138, 139, 140, 141, 142, 143, 144, 145, 146, 147, 148, 149, 150, 174, 175, 176] rfl (by decide +kernel)
set_option maxRecDepth 20000 in
theorem gX9_resolve_X0_settle : GoodIn wsX9_resolve (wsV RX9 276 RX0 yX0_settle wsX0_settle) := goodIn_app (goodIn_r _ [78, 79, 80, 43] rfl (by decide +kernel)) ggX9_resolve_X0_settle
set_option maxRecDepth 20000 in
theorem ggX9_resolve_X1_remember : GoodIn wsX9_resolve wsX1_remember := goodIn_r _ [32, 33, 34, 35, 36, 37, 38, 39, 40, 41, 42, 43, 44, 45, 46, 47, 48, 49, 50, 51, 52, 53, 54, 55, 56, 57, 58, 59, 60, 61, 62, 63, 64, 65, 66, 67, 68, 69, 70, 71, 72, 73, 74, 75, 76, 77, 171, 172, 173, 151, 152, 153, 154, 155, 156, 157, 158, 159, 160, 161, 162, 163, 164, 165, 166, 167, 168, 169, 170, 174, 175, 176] rfl (by decide +kernel)
set_option maxRecDepth 20000 in
theorem gX9_resolve_X1_remember : GoodIn wsX9_resolve (wsV RX9 255 RX1 yX1_remember wsX1_remember) := goodIn_app (goodIn_r _ [28, 29, 30, 31] rfl (by decide +kernel)) ggX9_resolve_X1_remember
set_option maxRecDepth 20000 in
theorem ggX9_resolve_X9_needDispute : GoodIn wsX9_resolve wsX9_needDispute := goodIn_ca (goodIn_r _ [22, 2, 23, 24, 6, 25, 26, 27, 125, 126, 127, 128, 129, 130, 131, 132, 133, 151, 152, 153, 154, 155, 156, 157, 158, 159, 160, 161, 162, 163, 164, 165, 166, 167, 168, 169, 170] rfl (by decide +kernel)) (goodIn_sub (fun _ h => List.mem_cons_of_mem _ (List.mem_append_right _ h)) (by decide +kernel))
set_option maxRecDepth 20000 in
theorem gX9_resolve_X9_needDispute : GoodIn wsX9_resolve (wsV RX9 230 RX9 yX9_needDispute wsX9_needDispute) := goodIn_app (goodIn_r _ [19, 20, 21, 6] rfl (by decide +kernel)) ggX9_resolve_X9_needDispute
set_option maxRecDepth 20000 in
theorem ggX9_resolve_X9_needRange : GoodIn wsX9_resolve wsX9_needRange := goodIn_ca (goodIn_r _ [16, 17, 18] rfl (by decide +kernel)) (goodIn_sub (fun _ h => List.mem_cons_of_mem _ (List.mem_append_left _ (List.mem_append_right _ h))) (by decide +kernel))
set_option maxRecDepth 20000 in
theorem gX9_resolve_X9_needRange : GoodIn wsX9_resolve (va_wsS RX9 67 yX9_needRange wsX9_needRange) := goodIn_app (goodIn_r _ [14, 15, 6] rfl (by decide +kernel)) ggX9_resolve_X9_needRange
set_option maxRecDepth 20000 in
theorem ggX9_submit_X0_hasProof : GoodIn wsX9_submit wsX0_hasProof := goodIn_r _ [18, 19, 20, 21, 22, 23, 81, 82, 83, 84, 85, 86, 87, 88, 89, 90, 91, 92, 93, 94, 95, 96, 97, 98, 99, 100] rfl (by decide +kernel)
set_option maxRecDepth 20000 in
theorem gX9_submit_X0_hasProof : GoodIn wsX9_submit (wsV RX9 183 RX0 yX0_hasProof wsX0_hasProof) := goodIn_app (goodIn_r _ [14, 15, 16, 17] rfl (by decide +kernel)) ggX9_submit_X0_hasProof
set_option maxRecDepth 20000 in
theorem ggX9_submit_X1_remember : GoodIn wsX9_submit wsX1_remember := goodIn_r _ [28, 29, 30, 31, 32, 33, 34, 35, 36, 37, 38, 17, 39, 40, 41, 42, 43, 44, 45, 46, 47, 48, 49, 50, 51, 52, 53, 54, 55, 56, 57, 58, 59, 60, 61, 19, 62, 63, 64, 65, 66, 67, 68, 69, 70, 71, 118, 119, 120, 81, 82, 83, 84, 85, 86, 87, 88, 89, 90, 91, 92, 93, 94, 95, 96, 97, 98, 99, 100, 121, 122, 123] rfl (by decide +kernel)
set_option maxRecDepth 20000 in
theorem gX9_submit_X1_remember : GoodIn wsX9_submit (wsV RX9 255 RX1 yX1_remember wsX1_remember) := goodIn_app (goodIn_r _ [24, 25, 26, 27] rfl (by decide +kernel)) ggX9_submit_X1_remember
set_option maxRecDepth 20000 in
theorem ggX9_withdraw_X0_availableMoney : GoodIn wsX9_withdraw wsX0_availableMoney := goodIn_r _ [80, 52, 40, 48, 107, 108, 109, 110, 111, 112, 113, 114, 115, 116, 117, 118, 119, 120, 121, 122, 123, 124, 125, 126, 90, 91, 92, 93, 94, 95, 96, 97, 98, 99, 100, 101, 102, 103, 104, 105, 106] rfl (by decide +kernel)
set_option maxRecDepth 20000 in
theorem gX9_withdraw_X0_availableMoney : GoodIn wsX9_withdraw (wsV RX9 96 RX0 yX0_availableMoney wsX0_availableMoney) := goodIn_app (goodIn_r _ [77, 78, 79, 38] rfl (by decide +kernel)) ggX9_withdraw_X0_availableMoney
set_option maxRecDepth 20000 in
theorem ggX9_withdraw_X0_leaveDispute : GoodIn wsX9_withdraw wsX0_leaveDispute := goodIn_r _ [76, 42, 48, 107, 108, 109, 110, 111, 112, 113, 114, 115, 116, 117, 118, 119, 120, 121, 122, 123, 124, 125, 126] rfl (by decide +kernel)
set_option maxRecDepth 20000 in
theorem gX9_withdraw_X0_leaveDispute : GoodIn wsX9_withdraw (wsV RX9 273 RX0 yX0_leaveDispute wsX0_leaveDispute) := goodIn_app (goodIn_r _ [73, 74, 75, 38] rfl (by decide +kernel)) ggX9_withdraw_X0_leaveDispute
set_option maxRecDepth 20000 in
theorem ggX9_withdraw_X1_remember : GoodIn wsX9_withdraw wsX1_remember := goodIn_r _ [27, 28, 29, 30, 31, 32, 33, 34, 35, 36, 37, 38, 39, 40, 41, 42, 43, 44, 45, 46, 47, 48, 49, 50, 51, 52, 53, 54, 55, 56, 57, 58, 59, 60, 61, 62, 63, 64, 65, 66, 67, 68, 69, 70, 71, 72, 127, 128, 129, 107, 108, 109, 110, 111, 112, 113, 114, 115, 116, 117, 118, 119, 120, 121, 122, 123, 124, 125, 126, 130, 131, 132] rfl (by decide +kernel)
set_option maxRecDepth 20000 in
theorem gX9_withdraw_X1_remember : GoodIn wsX9_withdraw (wsV RX9 255 RX1 yX1_remember wsX1_remember) := goodIn_app (goodIn_r _ [23, 24, 25, 26] rfl (by decide +kernel)) ggX9_withdraw_X1_remember
set_option maxRecDepth 20000 in
theorem ggX9_withdraw_X9_needDispute : GoodIn wsX9_withdraw wsX9_needDispute := goodIn_ca (goodIn_r _ [17, 2, 18, 19, 6, 20, 21, 22, 81, 82, 83, 84, 85, 86, 87, 88, 89, 107, 108, 109, 110, 111, 112, 113, 114, 115, 116, 117, 118, 119, 120, 121, 122, 123, 124, 125, 126] rfl (by decide +kernel)) (goodIn_sub (fun _ h => List.mem_cons_of_mem _ (List.mem_append_right _ h)) (by decide +kernel))
set_option maxRecDepth 20000 in
theorem gX9_withdraw_X9_needDispute : GoodIn wsX9_withdraw (wsV RX9 230 RX9 yX9_needDispute wsX9_needDispute) := goodIn_app (goodIn_r _ [14, 15, 16, 6] rfl (by decide +kernel)) ggX9_withdraw_X9_needDispute
theorem dX5_extendLast_0 : decode cX5_extendLast 0 = .ok (.aload_n 0, 1) := by decide +kernel
theorem dX5_extendLast_1 : decode cX5_extendLast 1 = .ok (.getfield 22, 3) := by decide +kernel
theorem dX5_extendLast_4 : decode cX5_extendLast 4 = .ok (.iconst 1, 1) := by decide +kernel
theorem dX5_extendLast_5 : decode cX5_extendLast 5 = .ok (.isub, 1) := by decide +kernel
theorem dX5_extendLast_6 : decode cX5_extendLast 6 = .ok (.istore 4, 2) := by decide +kernel
theorem dX5_extendLast_8 : decode cX5_extendLast 8 = .ok (.iload 4, 2) := by decide +kernel
theorem dX5_extendLast_10 : decode cX5_extendLast 10 = .ok (.ifCond .ge 4, 3) := by decide +kernel
theorem dX5_extendLast_13 : decode cX5_extendLast 13 = .ok (.return_, 1) := by decide +kernel
theorem dX5_extendLast_14 : decode cX5_extendLast 14 = .ok (.aload_n 0, 1) := by decide +kernel
theorem dX5_extendLast_15 : decode cX5_extendLast 15 = .ok (.getfield 18, 3) := by decide +kernel
theorem dX5_extendLast_18 : decode cX5_extendLast 18 = .ok (.iload 4, 2) := by decide +kernel
theorem dX5_extendLast_20 : decode cX5_extendLast 20 = .ok (.iload_n 1, 1) := by decide +kernel
theorem dX5_extendLast_21 : decode cX5_extendLast 21 = .ok (.aload_n 0, 1) := by decide +kernel
theorem dX5_extendLast_22 : decode cX5_extendLast 22 = .ok (.getfield 18, 3) := by decide +kernel
theorem dX5_extendLast_25 : decode cX5_extendLast 25 = .ok (.iload 4, 2) := by decide +kernel
theorem dX5_extendLast_27 : decode cX5_extendLast 27 = .ok (.laload, 1) := by decide +kernel
theorem dX5_extendLast_28 : decode cX5_extendLast 28 = .ok (.iload_n 2, 1) := by decide +kernel
theorem dX5_extendLast_29 : decode cX5_extendLast 29 = .ok (.invokestatic 36, 3) := by decide +kernel
theorem dX5_extendLast_32 : decode cX5_extendLast 32 = .ok (.lastore, 1) := by decide +kernel
theorem dX5_extendLast_33 : decode cX5_extendLast 33 = .ok (.iload_n 3, 1) := by decide +kernel
theorem dX5_extendLast_34 : decode cX5_extendLast 34 = .ok (.iload_n 1, 1) := by decide +kernel
theorem dX5_extendLast_35 : decode cX5_extendLast 35 = .ok (.iconst 4, 1) := by decide +kernel
theorem dX5_extendLast_36 : decode cX5_extendLast 36 = .ok (.if_icmp .ne 8, 3) := by decide +kernel
theorem dX5_extendLast_39 : decode cX5_extendLast 39 = .ok (.bipush 9, 2) := by decide +kernel
theorem dX5_extendLast_41 : decode cX5_extendLast 41 = .ok (.goto 4, 3) := by decide +kernel
theorem dX5_extendLast_44 : decode cX5_extendLast 44 = .ok (.iconst 5, 1) := by decide +kernel
theorem dX5_extendLast_45 : decode cX5_extendLast 45 = .ok (.if_icmp .le 11, 3) := by decide +kernel
theorem dX5_extendLast_48 : decode cX5_extendLast 48 = .ok (.aload_n 0, 1) := by decide +kernel
theorem dX5_extendLast_49 : decode cX5_extendLast 49 = .ok (.getfield 9, 3) := by decide +kernel
theorem dX5_extendLast_52 : decode cX5_extendLast 52 = .ok (.iload 4, 2) := by decide +kernel
theorem dX5_extendLast_54 : decode cX5_extendLast 54 = .ok (.iconst 2, 1) := by decide +kernel
theorem dX5_extendLast_55 : decode cX5_extendLast 55 = .ok (.iastore, 1) := by decide +kernel
theorem dX5_extendLast_56 : decode cX5_extendLast 56 = .ok (.return_, 1) := by decide +kernel
theorem dX5_extended_0 : decode cX5_extended 0 = .ok (.iload_n 0, 1) := by decide +kernel
theorem dX5_extended_1 : decode cX5_extended 1 = .ok (.iconst 4, 1) := by decide +kernel
theorem dX5_extended_2 : decode cX5_extended 2 = .ok (.if_icmp .ne 9, 3) := by decide +kernel
theorem dX5_extended_5 : decode cX5_extended 5 = .ok (.lload_n 1, 1) := by decide +kernel
theorem dX5_extended_6 : decode cX5_extended 6 = .ok (.iload_n 3, 1) := by decide +kernel
theorem dX5_extended_7 : decode cX5_extended 7 = .ok (.invokestatic 47, 3) := by decide +kernel
theorem dX5_extended_10 : decode cX5_extended 10 = .ok (.lreturn, 1) := by decide +kernel
theorem dX5_extended_11 : decode cX5_extended 11 = .ok (.iload_n 0, 1) := by decide +kernel
theorem dX5_extended_12 : decode cX5_extended 12 = .ok (.iconst 3, 1) := by decide +kernel
theorem dX5_extended_13 : decode cX5_extended 13 = .ok (.if_icmp .ne 17, 3) := by decide +kernel
theorem dX5_extended_16 : decode cX5_extended 16 = .ok (.lload_n 1, 1) := by decide +kernel
theorem dX5_extended_17 : decode cX5_extended 17 = .ok (.ldc2_w 53, 3) := by decide +kernel
theorem dX5_extended_20 : decode cX5_extended 20 = .ok (.lmul, 1) := by decide +kernel
theorem dX5_extended_21 : decode cX5_extended 21 = .ok (.iload_n 3, 1) := by decide +kernel
theorem dX5_extended_22 : decode cX5_extended 22 = .ok (.bipush 48, 2) := by decide +kernel
theorem dX5_extended_24 : decode cX5_extended 24 = .ok (.isub, 1) := by decide +kernel
theorem dX5_extended_25 : decode cX5_extended 25 = .ok (.i2l, 1) := by decide +kernel
theorem dX5_extended_26 : decode cX5_extended 26 = .ok (.ladd, 1) := by decide +kernel
theorem dX5_extended_27 : decode cX5_extended 27 = .ok (.goto 4, 3) := by decide +kernel
theorem dX5_extended_30 : decode cX5_extended 30 = .ok (.lconst 0, 1) := by decide +kernel
theorem dX5_extended_31 : decode cX5_extended 31 = .ok (.lreturn, 1) := by decide +kernel
theorem dX5_kindOf_0 : decode cX5_kindOf 0 = .ok (.iload_n 0, 1) := by decide +kernel
theorem dX5_kindOf_1 : decode cX5_kindOf 1 = .ok (.bipush 97, 2) := by decide +kernel
theorem dX5_kindOf_3 : decode cX5_kindOf 3 = .ok (.if_icmp .lt 11, 3) := by decide +kernel
theorem dX5_kindOf_6 : decode cX5_kindOf 6 = .ok (.iload_n 0, 1) := by decide +kernel
theorem dX5_kindOf_7 : decode cX5_kindOf 7 = .ok (.bipush 122, 2) := by decide +kernel
theorem dX5_kindOf_9 : decode cX5_kindOf 9 = .ok (.if_icmp .gt 5, 3) := by decide +kernel
theorem dX5_kindOf_12 : decode cX5_kindOf 12 = .ok (.iconst 4, 1) := by decide +kernel
theorem dX5_kindOf_13 : decode cX5_kindOf 13 = .ok (.ireturn, 1) := by decide +kernel
theorem dX5_kindOf_14 : decode cX5_kindOf 14 = .ok (.iload_n 0, 1) := by decide +kernel
theorem dX5_kindOf_15 : decode cX5_kindOf 15 = .ok (.bipush 48, 2) := by decide +kernel
theorem dX5_kindOf_17 : decode cX5_kindOf 17 = .ok (.if_icmp .lt 11, 3) := by decide +kernel
theorem dX5_kindOf_20 : decode cX5_kindOf 20 = .ok (.iload_n 0, 1) := by decide +kernel
theorem dX5_kindOf_21 : decode cX5_kindOf 21 = .ok (.bipush 57, 2) := by decide +kernel
theorem dX5_kindOf_23 : decode cX5_kindOf 23 = .ok (.if_icmp .gt 5, 3) := by decide +kernel
theorem dX5_kindOf_26 : decode cX5_kindOf 26 = .ok (.iconst 3, 1) := by decide +kernel
theorem dX5_kindOf_27 : decode cX5_kindOf 27 = .ok (.ireturn, 1) := by decide +kernel
theorem dX5_kindOf_28 : decode cX5_kindOf 28 = .ok (.iload_n 0, 1) := by decide +kernel
theorem dX5_kindOf_29 : decode cX5_kindOf 29 = .ok (.bipush 32, 2) := by decide +kernel
theorem dX5_kindOf_31 : decode cX5_kindOf 31 = .ok (.if_icmp .eq 9, 3) := by decide +kernel
theorem dX5_kindOf_34 : decode cX5_kindOf 34 = .ok (.iload_n 0, 1) := by decide +kernel
theorem dX5_kindOf_35 : decode cX5_kindOf 35 = .ok (.bipush 10, 2) := by decide +kernel
theorem dX5_kindOf_37 : decode cX5_kindOf 37 = .ok (.if_icmp .ne 5, 3) := by decide +kernel
theorem dX5_kindOf_40 : decode cX5_kindOf 40 = .ok (.iconst 0, 1) := by decide +kernel
theorem dX5_kindOf_41 : decode cX5_kindOf 41 = .ok (.ireturn, 1) := by decide +kernel
theorem dX5_kindOf_42 : decode cX5_kindOf 42 = .ok (.iload_n 0, 1) := by decide +kernel
theorem dX5_kindOf_43 : decode cX5_kindOf 43 = .ok (.bipush 40, 2) := by decide +kernel
theorem dX5_kindOf_45 : decode cX5_kindOf 45 = .ok (.if_icmp .ne 5, 3) := by decide +kernel
theorem dX5_kindOf_48 : decode cX5_kindOf 48 = .ok (.iconst 5, 1) := by decide +kernel
theorem dX5_kindOf_49 : decode cX5_kindOf 49 = .ok (.ireturn, 1) := by decide +kernel
theorem dX5_kindOf_50 : decode cX5_kindOf 50 = .ok (.iload_n 0, 1) := by decide +kernel
theorem dX5_kindOf_51 : decode cX5_kindOf 51 = .ok (.bipush 41, 2) := by decide +kernel
theorem dX5_kindOf_53 : decode cX5_kindOf 53 = .ok (.if_icmp .ne 6, 3) := by decide +kernel
theorem dX5_kindOf_56 : decode cX5_kindOf 56 = .ok (.bipush 6, 2) := by decide +kernel
theorem dX5_kindOf_58 : decode cX5_kindOf 58 = .ok (.ireturn, 1) := by decide +kernel
theorem dX5_kindOf_59 : decode cX5_kindOf 59 = .ok (.iload_n 0, 1) := by decide +kernel
theorem dX5_kindOf_60 : decode cX5_kindOf 60 = .ok (.bipush 59, 2) := by decide +kernel
theorem dX5_kindOf_62 : decode cX5_kindOf 62 = .ok (.if_icmp .ne 8, 3) := by decide +kernel
theorem dX5_kindOf_65 : decode cX5_kindOf 65 = .ok (.bipush 7, 2) := by decide +kernel
theorem dX5_kindOf_67 : decode cX5_kindOf 67 = .ok (.goto 4, 3) := by decide +kernel
theorem dX5_kindOf_70 : decode cX5_kindOf 70 = .ok (.iconst 2, 1) := by decide +kernel
theorem dX5_kindOf_71 : decode cX5_kindOf 71 = .ok (.ireturn, 1) := by decide +kernel
