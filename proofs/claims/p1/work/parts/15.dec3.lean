set_option maxRecDepth 20000 in
theorem ggX9_available_X0_availableMoney : GoodIn wsX9_available wsX0_availableMoney := goodIn_r _ [6, 7, 8, 9, 19, 20, 21, 22, 23, 24, 25, 26, 27, 28, 29, 30, 31, 32, 33, 34, 35, 36, 37, 38, 39, 40, 41, 42, 43, 44, 45, 46, 47, 48, 49, 50, 51, 52, 53, 54, 55] (by decide +kernel) (by decide +kernel)
set_option maxRecDepth 20000 in
theorem gX9_available_X0_availableMoney : GoodIn wsX9_available (wsV RX9 96 RX0 yX0_availableMoney wsX0_availableMoney) := goodIn_app (goodIn_of _ (by decide +kernel)) ggX9_available_X0_availableMoney
set_option maxRecDepth 20000 in
theorem ggX9_state_X9_needMilestone : GoodIn wsX9_state wsX9_needMilestone := goodIn_ca (goodIn_r _ [6, 7, 8, 9, 5, 10, 11, 12, 13, 14, 15, 16, 17, 18, 19, 20, 21, 42, 43, 44, 45, 46, 47, 48, 49, 50, 51, 52, 53, 54, 55, 56, 57, 58] (by decide +kernel) (by decide +kernel)) (goodIn_sub (fun _ h => List.mem_cons_of_mem _ (List.mem_append_right _ h)) (by decide +kernel))
set_option maxRecDepth 20000 in
theorem gX9_state_X9_needMilestone : GoodIn wsX9_state (wsV RX9 119 RX9 yX9_needMilestone wsX9_needMilestone) := goodIn_app (goodIn_of _ (by decide +kernel)) ggX9_state_X9_needMilestone
set_option maxRecDepth 20000 in
theorem ggX9_paid_X9_needMilestone : GoodIn wsX9_paid wsX9_needMilestone := goodIn_ca (goodIn_r _ [6, 7, 8, 9, 5, 10, 11, 12, 13, 14, 15, 16, 17, 18, 19, 20, 21, 42, 43, 44, 45, 46, 47, 48, 49, 50, 51, 52, 53, 54, 55, 56, 57, 58] (by decide +kernel) (by decide +kernel)) (goodIn_sub (fun _ h => List.mem_cons_of_mem _ (List.mem_append_right _ h)) (by decide +kernel))
set_option maxRecDepth 20000 in
theorem gX9_paid_X9_needMilestone : GoodIn wsX9_paid (wsV RX9 119 RX9 yX9_needMilestone wsX9_needMilestone) := goodIn_app (goodIn_of _ (by decide +kernel)) ggX9_paid_X9_needMilestone
set_option maxRecDepth 20000 in
theorem ggX9_remaining_X9_needMilestone : GoodIn wsX9_remaining wsX9_needMilestone := goodIn_ca (goodIn_r _ [6, 7, 8, 9, 5, 10, 11, 12, 25, 26, 27, 28, 29, 30, 31, 32, 33, 34, 35, 36, 37, 38, 39, 40, 41, 42, 43, 44, 45, 46, 47, 48, 49, 50] (by decide +kernel) (by decide +kernel)) (goodIn_sub (fun _ h => List.mem_cons_of_mem _ (List.mem_append_right _ h)) (by decide +kernel))
set_option maxRecDepth 20000 in
theorem gX9_remaining_X9_needMilestone : GoodIn wsX9_remaining (wsV RX9 119 RX9 yX9_needMilestone wsX9_needMilestone) := goodIn_app (goodIn_of _ (by decide +kernel)) ggX9_remaining_X9_needMilestone
set_option maxRecDepth 20000 in
theorem ggX9_frozen_X9_needMilestone : GoodIn wsX9_frozen wsX9_needMilestone := goodIn_ca (goodIn_r _ [6, 7, 8, 9, 5, 10, 11, 12, 13, 14, 15, 16, 17, 18, 19, 20, 21, 42, 43, 44, 45, 46, 47, 48, 49, 50, 51, 52, 53, 54, 55, 56, 57, 58] (by decide +kernel) (by decide +kernel)) (goodIn_sub (fun _ h => List.mem_cons_of_mem _ (List.mem_append_right _ h)) (by decide +kernel))
set_option maxRecDepth 20000 in
theorem gX9_frozen_X9_needMilestone : GoodIn wsX9_frozen (wsV RX9 119 RX9 yX9_needMilestone wsX9_needMilestone) := goodIn_app (goodIn_of _ (by decide +kernel)) ggX9_frozen_X9_needMilestone
set_option maxRecDepth 20000 in
theorem ggX9_dueDay_X9_needMilestone : GoodIn wsX9_dueDay wsX9_needMilestone := goodIn_ca (goodIn_r _ [6, 7, 8, 9, 5, 10, 11, 12, 13, 14, 15, 16, 17, 18, 19, 20, 21, 42, 43, 44, 45, 46, 47, 48, 49, 50, 51, 52, 53, 54, 55, 56, 57, 58] (by decide +kernel) (by decide +kernel)) (goodIn_sub (fun _ h => List.mem_cons_of_mem _ (List.mem_append_right _ h)) (by decide +kernel))
set_option maxRecDepth 20000 in
theorem gX9_dueDay_X9_needMilestone : GoodIn wsX9_dueDay (wsV RX9 119 RX9 yX9_needMilestone wsX9_needMilestone) := goodIn_app (goodIn_of _ (by decide +kernel)) ggX9_dueDay_X9_needMilestone
set_option maxRecDepth 20000 in
theorem ggX9_holds_X9_needMilestone : GoodIn wsX9_holds wsX9_needMilestone := goodIn_ca (goodIn_r _ [6, 7, 8, 9, 5, 10, 11, 12, 55, 56, 57, 58, 59, 60, 61, 62, 63, 84, 85, 86, 87, 88, 89, 90, 91, 92, 93, 94, 95, 96, 97, 98, 99, 100] (by decide +kernel) (by decide +kernel)) (goodIn_sub (fun _ h => List.mem_cons_of_mem _ (List.mem_append_right _ h)) (by decide +kernel))
set_option maxRecDepth 20000 in
theorem gX9_holds_X9_needMilestone : GoodIn wsX9_holds (wsV RX9 119 RX9 yX9_needMilestone wsX9_needMilestone) := goodIn_app (goodIn_of _ (by decide +kernel)) ggX9_holds_X9_needMilestone
set_option maxRecDepth 20000 in
theorem ggX9_dayByClock_X9_needMilestone : GoodIn wsX9_dayByClock wsX9_needMilestone := goodIn_ca (goodIn_r _ [7, 2, 8, 9, 6, 10, 11, 12, 59, 60, 61, 62, 63, 64, 65, 66, 67, 88, 89, 90, 91, 92, 93, 94, 95, 96, 97, 98, 99, 100, 101, 102, 103, 104] (by decide +kernel) (by decide +kernel)) (goodIn_sub (fun _ h => List.mem_cons_of_mem _ (List.mem_append_right _ h)) (by decide +kernel))
set_option maxRecDepth 20000 in
theorem gX9_dayByClock_X9_needMilestone : GoodIn wsX9_dayByClock (wsV RX9 119 RX9 yX9_needMilestone wsX9_needMilestone) := goodIn_app (goodIn_of _ (by decide +kernel)) ggX9_dayByClock_X9_needMilestone
set_option maxRecDepth 20000 in
theorem ggX9_missingProofs_X9_needMilestone : GoodIn wsX9_missingProofs wsX9_needMilestone := goodIn_ca (goodIn_r _ [7, 1, 8, 9, 6, 10, 11, 12, 63, 64, 65, 66, 67, 68, 69, 70, 71, 72, 73, 74, 75, 76, 77, 78, 79, 80, 81, 82, 83, 84, 85, 86, 87, 88] (by decide +kernel) (by decide +kernel)) (goodIn_sub (fun _ h => List.mem_cons_of_mem _ (List.mem_append_right _ h)) (by decide +kernel))
set_option maxRecDepth 20000 in
theorem gX9_missingProofs_X9_needMilestone : GoodIn wsX9_missingProofs (wsV RX9 119 RX9 yX9_needMilestone wsX9_needMilestone) := goodIn_app (goodIn_of _ (by decide +kernel)) ggX9_missingProofs_X9_needMilestone
set_option maxRecDepth 20000 in
theorem ggX9_graceLeft_X9_needMilestone : GoodIn wsX9_graceLeft wsX9_needMilestone := goodIn_ca (goodIn_r _ [10, 11, 12, 13, 9, 14, 15, 16, 24, 25, 26, 27, 28, 29, 30, 31, 32, 53, 54, 55, 56, 57, 58, 59, 60, 61, 62, 63, 64, 65, 66, 67, 68, 69] (by decide +kernel) (by decide +kernel)) (goodIn_sub (fun _ h => List.mem_cons_of_mem _ (List.mem_append_right _ h)) (by decide +kernel))
set_option maxRecDepth 20000 in
theorem gX9_graceLeft_X9_needMilestone : GoodIn wsX9_graceLeft (wsV RX9 119 RX9 yX9_needMilestone wsX9_needMilestone) := goodIn_app (goodIn_of _ (by decide +kernel)) ggX9_graceLeft_X9_needMilestone
set_option maxRecDepth 20000 in
theorem ggX9_isSubmitted_X9_needProof : GoodIn wsX9_isSubmitted wsX9_needProof := goodIn_ca (goodIn_r _ [6, 7, 8, 9, 5, 10, 11, 12, 23, 24, 25, 26, 27, 28, 29, 30, 31, 32, 33, 34, 35, 36, 37, 38, 39, 40, 41, 42, 43, 44, 45, 46, 47, 48] (by decide +kernel) (by decide +kernel)) (goodIn_sub (fun _ h => List.mem_cons_of_mem _ (List.mem_append_right _ h)) (by decide +kernel))
set_option maxRecDepth 20000 in
theorem gX9_isSubmitted_X9_needProof : GoodIn wsX9_isSubmitted (wsV RX9 180 RX9 yX9_needProof wsX9_needProof) := goodIn_app (goodIn_of _ (by decide +kernel)) ggX9_isSubmitted_X9_needProof
set_option maxRecDepth 20000 in
theorem ggX9_proofCharacter_X9_needProof : GoodIn wsX9_proofCharacter wsX9_needProof := goodIn_ca (goodIn_r _ [6, 1, 7, 8, 5, 9, 10, 11, 22, 23, 24, 25, 26, 27, 28, 29, 30, 31, 32, 33, 34, 35, 36, 37, 38, 39, 40, 41, 42, 43, 44, 45, 46, 47] (by decide +kernel) (by decide +kernel)) (goodIn_sub (fun _ h => List.mem_cons_of_mem _ (List.mem_append_right _ h)) (by decide +kernel))
set_option maxRecDepth 20000 in
theorem gX9_proofCharacter_X9_needProof : GoodIn wsX9_proofCharacter (wsV RX9 180 RX9 yX9_needProof wsX9_needProof) := goodIn_app (goodIn_of _ (by decide +kernel)) ggX9_proofCharacter_X9_needProof
set_option maxRecDepth 20000 in
theorem ggX9_wouldHold_X9_needMilestone : GoodIn wsX9_wouldHold wsX9_needMilestone := goodIn_ca (goodIn_r _ [7, 1, 8, 9, 6, 10, 11, 12, 61, 62, 63, 64, 65, 66, 67, 68, 69, 70, 71, 72, 73, 74, 75, 76, 77, 78, 79, 80, 81, 82, 83, 84, 85, 86] (by decide +kernel) (by decide +kernel)) (goodIn_sub (fun _ h => List.mem_cons_of_mem _ (List.mem_append_left _ (List.mem_append_right _ h))) (by decide +kernel))
set_option maxRecDepth 20000 in
theorem gX9_wouldHold_X9_needMilestone : GoodIn wsX9_wouldHold (wsV RX9 119 RX9 yX9_needMilestone wsX9_needMilestone) := goodIn_app (goodIn_of _ (by decide +kernel)) ggX9_wouldHold_X9_needMilestone
set_option maxRecDepth 20000 in
theorem ggX9_dueAt_X0_dueByRank : GoodIn wsX9_dueAt wsX0_dueByRank := goodIn_r _ [8, 9, 10, 20, 21, 22, 23, 24, 25, 26, 27, 28, 29, 30, 31, 32, 33, 34, 35, 36, 37, 38, 39, 40, 41, 42, 43, 44, 45, 46, 47, 48, 49, 50, 51, 52, 53, 54, 55, 56] (by decide +kernel) (by decide +kernel)
set_option maxRecDepth 20000 in
theorem gX9_dueAt_X0_dueByRank : GoodIn wsX9_dueAt (wsV RX9 207 RX0 yX0_dueByRank wsX0_dueByRank) := goodIn_app (goodIn_of _ (by decide +kernel)) ggX9_dueAt_X0_dueByRank
set_option maxRecDepth 20000 in
theorem ggX9_nextDue_X0_dueByRank : GoodIn wsX9_nextDue wsX0_dueByRank := goodIn_r _ [6, 7, 8, 18, 19, 20, 21, 22, 23, 24, 25, 26, 27, 28, 29, 30, 31, 32, 33, 34, 35, 36, 37, 38, 39, 40, 41, 42, 43, 44, 45, 46, 47, 48, 49, 50, 51, 52, 53, 54] (by decide +kernel) (by decide +kernel)
set_option maxRecDepth 20000 in
theorem gX9_nextDue_X0_dueByRank : GoodIn wsX9_nextDue (wsV RX9 207 RX0 yX0_dueByRank wsX0_dueByRank) := goodIn_app (goodIn_of _ (by decide +kernel)) ggX9_nextDue_X0_dueByRank
set_option maxRecDepth 20000 in
theorem ggX9_paidAfter_X9_needMilestone : GoodIn wsX9_paidAfter wsX9_needMilestone := goodIn_ca (goodIn_r _ [6, 7, 8, 9, 5, 10, 11, 12, 151, 152, 153, 154, 155, 156, 157, 158, 159, 180, 181, 182, 183, 184, 185, 186, 187, 188, 189, 190, 191, 192, 193, 194, 195, 196] (by decide +kernel) (by decide +kernel)) (goodIn_sub (fun _ h => List.mem_cons_of_mem _ (List.mem_append_left _ (List.mem_append_right _ h))) (by decide +kernel))
set_option maxRecDepth 20000 in
theorem gX9_paidAfter_X9_needMilestone : GoodIn wsX9_paidAfter (wsV RX9 119 RX9 yX9_needMilestone wsX9_needMilestone) := goodIn_app (goodIn_of _ (by decide +kernel)) ggX9_paidAfter_X9_needMilestone
set_option maxRecDepth 20000 in
theorem ggX9_daysUntilClosed_X9_needMilestone : GoodIn wsX9_daysUntilClosed wsX9_needMilestone := goodIn_ca (goodIn_r _ [7, 8, 9, 10, 6, 11, 12, 13, 139, 140, 141, 142, 143, 144, 145, 146, 147, 148, 149, 150, 151, 152, 153, 154, 155, 156, 157, 158, 159, 160, 161, 162, 163, 164] (by decide +kernel) (by decide +kernel)) (goodIn_sub (fun _ h => List.mem_cons_of_mem _ (List.mem_append_right _ h)) (by decide +kernel))
set_option maxRecDepth 20000 in
theorem gX9_daysUntilClosed_X9_needMilestone : GoodIn wsX9_daysUntilClosed (wsV RX9 119 RX9 yX9_needMilestone wsX9_needMilestone) := goodIn_app (goodIn_of _ (by decide +kernel)) ggX9_daysUntilClosed_X9_needMilestone
set_option maxRecDepth 20000 in
theorem ggX9_splitPayment_X9_needMilestone : GoodIn wsX9_splitPayment wsX9_needMilestone := goodIn_ca (goodIn_r _ [6, 7, 8, 9, 5, 10, 11, 12, 56, 57, 58, 59, 60, 61, 62, 63, 64, 65, 66, 67, 68, 69, 70, 71, 72, 73, 74, 75, 76, 77, 78, 79, 80, 81] (by decide +kernel) (by decide +kernel)) (goodIn_sub (fun _ h => List.mem_cons_of_mem _ (List.mem_append_left _ (List.mem_append_left _ (List.mem_append_right _ h)))) (by decide +kernel))
set_option maxRecDepth 20000 in
theorem gX9_splitPayment_X9_needMilestone : GoodIn wsX9_splitPayment (wsV RX9 119 RX9 yX9_needMilestone wsX9_needMilestone) := goodIn_app (goodIn_of _ (by decide +kernel)) ggX9_splitPayment_X9_needMilestone
set_option maxRecDepth 20000 in
theorem ggX9_shareFor_X9_needMilestone : GoodIn wsX9_shareFor wsX9_needMilestone := goodIn_ca (goodIn_r _ [8, 3, 9, 10, 7, 11, 12, 13, 63, 64, 65, 66, 67, 68, 69, 70, 71, 72, 73, 74, 75, 76, 77, 78, 79, 80, 81, 82, 83, 84, 85, 86, 87, 88] (by decide +kernel) (by decide +kernel)) (goodIn_sub (fun _ h => List.mem_cons_of_mem _ (List.mem_append_left _ (List.mem_append_left _ (List.mem_append_right _ h)))) (by decide +kernel))
set_option maxRecDepth 20000 in
theorem gX9_shareFor_X9_needMilestone : GoodIn wsX9_shareFor (wsV RX9 119 RX9 yX9_needMilestone wsX9_needMilestone) := goodIn_app (goodIn_of _ (by decide +kernel)) ggX9_shareFor_X9_needMilestone
set_option maxRecDepth 20000 in
theorem ggX9_submit_X9_needProof : GoodIn wsX9_submit wsX9_needProof := goodIn_ca (goodIn_r _ [7, 8, 9, 10, 6, 11, 12, 13, 72, 73, 74, 75, 76, 77, 78, 79, 80, 101, 102, 103, 104, 105, 106, 107, 108, 109, 110, 111, 112, 113, 114, 115, 116, 117] (by decide +kernel) (by decide +kernel)) (goodIn_sub (fun _ h => List.mem_cons_of_mem _ (List.mem_append_right _ h)) (by decide +kernel))
set_option maxRecDepth 20000 in
theorem gX9_submit_X9_needProof : GoodIn wsX9_submit (wsV RX9 180 RX9 yX9_needProof wsX9_needProof) := goodIn_app (goodIn_of _ (by decide +kernel)) ggX9_submit_X9_needProof
set_option maxRecDepth 20000 in
theorem ggX9_approve_X9_needMilestone : GoodIn wsX9_approve wsX9_needMilestone := goodIn_ca (goodIn_r _ [7, 8, 9, 10, 6, 11, 12, 13, 108, 109, 110, 111, 112, 113, 114, 115, 116, 137, 138, 139, 140, 141, 142, 143, 144, 145, 146, 147, 148, 149, 150, 151, 152, 153] (by decide +kernel) (by decide +kernel)) (goodIn_sub (fun _ h => List.mem_cons_of_mem _ (List.mem_append_left _ (List.mem_append_right _ h))) (by decide +kernel))
set_option maxRecDepth 20000 in
theorem gX9_approve_X9_needMilestone : GoodIn wsX9_approve (wsV RX9 119 RX9 yX9_needMilestone wsX9_needMilestone) := goodIn_app (goodIn_of _ (by decide +kernel)) ggX9_approve_X9_needMilestone
set_option maxRecDepth 20000 in
theorem ggX9_pay_X9_needMilestone : GoodIn wsX9_pay wsX9_needMilestone := goodIn_ca (goodIn_r _ [7, 8, 9, 10, 6, 11, 12, 13, 106, 107, 108, 109, 110, 111, 112, 113, 114, 115, 116, 117, 118, 119, 120, 121, 122, 123, 124, 125, 126, 127, 128, 129, 130, 131] (by decide +kernel) (by decide +kernel)) (goodIn_sub (fun _ h => List.mem_cons_of_mem _ (List.mem_append_left _ (List.mem_append_left _ (List.mem_append_right _ h)))) (by decide +kernel))
set_option maxRecDepth 20000 in
theorem gX9_pay_X9_needMilestone : GoodIn wsX9_pay (wsV RX9 119 RX9 yX9_needMilestone wsX9_needMilestone) := goodIn_app (goodIn_of _ (by decide +kernel)) ggX9_pay_X9_needMilestone
set_option maxRecDepth 20000 in
theorem ggX9_dispute_X9_needMilestone : GoodIn wsX9_dispute wsX9_needMilestone := goodIn_ca (goodIn_r _ [7, 8, 9, 10, 6, 11, 12, 13, 90, 91, 92, 93, 94, 95, 96, 97, 98, 99, 100, 101, 102, 103, 104, 105, 106, 107, 108, 109, 110, 111, 112, 113, 114, 115] (by decide +kernel) (by decide +kernel)) (goodIn_sub (fun _ h => List.mem_cons_of_mem _ (List.mem_append_left _ (List.mem_append_right _ h))) (by decide +kernel))
set_option maxRecDepth 20000 in
theorem gX9_dispute_X9_needMilestone : GoodIn wsX9_dispute (wsV RX9 119 RX9 yX9_needMilestone wsX9_needMilestone) := goodIn_app (goodIn_of _ (by decide +kernel)) ggX9_dispute_X9_needMilestone
set_option maxRecDepth 20000 in
theorem ggX9_withdraw_X9_needMilestone : GoodIn wsX9_withdraw wsX9_needMilestone := goodIn_ca (goodIn_r _ [7, 8, 9, 10, 6, 11, 12, 13, 81, 82, 83, 84, 85, 86, 87, 88, 89, 90, 91, 92, 93, 94, 95, 96, 97, 98, 99, 100, 101, 102, 103, 104, 105, 106] (by decide +kernel) (by decide +kernel)) (goodIn_sub (fun _ h => List.mem_cons_of_mem _ (List.mem_append_left _ (List.mem_append_right _ h))) (by decide +kernel))
set_option maxRecDepth 20000 in
theorem gX9_withdraw_X9_needMilestone : GoodIn wsX9_withdraw (wsV RX9 119 RX9 yX9_needMilestone wsX9_needMilestone) := goodIn_app (goodIn_of _ (by decide +kernel)) ggX9_withdraw_X9_needMilestone
set_option maxRecDepth 20000 in
theorem ggX9_resolve_X9_needMilestone : GoodIn wsX9_resolve wsX9_needMilestone := goodIn_ca (goodIn_r _ [7, 8, 9, 10, 6, 11, 12, 13, 125, 126, 127, 128, 129, 130, 131, 132, 133, 134, 135, 136, 137, 138, 139, 140, 141, 142, 143, 144, 145, 146, 147, 148, 149, 150] (by decide +kernel) (by decide +kernel)) (goodIn_sub (fun _ h => List.mem_cons_of_mem _ (List.mem_append_left _ (List.mem_append_left _ (List.mem_append_right _ h)))) (by decide +kernel))
set_option maxRecDepth 20000 in
theorem gX9_resolve_X9_needMilestone : GoodIn wsX9_resolve (wsV RX9 119 RX9 yX9_needMilestone wsX9_needMilestone) := goodIn_app (goodIn_of _ (by decide +kernel)) ggX9_resolve_X9_needMilestone
set_option maxRecDepth 20000 in
theorem ggX9_cancel_X9_needMilestone : GoodIn wsX9_cancel wsX9_needMilestone := goodIn_ca (goodIn_r _ [7, 8, 9, 10, 6, 11, 12, 13, 81, 82, 83, 84, 85, 86, 87, 88, 89, 110, 111, 112, 113, 114, 115, 116, 117, 118, 119, 120, 121, 122, 123, 124, 125, 126] (by decide +kernel) (by decide +kernel)) (goodIn_sub (fun _ h => List.mem_cons_of_mem _ (List.mem_append_left _ (List.mem_append_right _ h))) (by decide +kernel))
set_option maxRecDepth 20000 in
theorem gX9_cancel_X9_needMilestone : GoodIn wsX9_cancel (wsV RX9 119 RX9 yX9_needMilestone wsX9_needMilestone) := goodIn_app (goodIn_of _ (by decide +kernel)) ggX9_cancel_X9_needMilestone
set_option maxRecDepth 20000 in
theorem ggX9_undo_X1_restore : GoodIn wsX9_undo wsX1_restore := goodIn_r _ [7, 8, 9, 10, 11, 12, 13, 14, 15, 16, 17, 18, 19, 20, 21, 22, 23, 24, 25, 26, 27, 28, 29, 30, 31, 32, 33, 34, 35, 36, 37, 38, 39, 40, 41, 42, 43, 44, 45, 46, 47, 48, 58, 59, 60, 61, 62, 63, 64, 65, 66, 67, 68, 69, 70, 71, 72, 73, 74, 75, 76, 77, 78, 79, 80, 81, 82, 83] (by decide +kernel) (by decide +kernel)
set_option maxRecDepth 20000 in
theorem gX9_undo_X1_restore : GoodIn wsX9_undo (wsV RX9 308 RX1 yX1_restore wsX1_restore) := goodIn_app (goodIn_of _ (by decide +kernel)) ggX9_undo_X1_restore
set_option maxRecDepth 20000 in
theorem ggX9_write_X9_needMilestone : GoodIn wsX9_write wsX9_needMilestone := goodIn_ca (goodIn_r _ [6, 7, 8, 9, 5, 10, 11, 12, 13, 14, 15, 16, 17, 18, 19, 20, 21, 42, 43, 44, 45, 46, 47, 48, 49, 50, 51, 52, 53, 54, 55, 56, 57, 58] (by decide +kernel) (by decide +kernel)) (goodIn_sub (fun _ h => List.mem_cons_of_mem _ (List.mem_append_right _ h)) (by decide +kernel))
set_option maxRecDepth 20000 in
theorem gX9_write_X9_needMilestone : GoodIn wsX9_write (wsV RX9 119 RX9 yX9_needMilestone wsX9_needMilestone) := goodIn_app (goodIn_of _ (by decide +kernel)) ggX9_write_X9_needMilestone
set_option maxRecDepth 20000 in
theorem ggX9_entry_X9_needIndex : GoodIn wsX9_entry wsX9_needIndex := goodIn_ca (goodIn_r _ [5, 6, 7] (by decide +kernel) (by decide +kernel)) (goodIn_sub (fun _ h => List.mem_cons_of_mem _ (List.mem_append_left _ (List.mem_append_right _ h))) (by decide +kernel))
set_option maxRecDepth 20000 in
theorem gX9_entry_X9_needIndex : GoodIn wsX9_entry (va_wsS RX9 196 yX9_needIndex wsX9_needIndex) := goodIn_app (goodIn_of _ (by decide +kernel)) ggX9_entry_X9_needIndex
set_option maxRecDepth 20000 in
theorem ggX9_totalOn_X9_needRange : GoodIn wsX9_totalOn wsX9_needRange := goodIn_ca (goodIn_r _ [5, 6, 7] (by decide +kernel) (by decide +kernel)) (goodIn_sub (fun _ h => List.mem_cons_of_mem _ (List.mem_append_right _ h)) (by decide +kernel))
set_option maxRecDepth 20000 in
theorem gX9_totalOn_X9_needRange : GoodIn wsX9_totalOn (va_wsS RX9 67 yX9_needRange wsX9_needRange) := goodIn_app (goodIn_of _ (by decide +kernel)) ggX9_totalOn_X9_needRange
set_option maxRecDepth 20000 in
theorem ggX9_totalOn_X2_sumOn : GoodIn wsX9_totalOn wsX2_sumOn := goodIn_r _ [12, 13, 14, 15, 16, 11, 17, 18, 19, 49, 50, 51] (by decide +kernel) (by decide +kernel)
set_option maxRecDepth 20000 in
theorem gX9_totalOn_X2_sumOn : GoodIn wsX9_totalOn (wsV RX9 359 RX2 yX2_sumOn wsX2_sumOn) := goodIn_app (goodIn_of _ (by decide +kernel)) ggX9_totalOn_X2_sumOn
set_option maxRecDepth 20000 in
theorem ggX9_busiestDay_X2_dayOfMostPayments : GoodIn wsX9_busiestDay wsX2_dayOfMostPayments := goodIn_r _ [6, 7, 8, 9, 10, 5, 11, 12, 13, 43, 44, 45] (by decide +kernel) (by decide +kernel)
set_option maxRecDepth 20000 in
theorem gX9_busiestDay_X2_dayOfMostPayments : GoodIn wsX9_busiestDay (wsV RX9 362 RX2 yX2_dayOfMostPayments wsX2_dayOfMostPayments) := goodIn_app (goodIn_of _ (by decide +kernel)) ggX9_busiestDay_X2_dayOfMostPayments
set_option maxRecDepth 20000 in
theorem ggX9_needMilestone_X9_needIndex : GoodIn wsX9_needMilestone wsX9_needIndex := goodIn_ca (goodIn_r _ [5, 6, 7] (by decide +kernel) (by decide +kernel)) (goodIn_sub (fun _ h => List.mem_cons_of_mem _ (List.mem_append_right _ h)) (by decide +kernel))
set_option maxRecDepth 20000 in
theorem gX9_needMilestone_X9_needIndex : GoodIn wsX9_needMilestone (va_wsS RX9 196 yX9_needIndex wsX9_needIndex) := goodIn_app (goodIn_of _ (by decide +kernel)) ggX9_needMilestone_X9_needIndex
set_option maxRecDepth 20000 in
theorem ggX9_needProof_X9_needIndex : GoodIn wsX9_needProof wsX9_needIndex := goodIn_ca (goodIn_r _ [5, 6, 7] (by decide +kernel) (by decide +kernel)) (goodIn_sub (fun _ h => List.mem_cons_of_mem _ (List.mem_append_right _ h)) (by decide +kernel))
set_option maxRecDepth 20000 in
theorem gX9_needProof_X9_needIndex : GoodIn wsX9_needProof (va_wsS RX9 196 yX9_needIndex wsX9_needIndex) := goodIn_app (goodIn_of _ (by decide +kernel)) ggX9_needProof_X9_needIndex
theorem dX0_availableMoney_0 : decode cX0_availableMoney 0 = .ok (.aload_n 0, 1) := by decide +kernel
theorem dX0_availableMoney_1 : decode cX0_availableMoney 1 = .ok (.getfield 47, 3) := by decide +kernel
theorem dX0_availableMoney_4 : decode cX0_availableMoney 4 = .ok (.istore_n 1, 1) := by decide +kernel
theorem dX0_availableMoney_5 : decode cX0_availableMoney 5 = .ok (.iconst 0, 1) := by decide +kernel
theorem dX0_availableMoney_6 : decode cX0_availableMoney 6 = .ok (.istore_n 2, 1) := by decide +kernel
theorem dX0_availableMoney_7 : decode cX0_availableMoney 7 = .ok (.iload_n 2, 1) := by decide +kernel
theorem dX0_availableMoney_8 : decode cX0_availableMoney 8 = .ok (.aload_n 0, 1) := by decide +kernel
theorem dX0_availableMoney_9 : decode cX0_availableMoney 9 = .ok (.getfield 31, 3) := by decide +kernel
theorem dX0_availableMoney_12 : decode cX0_availableMoney 12 = .ok (.getfield 109, 3) := by decide +kernel
theorem dX0_availableMoney_15 : decode cX0_availableMoney 15 = .ok (.if_icmp .ge 18, 3) := by decide +kernel
theorem dX0_availableMoney_18 : decode cX0_availableMoney 18 = .ok (.iload_n 1, 1) := by decide +kernel
theorem dX0_availableMoney_19 : decode cX0_availableMoney 19 = .ok (.aload_n 0, 1) := by decide +kernel
theorem dX0_availableMoney_20 : decode cX0_availableMoney 20 = .ok (.getfield 25, 3) := by decide +kernel
theorem dX0_availableMoney_23 : decode cX0_availableMoney 23 = .ok (.iload_n 2, 1) := by decide +kernel
theorem dX0_availableMoney_24 : decode cX0_availableMoney 24 = .ok (.iaload, 1) := by decide +kernel
theorem dX0_availableMoney_25 : decode cX0_availableMoney 25 = .ok (.isub, 1) := by decide +kernel
theorem dX0_availableMoney_26 : decode cX0_availableMoney 26 = .ok (.istore_n 1, 1) := by decide +kernel
theorem dX0_availableMoney_27 : decode cX0_availableMoney 27 = .ok (.iinc 2 1, 3) := by decide +kernel
theorem dX0_availableMoney_30 : decode cX0_availableMoney 30 = .ok (.goto (-23), 3) := by decide +kernel
theorem dX0_availableMoney_33 : decode cX0_availableMoney 33 = .ok (.iload_n 1, 1) := by decide +kernel
theorem dX0_availableMoney_34 : decode cX0_availableMoney 34 = .ok (.ireturn, 1) := by decide +kernel
theorem dX0_dueByRank_0 : decode cX0_dueByRank 0 = .ok (.iconst 0, 1) := by decide +kernel
theorem dX0_dueByRank_1 : decode cX0_dueByRank 1 = .ok (.istore_n 2, 1) := by decide +kernel
theorem dX0_dueByRank_2 : decode cX0_dueByRank 2 = .ok (.iconst 0, 1) := by decide +kernel
theorem dX0_dueByRank_3 : decode cX0_dueByRank 3 = .ok (.istore_n 3, 1) := by decide +kernel
theorem dX0_dueByRank_4 : decode cX0_dueByRank 4 = .ok (.iload_n 3, 1) := by decide +kernel
theorem dX0_dueByRank_5 : decode cX0_dueByRank 5 = .ok (.aload_n 0, 1) := by decide +kernel
theorem dX0_dueByRank_6 : decode cX0_dueByRank 6 = .ok (.getfield 31, 3) := by decide +kernel
theorem dX0_dueByRank_9 : decode cX0_dueByRank 9 = .ok (.getfield 109, 3) := by decide +kernel
theorem dX0_dueByRank_12 : decode cX0_dueByRank 12 = .ok (.if_icmp .ge 42, 3) := by decide +kernel
theorem dX0_dueByRank_15 : decode cX0_dueByRank 15 = .ok (.aload_n 0, 1) := by decide +kernel
theorem dX0_dueByRank_16 : decode cX0_dueByRank 16 = .ok (.getfield 31, 3) := by decide +kernel
theorem dX0_dueByRank_19 : decode cX0_dueByRank 19 = .ok (.getfield 138, 3) := by decide +kernel
theorem dX0_dueByRank_22 : decode cX0_dueByRank 22 = .ok (.iload_n 3, 1) := by decide +kernel
theorem dX0_dueByRank_23 : decode cX0_dueByRank 23 = .ok (.iaload, 1) := by decide +kernel
theorem dX0_dueByRank_24 : decode cX0_dueByRank 24 = .ok (.istore 4, 2) := by decide +kernel
theorem dX0_dueByRank_26 : decode cX0_dueByRank 26 = .ok (.aload_n 0, 1) := by decide +kernel
theorem dX0_dueByRank_27 : decode cX0_dueByRank 27 = .ok (.getfield 18, 3) := by decide +kernel
theorem dX0_dueByRank_30 : decode cX0_dueByRank 30 = .ok (.iload 4, 2) := by decide +kernel
theorem dX0_dueByRank_32 : decode cX0_dueByRank 32 = .ok (.iaload, 1) := by decide +kernel
theorem dX0_dueByRank_33 : decode cX0_dueByRank 33 = .ok (.iconst 1, 1) := by decide +kernel
theorem dX0_dueByRank_34 : decode cX0_dueByRank 34 = .ok (.if_icmp .ne 14, 3) := by decide +kernel
theorem dX0_dueByRank_37 : decode cX0_dueByRank 37 = .ok (.iload_n 2, 1) := by decide +kernel
theorem dX0_dueByRank_38 : decode cX0_dueByRank 38 = .ok (.iload_n 1, 1) := by decide +kernel
theorem dX0_dueByRank_39 : decode cX0_dueByRank 39 = .ok (.if_icmp .ne 6, 3) := by decide +kernel
theorem dX0_dueByRank_42 : decode cX0_dueByRank 42 = .ok (.iload 4, 2) := by decide +kernel
theorem dX0_dueByRank_44 : decode cX0_dueByRank 44 = .ok (.ireturn, 1) := by decide +kernel
theorem dX0_dueByRank_45 : decode cX0_dueByRank 45 = .ok (.iinc 2 1, 3) := by decide +kernel
theorem dX0_dueByRank_48 : decode cX0_dueByRank 48 = .ok (.iinc 3 1, 3) := by decide +kernel
theorem dX0_dueByRank_51 : decode cX0_dueByRank 51 = .ok (.goto (-47), 3) := by decide +kernel
theorem dX0_dueByRank_54 : decode cX0_dueByRank 54 = .ok (.iconst (-1), 1) := by decide +kernel
theorem dX0_dueByRank_55 : decode cX0_dueByRank 55 = .ok (.ireturn, 1) := by decide +kernel
theorem dX1_restore_0 : decode cX1_restore 0 = .ok (.aload_n 0, 1) := by decide +kernel
theorem dX1_restore_1 : decode cX1_restore 1 = .ok (.getfield 28, 3) := by decide +kernel
theorem dX1_restore_4 : decode cX1_restore 4 = .ok (.ifCond .ne 5, 3) := by decide +kernel
theorem dX1_restore_7 : decode cX1_restore 7 = .ok (.iconst (-1), 1) := by decide +kernel
theorem dX1_restore_8 : decode cX1_restore 8 = .ok (.ireturn, 1) := by decide +kernel
theorem dX1_restore_9 : decode cX1_restore 9 = .ok (.aload_n 0, 1) := by decide +kernel
theorem dX1_restore_10 : decode cX1_restore 10 = .ok (.aload_n 0, 1) := by decide +kernel
theorem dX1_restore_11 : decode cX1_restore 11 = .ok (.getfield 20, 3) := by decide +kernel
theorem dX1_restore_14 : decode cX1_restore 14 = .ok (.bipush 10, 2) := by decide +kernel
theorem dX1_restore_16 : decode cX1_restore 16 = .ok (.iadd, 1) := by decide +kernel
theorem dX1_restore_17 : decode cX1_restore 17 = .ok (.iconst 1, 1) := by decide +kernel
theorem dX1_restore_18 : decode cX1_restore 18 = .ok (.isub, 1) := by decide +kernel
theorem dX1_restore_19 : decode cX1_restore 19 = .ok (.bipush 10, 2) := by decide +kernel
theorem dX1_restore_21 : decode cX1_restore 21 = .ok (.irem, 1) := by decide +kernel
theorem dX1_restore_22 : decode cX1_restore 22 = .ok (.putfield 20, 3) := by decide +kernel
theorem dX1_restore_25 : decode cX1_restore 25 = .ok (.aload_n 0, 1) := by decide +kernel
theorem dX1_restore_26 : decode cX1_restore 26 = .ok (.dup, 1) := by decide +kernel
theorem dX1_restore_27 : decode cX1_restore 27 = .ok (.getfield 28, 3) := by decide +kernel
theorem dX1_restore_30 : decode cX1_restore 30 = .ok (.iconst 1, 1) := by decide +kernel
theorem dX1_restore_31 : decode cX1_restore 31 = .ok (.isub, 1) := by decide +kernel
theorem dX1_restore_32 : decode cX1_restore 32 = .ok (.putfield 28, 3) := by decide +kernel
theorem dX1_restore_35 : decode cX1_restore 35 = .ok (.aload_n 1, 1) := by decide +kernel
theorem dX1_restore_36 : decode cX1_restore 36 = .ok (.aload_n 0, 1) := by decide +kernel
theorem dX1_restore_37 : decode cX1_restore 37 = .ok (.getfield 13, 3) := by decide +kernel
theorem dX1_restore_40 : decode cX1_restore 40 = .ok (.aload_n 0, 1) := by decide +kernel
theorem dX1_restore_41 : decode cX1_restore 41 = .ok (.getfield 20, 3) := by decide +kernel
theorem dX1_restore_44 : decode cX1_restore 44 = .ok (.aaload, 1) := by decide +kernel
theorem dX1_restore_45 : decode cX1_restore 45 = .ok (.invokevirtual 24, 3) := by decide +kernel
theorem dX1_restore_48 : decode cX1_restore 48 = .ok (.aload_n 0, 1) := by decide +kernel
theorem dX1_restore_49 : decode cX1_restore 49 = .ok (.getfield 28, 3) := by decide +kernel
theorem dX1_restore_52 : decode cX1_restore 52 = .ok (.ireturn, 1) := by decide +kernel
theorem dX2_dayOfMostPayments_0 : decode cX2_dayOfMostPayments 0 = .ok (.iconst (-1), 1) := by decide +kernel
theorem dX2_dayOfMostPayments_1 : decode cX2_dayOfMostPayments 1 = .ok (.istore_n 1, 1) := by decide +kernel
theorem dX2_dayOfMostPayments_2 : decode cX2_dayOfMostPayments 2 = .ok (.iconst 0, 1) := by decide +kernel
theorem dX2_dayOfMostPayments_3 : decode cX2_dayOfMostPayments 3 = .ok (.istore_n 2, 1) := by decide +kernel
theorem dX2_dayOfMostPayments_4 : decode cX2_dayOfMostPayments 4 = .ok (.iconst (-1), 1) := by decide +kernel
theorem dX2_dayOfMostPayments_5 : decode cX2_dayOfMostPayments 5 = .ok (.istore_n 3, 1) := by decide +kernel
theorem dX2_dayOfMostPayments_6 : decode cX2_dayOfMostPayments 6 = .ok (.iconst 0, 1) := by decide +kernel
theorem dX2_dayOfMostPayments_7 : decode cX2_dayOfMostPayments 7 = .ok (.istore 4, 2) := by decide +kernel
theorem dX2_dayOfMostPayments_9 : decode cX2_dayOfMostPayments 9 = .ok (.iconst 0, 1) := by decide +kernel
theorem dX2_dayOfMostPayments_10 : decode cX2_dayOfMostPayments 10 = .ok (.istore 5, 2) := by decide +kernel
theorem dX2_dayOfMostPayments_12 : decode cX2_dayOfMostPayments 12 = .ok (.iload 5, 2) := by decide +kernel
theorem dX2_dayOfMostPayments_14 : decode cX2_dayOfMostPayments 14 = .ok (.aload_n 0, 1) := by decide +kernel
theorem dX2_dayOfMostPayments_15 : decode cX2_dayOfMostPayments 15 = .ok (.getfield 19, 3) := by decide +kernel
theorem dX2_dayOfMostPayments_18 : decode cX2_dayOfMostPayments 18 = .ok (.if_icmp .ge 66, 3) := by decide +kernel
theorem dX2_dayOfMostPayments_21 : decode cX2_dayOfMostPayments 21 = .ok (.aload_n 0, 1) := by decide +kernel
theorem dX2_dayOfMostPayments_22 : decode cX2_dayOfMostPayments 22 = .ok (.iload 5, 2) := by decide +kernel
theorem dX2_dayOfMostPayments_24 : decode cX2_dayOfMostPayments 24 = .ok (.iconst 0, 1) := by decide +kernel
theorem dX2_dayOfMostPayments_25 : decode cX2_dayOfMostPayments 25 = .ok (.invokevirtual 34, 3) := by decide +kernel
theorem dX2_dayOfMostPayments_28 : decode cX2_dayOfMostPayments 28 = .ok (.iconst 1, 1) := by decide +kernel
theorem dX2_dayOfMostPayments_29 : decode cX2_dayOfMostPayments 29 = .ok (.if_icmp .ne 49, 3) := by decide +kernel
theorem dX2_dayOfMostPayments_32 : decode cX2_dayOfMostPayments 32 = .ok (.aload_n 0, 1) := by decide +kernel
theorem dX2_dayOfMostPayments_33 : decode cX2_dayOfMostPayments 33 = .ok (.iload 5, 2) := by decide +kernel
theorem dX2_dayOfMostPayments_35 : decode cX2_dayOfMostPayments 35 = .ok (.iconst 1, 1) := by decide +kernel
theorem dX2_dayOfMostPayments_36 : decode cX2_dayOfMostPayments 36 = .ok (.invokevirtual 34, 3) := by decide +kernel
theorem dX2_dayOfMostPayments_39 : decode cX2_dayOfMostPayments 39 = .ok (.istore 6, 2) := by decide +kernel
theorem dX2_dayOfMostPayments_41 : decode cX2_dayOfMostPayments 41 = .ok (.iload 6, 2) := by decide +kernel
theorem dX2_dayOfMostPayments_43 : decode cX2_dayOfMostPayments 43 = .ok (.iload_n 3, 1) := by decide +kernel
theorem dX2_dayOfMostPayments_44 : decode cX2_dayOfMostPayments 44 = .ok (.if_icmp .ne 8, 3) := by decide +kernel
theorem dX2_dayOfMostPayments_47 : decode cX2_dayOfMostPayments 47 = .ok (.iload 4, 2) := by decide +kernel
theorem dX2_dayOfMostPayments_49 : decode cX2_dayOfMostPayments 49 = .ok (.goto 4, 3) := by decide +kernel
theorem dX2_dayOfMostPayments_52 : decode cX2_dayOfMostPayments 52 = .ok (.iconst 0, 1) := by decide +kernel
theorem dX2_dayOfMostPayments_53 : decode cX2_dayOfMostPayments 53 = .ok (.aload_n 0, 1) := by decide +kernel
theorem dX2_dayOfMostPayments_54 : decode cX2_dayOfMostPayments 54 = .ok (.iload 5, 2) := by decide +kernel
theorem dX2_dayOfMostPayments_56 : decode cX2_dayOfMostPayments 56 = .ok (.iconst 2, 1) := by decide +kernel
theorem dX2_dayOfMostPayments_57 : decode cX2_dayOfMostPayments 57 = .ok (.invokevirtual 34, 3) := by decide +kernel
theorem dX2_dayOfMostPayments_60 : decode cX2_dayOfMostPayments 60 = .ok (.iadd, 1) := by decide +kernel
theorem dX2_dayOfMostPayments_61 : decode cX2_dayOfMostPayments 61 = .ok (.istore 4, 2) := by decide +kernel
theorem dX2_dayOfMostPayments_63 : decode cX2_dayOfMostPayments 63 = .ok (.iload 6, 2) := by decide +kernel
theorem dX2_dayOfMostPayments_65 : decode cX2_dayOfMostPayments 65 = .ok (.istore_n 3, 1) := by decide +kernel
theorem dX2_dayOfMostPayments_66 : decode cX2_dayOfMostPayments 66 = .ok (.iload 4, 2) := by decide +kernel
theorem dX2_dayOfMostPayments_68 : decode cX2_dayOfMostPayments 68 = .ok (.iload_n 2, 1) := by decide +kernel
theorem dX2_dayOfMostPayments_69 : decode cX2_dayOfMostPayments 69 = .ok (.if_icmp .le 9, 3) := by decide +kernel
theorem dX2_dayOfMostPayments_72 : decode cX2_dayOfMostPayments 72 = .ok (.iload 6, 2) := by decide +kernel
theorem dX2_dayOfMostPayments_74 : decode cX2_dayOfMostPayments 74 = .ok (.istore_n 1, 1) := by decide +kernel
theorem dX2_dayOfMostPayments_75 : decode cX2_dayOfMostPayments 75 = .ok (.iload 4, 2) := by decide +kernel
theorem dX2_dayOfMostPayments_77 : decode cX2_dayOfMostPayments 77 = .ok (.istore_n 2, 1) := by decide +kernel
theorem dX2_dayOfMostPayments_78 : decode cX2_dayOfMostPayments 78 = .ok (.iinc 5 1, 3) := by decide +kernel
theorem dX2_dayOfMostPayments_81 : decode cX2_dayOfMostPayments 81 = .ok (.goto (-69), 3) := by decide +kernel
theorem dX2_dayOfMostPayments_84 : decode cX2_dayOfMostPayments 84 = .ok (.iload_n 1, 1) := by decide +kernel
theorem dX2_dayOfMostPayments_85 : decode cX2_dayOfMostPayments 85 = .ok (.ireturn, 1) := by decide +kernel
theorem dX2_sumOn_0 : decode cX2_sumOn 0 = .ok (.iconst 0, 1) := by decide +kernel
theorem dX2_sumOn_1 : decode cX2_sumOn 1 = .ok (.istore_n 3, 1) := by decide +kernel
theorem dX2_sumOn_2 : decode cX2_sumOn 2 = .ok (.iconst 0, 1) := by decide +kernel
theorem dX2_sumOn_3 : decode cX2_sumOn 3 = .ok (.istore 4, 2) := by decide +kernel
theorem dX2_sumOn_5 : decode cX2_sumOn 5 = .ok (.iload 4, 2) := by decide +kernel
theorem dX2_sumOn_7 : decode cX2_sumOn 7 = .ok (.aload_n 0, 1) := by decide +kernel
theorem dX2_sumOn_8 : decode cX2_sumOn 8 = .ok (.getfield 19, 3) := by decide +kernel
theorem dX2_sumOn_11 : decode cX2_sumOn 11 = .ok (.if_icmp .ge 41, 3) := by decide +kernel
theorem dX2_sumOn_14 : decode cX2_sumOn 14 = .ok (.aload_n 0, 1) := by decide +kernel
theorem dX2_sumOn_15 : decode cX2_sumOn 15 = .ok (.iload 4, 2) := by decide +kernel
theorem dX2_sumOn_17 : decode cX2_sumOn 17 = .ok (.iconst 1, 1) := by decide +kernel
theorem dX2_sumOn_18 : decode cX2_sumOn 18 = .ok (.invokevirtual 34, 3) := by decide +kernel
theorem dX2_sumOn_21 : decode cX2_sumOn 21 = .ok (.iload_n 1, 1) := by decide +kernel
theorem dX2_sumOn_22 : decode cX2_sumOn 22 = .ok (.if_icmp .ne 24, 3) := by decide +kernel
theorem dX2_sumOn_25 : decode cX2_sumOn 25 = .ok (.aload_n 0, 1) := by decide +kernel
theorem dX2_sumOn_26 : decode cX2_sumOn 26 = .ok (.iload 4, 2) := by decide +kernel
theorem dX2_sumOn_28 : decode cX2_sumOn 28 = .ok (.iconst 0, 1) := by decide +kernel
theorem dX2_sumOn_29 : decode cX2_sumOn 29 = .ok (.invokevirtual 34, 3) := by decide +kernel
theorem dX2_sumOn_32 : decode cX2_sumOn 32 = .ok (.iload_n 2, 1) := by decide +kernel
theorem dX2_sumOn_33 : decode cX2_sumOn 33 = .ok (.if_icmp .ne 13, 3) := by decide +kernel
theorem dX2_sumOn_36 : decode cX2_sumOn 36 = .ok (.iload_n 3, 1) := by decide +kernel
theorem dX2_sumOn_37 : decode cX2_sumOn 37 = .ok (.aload_n 0, 1) := by decide +kernel
theorem dX2_sumOn_38 : decode cX2_sumOn 38 = .ok (.iload 4, 2) := by decide +kernel
theorem dX2_sumOn_40 : decode cX2_sumOn 40 = .ok (.iconst 2, 1) := by decide +kernel
theorem dX2_sumOn_41 : decode cX2_sumOn 41 = .ok (.invokevirtual 34, 3) := by decide +kernel
theorem dX2_sumOn_44 : decode cX2_sumOn 44 = .ok (.iadd, 1) := by decide +kernel
theorem dX2_sumOn_45 : decode cX2_sumOn 45 = .ok (.istore_n 3, 1) := by decide +kernel
theorem dX2_sumOn_46 : decode cX2_sumOn 46 = .ok (.iinc 4 1, 3) := by decide +kernel
theorem dX2_sumOn_49 : decode cX2_sumOn 49 = .ok (.goto (-44), 3) := by decide +kernel
theorem dX2_sumOn_52 : decode cX2_sumOn 52 = .ok (.iload_n 3, 1) := by decide +kernel
theorem dX2_sumOn_53 : decode cX2_sumOn 53 = .ok (.ireturn, 1) := by decide +kernel
theorem dX9_accruedParts_0 : decode cX9_accruedParts 0 = .ok (.aload_n 0, 1) := by decide +kernel
theorem dX9_accruedParts_1 : decode cX9_accruedParts 1 = .ok (.getfield 35, 3) := by decide +kernel
theorem dX9_accruedParts_4 : decode cX9_accruedParts 4 = .ok (.getfield 107, 3) := by decide +kernel
theorem dX9_accruedParts_7 : decode cX9_accruedParts 7 = .ok (.lreturn, 1) := by decide +kernel
theorem dX9_approve_0 : decode cX9_approve 0 = .ok (.aload_n 0, 1) := by decide +kernel
theorem dX9_approve_1 : decode cX9_approve 1 = .ok (.iload_n 1, 1) := by decide +kernel
theorem dX9_approve_2 : decode cX9_approve 2 = .ok (.invokevirtual 119, 3) := by decide +kernel
theorem dX9_approve_5 : decode cX9_approve 5 = .ok (.aload_n 0, 1) := by decide +kernel
theorem dX9_approve_6 : decode cX9_approve 6 = .ok (.getfield 35, 3) := by decide +kernel
theorem dX9_approve_9 : decode cX9_approve 9 = .ok (.iload_n 1, 1) := by decide +kernel
theorem dX9_approve_10 : decode cX9_approve 10 = .ok (.invokevirtual 161, 3) := by decide +kernel
theorem dX9_approve_13 : decode cX9_approve 13 = .ok (.ifCond .ne 7, 3) := by decide +kernel
theorem dX9_approve_16 : decode cX9_approve 16 = .ok (.iconst 1, 1) := by decide +kernel
theorem dX9_approve_17 : decode cX9_approve 17 = .ok (.goto 4, 3) := by decide +kernel
theorem dX9_approve_20 : decode cX9_approve 20 = .ok (.iconst 0, 1) := by decide +kernel
theorem dX9_approve_21 : decode cX9_approve 21 = .ok (.invokestatic 251, 3) := by decide +kernel
theorem dX9_approve_24 : decode cX9_approve 24 = .ok (.aload_n 0, 1) := by decide +kernel
theorem dX9_approve_25 : decode cX9_approve 25 = .ok (.getfield 45, 3) := by decide +kernel
theorem dX9_approve_28 : decode cX9_approve 28 = .ok (.aload_n 0, 1) := by decide +kernel
theorem dX9_approve_29 : decode cX9_approve 29 = .ok (.getfield 35, 3) := by decide +kernel
theorem dX9_approve_32 : decode cX9_approve 32 = .ok (.invokevirtual 255, 3) := by decide +kernel
theorem dX9_approve_35 : decode cX9_approve 35 = .ok (.aload_n 0, 1) := by decide +kernel
theorem dX9_approve_36 : decode cX9_approve 36 = .ok (.getfield 35, 3) := by decide +kernel
theorem dX9_approve_39 : decode cX9_approve 39 = .ok (.dup, 1) := by decide +kernel
theorem dX9_approve_40 : decode cX9_approve 40 = .ok (.getfield 261, 3) := by decide +kernel
theorem dX9_approve_43 : decode cX9_approve 43 = .ok (.iconst 1, 1) := by decide +kernel
theorem dX9_approve_44 : decode cX9_approve 44 = .ok (.iload_n 1, 1) := by decide +kernel
theorem dX9_approve_45 : decode cX9_approve 45 = .ok (.ishl, 1) := by decide +kernel
theorem dX9_approve_46 : decode cX9_approve 46 = .ok (.ior, 1) := by decide +kernel
theorem dX9_approve_47 : decode cX9_approve 47 = .ok (.putfield 261, 3) := by decide +kernel
theorem dX9_approve_50 : decode cX9_approve 50 = .ok (.aload_n 0, 1) := by decide +kernel
theorem dX9_approve_51 : decode cX9_approve 51 = .ok (.getfield 35, 3) := by decide +kernel
theorem dX9_approve_54 : decode cX9_approve 54 = .ok (.iload_n 1, 1) := by decide +kernel
theorem dX9_approve_55 : decode cX9_approve 55 = .ok (.aload_n 0, 1) := by decide +kernel
theorem dX9_approve_56 : decode cX9_approve 56 = .ok (.getfield 35, 3) := by decide +kernel
theorem dX9_approve_59 : decode cX9_approve 59 = .ok (.getfield 87, 3) := by decide +kernel
theorem dX9_approve_62 : decode cX9_approve 62 = .ok (.invokevirtual 139, 3) := by decide +kernel
theorem dX9_approve_65 : decode cX9_approve 65 = .ok (.ireturn, 1) := by decide +kernel
theorem dX9_available_0 : decode cX9_available 0 = .ok (.aload_n 0, 1) := by decide +kernel
theorem dX9_available_1 : decode cX9_available 1 = .ok (.getfield 35, 3) := by decide +kernel
theorem dX9_available_4 : decode cX9_available 4 = .ok (.invokevirtual 96, 3) := by decide +kernel
theorem dX9_available_7 : decode cX9_available 7 = .ok (.ireturn, 1) := by decide +kernel
theorem dX9_busiestDay_0 : decode cX9_busiestDay 0 = .ok (.aload_n 0, 1) := by decide +kernel
theorem dX9_busiestDay_1 : decode cX9_busiestDay 1 = .ok (.getfield 35, 3) := by decide +kernel
theorem dX9_busiestDay_4 : decode cX9_busiestDay 4 = .ok (.getfield 347, 3) := by decide +kernel
theorem dX9_busiestDay_7 : decode cX9_busiestDay 7 = .ok (.invokevirtual 362, 3) := by decide +kernel
theorem dX9_busiestDay_10 : decode cX9_busiestDay 10 = .ok (.ireturn, 1) := by decide +kernel
theorem dX9_cancel_0 : decode cX9_cancel 0 = .ok (.aload_n 0, 1) := by decide +kernel
theorem dX9_cancel_1 : decode cX9_cancel 1 = .ok (.iload_n 1, 1) := by decide +kernel
theorem dX9_cancel_2 : decode cX9_cancel 2 = .ok (.invokevirtual 119, 3) := by decide +kernel
theorem dX9_cancel_5 : decode cX9_cancel 5 = .ok (.aload_n 0, 1) := by decide +kernel
theorem dX9_cancel_6 : decode cX9_cancel 6 = .ok (.getfield 35, 3) := by decide +kernel
theorem dX9_cancel_9 : decode cX9_cancel 9 = .ok (.iload_n 1, 1) := by decide +kernel
theorem dX9_cancel_10 : decode cX9_cancel 10 = .ok (.invokevirtual 264, 3) := by decide +kernel
theorem dX9_cancel_13 : decode cX9_cancel 13 = .ok (.invokestatic 251, 3) := by decide +kernel
theorem dX9_cancel_16 : decode cX9_cancel 16 = .ok (.aload_n 0, 1) := by decide +kernel
theorem dX9_cancel_17 : decode cX9_cancel 17 = .ok (.getfield 45, 3) := by decide +kernel
theorem dX9_cancel_20 : decode cX9_cancel 20 = .ok (.aload_n 0, 1) := by decide +kernel
theorem dX9_cancel_21 : decode cX9_cancel 21 = .ok (.getfield 35, 3) := by decide +kernel
theorem dX9_cancel_24 : decode cX9_cancel 24 = .ok (.invokevirtual 255, 3) := by decide +kernel
theorem dX9_cancel_27 : decode cX9_cancel 27 = .ok (.aload_n 0, 1) := by decide +kernel
theorem dX9_cancel_28 : decode cX9_cancel 28 = .ok (.getfield 35, 3) := by decide +kernel
theorem dX9_cancel_31 : decode cX9_cancel 31 = .ok (.iload_n 1, 1) := by decide +kernel
theorem dX9_cancel_32 : decode cX9_cancel 32 = .ok (.invokevirtual 129, 3) := by decide +kernel
theorem dX9_cancel_35 : decode cX9_cancel 35 = .ok (.istore_n 2, 1) := by decide +kernel
theorem dX9_cancel_36 : decode cX9_cancel 36 = .ok (.aload_n 0, 1) := by decide +kernel
theorem dX9_cancel_37 : decode cX9_cancel 37 = .ok (.getfield 35, 3) := by decide +kernel
theorem dX9_cancel_40 : decode cX9_cancel 40 = .ok (.getfield 122, 3) := by decide +kernel
theorem dX9_cancel_43 : decode cX9_cancel 43 = .ok (.iload_n 1, 1) := by decide +kernel
theorem dX9_cancel_44 : decode cX9_cancel 44 = .ok (.iconst 5, 1) := by decide +kernel
theorem dX9_cancel_45 : decode cX9_cancel 45 = .ok (.iastore, 1) := by decide +kernel
theorem dX9_cancel_46 : decode cX9_cancel 46 = .ok (.iload_n 2, 1) := by decide +kernel
theorem dX9_cancel_47 : decode cX9_cancel 47 = .ok (.ireturn, 1) := by decide +kernel
theorem dX9_closedCount_0 : decode cX9_closedCount 0 = .ok (.iconst 0, 1) := by decide +kernel
theorem dX9_closedCount_1 : decode cX9_closedCount 1 = .ok (.istore_n 1, 1) := by decide +kernel
theorem dX9_closedCount_2 : decode cX9_closedCount 2 = .ok (.iconst 0, 1) := by decide +kernel
theorem dX9_closedCount_3 : decode cX9_closedCount 3 = .ok (.istore_n 2, 1) := by decide +kernel
theorem dX9_closedCount_4 : decode cX9_closedCount 4 = .ok (.iload_n 2, 1) := by decide +kernel
theorem dX9_closedCount_5 : decode cX9_closedCount 5 = .ok (.aload_n 0, 1) := by decide +kernel
theorem dX9_closedCount_6 : decode cX9_closedCount 6 = .ok (.getfield 16, 3) := by decide +kernel
theorem dX9_closedCount_9 : decode cX9_closedCount 9 = .ok (.getfield 78, 3) := by decide +kernel
theorem dX9_closedCount_12 : decode cX9_closedCount 12 = .ok (.if_icmp .ge 23, 3) := by decide +kernel
theorem dX9_closedCount_15 : decode cX9_closedCount 15 = .ok (.aload_n 0, 1) := by decide +kernel
theorem dX9_closedCount_16 : decode cX9_closedCount 16 = .ok (.getfield 35, 3) := by decide +kernel
theorem dX9_closedCount_19 : decode cX9_closedCount 19 = .ok (.iload_n 2, 1) := by decide +kernel
theorem dX9_closedCount_20 : decode cX9_closedCount 20 = .ok (.invokevirtual 161, 3) := by decide +kernel
theorem dX9_closedCount_23 : decode cX9_closedCount 23 = .ok (.ifCond .eq 6, 3) := by decide +kernel
theorem dX9_closedCount_26 : decode cX9_closedCount 26 = .ok (.iinc 1 1, 3) := by decide +kernel
theorem dX9_closedCount_29 : decode cX9_closedCount 29 = .ok (.iinc 2 1, 3) := by decide +kernel
theorem dX9_closedCount_32 : decode cX9_closedCount 32 = .ok (.goto (-28), 3) := by decide +kernel
theorem dX9_closedCount_35 : decode cX9_closedCount 35 = .ok (.iload_n 1, 1) := by decide +kernel
theorem dX9_closedCount_36 : decode cX9_closedCount 36 = .ok (.ireturn, 1) := by decide +kernel
theorem dX9_credited_0 : decode cX9_credited 0 = .ok (.aload_n 0, 1) := by decide +kernel
theorem dX9_credited_1 : decode cX9_credited 1 = .ok (.getfield 35, 3) := by decide +kernel
theorem dX9_credited_4 : decode cX9_credited 4 = .ok (.getfield 104, 3) := by decide +kernel
theorem dX9_credited_7 : decode cX9_credited 7 = .ok (.l2i, 1) := by decide +kernel
theorem dX9_credited_8 : decode cX9_credited 8 = .ok (.ireturn, 1) := by decide +kernel
theorem dX9_day_0 : decode cX9_day 0 = .ok (.aload_n 0, 1) := by decide +kernel
theorem dX9_day_1 : decode cX9_day 1 = .ok (.getfield 35, 3) := by decide +kernel
theorem dX9_day_4 : decode cX9_day 4 = .ok (.getfield 87, 3) := by decide +kernel
theorem dX9_day_7 : decode cX9_day 7 = .ok (.ireturn, 1) := by decide +kernel
theorem dX9_dayByClock_0 : decode cX9_dayByClock 0 = .ok (.aload_n 0, 1) := by decide +kernel
theorem dX9_dayByClock_1 : decode cX9_dayByClock 1 = .ok (.iload_n 1, 1) := by decide +kernel
theorem dX9_dayByClock_2 : decode cX9_dayByClock 2 = .ok (.invokevirtual 119, 3) := by decide +kernel
theorem dX9_dayByClock_5 : decode cX9_dayByClock 5 = .ok (.aload_n 0, 1) := by decide +kernel
theorem dX9_dayByClock_6 : decode cX9_dayByClock 6 = .ok (.getfield 35, 3) := by decide +kernel
theorem dX9_dayByClock_9 : decode cX9_dayByClock 9 = .ok (.getfield 87, 3) := by decide +kernel
theorem dX9_dayByClock_12 : decode cX9_dayByClock 12 = .ok (.sipush 400, 3) := by decide +kernel
theorem dX9_dayByClock_15 : decode cX9_dayByClock 15 = .ok (.iadd, 1) := by decide +kernel
theorem dX9_dayByClock_16 : decode cX9_dayByClock 16 = .ok (.istore_n 2, 1) := by decide +kernel
theorem dX9_dayByClock_17 : decode cX9_dayByClock 17 = .ok (.aload_n 0, 1) := by decide +kernel
theorem dX9_dayByClock_18 : decode cX9_dayByClock 18 = .ok (.getfield 35, 3) := by decide +kernel
theorem dX9_dayByClock_21 : decode cX9_dayByClock 21 = .ok (.getfield 87, 3) := by decide +kernel
theorem dX9_dayByClock_24 : decode cX9_dayByClock 24 = .ok (.istore_n 3, 1) := by decide +kernel
theorem dX9_dayByClock_25 : decode cX9_dayByClock 25 = .ok (.iconst 0, 1) := by decide +kernel
theorem dX9_dayByClock_26 : decode cX9_dayByClock 26 = .ok (.istore 4, 2) := by decide +kernel
theorem dX9_dayByClock_28 : decode cX9_dayByClock 28 = .ok (.iload 4, 2) := by decide +kernel
theorem dX9_dayByClock_30 : decode cX9_dayByClock 30 = .ok (.sipush 400, 3) := by decide +kernel
theorem dX9_dayByClock_33 : decode cX9_dayByClock 33 = .ok (.if_icmp .gt 43, 3) := by decide +kernel
theorem dX9_dayByClock_36 : decode cX9_dayByClock 36 = .ok (.iload_n 3, 1) := by decide +kernel
theorem dX9_dayByClock_37 : decode cX9_dayByClock 37 = .ok (.iconst (-1), 1) := by decide +kernel
theorem dX9_dayByClock_38 : decode cX9_dayByClock 38 = .ok (.if_icmp .eq 38, 3) := by decide +kernel
theorem dX9_dayByClock_41 : decode cX9_dayByClock 41 = .ok (.iload_n 3, 1) := by decide +kernel
theorem dX9_dayByClock_42 : decode cX9_dayByClock 42 = .ok (.iload_n 2, 1) := by decide +kernel
theorem dX9_dayByClock_43 : decode cX9_dayByClock 43 = .ok (.if_icmp .gt 33, 3) := by decide +kernel
theorem dX9_dayByClock_46 : decode cX9_dayByClock 46 = .ok (.aload_n 0, 1) := by decide +kernel
theorem dX9_dayByClock_47 : decode cX9_dayByClock 47 = .ok (.getfield 35, 3) := by decide +kernel
theorem dX9_dayByClock_50 : decode cX9_dayByClock 50 = .ok (.iload_n 1, 1) := by decide +kernel
theorem dX9_dayByClock_51 : decode cX9_dayByClock 51 = .ok (.iload_n 3, 1) := by decide +kernel
theorem dX9_dayByClock_52 : decode cX9_dayByClock 52 = .ok (.invokevirtual 139, 3) := by decide +kernel
theorem dX9_dayByClock_55 : decode cX9_dayByClock 55 = .ok (.ifCond .eq 5, 3) := by decide +kernel
theorem dX9_dayByClock_58 : decode cX9_dayByClock 58 = .ok (.iload_n 3, 1) := by decide +kernel
theorem dX9_dayByClock_59 : decode cX9_dayByClock 59 = .ok (.ireturn, 1) := by decide +kernel
theorem dX9_dayByClock_60 : decode cX9_dayByClock 60 = .ok (.aload_n 0, 1) := by decide +kernel
theorem dX9_dayByClock_61 : decode cX9_dayByClock 61 = .ok (.getfield 16, 3) := by decide +kernel
theorem dX9_dayByClock_64 : decode cX9_dayByClock 64 = .ok (.iload_n 1, 1) := by decide +kernel
theorem dX9_dayByClock_65 : decode cX9_dayByClock 65 = .ok (.iload_n 3, 1) := by decide +kernel
theorem dX9_dayByClock_66 : decode cX9_dayByClock 66 = .ok (.invokevirtual 143, 3) := by decide +kernel
theorem dX9_dayByClock_69 : decode cX9_dayByClock 69 = .ok (.istore_n 3, 1) := by decide +kernel
theorem dX9_dayByClock_70 : decode cX9_dayByClock 70 = .ok (.iinc 4 1, 3) := by decide +kernel
theorem dX9_dayByClock_73 : decode cX9_dayByClock 73 = .ok (.goto (-45), 3) := by decide +kernel
theorem dX9_dayByClock_76 : decode cX9_dayByClock 76 = .ok (.iconst (-1), 1) := by decide +kernel
theorem dX9_dayByClock_77 : decode cX9_dayByClock 77 = .ok (.ireturn, 1) := by decide +kernel
theorem dX9_daysUntilClosed_0 : decode cX9_daysUntilClosed 0 = .ok (.aload_n 0, 1) := by decide +kernel
theorem dX9_daysUntilClosed_1 : decode cX9_daysUntilClosed 1 = .ok (.iload_n 1, 1) := by decide +kernel
theorem dX9_daysUntilClosed_2 : decode cX9_daysUntilClosed 2 = .ok (.invokevirtual 119, 3) := by decide +kernel
theorem dX9_daysUntilClosed_5 : decode cX9_daysUntilClosed 5 = .ok (.aload_n 0, 1) := by decide +kernel
theorem dX9_daysUntilClosed_6 : decode cX9_daysUntilClosed 6 = .ok (.getfield 39, 3) := by decide +kernel
theorem dX9_daysUntilClosed_9 : decode cX9_daysUntilClosed 9 = .ok (.aload_n 0, 1) := by decide +kernel
theorem dX9_daysUntilClosed_10 : decode cX9_daysUntilClosed 10 = .ok (.getfield 35, 3) := by decide +kernel
theorem dX9_daysUntilClosed_13 : decode cX9_daysUntilClosed 13 = .ok (.invokevirtual 223, 3) := by decide +kernel
theorem dX9_daysUntilClosed_16 : decode cX9_daysUntilClosed 16 = .ok (.iconst 0, 1) := by decide +kernel
theorem dX9_daysUntilClosed_17 : decode cX9_daysUntilClosed 17 = .ok (.istore_n 2, 1) := by decide +kernel
theorem dX9_daysUntilClosed_18 : decode cX9_daysUntilClosed 18 = .ok (.iload_n 2, 1) := by decide +kernel
theorem dX9_daysUntilClosed_19 : decode cX9_daysUntilClosed 19 = .ok (.bipush 120, 2) := by decide +kernel
theorem dX9_daysUntilClosed_21 : decode cX9_daysUntilClosed 21 = .ok (.if_icmp .gt 29, 3) := by decide +kernel
theorem dX9_daysUntilClosed_24 : decode cX9_daysUntilClosed 24 = .ok (.aload_n 0, 1) := by decide +kernel
theorem dX9_daysUntilClosed_25 : decode cX9_daysUntilClosed 25 = .ok (.getfield 39, 3) := by decide +kernel
theorem dX9_daysUntilClosed_28 : decode cX9_daysUntilClosed 28 = .ok (.iload_n 1, 1) := by decide +kernel
theorem dX9_daysUntilClosed_29 : decode cX9_daysUntilClosed 29 = .ok (.invokevirtual 161, 3) := by decide +kernel
theorem dX9_daysUntilClosed_32 : decode cX9_daysUntilClosed 32 = .ok (.ifCond .eq 5, 3) := by decide +kernel
theorem dX9_daysUntilClosed_35 : decode cX9_daysUntilClosed 35 = .ok (.iload_n 2, 1) := by decide +kernel
theorem dX9_daysUntilClosed_36 : decode cX9_daysUntilClosed 36 = .ok (.ireturn, 1) := by decide +kernel
theorem dX9_daysUntilClosed_37 : decode cX9_daysUntilClosed 37 = .ok (.aload_n 0, 1) := by decide +kernel
theorem dX9_daysUntilClosed_38 : decode cX9_daysUntilClosed 38 = .ok (.getfield 39, 3) := by decide +kernel
theorem dX9_daysUntilClosed_41 : decode cX9_daysUntilClosed 41 = .ok (.invokevirtual 227, 3) := by decide +kernel
theorem dX9_daysUntilClosed_44 : decode cX9_daysUntilClosed 44 = .ok (.iinc 2 1, 3) := by decide +kernel
theorem dX9_daysUntilClosed_47 : decode cX9_daysUntilClosed 47 = .ok (.goto (-29), 3) := by decide +kernel
theorem dX9_daysUntilClosed_50 : decode cX9_daysUntilClosed 50 = .ok (.iconst (-1), 1) := by decide +kernel
theorem dX9_daysUntilClosed_51 : decode cX9_daysUntilClosed 51 = .ok (.ireturn, 1) := by decide +kernel
theorem dX9_deposited_0 : decode cX9_deposited 0 = .ok (.aload_n 0, 1) := by decide +kernel
theorem dX9_deposited_1 : decode cX9_deposited 1 = .ok (.getfield 35, 3) := by decide +kernel
theorem dX9_deposited_4 : decode cX9_deposited 4 = .ok (.getfield 90, 3) := by decide +kernel
theorem dX9_deposited_7 : decode cX9_deposited 7 = .ok (.ireturn, 1) := by decide +kernel
theorem dX9_dispute_0 : decode cX9_dispute 0 = .ok (.aload_n 0, 1) := by decide +kernel
theorem dX9_dispute_1 : decode cX9_dispute 1 = .ok (.iload_n 1, 1) := by decide +kernel
theorem dX9_dispute_2 : decode cX9_dispute 2 = .ok (.invokevirtual 119, 3) := by decide +kernel
theorem dX9_dispute_5 : decode cX9_dispute 5 = .ok (.aload_n 0, 1) := by decide +kernel
theorem dX9_dispute_6 : decode cX9_dispute 6 = .ok (.getfield 35, 3) := by decide +kernel
theorem dX9_dispute_9 : decode cX9_dispute 9 = .ok (.iload_n 1, 1) := by decide +kernel
theorem dX9_dispute_10 : decode cX9_dispute 10 = .ok (.invokevirtual 264, 3) := by decide +kernel
theorem dX9_dispute_13 : decode cX9_dispute 13 = .ok (.invokestatic 251, 3) := by decide +kernel
theorem dX9_dispute_16 : decode cX9_dispute 16 = .ok (.aload_n 0, 1) := by decide +kernel
theorem dX9_dispute_17 : decode cX9_dispute 17 = .ok (.getfield 45, 3) := by decide +kernel
theorem dX9_dispute_20 : decode cX9_dispute 20 = .ok (.aload_n 0, 1) := by decide +kernel
theorem dX9_dispute_21 : decode cX9_dispute 21 = .ok (.getfield 35, 3) := by decide +kernel
theorem dX9_dispute_24 : decode cX9_dispute 24 = .ok (.invokevirtual 255, 3) := by decide +kernel
theorem dX9_dispute_27 : decode cX9_dispute 27 = .ok (.aload_n 0, 1) := by decide +kernel
theorem dX9_dispute_28 : decode cX9_dispute 28 = .ok (.getfield 35, 3) := by decide +kernel
theorem dX9_dispute_31 : decode cX9_dispute 31 = .ok (.iload_n 1, 1) := by decide +kernel
theorem dX9_dispute_32 : decode cX9_dispute 32 = .ok (.invokevirtual 270, 3) := by decide +kernel
theorem dX9_dispute_35 : decode cX9_dispute 35 = .ok (.ireturn, 1) := by decide +kernel
theorem dX9_dueAt_0 : decode cX9_dueAt 0 = .ok (.aload_n 0, 1) := by decide +kernel
theorem dX9_dueAt_1 : decode cX9_dueAt 1 = .ok (.getfield 35, 3) := by decide +kernel
theorem dX9_dueAt_4 : decode cX9_dueAt 4 = .ok (.iload_n 1, 1) := by decide +kernel
theorem dX9_dueAt_5 : decode cX9_dueAt 5 = .ok (.invokevirtual 207, 3) := by decide +kernel
theorem dX9_dueAt_8 : decode cX9_dueAt 8 = .ok (.istore_n 2, 1) := by decide +kernel
theorem dX9_dueAt_9 : decode cX9_dueAt 9 = .ok (.iload_n 2, 1) := by decide +kernel
theorem dX9_dueAt_10 : decode cX9_dueAt 10 = .ok (.iconst (-1), 1) := by decide +kernel
theorem dX9_dueAt_11 : decode cX9_dueAt 11 = .ok (.if_icmp .ne 13, 3) := by decide +kernel
theorem dX9_dueAt_14 : decode cX9_dueAt 14 = .ok (.new 210, 3) := by decide +kernel
theorem dX9_dueAt_17 : decode cX9_dueAt 17 = .ok (.dup, 1) := by decide +kernel
theorem dX9_dueAt_18 : decode cX9_dueAt 18 = .ok (.ldc 212, 2) := by decide +kernel
theorem dX9_dueAt_20 : decode cX9_dueAt 20 = .ok (.invokespecial 214, 3) := by decide +kernel
theorem dX9_dueAt_23 : decode cX9_dueAt 23 = .ok (.athrow, 1) := by decide +kernel
theorem dX9_dueAt_24 : decode cX9_dueAt 24 = .ok (.iload_n 2, 1) := by decide +kernel
theorem dX9_dueAt_25 : decode cX9_dueAt 25 = .ok (.ireturn, 1) := by decide +kernel
theorem dX9_dueDay_0 : decode cX9_dueDay 0 = .ok (.aload_n 0, 1) := by decide +kernel
theorem dX9_dueDay_1 : decode cX9_dueDay 1 = .ok (.iload_n 1, 1) := by decide +kernel
theorem dX9_dueDay_2 : decode cX9_dueDay 2 = .ok (.invokevirtual 119, 3) := by decide +kernel
theorem dX9_dueDay_5 : decode cX9_dueDay 5 = .ok (.aload_n 0, 1) := by decide +kernel
theorem dX9_dueDay_6 : decode cX9_dueDay 6 = .ok (.getfield 35, 3) := by decide +kernel
theorem dX9_dueDay_9 : decode cX9_dueDay 9 = .ok (.getfield 136, 3) := by decide +kernel
theorem dX9_dueDay_12 : decode cX9_dueDay 12 = .ok (.iload_n 1, 1) := by decide +kernel
theorem dX9_dueDay_13 : decode cX9_dueDay 13 = .ok (.iaload, 1) := by decide +kernel
theorem dX9_dueDay_14 : decode cX9_dueDay 14 = .ok (.ireturn, 1) := by decide +kernel
theorem dX9_entries_0 : decode cX9_entries 0 = .ok (.aload_n 0, 1) := by decide +kernel
theorem dX9_entries_1 : decode cX9_entries 1 = .ok (.getfield 35, 3) := by decide +kernel
theorem dX9_entries_4 : decode cX9_entries 4 = .ok (.getfield 347, 3) := by decide +kernel
theorem dX9_entries_7 : decode cX9_entries 7 = .ok (.getfield 351, 3) := by decide +kernel
theorem dX9_entries_10 : decode cX9_entries 10 = .ok (.ireturn, 1) := by decide +kernel
theorem dX9_entry_0 : decode cX9_entry 0 = .ok (.iload_n 1, 1) := by decide +kernel
theorem dX9_entry_1 : decode cX9_entry 1 = .ok (.aload_n 0, 1) := by decide +kernel
theorem dX9_entry_2 : decode cX9_entry 2 = .ok (.getfield 35, 3) := by decide +kernel
theorem dX9_entry_5 : decode cX9_entry 5 = .ok (.getfield 347, 3) := by decide +kernel
theorem dX9_entry_8 : decode cX9_entry 8 = .ok (.getfield 351, 3) := by decide +kernel
theorem dX9_entry_11 : decode cX9_entry 11 = .ok (.invokestatic 196, 3) := by decide +kernel
theorem dX9_entry_14 : decode cX9_entry 14 = .ok (.iload_n 2, 1) := by decide +kernel
theorem dX9_entry_15 : decode cX9_entry 15 = .ok (.iconst 0, 1) := by decide +kernel
theorem dX9_entry_16 : decode cX9_entry 16 = .ok (.iconst 3, 1) := by decide +kernel
theorem dX9_entry_17 : decode cX9_entry 17 = .ok (.invokestatic 67, 3) := by decide +kernel
theorem dX9_entry_20 : decode cX9_entry 20 = .ok (.aload_n 0, 1) := by decide +kernel
theorem dX9_entry_21 : decode cX9_entry 21 = .ok (.getfield 35, 3) := by decide +kernel
theorem dX9_entry_24 : decode cX9_entry 24 = .ok (.getfield 347, 3) := by decide +kernel
theorem dX9_entry_27 : decode cX9_entry 27 = .ok (.iload_n 1, 1) := by decide +kernel
theorem dX9_entry_28 : decode cX9_entry 28 = .ok (.iload_n 2, 1) := by decide +kernel
theorem dX9_entry_29 : decode cX9_entry 29 = .ok (.invokevirtual 356, 3) := by decide +kernel
theorem dX9_entry_32 : decode cX9_entry 32 = .ok (.ireturn, 1) := by decide +kernel
theorem dX9_errorKind_0 : decode cX9_errorKind 0 = .ok (.aload_n 0, 1) := by decide +kernel
theorem dX9_errorKind_1 : decode cX9_errorKind 1 = .ok (.getfield 28, 3) := by decide +kernel
theorem dX9_errorKind_4 : decode cX9_errorKind 4 = .ok (.getfield 81, 3) := by decide +kernel
theorem dX9_errorKind_7 : decode cX9_errorKind 7 = .ok (.ireturn, 1) := by decide +kernel
theorem dX9_errorPosition_0 : decode cX9_errorPosition 0 = .ok (.aload_n 0, 1) := by decide +kernel
theorem dX9_errorPosition_1 : decode cX9_errorPosition 1 = .ok (.getfield 28, 3) := by decide +kernel
theorem dX9_errorPosition_4 : decode cX9_errorPosition 4 = .ok (.getfield 84, 3) := by decide +kernel
theorem dX9_errorPosition_7 : decode cX9_errorPosition 7 = .ok (.ireturn, 1) := by decide +kernel
theorem dX9_fees_0 : decode cX9_fees 0 = .ok (.aload_n 0, 1) := by decide +kernel
theorem dX9_fees_1 : decode cX9_fees 1 = .ok (.getfield 35, 3) := by decide +kernel
theorem dX9_fees_4 : decode cX9_fees 4 = .ok (.getfield 113, 3) := by decide +kernel
theorem dX9_fees_7 : decode cX9_fees 7 = .ok (.ireturn, 1) := by decide +kernel
theorem dX9_frozen_0 : decode cX9_frozen 0 = .ok (.aload_n 0, 1) := by decide +kernel
theorem dX9_frozen_1 : decode cX9_frozen 1 = .ok (.iload_n 1, 1) := by decide +kernel
theorem dX9_frozen_2 : decode cX9_frozen 2 = .ok (.invokevirtual 119, 3) := by decide +kernel
theorem dX9_frozen_5 : decode cX9_frozen 5 = .ok (.aload_n 0, 1) := by decide +kernel
theorem dX9_frozen_6 : decode cX9_frozen 6 = .ok (.getfield 35, 3) := by decide +kernel
theorem dX9_frozen_9 : decode cX9_frozen 9 = .ok (.getfield 133, 3) := by decide +kernel
theorem dX9_frozen_12 : decode cX9_frozen 12 = .ok (.iload_n 1, 1) := by decide +kernel
theorem dX9_frozen_13 : decode cX9_frozen 13 = .ok (.iaload, 1) := by decide +kernel
theorem dX9_frozen_14 : decode cX9_frozen 14 = .ok (.ireturn, 1) := by decide +kernel
theorem dX9_graceLeft_0 : decode cX9_graceLeft 0 = .ok (.aload_n 0, 1) := by decide +kernel
theorem dX9_graceLeft_1 : decode cX9_graceLeft 1 = .ok (.iload_n 1, 1) := by decide +kernel
theorem dX9_graceLeft_2 : decode cX9_graceLeft 2 = .ok (.invokevirtual 119, 3) := by decide +kernel
theorem dX9_graceLeft_5 : decode cX9_graceLeft 5 = .ok (.aload_n 0, 1) := by decide +kernel
theorem dX9_graceLeft_6 : decode cX9_graceLeft 6 = .ok (.getfield 35, 3) := by decide +kernel
theorem dX9_graceLeft_9 : decode cX9_graceLeft 9 = .ok (.getfield 122, 3) := by decide +kernel
theorem dX9_graceLeft_12 : decode cX9_graceLeft 12 = .ok (.iload_n 1, 1) := by decide +kernel
theorem dX9_graceLeft_13 : decode cX9_graceLeft 13 = .ok (.iaload, 1) := by decide +kernel
theorem dX9_graceLeft_14 : decode cX9_graceLeft 14 = .ok (.iconst 1, 1) := by decide +kernel
theorem dX9_graceLeft_15 : decode cX9_graceLeft 15 = .ok (.if_icmp .eq 5, 3) := by decide +kernel
theorem dX9_graceLeft_18 : decode cX9_graceLeft 18 = .ok (.iconst (-1), 1) := by decide +kernel
theorem dX9_graceLeft_19 : decode cX9_graceLeft 19 = .ok (.ireturn, 1) := by decide +kernel
theorem dX9_graceLeft_20 : decode cX9_graceLeft 20 = .ok (.aload_n 0, 1) := by decide +kernel
theorem dX9_graceLeft_21 : decode cX9_graceLeft 21 = .ok (.getfield 35, 3) := by decide +kernel
theorem dX9_graceLeft_24 : decode cX9_graceLeft 24 = .ok (.iload_n 1, 1) := by decide +kernel
theorem dX9_graceLeft_25 : decode cX9_graceLeft 25 = .ok (.invokevirtual 172, 3) := by decide +kernel
theorem dX9_graceLeft_28 : decode cX9_graceLeft 28 = .ok (.aload_n 0, 1) := by decide +kernel
theorem dX9_graceLeft_29 : decode cX9_graceLeft 29 = .ok (.getfield 35, 3) := by decide +kernel
theorem dX9_graceLeft_32 : decode cX9_graceLeft 32 = .ok (.getfield 87, 3) := by decide +kernel
theorem dX9_graceLeft_35 : decode cX9_graceLeft 35 = .ok (.isub, 1) := by decide +kernel
theorem dX9_graceLeft_36 : decode cX9_graceLeft 36 = .ok (.iconst 0, 1) := by decide +kernel
theorem dX9_graceLeft_37 : decode cX9_graceLeft 37 = .ok (.invokestatic 175, 3) := by decide +kernel
theorem dX9_graceLeft_40 : decode cX9_graceLeft 40 = .ok (.ireturn, 1) := by decide +kernel
theorem dX9_holds_0 : decode cX9_holds 0 = .ok (.aload_n 0, 1) := by decide +kernel
theorem dX9_holds_1 : decode cX9_holds 1 = .ok (.iload_n 1, 1) := by decide +kernel
theorem dX9_holds_2 : decode cX9_holds 2 = .ok (.invokevirtual 119, 3) := by decide +kernel
theorem dX9_holds_5 : decode cX9_holds 5 = .ok (.aload_n 0, 1) := by decide +kernel
theorem dX9_holds_6 : decode cX9_holds 6 = .ok (.getfield 35, 3) := by decide +kernel
theorem dX9_holds_9 : decode cX9_holds 9 = .ok (.iload_n 1, 1) := by decide +kernel
theorem dX9_holds_10 : decode cX9_holds 10 = .ok (.aload_n 0, 1) := by decide +kernel
theorem dX9_holds_11 : decode cX9_holds 11 = .ok (.getfield 35, 3) := by decide +kernel
theorem dX9_holds_14 : decode cX9_holds 14 = .ok (.getfield 87, 3) := by decide +kernel
theorem dX9_holds_17 : decode cX9_holds 17 = .ok (.invokevirtual 139, 3) := by decide +kernel
theorem dX9_holds_20 : decode cX9_holds 20 = .ok (.ireturn, 1) := by decide +kernel
theorem dX9_interestPot_0 : decode cX9_interestPot 0 = .ok (.aload_n 0, 1) := by decide +kernel
theorem dX9_interestPot_1 : decode cX9_interestPot 1 = .ok (.getfield 35, 3) := by decide +kernel
theorem dX9_interestPot_4 : decode cX9_interestPot 4 = .ok (.getfield 100, 3) := by decide +kernel
theorem dX9_interestPot_7 : decode cX9_interestPot 7 = .ok (.l2i, 1) := by decide +kernel
theorem dX9_interestPot_8 : decode cX9_interestPot 8 = .ok (.ireturn, 1) := by decide +kernel
theorem dX9_isSubmitted_0 : decode cX9_isSubmitted 0 = .ok (.aload_n 0, 1) := by decide +kernel
theorem dX9_isSubmitted_1 : decode cX9_isSubmitted 1 = .ok (.iload_n 1, 1) := by decide +kernel
theorem dX9_isSubmitted_2 : decode cX9_isSubmitted 2 = .ok (.invokevirtual 180, 3) := by decide +kernel
theorem dX9_isSubmitted_5 : decode cX9_isSubmitted 5 = .ok (.aload_n 0, 1) := by decide +kernel
theorem dX9_isSubmitted_6 : decode cX9_isSubmitted 6 = .ok (.getfield 35, 3) := by decide +kernel
theorem dX9_isSubmitted_9 : decode cX9_isSubmitted 9 = .ok (.iload_n 1, 1) := by decide +kernel
theorem dX9_isSubmitted_10 : decode cX9_isSubmitted 10 = .ok (.invokevirtual 183, 3) := by decide +kernel
theorem dX9_isSubmitted_13 : decode cX9_isSubmitted 13 = .ok (.ireturn, 1) := by decide +kernel
theorem dX9_milestones_0 : decode cX9_milestones 0 = .ok (.aload_n 0, 1) := by decide +kernel
theorem dX9_milestones_1 : decode cX9_milestones 1 = .ok (.getfield 16, 3) := by decide +kernel
theorem dX9_milestones_4 : decode cX9_milestones 4 = .ok (.getfield 78, 3) := by decide +kernel
theorem dX9_milestones_7 : decode cX9_milestones 7 = .ok (.ireturn, 1) := by decide +kernel
theorem dX9_missingProofs_0 : decode cX9_missingProofs 0 = .ok (.aload_n 0, 1) := by decide +kernel
theorem dX9_missingProofs_1 : decode cX9_missingProofs 1 = .ok (.iload_n 1, 1) := by decide +kernel
theorem dX9_missingProofs_2 : decode cX9_missingProofs 2 = .ok (.invokevirtual 119, 3) := by decide +kernel
theorem dX9_missingProofs_5 : decode cX9_missingProofs 5 = .ok (.iconst (-1), 1) := by decide +kernel
theorem dX9_missingProofs_6 : decode cX9_missingProofs 6 = .ok (.istore_n 2, 1) := by decide +kernel
theorem dX9_missingProofs_7 : decode cX9_missingProofs 7 = .ok (.bipush 9, 2) := by decide +kernel
theorem dX9_missingProofs_9 : decode cX9_missingProofs 9 = .ok (.istore_n 3, 1) := by decide +kernel
theorem dX9_missingProofs_10 : decode cX9_missingProofs 10 = .ok (.iconst 1, 1) := by decide +kernel
theorem dX9_missingProofs_11 : decode cX9_missingProofs 11 = .ok (.aload_n 0, 1) := by decide +kernel
theorem dX9_missingProofs_12 : decode cX9_missingProofs 12 = .ok (.getfield 16, 3) := by decide +kernel
theorem dX9_missingProofs_15 : decode cX9_missingProofs 15 = .ok (.getfield 147, 3) := by decide +kernel
theorem dX9_missingProofs_18 : decode cX9_missingProofs 18 = .ok (.ishl, 1) := by decide +kernel
theorem dX9_missingProofs_19 : decode cX9_missingProofs 19 = .ok (.istore 4, 2) := by decide +kernel
theorem dX9_missingProofs_21 : decode cX9_missingProofs 21 = .ok (.iconst 0, 1) := by decide +kernel
theorem dX9_missingProofs_22 : decode cX9_missingProofs 22 = .ok (.istore 5, 2) := by decide +kernel
theorem dX9_missingProofs_24 : decode cX9_missingProofs 24 = .ok (.iload 5, 2) := by decide +kernel
theorem dX9_missingProofs_26 : decode cX9_missingProofs 26 = .ok (.iload 4, 2) := by decide +kernel
theorem dX9_missingProofs_28 : decode cX9_missingProofs 28 = .ok (.if_icmp .ge 65, 3) := by decide +kernel
theorem dX9_missingProofs_31 : decode cX9_missingProofs 31 = .ok (.iload 5, 2) := by decide +kernel
theorem dX9_missingProofs_33 : decode cX9_missingProofs 33 = .ok (.aload_n 0, 1) := by decide +kernel
theorem dX9_missingProofs_34 : decode cX9_missingProofs 34 = .ok (.getfield 35, 3) := by decide +kernel
theorem dX9_missingProofs_37 : decode cX9_missingProofs 37 = .ok (.getfield 150, 3) := by decide +kernel
theorem dX9_missingProofs_40 : decode cX9_missingProofs 40 = .ok (.iand, 1) := by decide +kernel
theorem dX9_missingProofs_41 : decode cX9_missingProofs 41 = .ok (.ifCond .ne 7, 3) := by decide +kernel
theorem dX9_missingProofs_44 : decode cX9_missingProofs 44 = .ok (.iconst 1, 1) := by decide +kernel
theorem dX9_missingProofs_45 : decode cX9_missingProofs 45 = .ok (.goto 4, 3) := by decide +kernel
theorem dX9_missingProofs_48 : decode cX9_missingProofs 48 = .ok (.iconst 0, 1) := by decide +kernel
theorem dX9_missingProofs_49 : decode cX9_missingProofs 49 = .ok (.istore 6, 2) := by decide +kernel
theorem dX9_missingProofs_51 : decode cX9_missingProofs 51 = .ok (.iload 6, 2) := by decide +kernel
theorem dX9_missingProofs_53 : decode cX9_missingProofs 53 = .ok (.ifCond .eq 34, 3) := by decide +kernel
theorem dX9_missingProofs_56 : decode cX9_missingProofs 56 = .ok (.iload 5, 2) := by decide +kernel
theorem dX9_missingProofs_58 : decode cX9_missingProofs 58 = .ok (.invokestatic 153, 3) := by decide +kernel
theorem dX9_missingProofs_61 : decode cX9_missingProofs 61 = .ok (.iload_n 3, 1) := by decide +kernel
theorem dX9_missingProofs_62 : decode cX9_missingProofs 62 = .ok (.if_icmp .ge 25, 3) := by decide +kernel
theorem dX9_missingProofs_65 : decode cX9_missingProofs 65 = .ok (.aload_n 0, 1) := by decide +kernel
theorem dX9_missingProofs_66 : decode cX9_missingProofs 66 = .ok (.getfield 35, 3) := by decide +kernel
theorem dX9_missingProofs_69 : decode cX9_missingProofs 69 = .ok (.iload_n 1, 1) := by decide +kernel
theorem dX9_missingProofs_70 : decode cX9_missingProofs 70 = .ok (.iload 5, 2) := by decide +kernel
theorem dX9_missingProofs_72 : decode cX9_missingProofs 72 = .ok (.invokevirtual 158, 3) := by decide +kernel
theorem dX9_missingProofs_75 : decode cX9_missingProofs 75 = .ok (.ifCond .eq 12, 3) := by decide +kernel
theorem dX9_missingProofs_78 : decode cX9_missingProofs 78 = .ok (.iload 5, 2) := by decide +kernel
theorem dX9_missingProofs_80 : decode cX9_missingProofs 80 = .ok (.istore_n 2, 1) := by decide +kernel
theorem dX9_missingProofs_81 : decode cX9_missingProofs 81 = .ok (.iload 5, 2) := by decide +kernel
theorem dX9_missingProofs_83 : decode cX9_missingProofs 83 = .ok (.invokestatic 153, 3) := by decide +kernel
theorem dX9_missingProofs_86 : decode cX9_missingProofs 86 = .ok (.istore_n 3, 1) := by decide +kernel
theorem dX9_missingProofs_87 : decode cX9_missingProofs 87 = .ok (.iinc 5 1, 3) := by decide +kernel
theorem dX9_missingProofs_90 : decode cX9_missingProofs 90 = .ok (.goto (-66), 3) := by decide +kernel
theorem dX9_missingProofs_93 : decode cX9_missingProofs 93 = .ok (.iload_n 2, 1) := by decide +kernel
theorem dX9_missingProofs_94 : decode cX9_missingProofs 94 = .ok (.ireturn, 1) := by decide +kernel
theorem dX9_needIndex_0 : decode cX9_needIndex 0 = .ok (.iload_n 0, 1) := by decide +kernel
theorem dX9_needIndex_1 : decode cX9_needIndex 1 = .ok (.ifCond .lt 8, 3) := by decide +kernel
theorem dX9_needIndex_4 : decode cX9_needIndex 4 = .ok (.iload_n 0, 1) := by decide +kernel
theorem dX9_needIndex_5 : decode cX9_needIndex 5 = .ok (.iload_n 1, 1) := by decide +kernel
theorem dX9_needIndex_6 : decode cX9_needIndex 6 = .ok (.if_icmp .lt 14, 3) := by decide +kernel
theorem dX9_needIndex_9 : decode cX9_needIndex 9 = .ok (.new 210, 3) := by decide +kernel
theorem dX9_needIndex_12 : decode cX9_needIndex 12 = .ok (.dup, 1) := by decide +kernel
theorem dX9_needIndex_13 : decode cX9_needIndex 13 = .ok (.ldc_w 365, 3) := by decide +kernel
theorem dX9_needIndex_16 : decode cX9_needIndex 16 = .ok (.invokespecial 214, 3) := by decide +kernel
theorem dX9_needIndex_19 : decode cX9_needIndex 19 = .ok (.athrow, 1) := by decide +kernel
theorem dX9_needIndex_20 : decode cX9_needIndex 20 = .ok (.return_, 1) := by decide +kernel
theorem dX9_needMilestone_0 : decode cX9_needMilestone 0 = .ok (.iload_n 1, 1) := by decide +kernel
theorem dX9_needMilestone_1 : decode cX9_needMilestone 1 = .ok (.aload_n 0, 1) := by decide +kernel
theorem dX9_needMilestone_2 : decode cX9_needMilestone 2 = .ok (.getfield 16, 3) := by decide +kernel
theorem dX9_needMilestone_5 : decode cX9_needMilestone 5 = .ok (.getfield 78, 3) := by decide +kernel
theorem dX9_needMilestone_8 : decode cX9_needMilestone 8 = .ok (.invokestatic 196, 3) := by decide +kernel
theorem dX9_needMilestone_11 : decode cX9_needMilestone 11 = .ok (.return_, 1) := by decide +kernel
theorem dX9_needPossible_0 : decode cX9_needPossible 0 = .ok (.iload_n 0, 1) := by decide +kernel
theorem dX9_needPossible_1 : decode cX9_needPossible 1 = .ok (.ifCond .ne 14, 3) := by decide +kernel
theorem dX9_needPossible_4 : decode cX9_needPossible 4 = .ok (.new 369, 3) := by decide +kernel
theorem dX9_needPossible_7 : decode cX9_needPossible 7 = .ok (.dup, 1) := by decide +kernel
theorem dX9_needPossible_8 : decode cX9_needPossible 8 = .ok (.ldc_w 371, 3) := by decide +kernel
theorem dX9_needPossible_11 : decode cX9_needPossible 11 = .ok (.invokespecial 373, 3) := by decide +kernel
theorem dX9_needPossible_14 : decode cX9_needPossible 14 = .ok (.athrow, 1) := by decide +kernel
theorem dX9_needPossible_15 : decode cX9_needPossible 15 = .ok (.return_, 1) := by decide +kernel
theorem dX9_needProof_0 : decode cX9_needProof 0 = .ok (.iload_n 1, 1) := by decide +kernel
theorem dX9_needProof_1 : decode cX9_needProof 1 = .ok (.aload_n 0, 1) := by decide +kernel
theorem dX9_needProof_2 : decode cX9_needProof 2 = .ok (.getfield 16, 3) := by decide +kernel
theorem dX9_needProof_5 : decode cX9_needProof 5 = .ok (.getfield 147, 3) := by decide +kernel
theorem dX9_needProof_8 : decode cX9_needProof 8 = .ok (.invokestatic 196, 3) := by decide +kernel
theorem dX9_needProof_11 : decode cX9_needProof 11 = .ok (.return_, 1) := by decide +kernel
theorem dX9_needRange_0 : decode cX9_needRange 0 = .ok (.iload_n 0, 1) := by decide +kernel
theorem dX9_needRange_1 : decode cX9_needRange 1 = .ok (.iload_n 1, 1) := by decide +kernel
theorem dX9_needRange_2 : decode cX9_needRange 2 = .ok (.if_icmp .lt 8, 3) := by decide +kernel
theorem dX9_needRange_5 : decode cX9_needRange 5 = .ok (.iload_n 0, 1) := by decide +kernel
theorem dX9_needRange_6 : decode cX9_needRange 6 = .ok (.iload_n 2, 1) := by decide +kernel
theorem dX9_needRange_7 : decode cX9_needRange 7 = .ok (.if_icmp .le 14, 3) := by decide +kernel
theorem dX9_needRange_10 : decode cX9_needRange 10 = .ok (.new 279, 3) := by decide +kernel
theorem dX9_needRange_13 : decode cX9_needRange 13 = .ok (.dup, 1) := by decide +kernel
theorem dX9_needRange_14 : decode cX9_needRange 14 = .ok (.ldc_w 367, 3) := by decide +kernel
theorem dX9_needRange_17 : decode cX9_needRange 17 = .ok (.invokespecial 283, 3) := by decide +kernel
theorem dX9_needRange_20 : decode cX9_needRange 20 = .ok (.athrow, 1) := by decide +kernel
theorem dX9_needRange_21 : decode cX9_needRange 21 = .ok (.return_, 1) := by decide +kernel
theorem dX9_nextDue_0 : decode cX9_nextDue 0 = .ok (.aload_n 0, 1) := by decide +kernel
theorem dX9_nextDue_1 : decode cX9_nextDue 1 = .ok (.getfield 35, 3) := by decide +kernel
theorem dX9_nextDue_4 : decode cX9_nextDue 4 = .ok (.iconst 0, 1) := by decide +kernel
theorem dX9_nextDue_5 : decode cX9_nextDue 5 = .ok (.invokevirtual 207, 3) := by decide +kernel
theorem dX9_nextDue_8 : decode cX9_nextDue 8 = .ok (.ireturn, 1) := by decide +kernel
theorem dX9_paid_0 : decode cX9_paid 0 = .ok (.aload_n 0, 1) := by decide +kernel
theorem dX9_paid_1 : decode cX9_paid 1 = .ok (.iload_n 1, 1) := by decide +kernel
theorem dX9_paid_2 : decode cX9_paid 2 = .ok (.invokevirtual 119, 3) := by decide +kernel
theorem dX9_paid_5 : decode cX9_paid 5 = .ok (.aload_n 0, 1) := by decide +kernel
theorem dX9_paid_6 : decode cX9_paid 6 = .ok (.getfield 35, 3) := by decide +kernel
theorem dX9_paid_9 : decode cX9_paid 9 = .ok (.getfield 126, 3) := by decide +kernel
theorem dX9_paid_12 : decode cX9_paid 12 = .ok (.iload_n 1, 1) := by decide +kernel
theorem dX9_paid_13 : decode cX9_paid 13 = .ok (.iaload, 1) := by decide +kernel
theorem dX9_paid_14 : decode cX9_paid 14 = .ok (.ireturn, 1) := by decide +kernel
theorem dX9_paidAfter_0 : decode cX9_paidAfter 0 = .ok (.aload_n 0, 1) := by decide +kernel
theorem dX9_paidAfter_1 : decode cX9_paidAfter 1 = .ok (.iload_n 1, 1) := by decide +kernel
theorem dX9_paidAfter_2 : decode cX9_paidAfter 2 = .ok (.invokevirtual 119, 3) := by decide +kernel
theorem dX9_paidAfter_5 : decode cX9_paidAfter 5 = .ok (.iload_n 2, 1) := by decide +kernel
theorem dX9_paidAfter_6 : decode cX9_paidAfter 6 = .ok (.iconst 1, 1) := by decide +kernel
theorem dX9_paidAfter_7 : decode cX9_paidAfter 7 = .ok (.bipush 120, 2) := by decide +kernel
theorem dX9_paidAfter_9 : decode cX9_paidAfter 9 = .ok (.invokestatic 67, 3) := by decide +kernel
theorem dX9_paidAfter_12 : decode cX9_paidAfter 12 = .ok (.aload_n 0, 1) := by decide +kernel
theorem dX9_paidAfter_13 : decode cX9_paidAfter 13 = .ok (.iload_n 2, 1) := by decide +kernel
theorem dX9_paidAfter_14 : decode cX9_paidAfter 14 = .ok (.invokevirtual 217, 3) := by decide +kernel
theorem dX9_paidAfter_17 : decode cX9_paidAfter 17 = .ok (.aload_n 0, 1) := by decide +kernel
theorem dX9_paidAfter_18 : decode cX9_paidAfter 18 = .ok (.getfield 39, 3) := by decide +kernel
theorem dX9_paidAfter_21 : decode cX9_paidAfter 21 = .ok (.getfield 126, 3) := by decide +kernel
theorem dX9_paidAfter_24 : decode cX9_paidAfter 24 = .ok (.iload_n 1, 1) := by decide +kernel
theorem dX9_paidAfter_25 : decode cX9_paidAfter 25 = .ok (.iaload, 1) := by decide +kernel
theorem dX9_paidAfter_26 : decode cX9_paidAfter 26 = .ok (.ireturn, 1) := by decide +kernel
theorem dX9_pay_0 : decode cX9_pay 0 = .ok (.aload_n 0, 1) := by decide +kernel
theorem dX9_pay_1 : decode cX9_pay 1 = .ok (.iload_n 1, 1) := by decide +kernel
theorem dX9_pay_2 : decode cX9_pay 2 = .ok (.invokevirtual 119, 3) := by decide +kernel
theorem dX9_pay_5 : decode cX9_pay 5 = .ok (.iload_n 2, 1) := by decide +kernel
theorem dX9_pay_6 : decode cX9_pay 6 = .ok (.iconst 1, 1) := by decide +kernel
theorem dX9_pay_7 : decode cX9_pay 7 = .ok (.aload_n 0, 1) := by decide +kernel
theorem dX9_pay_8 : decode cX9_pay 8 = .ok (.getfield 35, 3) := by decide +kernel
theorem dX9_pay_11 : decode cX9_pay 11 = .ok (.iload_n 1, 1) := by decide +kernel
theorem dX9_pay_12 : decode cX9_pay 12 = .ok (.invokevirtual 129, 3) := by decide +kernel
theorem dX9_pay_15 : decode cX9_pay 15 = .ok (.invokestatic 67, 3) := by decide +kernel
theorem dX9_pay_18 : decode cX9_pay 18 = .ok (.aload_n 0, 1) := by decide +kernel
theorem dX9_pay_19 : decode cX9_pay 19 = .ok (.getfield 35, 3) := by decide +kernel
theorem dX9_pay_22 : decode cX9_pay 22 = .ok (.iload_n 1, 1) := by decide +kernel
theorem dX9_pay_23 : decode cX9_pay 23 = .ok (.invokevirtual 264, 3) := by decide +kernel
theorem dX9_pay_26 : decode cX9_pay 26 = .ok (.ifCond .eq 18, 3) := by decide +kernel
theorem dX9_pay_29 : decode cX9_pay 29 = .ok (.iload_n 2, 1) := by decide +kernel
theorem dX9_pay_30 : decode cX9_pay 30 = .ok (.aload_n 0, 1) := by decide +kernel
theorem dX9_pay_31 : decode cX9_pay 31 = .ok (.getfield 35, 3) := by decide +kernel
theorem dX9_pay_34 : decode cX9_pay 34 = .ok (.invokevirtual 96, 3) := by decide +kernel
theorem dX9_pay_37 : decode cX9_pay 37 = .ok (.if_icmp .gt 7, 3) := by decide +kernel
theorem dX9_pay_40 : decode cX9_pay 40 = .ok (.iconst 1, 1) := by decide +kernel
theorem dX9_pay_41 : decode cX9_pay 41 = .ok (.goto 4, 3) := by decide +kernel
theorem dX9_pay_44 : decode cX9_pay 44 = .ok (.iconst 0, 1) := by decide +kernel
theorem dX9_pay_45 : decode cX9_pay 45 = .ok (.invokestatic 251, 3) := by decide +kernel
theorem dX9_pay_48 : decode cX9_pay 48 = .ok (.aload_n 0, 1) := by decide +kernel
theorem dX9_pay_49 : decode cX9_pay 49 = .ok (.getfield 45, 3) := by decide +kernel
theorem dX9_pay_52 : decode cX9_pay 52 = .ok (.aload_n 0, 1) := by decide +kernel
theorem dX9_pay_53 : decode cX9_pay 53 = .ok (.getfield 35, 3) := by decide +kernel
theorem dX9_pay_56 : decode cX9_pay 56 = .ok (.invokevirtual 255, 3) := by decide +kernel
theorem dX9_pay_59 : decode cX9_pay 59 = .ok (.aload_n 0, 1) := by decide +kernel
theorem dX9_pay_60 : decode cX9_pay 60 = .ok (.getfield 35, 3) := by decide +kernel
theorem dX9_pay_63 : decode cX9_pay 63 = .ok (.iload_n 1, 1) := by decide +kernel
theorem dX9_pay_64 : decode cX9_pay 64 = .ok (.iload_n 2, 1) := by decide +kernel
theorem dX9_pay_65 : decode cX9_pay 65 = .ok (.invokevirtual 267, 3) := by decide +kernel
theorem dX9_pay_68 : decode cX9_pay 68 = .ok (.ireturn, 1) := by decide +kernel
theorem dX9_principal_0 : decode cX9_principal 0 = .ok (.aload_n 0, 1) := by decide +kernel
theorem dX9_principal_1 : decode cX9_principal 1 = .ok (.getfield 35, 3) := by decide +kernel
theorem dX9_principal_4 : decode cX9_principal 4 = .ok (.getfield 93, 3) := by decide +kernel
theorem dX9_principal_7 : decode cX9_principal 7 = .ok (.ireturn, 1) := by decide +kernel
theorem dX9_progress_0 : decode cX9_progress 0 = .ok (.lconst 0, 1) := by decide +kernel
theorem dX9_progress_1 : decode cX9_progress 1 = .ok (.lstore_n 1, 1) := by decide +kernel
theorem dX9_progress_2 : decode cX9_progress 2 = .ok (.lconst 0, 1) := by decide +kernel
theorem dX9_progress_3 : decode cX9_progress 3 = .ok (.lstore_n 3, 1) := by decide +kernel
theorem dX9_progress_4 : decode cX9_progress 4 = .ok (.iconst 0, 1) := by decide +kernel
theorem dX9_progress_5 : decode cX9_progress 5 = .ok (.istore 5, 2) := by decide +kernel
theorem dX9_progress_7 : decode cX9_progress 7 = .ok (.iload 5, 2) := by decide +kernel
theorem dX9_progress_9 : decode cX9_progress 9 = .ok (.aload_n 0, 1) := by decide +kernel
theorem dX9_progress_10 : decode cX9_progress 10 = .ok (.getfield 16, 3) := by decide +kernel
theorem dX9_progress_13 : decode cX9_progress 13 = .ok (.getfield 78, 3) := by decide +kernel
theorem dX9_progress_16 : decode cX9_progress 16 = .ok (.if_icmp .ge 37, 3) := by decide +kernel
theorem dX9_progress_19 : decode cX9_progress 19 = .ok (.lload_n 1, 1) := by decide +kernel
theorem dX9_progress_20 : decode cX9_progress 20 = .ok (.aload_n 0, 1) := by decide +kernel
theorem dX9_progress_21 : decode cX9_progress 21 = .ok (.getfield 35, 3) := by decide +kernel
theorem dX9_progress_24 : decode cX9_progress 24 = .ok (.getfield 126, 3) := by decide +kernel
theorem dX9_progress_27 : decode cX9_progress 27 = .ok (.iload 5, 2) := by decide +kernel
theorem dX9_progress_29 : decode cX9_progress 29 = .ok (.iaload, 1) := by decide +kernel
theorem dX9_progress_30 : decode cX9_progress 30 = .ok (.i2l, 1) := by decide +kernel
theorem dX9_progress_31 : decode cX9_progress 31 = .ok (.ladd, 1) := by decide +kernel
theorem dX9_progress_32 : decode cX9_progress 32 = .ok (.lstore_n 1, 1) := by decide +kernel
theorem dX9_progress_33 : decode cX9_progress 33 = .ok (.lload_n 3, 1) := by decide +kernel
theorem dX9_progress_34 : decode cX9_progress 34 = .ok (.aload_n 0, 1) := by decide +kernel
theorem dX9_progress_35 : decode cX9_progress 35 = .ok (.getfield 16, 3) := by decide +kernel
theorem dX9_progress_38 : decode cX9_progress 38 = .ok (.getfield 165, 3) := by decide +kernel
theorem dX9_progress_41 : decode cX9_progress 41 = .ok (.iload 5, 2) := by decide +kernel
theorem dX9_progress_43 : decode cX9_progress 43 = .ok (.iaload, 1) := by decide +kernel
theorem dX9_progress_44 : decode cX9_progress 44 = .ok (.i2l, 1) := by decide +kernel
theorem dX9_progress_45 : decode cX9_progress 45 = .ok (.ladd, 1) := by decide +kernel
theorem dX9_progress_46 : decode cX9_progress 46 = .ok (.lstore_n 3, 1) := by decide +kernel
theorem dX9_progress_47 : decode cX9_progress 47 = .ok (.iinc 5 1, 3) := by decide +kernel
theorem dX9_progress_50 : decode cX9_progress 50 = .ok (.goto (-43), 3) := by decide +kernel
theorem dX9_progress_53 : decode cX9_progress 53 = .ok (.lload_n 3, 1) := by decide +kernel
theorem dX9_progress_54 : decode cX9_progress 54 = .ok (.lconst 0, 1) := by decide +kernel
theorem dX9_progress_55 : decode cX9_progress 55 = .ok (.lcmp, 1) := by decide +kernel
theorem dX9_progress_56 : decode cX9_progress 56 = .ok (.ifCond .le 14, 3) := by decide +kernel
theorem dX9_progress_59 : decode cX9_progress 59 = .ok (.lload_n 1, 1) := by decide +kernel
theorem dX9_progress_60 : decode cX9_progress 60 = .ok (.ldc2_w 168, 3) := by decide +kernel
theorem dX9_progress_63 : decode cX9_progress 63 = .ok (.lmul, 1) := by decide +kernel
theorem dX9_progress_64 : decode cX9_progress 64 = .ok (.lload_n 3, 1) := by decide +kernel
theorem dX9_progress_65 : decode cX9_progress 65 = .ok (.ldiv, 1) := by decide +kernel
theorem dX9_progress_66 : decode cX9_progress 66 = .ok (.l2i, 1) := by decide +kernel
theorem dX9_progress_67 : decode cX9_progress 67 = .ok (.goto 4, 3) := by decide +kernel
theorem dX9_progress_70 : decode cX9_progress 70 = .ok (.iconst 0, 1) := by decide +kernel
theorem dX9_progress_71 : decode cX9_progress 71 = .ok (.ireturn, 1) := by decide +kernel
theorem dX9_proofCharacter_0 : decode cX9_proofCharacter 0 = .ok (.aload_n 0, 1) := by decide +kernel
theorem dX9_proofCharacter_1 : decode cX9_proofCharacter 1 = .ok (.iload_n 1, 1) := by decide +kernel
theorem dX9_proofCharacter_2 : decode cX9_proofCharacter 2 = .ok (.invokevirtual 180, 3) := by decide +kernel
theorem dX9_proofCharacter_5 : decode cX9_proofCharacter 5 = .ok (.aload_n 0, 1) := by decide +kernel
theorem dX9_proofCharacter_6 : decode cX9_proofCharacter 6 = .ok (.getfield 16, 3) := by decide +kernel
theorem dX9_proofCharacter_9 : decode cX9_proofCharacter 9 = .ok (.getfield 186, 3) := by decide +kernel
theorem dX9_proofCharacter_12 : decode cX9_proofCharacter 12 = .ok (.iload_n 1, 1) := by decide +kernel
theorem dX9_proofCharacter_13 : decode cX9_proofCharacter 13 = .ok (.laload, 1) := by decide +kernel
theorem dX9_proofCharacter_14 : decode cX9_proofCharacter 14 = .ok (.lstore_n 3, 1) := by decide +kernel
theorem dX9_proofCharacter_15 : decode cX9_proofCharacter 15 = .ok (.iload_n 2, 1) := by decide +kernel
theorem dX9_proofCharacter_16 : decode cX9_proofCharacter 16 = .ok (.lload_n 3, 1) := by decide +kernel
theorem dX9_proofCharacter_17 : decode cX9_proofCharacter 17 = .ok (.invokestatic 190, 3) := by decide +kernel
theorem dX9_proofCharacter_20 : decode cX9_proofCharacter 20 = .ok (.invokestatic 196, 3) := by decide +kernel
theorem dX9_proofCharacter_23 : decode cX9_proofCharacter 23 = .ok (.lload_n 3, 1) := by decide +kernel
theorem dX9_proofCharacter_24 : decode cX9_proofCharacter 24 = .ok (.iload_n 2, 1) := by decide +kernel
theorem dX9_proofCharacter_25 : decode cX9_proofCharacter 25 = .ok (.invokestatic 200, 3) := by decide +kernel
theorem dX9_proofCharacter_28 : decode cX9_proofCharacter 28 = .ok (.ireturn, 1) := by decide +kernel
theorem dX9_proofs_0 : decode cX9_proofs 0 = .ok (.aload_n 0, 1) := by decide +kernel
theorem dX9_proofs_1 : decode cX9_proofs 1 = .ok (.getfield 16, 3) := by decide +kernel
theorem dX9_proofs_4 : decode cX9_proofs 4 = .ok (.getfield 147, 3) := by decide +kernel
theorem dX9_proofs_7 : decode cX9_proofs 7 = .ok (.ireturn, 1) := by decide +kernel
theorem dX9_received_0 : decode cX9_received 0 = .ok (.aload_n 0, 1) := by decide +kernel
theorem dX9_received_1 : decode cX9_received 1 = .ok (.getfield 35, 3) := by decide +kernel
theorem dX9_received_4 : decode cX9_received 4 = .ok (.getfield 110, 3) := by decide +kernel
theorem dX9_received_7 : decode cX9_received 7 = .ok (.ireturn, 1) := by decide +kernel
theorem dX9_refunded_0 : decode cX9_refunded 0 = .ok (.aload_n 0, 1) := by decide +kernel
theorem dX9_refunded_1 : decode cX9_refunded 1 = .ok (.getfield 35, 3) := by decide +kernel
theorem dX9_refunded_4 : decode cX9_refunded 4 = .ok (.getfield 116, 3) := by decide +kernel
theorem dX9_refunded_7 : decode cX9_refunded 7 = .ok (.ireturn, 1) := by decide +kernel
theorem dX9_remaining_0 : decode cX9_remaining 0 = .ok (.aload_n 0, 1) := by decide +kernel
theorem dX9_remaining_1 : decode cX9_remaining 1 = .ok (.iload_n 1, 1) := by decide +kernel
theorem dX9_remaining_2 : decode cX9_remaining 2 = .ok (.invokevirtual 119, 3) := by decide +kernel
theorem dX9_remaining_5 : decode cX9_remaining 5 = .ok (.aload_n 0, 1) := by decide +kernel
theorem dX9_remaining_6 : decode cX9_remaining 6 = .ok (.getfield 35, 3) := by decide +kernel
theorem dX9_remaining_9 : decode cX9_remaining 9 = .ok (.iload_n 1, 1) := by decide +kernel
theorem dX9_remaining_10 : decode cX9_remaining 10 = .ok (.invokevirtual 129, 3) := by decide +kernel
theorem dX9_remaining_13 : decode cX9_remaining 13 = .ok (.ireturn, 1) := by decide +kernel
theorem dX9_resolve_0 : decode cX9_resolve 0 = .ok (.aload_n 0, 1) := by decide +kernel
theorem dX9_resolve_1 : decode cX9_resolve 1 = .ok (.iload_n 1, 1) := by decide +kernel
theorem dX9_resolve_2 : decode cX9_resolve 2 = .ok (.invokevirtual 119, 3) := by decide +kernel
theorem dX9_resolve_5 : decode cX9_resolve 5 = .ok (.iload_n 2, 1) := by decide +kernel
theorem dX9_resolve_6 : decode cX9_resolve 6 = .ok (.iconst 0, 1) := by decide +kernel
theorem dX9_resolve_7 : decode cX9_resolve 7 = .ok (.sipush 1000, 3) := by decide +kernel
theorem dX9_resolve_10 : decode cX9_resolve 10 = .ok (.invokestatic 67, 3) := by decide +kernel
theorem dX9_resolve_13 : decode cX9_resolve 13 = .ok (.aload_n 0, 1) := by decide +kernel
theorem dX9_resolve_14 : decode cX9_resolve 14 = .ok (.iload_n 1, 1) := by decide +kernel
theorem dX9_resolve_15 : decode cX9_resolve 15 = .ok (.invokevirtual 230, 3) := by decide +kernel
theorem dX9_resolve_18 : decode cX9_resolve 18 = .ok (.aload_n 0, 1) := by decide +kernel
theorem dX9_resolve_19 : decode cX9_resolve 19 = .ok (.getfield 45, 3) := by decide +kernel
theorem dX9_resolve_22 : decode cX9_resolve 22 = .ok (.aload_n 0, 1) := by decide +kernel
theorem dX9_resolve_23 : decode cX9_resolve 23 = .ok (.getfield 35, 3) := by decide +kernel
theorem dX9_resolve_26 : decode cX9_resolve 26 = .ok (.invokevirtual 255, 3) := by decide +kernel
theorem dX9_resolve_29 : decode cX9_resolve 29 = .ok (.aload_n 0, 1) := by decide +kernel
theorem dX9_resolve_30 : decode cX9_resolve 30 = .ok (.getfield 35, 3) := by decide +kernel
theorem dX9_resolve_33 : decode cX9_resolve 33 = .ok (.iload_n 1, 1) := by decide +kernel
theorem dX9_resolve_34 : decode cX9_resolve 34 = .ok (.iload_n 2, 1) := by decide +kernel
theorem dX9_resolve_35 : decode cX9_resolve 35 = .ok (.invokevirtual 276, 3) := by decide +kernel
theorem dX9_resolve_38 : decode cX9_resolve 38 = .ok (.ireturn, 1) := by decide +kernel
theorem dX9_shareFor_0 : decode cX9_shareFor 0 = .ok (.aload_n 0, 1) := by decide +kernel
theorem dX9_shareFor_1 : decode cX9_shareFor 1 = .ok (.iload_n 1, 1) := by decide +kernel
theorem dX9_shareFor_2 : decode cX9_shareFor 2 = .ok (.invokevirtual 119, 3) := by decide +kernel
theorem dX9_shareFor_5 : decode cX9_shareFor 5 = .ok (.iload_n 2, 1) := by decide +kernel
theorem dX9_shareFor_6 : decode cX9_shareFor 6 = .ok (.iconst 0, 1) := by decide +kernel
theorem dX9_shareFor_7 : decode cX9_shareFor 7 = .ok (.ldc 239, 2) := by decide +kernel
theorem dX9_shareFor_9 : decode cX9_shareFor 9 = .ok (.invokestatic 67, 3) := by decide +kernel
theorem dX9_shareFor_12 : decode cX9_shareFor 12 = .ok (.aload_n 0, 1) := by decide +kernel
theorem dX9_shareFor_13 : decode cX9_shareFor 13 = .ok (.iload_n 1, 1) := by decide +kernel
theorem dX9_shareFor_14 : decode cX9_shareFor 14 = .ok (.invokevirtual 230, 3) := by decide +kernel
theorem dX9_shareFor_17 : decode cX9_shareFor 17 = .ok (.aload_n 0, 1) := by decide +kernel
theorem dX9_shareFor_18 : decode cX9_shareFor 18 = .ok (.getfield 35, 3) := by decide +kernel
theorem dX9_shareFor_21 : decode cX9_shareFor 21 = .ok (.iload_n 1, 1) := by decide +kernel
theorem dX9_shareFor_22 : decode cX9_shareFor 22 = .ok (.invokevirtual 233, 3) := by decide +kernel
theorem dX9_shareFor_25 : decode cX9_shareFor 25 = .ok (.istore_n 3, 1) := by decide +kernel
theorem dX9_shareFor_26 : decode cX9_shareFor 26 = .ok (.iconst 0, 1) := by decide +kernel
theorem dX9_shareFor_27 : decode cX9_shareFor 27 = .ok (.istore 4, 2) := by decide +kernel
theorem dX9_shareFor_29 : decode cX9_shareFor 29 = .ok (.iload 4, 2) := by decide +kernel
theorem dX9_shareFor_31 : decode cX9_shareFor 31 = .ok (.sipush 1000, 3) := by decide +kernel
theorem dX9_shareFor_34 : decode cX9_shareFor 34 = .ok (.if_icmp .gt 36, 3) := by decide +kernel
theorem dX9_shareFor_37 : decode cX9_shareFor 37 = .ok (.iload_n 3, 1) := by decide +kernel
theorem dX9_shareFor_38 : decode cX9_shareFor 38 = .ok (.iload 4, 2) := by decide +kernel
theorem dX9_shareFor_40 : decode cX9_shareFor 40 = .ok (.invokestatic 236, 3) := by decide +kernel
theorem dX9_shareFor_43 : decode cX9_shareFor 43 = .ok (.istore 5, 2) := by decide +kernel
theorem dX9_shareFor_45 : decode cX9_shareFor 45 = .ok (.iload 5, 2) := by decide +kernel
theorem dX9_shareFor_47 : decode cX9_shareFor 47 = .ok (.aload_n 0, 1) := by decide +kernel
theorem dX9_shareFor_48 : decode cX9_shareFor 48 = .ok (.getfield 16, 3) := by decide +kernel
theorem dX9_shareFor_51 : decode cX9_shareFor 51 = .ok (.iload 5, 2) := by decide +kernel
theorem dX9_shareFor_53 : decode cX9_shareFor 53 = .ok (.invokevirtual 240, 3) := by decide +kernel
theorem dX9_shareFor_56 : decode cX9_shareFor 56 = .ok (.isub, 1) := by decide +kernel
theorem dX9_shareFor_57 : decode cX9_shareFor 57 = .ok (.iload_n 2, 1) := by decide +kernel
theorem dX9_shareFor_58 : decode cX9_shareFor 58 = .ok (.if_icmp .lt 6, 3) := by decide +kernel
theorem dX9_shareFor_61 : decode cX9_shareFor 61 = .ok (.iload 4, 2) := by decide +kernel
theorem dX9_shareFor_63 : decode cX9_shareFor 63 = .ok (.ireturn, 1) := by decide +kernel
theorem dX9_shareFor_64 : decode cX9_shareFor 64 = .ok (.iinc 4 1, 3) := by decide +kernel
theorem dX9_shareFor_67 : decode cX9_shareFor 67 = .ok (.goto (-38), 3) := by decide +kernel
theorem dX9_shareFor_70 : decode cX9_shareFor 70 = .ok (.iconst (-1), 1) := by decide +kernel
theorem dX9_shareFor_71 : decode cX9_shareFor 71 = .ok (.ireturn, 1) := by decide +kernel
theorem dX9_shortage_0 : decode cX9_shortage 0 = .ok (.iconst 0, 1) := by decide +kernel
theorem dX9_shortage_1 : decode cX9_shortage 1 = .ok (.istore_n 1, 1) := by decide +kernel
theorem dX9_shortage_2 : decode cX9_shortage 2 = .ok (.iconst 0, 1) := by decide +kernel
theorem dX9_shortage_3 : decode cX9_shortage 3 = .ok (.istore_n 2, 1) := by decide +kernel
theorem dX9_shortage_4 : decode cX9_shortage 4 = .ok (.iload_n 2, 1) := by decide +kernel
theorem dX9_shortage_5 : decode cX9_shortage 5 = .ok (.aload_n 0, 1) := by decide +kernel
theorem dX9_shortage_6 : decode cX9_shortage 6 = .ok (.getfield 16, 3) := by decide +kernel
theorem dX9_shortage_9 : decode cX9_shortage 9 = .ok (.getfield 78, 3) := by decide +kernel
theorem dX9_shortage_12 : decode cX9_shortage 12 = .ok (.if_icmp .ge 20, 3) := by decide +kernel
theorem dX9_shortage_15 : decode cX9_shortage 15 = .ok (.iload_n 1, 1) := by decide +kernel
theorem dX9_shortage_16 : decode cX9_shortage 16 = .ok (.aload_n 0, 1) := by decide +kernel
theorem dX9_shortage_17 : decode cX9_shortage 17 = .ok (.getfield 35, 3) := by decide +kernel
theorem dX9_shortage_20 : decode cX9_shortage 20 = .ok (.iload_n 2, 1) := by decide +kernel
theorem dX9_shortage_21 : decode cX9_shortage 21 = .ok (.invokevirtual 129, 3) := by decide +kernel
theorem dX9_shortage_24 : decode cX9_shortage 24 = .ok (.iadd, 1) := by decide +kernel
theorem dX9_shortage_25 : decode cX9_shortage 25 = .ok (.istore_n 1, 1) := by decide +kernel
theorem dX9_shortage_26 : decode cX9_shortage 26 = .ok (.iinc 2 1, 3) := by decide +kernel
theorem dX9_shortage_29 : decode cX9_shortage 29 = .ok (.goto (-25), 3) := by decide +kernel
theorem dX9_shortage_32 : decode cX9_shortage 32 = .ok (.iload_n 1, 1) := by decide +kernel
theorem dX9_shortage_33 : decode cX9_shortage 33 = .ok (.aload_n 0, 1) := by decide +kernel
theorem dX9_shortage_34 : decode cX9_shortage 34 = .ok (.getfield 35, 3) := by decide +kernel
theorem dX9_shortage_37 : decode cX9_shortage 37 = .ok (.getfield 93, 3) := by decide +kernel
theorem dX9_shortage_40 : decode cX9_shortage 40 = .ok (.isub, 1) := by decide +kernel
theorem dX9_shortage_41 : decode cX9_shortage 41 = .ok (.iconst 0, 1) := by decide +kernel
theorem dX9_shortage_42 : decode cX9_shortage 42 = .ok (.invokestatic 175, 3) := by decide +kernel
theorem dX9_shortage_45 : decode cX9_shortage 45 = .ok (.ireturn, 1) := by decide +kernel
theorem dX9_splitPayment_0 : decode cX9_splitPayment 0 = .ok (.aload_n 0, 1) := by decide +kernel
theorem dX9_splitPayment_1 : decode cX9_splitPayment 1 = .ok (.iload_n 1, 1) := by decide +kernel
theorem dX9_splitPayment_2 : decode cX9_splitPayment 2 = .ok (.invokevirtual 119, 3) := by decide +kernel
theorem dX9_splitPayment_5 : decode cX9_splitPayment 5 = .ok (.iload_n 2, 1) := by decide +kernel
theorem dX9_splitPayment_6 : decode cX9_splitPayment 6 = .ok (.iconst 0, 1) := by decide +kernel
theorem dX9_splitPayment_7 : decode cX9_splitPayment 7 = .ok (.sipush 1000, 3) := by decide +kernel
theorem dX9_splitPayment_10 : decode cX9_splitPayment 10 = .ok (.invokestatic 67, 3) := by decide +kernel
theorem dX9_splitPayment_13 : decode cX9_splitPayment 13 = .ok (.aload_n 0, 1) := by decide +kernel
theorem dX9_splitPayment_14 : decode cX9_splitPayment 14 = .ok (.iload_n 1, 1) := by decide +kernel
theorem dX9_splitPayment_15 : decode cX9_splitPayment 15 = .ok (.invokevirtual 230, 3) := by decide +kernel
theorem dX9_splitPayment_18 : decode cX9_splitPayment 18 = .ok (.aload_n 0, 1) := by decide +kernel
theorem dX9_splitPayment_19 : decode cX9_splitPayment 19 = .ok (.getfield 35, 3) := by decide +kernel
theorem dX9_splitPayment_22 : decode cX9_splitPayment 22 = .ok (.iload_n 1, 1) := by decide +kernel
theorem dX9_splitPayment_23 : decode cX9_splitPayment 23 = .ok (.invokevirtual 233, 3) := by decide +kernel
theorem dX9_splitPayment_26 : decode cX9_splitPayment 26 = .ok (.iload_n 2, 1) := by decide +kernel
theorem dX9_splitPayment_27 : decode cX9_splitPayment 27 = .ok (.invokestatic 236, 3) := by decide +kernel
theorem dX9_splitPayment_30 : decode cX9_splitPayment 30 = .ok (.ireturn, 1) := by decide +kernel
theorem dX9_state_0 : decode cX9_state 0 = .ok (.aload_n 0, 1) := by decide +kernel
theorem dX9_state_1 : decode cX9_state 1 = .ok (.iload_n 1, 1) := by decide +kernel
theorem dX9_state_2 : decode cX9_state 2 = .ok (.invokevirtual 119, 3) := by decide +kernel
theorem dX9_state_5 : decode cX9_state 5 = .ok (.aload_n 0, 1) := by decide +kernel
theorem dX9_state_6 : decode cX9_state 6 = .ok (.getfield 35, 3) := by decide +kernel
theorem dX9_state_9 : decode cX9_state 9 = .ok (.getfield 122, 3) := by decide +kernel
theorem dX9_state_12 : decode cX9_state 12 = .ok (.iload_n 1, 1) := by decide +kernel
theorem dX9_state_13 : decode cX9_state 13 = .ok (.iaload, 1) := by decide +kernel
theorem dX9_state_14 : decode cX9_state 14 = .ok (.ireturn, 1) := by decide +kernel
theorem dX9_submit_0 : decode cX9_submit 0 = .ok (.aload_n 0, 1) := by decide +kernel
theorem dX9_submit_1 : decode cX9_submit 1 = .ok (.iload_n 1, 1) := by decide +kernel
theorem dX9_submit_2 : decode cX9_submit 2 = .ok (.invokevirtual 180, 3) := by decide +kernel
theorem dX9_submit_5 : decode cX9_submit 5 = .ok (.aload_n 0, 1) := by decide +kernel
theorem dX9_submit_6 : decode cX9_submit 6 = .ok (.getfield 35, 3) := by decide +kernel
theorem dX9_submit_9 : decode cX9_submit 9 = .ok (.iload_n 1, 1) := by decide +kernel
theorem dX9_submit_10 : decode cX9_submit 10 = .ok (.invokevirtual 183, 3) := by decide +kernel
theorem dX9_submit_13 : decode cX9_submit 13 = .ok (.ifCond .ne 7, 3) := by decide +kernel
theorem dX9_submit_16 : decode cX9_submit 16 = .ok (.iconst 1, 1) := by decide +kernel
theorem dX9_submit_17 : decode cX9_submit 17 = .ok (.goto 4, 3) := by decide +kernel
theorem dX9_submit_20 : decode cX9_submit 20 = .ok (.iconst 0, 1) := by decide +kernel
theorem dX9_submit_21 : decode cX9_submit 21 = .ok (.istore_n 2, 1) := by decide +kernel
theorem dX9_submit_22 : decode cX9_submit 22 = .ok (.aload_n 0, 1) := by decide +kernel
theorem dX9_submit_23 : decode cX9_submit 23 = .ok (.getfield 45, 3) := by decide +kernel
theorem dX9_submit_26 : decode cX9_submit 26 = .ok (.aload_n 0, 1) := by decide +kernel
theorem dX9_submit_27 : decode cX9_submit 27 = .ok (.getfield 35, 3) := by decide +kernel
theorem dX9_submit_30 : decode cX9_submit 30 = .ok (.invokevirtual 255, 3) := by decide +kernel
theorem dX9_submit_33 : decode cX9_submit 33 = .ok (.aload_n 0, 1) := by decide +kernel
theorem dX9_submit_34 : decode cX9_submit 34 = .ok (.getfield 35, 3) := by decide +kernel
theorem dX9_submit_37 : decode cX9_submit 37 = .ok (.dup, 1) := by decide +kernel
theorem dX9_submit_38 : decode cX9_submit 38 = .ok (.getfield 150, 3) := by decide +kernel
theorem dX9_submit_41 : decode cX9_submit 41 = .ok (.iconst 1, 1) := by decide +kernel
theorem dX9_submit_42 : decode cX9_submit 42 = .ok (.iload_n 1, 1) := by decide +kernel
theorem dX9_submit_43 : decode cX9_submit 43 = .ok (.ishl, 1) := by decide +kernel
theorem dX9_submit_44 : decode cX9_submit 44 = .ok (.ior, 1) := by decide +kernel
theorem dX9_submit_45 : decode cX9_submit 45 = .ok (.putfield 150, 3) := by decide +kernel
theorem dX9_submit_48 : decode cX9_submit 48 = .ok (.iload_n 2, 1) := by decide +kernel
theorem dX9_submit_49 : decode cX9_submit 49 = .ok (.ireturn, 1) := by decide +kernel
theorem dX9_totalOn_0 : decode cX9_totalOn 0 = .ok (.iload_n 2, 1) := by decide +kernel
theorem dX9_totalOn_1 : decode cX9_totalOn 1 = .ok (.iconst 0, 1) := by decide +kernel
theorem dX9_totalOn_2 : decode cX9_totalOn 2 = .ok (.iconst 4, 1) := by decide +kernel
theorem dX9_totalOn_3 : decode cX9_totalOn 3 = .ok (.invokestatic 67, 3) := by decide +kernel
theorem dX9_totalOn_6 : decode cX9_totalOn 6 = .ok (.aload_n 0, 1) := by decide +kernel
theorem dX9_totalOn_7 : decode cX9_totalOn 7 = .ok (.getfield 35, 3) := by decide +kernel
theorem dX9_totalOn_10 : decode cX9_totalOn 10 = .ok (.getfield 347, 3) := by decide +kernel
theorem dX9_totalOn_13 : decode cX9_totalOn 13 = .ok (.iload_n 1, 1) := by decide +kernel
theorem dX9_totalOn_14 : decode cX9_totalOn 14 = .ok (.iload_n 2, 1) := by decide +kernel
theorem dX9_totalOn_15 : decode cX9_totalOn 15 = .ok (.invokevirtual 359, 3) := by decide +kernel
theorem dX9_totalOn_18 : decode cX9_totalOn 18 = .ok (.ireturn, 1) := by decide +kernel
theorem dX9_undo_0 : decode cX9_undo 0 = .ok (.aload_n 0, 1) := by decide +kernel
theorem dX9_undo_1 : decode cX9_undo 1 = .ok (.getfield 45, 3) := by decide +kernel
theorem dX9_undo_4 : decode cX9_undo 4 = .ok (.aload_n 0, 1) := by decide +kernel
theorem dX9_undo_5 : decode cX9_undo 5 = .ok (.getfield 35, 3) := by decide +kernel
theorem dX9_undo_8 : decode cX9_undo 8 = .ok (.invokevirtual 308, 3) := by decide +kernel
theorem dX9_undo_11 : decode cX9_undo 11 = .ok (.ireturn, 1) := by decide +kernel
theorem dX9_withdraw_0 : decode cX9_withdraw 0 = .ok (.aload_n 0, 1) := by decide +kernel
theorem dX9_withdraw_1 : decode cX9_withdraw 1 = .ok (.iload_n 1, 1) := by decide +kernel
theorem dX9_withdraw_2 : decode cX9_withdraw 2 = .ok (.invokevirtual 119, 3) := by decide +kernel
theorem dX9_withdraw_5 : decode cX9_withdraw 5 = .ok (.aload_n 0, 1) := by decide +kernel
theorem dX9_withdraw_6 : decode cX9_withdraw 6 = .ok (.iload_n 1, 1) := by decide +kernel
theorem dX9_withdraw_7 : decode cX9_withdraw 7 = .ok (.invokevirtual 230, 3) := by decide +kernel
theorem dX9_withdraw_10 : decode cX9_withdraw 10 = .ok (.aload_n 0, 1) := by decide +kernel
theorem dX9_withdraw_11 : decode cX9_withdraw 11 = .ok (.getfield 45, 3) := by decide +kernel
theorem dX9_withdraw_14 : decode cX9_withdraw 14 = .ok (.aload_n 0, 1) := by decide +kernel
theorem dX9_withdraw_15 : decode cX9_withdraw 15 = .ok (.getfield 35, 3) := by decide +kernel
theorem dX9_withdraw_18 : decode cX9_withdraw 18 = .ok (.invokevirtual 255, 3) := by decide +kernel
theorem dX9_withdraw_21 : decode cX9_withdraw 21 = .ok (.aload_n 0, 1) := by decide +kernel
theorem dX9_withdraw_22 : decode cX9_withdraw 22 = .ok (.getfield 35, 3) := by decide +kernel
theorem dX9_withdraw_25 : decode cX9_withdraw 25 = .ok (.iload_n 1, 1) := by decide +kernel
theorem dX9_withdraw_26 : decode cX9_withdraw 26 = .ok (.iconst 0, 1) := by decide +kernel
theorem dX9_withdraw_27 : decode cX9_withdraw 27 = .ok (.invokevirtual 273, 3) := by decide +kernel
theorem dX9_withdraw_30 : decode cX9_withdraw 30 = .ok (.aload_n 0, 1) := by decide +kernel
theorem dX9_withdraw_31 : decode cX9_withdraw 31 = .ok (.getfield 35, 3) := by decide +kernel
theorem dX9_withdraw_34 : decode cX9_withdraw 34 = .ok (.invokevirtual 96, 3) := by decide +kernel
theorem dX9_withdraw_37 : decode cX9_withdraw 37 = .ok (.ireturn, 1) := by decide +kernel
theorem dX9_wouldHold_0 : decode cX9_wouldHold 0 = .ok (.aload_n 0, 1) := by decide +kernel
theorem dX9_wouldHold_1 : decode cX9_wouldHold 1 = .ok (.iload_n 1, 1) := by decide +kernel
theorem dX9_wouldHold_2 : decode cX9_wouldHold 2 = .ok (.invokevirtual 119, 3) := by decide +kernel
theorem dX9_wouldHold_5 : decode cX9_wouldHold 5 = .ok (.iload_n 2, 1) := by decide +kernel
theorem dX9_wouldHold_6 : decode cX9_wouldHold 6 = .ok (.iconst 0, 1) := by decide +kernel
theorem dX9_wouldHold_7 : decode cX9_wouldHold 7 = .ok (.iconst 1, 1) := by decide +kernel
theorem dX9_wouldHold_8 : decode cX9_wouldHold 8 = .ok (.aload_n 0, 1) := by decide +kernel
theorem dX9_wouldHold_9 : decode cX9_wouldHold 9 = .ok (.getfield 16, 3) := by decide +kernel
theorem dX9_wouldHold_12 : decode cX9_wouldHold 12 = .ok (.getfield 78, 3) := by decide +kernel
theorem dX9_wouldHold_15 : decode cX9_wouldHold 15 = .ok (.ishl, 1) := by decide +kernel
theorem dX9_wouldHold_16 : decode cX9_wouldHold 16 = .ok (.iconst 1, 1) := by decide +kernel
theorem dX9_wouldHold_17 : decode cX9_wouldHold 17 = .ok (.isub, 1) := by decide +kernel
theorem dX9_wouldHold_18 : decode cX9_wouldHold 18 = .ok (.invokestatic 67, 3) := by decide +kernel
theorem dX9_wouldHold_21 : decode cX9_wouldHold 21 = .ok (.aload_n 0, 1) := by decide +kernel
theorem dX9_wouldHold_22 : decode cX9_wouldHold 22 = .ok (.getfield 35, 3) := by decide +kernel
theorem dX9_wouldHold_25 : decode cX9_wouldHold 25 = .ok (.iload_n 1, 1) := by decide +kernel
theorem dX9_wouldHold_26 : decode cX9_wouldHold 26 = .ok (.iload_n 2, 1) := by decide +kernel
theorem dX9_wouldHold_27 : decode cX9_wouldHold 27 = .ok (.invokevirtual 204, 3) := by decide +kernel
theorem dX9_wouldHold_30 : decode cX9_wouldHold 30 = .ok (.ireturn, 1) := by decide +kernel
theorem dX9_write_0 : decode cX9_write 0 = .ok (.aload_n 0, 1) := by decide +kernel
theorem dX9_write_1 : decode cX9_write 1 = .ok (.iload_n 1, 1) := by decide +kernel
theorem dX9_write_2 : decode cX9_write 2 = .ok (.invokevirtual 119, 3) := by decide +kernel
theorem dX9_write_5 : decode cX9_write 5 = .ok (.aload_n 0, 1) := by decide +kernel
theorem dX9_write_6 : decode cX9_write 6 = .ok (.getfield 35, 3) := by decide +kernel
theorem dX9_write_9 : decode cX9_write 9 = .ok (.getfield 122, 3) := by decide +kernel
theorem dX9_write_12 : decode cX9_write 12 = .ok (.iload_n 1, 1) := by decide +kernel
theorem dX9_write_13 : decode cX9_write 13 = .ok (.iaload, 1) := by decide +kernel
theorem dX9_write_14 : decode cX9_write 14 = .ok (.istore_n 2, 1) := by decide +kernel
theorem dX9_write_15 : decode cX9_write 15 = .ok (.aload_n 0, 1) := by decide +kernel
theorem dX9_write_16 : decode cX9_write 16 = .ok (.getfield 52, 3) := by decide +kernel
theorem dX9_write_19 : decode cX9_write 19 = .ok (.iconst 0, 1) := by decide +kernel
theorem dX9_write_20 : decode cX9_write 20 = .ok (.invokevirtual 312, 3) := by decide +kernel
theorem dX9_write_23 : decode cX9_write 23 = .ok (.aload_n 0, 1) := by decide +kernel
theorem dX9_write_24 : decode cX9_write 24 = .ok (.getfield 52, 3) := by decide +kernel
theorem dX9_write_27 : decode cX9_write 27 = .ok (.aload_n 0, 1) := by decide +kernel
theorem dX9_write_28 : decode cX9_write 28 = .ok (.getfield 16, 3) := by decide +kernel
theorem dX9_write_31 : decode cX9_write 31 = .ok (.getfield 315, 3) := by decide +kernel
theorem dX9_write_34 : decode cX9_write 34 = .ok (.iload_n 1, 1) := by decide +kernel
theorem dX9_write_35 : decode cX9_write 35 = .ok (.laload, 1) := by decide +kernel
theorem dX9_write_36 : decode cX9_write 36 = .ok (.invokestatic 318, 3) := by decide +kernel
theorem dX9_write_39 : decode cX9_write 39 = .ok (.aload_n 0, 1) := by decide +kernel
theorem dX9_write_40 : decode cX9_write 40 = .ok (.getfield 52, 3) := by decide +kernel
theorem dX9_write_43 : decode cX9_write 43 = .ok (.bipush 32, 2) := by decide +kernel
theorem dX9_write_45 : decode cX9_write 45 = .ok (.invokevirtual 322, 3) := by decide +kernel
theorem dX9_write_48 : decode cX9_write 48 = .ok (.pop, 1) := by decide +kernel
theorem dX9_write_49 : decode cX9_write 49 = .ok (.aload_n 0, 1) := by decide +kernel
theorem dX9_write_50 : decode cX9_write 50 = .ok (.getfield 52, 3) := by decide +kernel
theorem dX9_write_53 : decode cX9_write 53 = .ok (.iload_n 2, 1) := by decide +kernel
theorem dX9_write_54 : decode cX9_write 54 = .ok (.invokestatic 326, 3) := by decide +kernel
theorem dX9_write_57 : decode cX9_write 57 = .ok (.invokevirtual 330, 3) := by decide +kernel
theorem dX9_write_60 : decode cX9_write 60 = .ok (.pop, 1) := by decide +kernel
theorem dX9_write_61 : decode cX9_write 61 = .ok (.aload_n 0, 1) := by decide +kernel
theorem dX9_write_62 : decode cX9_write 62 = .ok (.getfield 52, 3) := by decide +kernel
theorem dX9_write_65 : decode cX9_write 65 = .ok (.bipush 32, 2) := by decide +kernel
theorem dX9_write_67 : decode cX9_write 67 = .ok (.invokevirtual 322, 3) := by decide +kernel
theorem dX9_write_70 : decode cX9_write 70 = .ok (.pop, 1) := by decide +kernel
theorem dX9_write_71 : decode cX9_write 71 = .ok (.aload_n 0, 1) := by decide +kernel
theorem dX9_write_72 : decode cX9_write 72 = .ok (.getfield 52, 3) := by decide +kernel
theorem dX9_write_75 : decode cX9_write 75 = .ok (.aload_n 0, 1) := by decide +kernel
theorem dX9_write_76 : decode cX9_write 76 = .ok (.getfield 35, 3) := by decide +kernel
theorem dX9_write_79 : decode cX9_write 79 = .ok (.getfield 126, 3) := by decide +kernel
theorem dX9_write_82 : decode cX9_write 82 = .ok (.iload_n 1, 1) := by decide +kernel
theorem dX9_write_83 : decode cX9_write 83 = .ok (.iaload, 1) := by decide +kernel
theorem dX9_write_84 : decode cX9_write 84 = .ok (.invokevirtual 333, 3) := by decide +kernel
theorem dX9_write_87 : decode cX9_write 87 = .ok (.pop, 1) := by decide +kernel
theorem dX9_write_88 : decode cX9_write 88 = .ok (.aload_n 0, 1) := by decide +kernel
theorem dX9_write_89 : decode cX9_write 89 = .ok (.getfield 52, 3) := by decide +kernel
theorem dX9_write_92 : decode cX9_write 92 = .ok (.bipush 47, 2) := by decide +kernel
theorem dX9_write_94 : decode cX9_write 94 = .ok (.invokevirtual 322, 3) := by decide +kernel
theorem dX9_write_97 : decode cX9_write 97 = .ok (.pop, 1) := by decide +kernel
theorem dX9_write_98 : decode cX9_write 98 = .ok (.aload_n 0, 1) := by decide +kernel
theorem dX9_write_99 : decode cX9_write 99 = .ok (.getfield 52, 3) := by decide +kernel
theorem dX9_write_102 : decode cX9_write 102 = .ok (.aload_n 0, 1) := by decide +kernel
theorem dX9_write_103 : decode cX9_write 103 = .ok (.getfield 16, 3) := by decide +kernel
theorem dX9_write_106 : decode cX9_write 106 = .ok (.getfield 165, 3) := by decide +kernel
theorem dX9_write_109 : decode cX9_write 109 = .ok (.iload_n 1, 1) := by decide +kernel
theorem dX9_write_110 : decode cX9_write 110 = .ok (.iaload, 1) := by decide +kernel
theorem dX9_write_111 : decode cX9_write 111 = .ok (.invokevirtual 333, 3) := by decide +kernel
theorem dX9_write_114 : decode cX9_write 114 = .ok (.pop, 1) := by decide +kernel
theorem dX9_write_115 : decode cX9_write 115 = .ok (.iload_n 2, 1) := by decide +kernel
theorem dX9_write_116 : decode cX9_write 116 = .ok (.iconst 1, 1) := by decide +kernel
theorem dX9_write_117 : decode cX9_write 117 = .ok (.if_icmp .ne 31, 3) := by decide +kernel
theorem dX9_write_120 : decode cX9_write 120 = .ok (.aload_n 0, 1) := by decide +kernel
theorem dX9_write_121 : decode cX9_write 121 = .ok (.getfield 52, 3) := by decide +kernel
theorem dX9_write_124 : decode cX9_write 124 = .ok (.ldc_w 336, 3) := by decide +kernel
theorem dX9_write_127 : decode cX9_write 127 = .ok (.invokevirtual 330, 3) := by decide +kernel
theorem dX9_write_130 : decode cX9_write 130 = .ok (.pop, 1) := by decide +kernel
theorem dX9_write_131 : decode cX9_write 131 = .ok (.aload_n 0, 1) := by decide +kernel
theorem dX9_write_132 : decode cX9_write 132 = .ok (.getfield 52, 3) := by decide +kernel
theorem dX9_write_135 : decode cX9_write 135 = .ok (.aload_n 0, 1) := by decide +kernel
theorem dX9_write_136 : decode cX9_write 136 = .ok (.getfield 35, 3) := by decide +kernel
theorem dX9_write_139 : decode cX9_write 139 = .ok (.getfield 136, 3) := by decide +kernel
theorem dX9_write_142 : decode cX9_write 142 = .ok (.iload_n 1, 1) := by decide +kernel
theorem dX9_write_143 : decode cX9_write 143 = .ok (.iaload, 1) := by decide +kernel
theorem dX9_write_144 : decode cX9_write 144 = .ok (.invokevirtual 333, 3) := by decide +kernel
theorem dX9_write_147 : decode cX9_write 147 = .ok (.pop, 1) := by decide +kernel
theorem dX9_write_148 : decode cX9_write 148 = .ok (.iload_n 2, 1) := by decide +kernel
theorem dX9_write_149 : decode cX9_write 149 = .ok (.iconst 2, 1) := by decide +kernel
theorem dX9_write_150 : decode cX9_write 150 = .ok (.if_icmp .ne 31, 3) := by decide +kernel
theorem dX9_write_153 : decode cX9_write 153 = .ok (.aload_n 0, 1) := by decide +kernel
theorem dX9_write_154 : decode cX9_write 154 = .ok (.getfield 52, 3) := by decide +kernel
theorem dX9_write_157 : decode cX9_write 157 = .ok (.ldc_w 338, 3) := by decide +kernel
theorem dX9_write_160 : decode cX9_write 160 = .ok (.invokevirtual 330, 3) := by decide +kernel
theorem dX9_write_163 : decode cX9_write 163 = .ok (.pop, 1) := by decide +kernel
theorem dX9_write_164 : decode cX9_write 164 = .ok (.aload_n 0, 1) := by decide +kernel
theorem dX9_write_165 : decode cX9_write 165 = .ok (.getfield 52, 3) := by decide +kernel
theorem dX9_write_168 : decode cX9_write 168 = .ok (.aload_n 0, 1) := by decide +kernel
theorem dX9_write_169 : decode cX9_write 169 = .ok (.getfield 35, 3) := by decide +kernel
theorem dX9_write_172 : decode cX9_write 172 = .ok (.getfield 133, 3) := by decide +kernel
theorem dX9_write_175 : decode cX9_write 175 = .ok (.iload_n 1, 1) := by decide +kernel
theorem dX9_write_176 : decode cX9_write 176 = .ok (.iaload, 1) := by decide +kernel
theorem dX9_write_177 : decode cX9_write 177 = .ok (.invokevirtual 333, 3) := by decide +kernel
theorem dX9_write_180 : decode cX9_write 180 = .ok (.pop, 1) := by decide +kernel
theorem dX9_write_181 : decode cX9_write 181 = .ok (.aload_n 0, 1) := by decide +kernel
theorem dX9_write_182 : decode cX9_write 182 = .ok (.getfield 52, 3) := by decide +kernel
theorem dX9_write_185 : decode cX9_write 185 = .ok (.invokevirtual 340, 3) := by decide +kernel
theorem dX9_write_188 : decode cX9_write 188 = .ok (.ireturn, 1) := by decide +kernel
