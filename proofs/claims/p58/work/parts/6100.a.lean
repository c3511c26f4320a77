set_option maxRecDepth 20000 in
theorem ggL_approve_X9_approve : GoodIn wsL_approve wsX9_approve := goodIn_ca (goodIn_ca (goodIn_r _ [7, 8, 9, 10, 11, 12, 6, 13, 14, 15, 16, 17, 18, 19, 20, 21, 22, 23, 24, 25, 26, 27, 28, 29, 30, 31, 32, 33, 34, 35, 36, 37, 38, 39, 40, 41, 42, 43, 44, 45, 46, 47, 48, 49, 50, 51, 52, 53, 54, 55, 56, 57, 58, 59, 60, 61, 62, 63, 64, 65, 66, 67, 68, 69, 70, 71, 72, 73, 74, 75, 76, 77, 78, 79, 80, 81, 82, 83, 84, 85, 86, 87, 88, 89, 90, 91, 92, 93, 94, 95, 96, 97, 98, 99, 100, 101, 102, 103, 104, 105, 106, 107, 108, 109, 110, 111, 112, 113, 114, 115, 116, 117, 118, 119, 120, 121, 122, 123, 124, 125, 126, 127, 128, 129, 130, 131, 132, 133, 134, 135, 136, 137, 138, 139, 140, 141, 142, 143, 144, 145, 146, 147, 148, 149, 150, 151, 152, 153, 154, 155, 156, 157, 158, 159, 160, 161, 162, 163, 164, 165] rfl (by decide +kernel)) (goodIn_sub (fun _ h => List.mem_cons_of_mem _ (List.mem_append_left _ (List.mem_append_right _ h))) (by decide +kernel))) (goodIn_sub (fun _ h => List.mem_cons_of_mem _ (List.mem_append_right _ h)) (by decide +kernel))
set_option maxRecDepth 20000 in
theorem gL_approve_X9_approve : GoodIn wsL_approve (wsV RL 89 RX9 yX9_approve wsX9_approve) := goodIn_app (goodIn_r _ [3, 4, 5, 6] rfl (by decide +kernel)) ggL_approve_X9_approve
set_option maxRecDepth 20000 in
theorem ggL_cancel_X9_cancel : GoodIn wsL_cancel wsX9_cancel := goodIn_ca (goodIn_ca (goodIn_r _ [7, 8, 9, 10, 11, 12, 6, 13, 14, 15, 16, 17, 18, 19, 20, 21, 22, 23, 24, 25, 26, 27, 28, 29, 30, 31, 32, 33, 34, 35, 36, 37, 38, 39, 40, 41, 42, 43, 44, 45, 46, 47, 48, 49, 50, 51, 52, 53, 54, 55, 56, 57, 58, 59, 60, 61, 62, 63, 64, 65, 66, 67, 68, 69, 70, 71, 72, 73, 74, 75, 76, 77, 78, 79, 80, 81, 82, 83, 84, 85, 86, 87, 88, 89, 90, 91, 92, 93, 94, 95, 96, 97, 98, 99, 100, 101, 102, 103, 104, 105, 106, 107, 108, 109, 110, 111, 112, 113, 114, 115, 116, 117, 118, 119, 120, 121, 122, 123, 124, 125, 126, 127, 128, 129, 130, 131, 132, 133, 134, 135, 136, 137, 138] rfl (by decide +kernel)) (goodIn_sub (fun _ h => List.mem_cons_of_mem _ (List.mem_append_left _ (List.mem_append_right _ h))) (by decide +kernel))) (goodIn_sub (fun _ h => List.mem_cons_of_mem _ (List.mem_append_right _ h)) (by decide +kernel))
set_option maxRecDepth 20000 in
theorem gL_cancel_X9_cancel : GoodIn wsL_cancel (wsV RL 104 RX9 yX9_cancel wsX9_cancel) := goodIn_app (goodIn_r _ [3, 4, 5, 6] rfl (by decide +kernel)) ggL_cancel_X9_cancel
set_option maxRecDepth 20000 in
theorem ggL_close_X9_close : GoodIn wsL_close wsX9_close := goodIn_ca (goodIn_r _ [6, 7, 8, 9, 10, 11, 12, 5, 13, 14, 15, 16, 17, 18, 19, 20, 21, 22, 23, 24, 25, 26, 27, 28, 29, 30, 31, 32, 33, 34, 35, 36, 37, 38, 39, 40, 41, 42, 43, 44, 45, 46, 47, 48, 49, 50, 51, 52, 53, 54, 55, 56, 57, 58, 59, 60, 61, 62, 63, 64, 65, 66, 67, 68, 69, 70, 71, 72, 73, 74, 75, 76, 77, 78, 79, 80, 81, 82, 83, 84, 85, 86, 87, 88, 89, 90, 91, 92, 93, 94, 95, 96, 97, 98, 99, 100, 101, 102, 103, 104, 105, 106, 107, 108, 109, 110, 111, 112, 113, 114, 115, 116, 117, 118, 119, 120, 121, 122, 123, 124, 125, 126, 127, 128, 129, 130, 131, 132, 133] rfl (by decide +kernel)) (goodIn_sub (fun _ h => List.mem_cons_of_mem _ (List.mem_append_right _ h)) (by decide +kernel))
set_option maxRecDepth 20000 in
theorem gL_close_X9_close : GoodIn wsL_close (wsV RL 110 RX9 yX9_close wsX9_close) := goodIn_app (goodIn_r _ [2, 3, 4, 5] rfl (by decide +kernel)) ggL_close_X9_close
set_option maxRecDepth 20000 in
theorem ggL_creditedAfter_X9_creditedAfter : GoodIn wsL_creditedAfter wsX9_creditedAfter := goodIn_ca (goodIn_r _ [6, 7, 8, 9, 5, 10, 11, 12, 13, 14, 15, 16, 17, 18, 19, 20, 21, 22, 23, 24, 25, 26, 27, 28, 29, 30, 31, 32, 33, 34, 35, 36, 37, 38, 39, 40, 41, 42, 43, 44, 45, 46, 47, 48, 49, 50, 51, 52, 53, 54, 55, 56, 57, 58, 59, 60, 61, 62, 63, 64, 65, 66, 67, 68, 69, 70, 71, 72, 73, 74, 75, 76, 77, 78, 79, 80, 81, 82, 83, 84, 85, 86, 87, 88, 89, 90, 91, 92, 93, 94, 95, 96, 97, 98, 99, 100, 101, 102, 103, 104, 105, 106, 107, 108, 109, 110, 111, 112, 113, 114, 115, 116, 117, 118, 119, 120, 121, 122, 123, 124, 125, 126, 127, 128, 129, 130, 131, 132, 133, 134, 135, 136, 137, 138, 139, 140, 141, 142, 143, 144, 145, 146, 147, 148, 149, 150, 151, 152, 153, 154, 155, 156, 157, 158, 159, 160, 161, 162, 163, 164, 165, 166, 167, 168, 169, 170, 171, 172, 173, 174, 175, 176, 177, 178, 179, 180, 181, 182, 183, 184, 185, 186, 187, 188, 189, 190, 191, 192, 193, 194] rfl (by decide +kernel)) (goodIn_sub (fun _ h => List.mem_cons_of_mem _ (List.mem_append_right _ h)) (by decide +kernel))
set_option maxRecDepth 20000 in
theorem gL_creditedAfter_X9_creditedAfter : GoodIn wsL_creditedAfter (wsV RL 66 RX9 yX9_creditedAfter wsX9_creditedAfter) := goodIn_app (goodIn_r _ [2, 3, 4, 5] rfl (by decide +kernel)) ggL_creditedAfter_X9_creditedAfter
set_option maxRecDepth 20000 in
theorem ggL_dayByClock_X9_dayByClock : GoodIn wsL_dayByClock wsX9_dayByClock := goodIn_ca (goodIn_r _ [6, 7, 8, 9, 10, 11, 5, 12, 13, 14, 15, 16, 17, 18, 19, 20, 21, 22, 23, 24, 25, 26, 27, 28, 29, 30, 31, 32, 33, 34, 35, 36, 37, 38, 39, 40, 41, 42, 43, 44, 45, 46, 47, 48, 49, 50, 51, 52, 53, 54, 55, 56, 57, 58, 59, 60, 61, 62, 63, 64, 65, 66, 67, 68, 69, 70, 71, 72, 73, 74, 75, 76, 77, 78, 79, 80, 81, 82, 83, 84, 85, 86, 87, 88, 89, 90, 91, 92, 93, 94, 95, 96, 97, 98, 99, 100, 101, 102, 103, 104, 105, 106, 107, 108, 109] rfl (by decide +kernel)) (goodIn_sub (fun _ h => List.mem_cons_of_mem _ (List.mem_append_right _ h)) (by decide +kernel))
set_option maxRecDepth 20000 in
theorem gL_dayByClock_X9_dayByClock : GoodIn wsL_dayByClock (wsV RL 36 RX9 yX9_dayByClock wsX9_dayByClock) := goodIn_app (goodIn_r _ [2, 3, 4, 5] rfl (by decide +kernel)) ggL_dayByClock_X9_dayByClock
set_option maxRecDepth 20000 in
theorem ggL_daysUntilClosed_X9_daysUntilClosed : GoodIn wsL_daysUntilClosed wsX9_daysUntilClosed := goodIn_ca (goodIn_r _ [6, 7, 8, 9, 10, 11, 5, 12, 13, 14, 15, 16, 17, 18, 19, 20, 21, 22, 23, 24, 25, 26, 27, 28, 29, 30, 31, 32, 33, 34, 35, 36, 37, 38, 39, 40, 41, 42, 43, 44, 45, 46, 47, 48, 49, 50, 51, 52, 53, 54, 55, 56, 57, 58, 59, 60, 61, 62, 63, 64, 65, 66, 67, 68, 69, 70, 71, 72, 73, 74, 75, 76, 77, 78, 79, 80, 81, 82, 83, 84, 85, 86, 87, 88, 89, 90, 91, 92, 93, 94, 95, 96, 97, 98, 99, 100, 101, 102, 103, 104, 105, 106, 107, 108, 109, 110, 111, 112, 113, 114, 115, 116, 117, 118, 119, 120, 121, 122, 123, 124, 125, 126, 127, 128, 129, 130, 131, 132, 133, 134, 135, 136, 137, 138, 139, 140, 141, 142, 143, 144, 145, 146, 147, 148, 149, 150, 151, 152, 153, 154, 155, 156, 157, 158, 159, 160, 161, 162, 163, 164, 165, 166, 167, 168, 169, 170, 171, 172, 173, 174, 175, 176, 177, 178, 179, 180, 181, 182, 183, 184, 185, 186, 187, 188, 189, 190, 191, 192] rfl (by decide +kernel)) (goodIn_sub (fun _ h => List.mem_cons_of_mem _ (List.mem_append_right _ h)) (by decide +kernel))
set_option maxRecDepth 20000 in
theorem gL_daysUntilClosed_X9_daysUntilClosed : GoodIn wsL_daysUntilClosed (wsV RL 69 RX9 yX9_daysUntilClosed wsX9_daysUntilClosed) := goodIn_app (goodIn_r _ [2, 3, 4, 5] rfl (by decide +kernel)) ggL_daysUntilClosed_X9_daysUntilClosed
set_option maxRecDepth 20000 in
theorem ggL_deposit_X9_deposit : GoodIn wsL_deposit wsX9_deposit := goodIn_ca (goodIn_ca (goodIn_r _ [7, 8, 9, 10, 11, 12, 13, 6, 14, 15, 16, 17, 18, 19, 20, 21, 22, 23, 24, 25, 26, 27, 28, 29, 30, 31, 32, 33, 34, 35, 36, 37, 38, 39, 40, 41, 42, 43, 44, 45, 46, 47, 48, 49, 50, 51, 52, 53, 54, 55, 56, 57, 58, 59, 60, 61, 62, 63, 64, 65, 66, 67, 68, 69, 70, 71, 72, 73, 74, 75, 76, 77, 78, 79, 80, 81, 82, 83, 84, 85, 86, 87, 88, 89, 90, 91, 92, 93, 94, 95, 96, 97, 98, 99, 100, 101, 102, 103, 104, 105, 106, 107, 108, 109, 110, 111, 112, 113, 114, 115] rfl (by decide +kernel)) (goodIn_sub (fun _ h => List.mem_cons_of_mem _ (List.mem_append_left _ (List.mem_append_right _ h))) (by decide +kernel))) (goodIn_sub (fun _ h => List.mem_cons_of_mem _ (List.mem_append_right _ h)) (by decide +kernel))
set_option maxRecDepth 20000 in
theorem gL_deposit_X9_deposit : GoodIn wsL_deposit (wsV RL 83 RX9 yX9_deposit wsX9_deposit) := goodIn_app (goodIn_r _ [3, 4, 5, 6] rfl (by decide +kernel)) ggL_deposit_X9_deposit
set_option maxRecDepth 20000 in
theorem ggL_dispute_X9_dispute : GoodIn wsL_dispute wsX9_dispute := goodIn_ca (goodIn_ca (goodIn_r _ [7, 8, 9, 10, 11, 12, 6, 13, 14, 15, 16, 17, 18, 19, 20, 21, 22, 23, 24, 25, 26, 27, 28, 29, 30, 31, 32, 33, 34, 35, 36, 37, 38, 39, 40, 41, 42, 43, 44, 45, 46, 47, 48, 49, 50, 51, 52, 53, 54, 55, 56, 57, 58, 59, 60, 61, 62, 63, 64, 65, 66, 67, 68, 69, 70, 71, 72, 73, 74, 75, 76, 77, 78, 79, 80, 81, 82, 83, 84, 85, 86, 87, 88, 89, 90, 91, 92, 93, 94, 95, 96, 97, 98, 99, 100, 101, 102, 103, 104, 105, 106, 107, 108, 109, 110, 111, 112, 113, 114, 115, 116, 117, 118, 119, 120, 121, 122, 123, 124, 125, 126, 127, 128, 129, 130, 131, 132, 133, 134, 135, 136, 137, 138, 139, 140, 141, 142, 143, 144, 145, 146, 147] rfl (by decide +kernel)) (goodIn_sub (fun _ h => List.mem_cons_of_mem _ (List.mem_append_left _ (List.mem_append_right _ h))) (by decide +kernel))) (goodIn_sub (fun _ h => List.mem_cons_of_mem _ (List.mem_append_right _ h)) (by decide +kernel))
set_option maxRecDepth 20000 in
theorem gL_dispute_X9_dispute : GoodIn wsL_dispute (wsV RL 95 RX9 yX9_dispute wsX9_dispute) := goodIn_app (goodIn_r _ [3, 4, 5, 6] rfl (by decide +kernel)) ggL_dispute_X9_dispute
set_option maxRecDepth 20000 in
theorem ggL_dueAt_X9_dueAt : GoodIn wsL_dueAt wsX9_dueAt := goodIn_ca (goodIn_r _ [6, 7, 8, 9, 10, 11, 12, 13, 14, 15, 16, 17, 18, 19, 20, 21, 22, 23, 24, 25, 26, 27, 28, 29, 30, 31, 32, 33, 34, 35, 36, 37, 38, 39, 40, 41, 42, 43, 44, 45, 46, 47, 48, 49, 50, 51, 52, 53, 54, 55, 56, 57, 58, 59, 60, 61, 62] rfl (by decide +kernel)) (goodIn_sub (fun _ h => List.mem_cons_of_mem _ (List.mem_append_right _ h)) (by decide +kernel))
set_option maxRecDepth 20000 in
theorem gL_dueAt_X9_dueAt : GoodIn wsL_dueAt (wsV RL 56 RX9 yX9_dueAt wsX9_dueAt) := goodIn_app (goodIn_r _ [2, 3, 4, 5] rfl (by decide +kernel)) ggL_dueAt_X9_dueAt
set_option maxRecDepth 20000 in
theorem ggL_dueDay_X9_dueDay : GoodIn wsL_dueDay wsX9_dueDay := goodIn_ca (goodIn_r _ [6, 7, 8, 9, 10, 5, 11, 12, 13, 14, 15, 16, 17, 18, 19, 20, 21, 22, 23, 24, 25, 26, 27, 28, 29, 30, 31, 32, 33, 34, 35, 36, 37, 38, 39, 40, 41, 42, 43, 44, 45, 46, 47, 48, 49, 50, 51, 52, 53, 54, 55, 56, 57, 58, 59, 60, 61, 62, 63] rfl (by decide +kernel)) (goodIn_sub (fun _ h => List.mem_cons_of_mem _ (List.mem_append_right _ h)) (by decide +kernel))
set_option maxRecDepth 20000 in
theorem gL_dueDay_X9_dueDay : GoodIn wsL_dueDay (wsV RL 29 RX9 yX9_dueDay wsX9_dueDay) := goodIn_app (goodIn_r _ [2, 3, 4, 5] rfl (by decide +kernel)) ggL_dueDay_X9_dueDay
set_option maxRecDepth 20000 in
theorem ggL_entry_X9_entry : GoodIn wsL_entry wsX9_entry := goodIn_ca (goodIn_ca (goodIn_r _ [7, 8, 9, 10, 6, 11, 12, 13, 14, 15, 16, 17, 18, 19, 20, 21, 22, 23, 24, 25, 26, 27, 28, 29, 30, 31, 32, 33, 34, 35, 36, 37, 38, 39, 40, 41, 42, 43, 44, 45, 46, 47, 48, 49, 50, 51, 52, 53, 54, 55, 56, 57, 58] rfl (by decide +kernel)) (goodIn_sub (fun _ h => List.mem_cons_of_mem _ (List.mem_append_left _ (List.mem_append_right _ h))) (by decide +kernel))) (goodIn_sub (fun _ h => List.mem_cons_of_mem _ (List.mem_append_right _ h)) (by decide +kernel))
set_option maxRecDepth 20000 in
theorem gL_entry_X9_entry : GoodIn wsL_entry (wsV RL 130 RX9 yX9_entry wsX9_entry) := goodIn_app (goodIn_r _ [3, 4, 5, 6] rfl (by decide +kernel)) ggL_entry_X9_entry
set_option maxRecDepth 20000 in
theorem ggL_frozen_X9_frozen : GoodIn wsL_frozen wsX9_frozen := goodIn_ca (goodIn_r _ [6, 7, 8, 9, 10, 5, 11, 12, 13, 14, 15, 16, 17, 18, 19, 20, 21, 22, 23, 24, 25, 26, 27, 28, 29, 30, 31, 32, 33, 34, 35, 36, 37, 38, 39, 40, 41, 42, 43, 44, 45, 46, 47, 48, 49, 50, 51, 52, 53, 54, 55, 56, 57, 58, 59, 60, 61, 62, 63] rfl (by decide +kernel)) (goodIn_sub (fun _ h => List.mem_cons_of_mem _ (List.mem_append_right _ h)) (by decide +kernel))
set_option maxRecDepth 20000 in
theorem gL_frozen_X9_frozen : GoodIn wsL_frozen (wsV RL 26 RX9 yX9_frozen wsX9_frozen) := goodIn_app (goodIn_r _ [2, 3, 4, 5] rfl (by decide +kernel)) ggL_frozen_X9_frozen
set_option maxRecDepth 20000 in
theorem ggL_graceLeft_X9_graceLeft : GoodIn wsL_graceLeft wsX9_graceLeft := goodIn_ca (goodIn_r _ [6, 7, 8, 9, 10, 11, 12, 13, 14, 5, 15, 16, 17, 18, 19, 20, 21, 22, 23, 24, 25, 26, 27, 28, 29, 30, 31, 32, 33, 34, 35, 36, 37, 38, 39, 40, 41, 42, 43, 44, 45, 46, 47, 48, 49, 50, 51, 52, 53, 54, 55, 56, 57, 58, 59, 60, 61, 62, 63, 64, 65, 66, 67, 68, 69, 70, 71, 72, 73, 74] rfl (by decide +kernel)) (goodIn_sub (fun _ h => List.mem_cons_of_mem _ (List.mem_append_right _ h)) (by decide +kernel))
set_option maxRecDepth 20000 in
theorem gL_graceLeft_X9_graceLeft : GoodIn wsL_graceLeft (wsV RL 42 RX9 yX9_graceLeft wsX9_graceLeft) := goodIn_app (goodIn_r _ [2, 3, 4, 5] rfl (by decide +kernel)) ggL_graceLeft_X9_graceLeft
set_option maxRecDepth 20000 in
theorem ggL_holds_X9_holds : GoodIn wsL_holds wsX9_holds := goodIn_ca (goodIn_r _ [6, 7, 8, 9, 10, 5, 11, 12, 13, 14, 15, 16, 17, 18, 19, 20, 21, 22, 23, 24, 25, 26, 27, 28, 29, 30, 31, 32, 33, 34, 35, 36, 37, 38, 39, 40, 41, 42, 43, 44, 45, 46, 47, 48, 49, 50, 51, 52, 53, 54, 55, 56, 57, 58, 59, 60, 61, 62, 63, 64, 65, 66, 67, 68, 69, 70, 71, 72, 73, 74, 75, 76, 77, 78, 79, 80, 81, 82, 83, 84, 85, 86, 87, 88, 89, 90, 91, 92, 93, 94, 95, 96, 97, 98, 99, 100, 101, 102, 103, 104, 105] rfl (by decide +kernel)) (goodIn_sub (fun _ h => List.mem_cons_of_mem _ (List.mem_append_right _ h)) (by decide +kernel))
set_option maxRecDepth 20000 in
theorem gL_holds_X9_holds : GoodIn wsL_holds (wsV RL 32 RX9 yX9_holds wsX9_holds) := goodIn_app (goodIn_r _ [2, 3, 4, 5] rfl (by decide +kernel)) ggL_holds_X9_holds
set_option maxRecDepth 20000 in
theorem ggL_isSubmitted_X9_isSubmitted : GoodIn wsL_isSubmitted wsX9_isSubmitted := goodIn_ca (goodIn_r _ [6, 7, 8, 9, 10, 5, 11, 12, 13, 14, 15, 16, 17, 18, 19, 20, 21, 22, 23, 24, 25, 26, 27, 28, 29, 30, 31, 32, 33, 34, 35, 36, 37, 38, 39, 40, 41, 42, 43, 44, 45, 46, 47, 48, 49, 50, 51, 52, 53, 54, 55, 56, 57, 58, 59, 60, 61, 62, 63, 64, 65, 66, 67, 68, 69, 70, 71, 72, 73] rfl (by decide +kernel)) (goodIn_sub (fun _ h => List.mem_cons_of_mem _ (List.mem_append_right _ h)) (by decide +kernel))
set_option maxRecDepth 20000 in
theorem gL_isSubmitted_X9_isSubmitted : GoodIn wsL_isSubmitted (wsV RL 45 RX9 yX9_isSubmitted wsX9_isSubmitted) := goodIn_app (goodIn_r _ [2, 3, 4, 5] rfl (by decide +kernel)) ggL_isSubmitted_X9_isSubmitted
set_option maxRecDepth 20000 in
theorem ggL_load_X9_load : GoodIn wsL_load wsX9_load := goodIn_ca (goodIn_r _ [6, 7, 8, 9, 10, 11, 12, 13, 14, 15, 5, 16, 17, 18, 19, 20, 21, 22, 23, 24, 25, 26, 27, 28, 29, 30, 31, 32, 33, 34, 35, 36, 37, 38, 39, 40, 41, 42, 43, 44, 45, 46, 47, 48, 49, 50, 51, 52, 53, 54, 55, 56, 57, 58, 59, 60, 61, 62, 63, 64, 65, 66, 67, 68, 69, 70, 71, 72, 73, 74, 75, 76, 77, 78, 79, 80, 81, 82, 83, 84, 85, 86, 87, 88, 89, 90, 91, 92, 93, 94, 95, 96, 97, 98, 99, 100, 101, 102, 103, 104, 105, 106, 107, 108, 109, 110, 111, 112, 113, 114, 115, 116, 117, 118, 119, 120, 121, 122, 123, 124, 125, 126, 127, 128, 129, 130, 131, 132, 133, 134, 135, 136, 137, 138, 139, 140, 141, 142, 143, 144, 145, 146, 147, 148, 149, 150, 151, 152, 153, 154, 155, 156, 157, 158, 159, 160, 161, 162, 163, 164, 165, 166, 167, 168, 169, 170, 171, 172, 173, 174, 175, 176, 177, 178, 179, 180, 181, 182, 183, 184, 185, 186, 187, 188, 189, 190, 191, 192, 193, 194, 195, 196, 197, 198, 199, 200, 201, 202, 203, 204, 205, 206, 207, 208, 209, 210, 211, 212, 213, 214, 215, 216, 217, 218, 219, 220, 221, 222, 223, 224, 225, 226, 227, 228, 229, 230, 231, 232, 233, 234, 235, 236, 237, 238, 239, 240, 241, 242, 243, 244, 245, 246, 247, 248, 249, 250, 251, 252, 253, 254, 255, 256, 257, 258, 259, 260, 261, 262, 263, 264, 265, 266, 267, 268, 269, 270, 271, 272, 273, 274, 275, 276, 277, 278, 279, 280, 281, 282, 283, 284, 285, 286, 287, 288, 289, 290, 291, 292, 293, 294, 295, 296, 297, 298, 299, 300, 301, 302, 303, 304, 305, 306, 307, 308, 309, 310, 311, 312, 313, 314, 315, 316, 317, 318, 319, 320, 321, 322, 323, 324, 325, 326, 327, 328, 329, 330, 331, 332, 333, 334, 335, 336, 337, 338, 339, 340, 341, 342, 343, 344, 345, 346, 347, 348, 349, 350, 351, 352, 353, 354, 355, 356, 357] rfl (by decide +kernel)) (goodIn_sub (fun _ h => List.mem_cons_of_mem _ (List.mem_append_right _ h)) (by decide +kernel))
set_option maxRecDepth 20000 in
theorem gL_load_X9_load : GoodIn wsL_load (wsV RL 7 RX9 yX9_load wsX9_load) := goodIn_app (goodIn_r _ [2, 3, 4, 5] rfl (by decide +kernel)) ggL_load_X9_load
set_option maxRecDepth 20000 in
theorem ggL_missingProofs_X9_missingProofs : GoodIn wsL_missingProofs wsX9_missingProofs := goodIn_ca (goodIn_r _ [6, 7, 8, 9, 10, 11, 5, 12, 13, 14, 15, 16, 17, 18, 19, 20, 21, 22, 23, 24, 25, 26, 27, 28, 29, 30, 31, 32, 33, 34, 35, 36, 37, 38, 39, 40, 41, 42, 43, 44, 45, 46, 47, 48, 49, 50, 51, 52, 53, 54, 55, 56, 57, 58, 59, 60, 61, 62, 63, 64, 65, 66, 67, 68, 69, 70, 71, 72, 73, 74, 75, 76, 77, 78, 79, 80, 81, 82, 83, 84, 85, 86, 87, 88, 89, 90, 91, 92, 93, 94, 95, 96, 97, 98, 99, 100, 101, 102, 103, 104, 105, 106, 107, 108, 109, 110, 111, 112, 113] rfl (by decide +kernel)) (goodIn_sub (fun _ h => List.mem_cons_of_mem _ (List.mem_append_right _ h)) (by decide +kernel))
set_option maxRecDepth 20000 in
theorem gL_missingProofs_X9_missingProofs : GoodIn wsL_missingProofs (wsV RL 39 RX9 yX9_missingProofs wsX9_missingProofs) := goodIn_app (goodIn_r _ [2, 3, 4, 5] rfl (by decide +kernel)) ggL_missingProofs_X9_missingProofs
set_option maxRecDepth 20000 in
theorem ggL_paidAfter_X9_paidAfter : GoodIn wsL_paidAfter wsX9_paidAfter := goodIn_ca (goodIn_ca (goodIn_r _ [7, 8, 9, 10, 11, 6, 12, 13, 14, 15, 16, 17, 18, 19, 20, 21, 22, 23, 24, 25, 26, 27, 28, 29, 30, 31, 32, 33, 34, 35, 36, 37, 38, 39, 40, 41, 42, 43, 44, 45, 46, 47, 48, 49, 50, 51, 52, 53, 54, 55, 56, 57, 58, 59, 60, 61, 62, 63, 64, 65, 66, 67, 68, 69, 70, 71, 72, 73, 74, 75, 76, 77, 78, 79, 80, 81, 82, 83, 84, 85, 86, 87, 88, 89, 90, 91, 92, 93, 94, 95, 96, 97, 98, 99, 100, 101, 102, 103, 104, 105, 106, 107, 108, 109, 110, 111, 112, 113, 114, 115, 116, 117, 118, 119, 120, 121, 122, 123, 124, 125, 126, 127, 128, 129, 130, 131, 132, 133, 134, 135, 136, 137, 138, 139, 140, 141, 142, 143, 144, 145, 146, 147, 148, 149, 150, 151, 152, 153, 154, 155, 156, 157, 158, 159, 160, 161, 162, 163, 164, 165, 166, 167, 168, 169, 170, 171, 172, 173, 174, 175, 176, 177, 178, 179, 180, 181, 182, 183, 184, 185, 186, 187, 188, 189, 190, 191, 192, 193, 194, 195, 196, 197, 198, 199, 200, 201, 202, 203, 204, 205] rfl (by decide +kernel)) (goodIn_sub (fun _ h => List.mem_cons_of_mem _ (List.mem_append_left _ (List.mem_append_right _ h))) (by decide +kernel))) (goodIn_sub (fun _ h => List.mem_cons_of_mem _ (List.mem_append_right _ h)) (by decide +kernel))
set_option maxRecDepth 20000 in
theorem gL_paidAfter_X9_paidAfter : GoodIn wsL_paidAfter (wsV RL 62 RX9 yX9_paidAfter wsX9_paidAfter) := goodIn_app (goodIn_r _ [3, 4, 5, 6] rfl (by decide +kernel)) ggL_paidAfter_X9_paidAfter
set_option maxRecDepth 20000 in
theorem ggL_paid_X9_paid : GoodIn wsL_paid wsX9_paid := goodIn_ca (goodIn_r _ [6, 7, 8, 9, 10, 5, 11, 12, 13, 14, 15, 16, 17, 18, 19, 20, 21, 22, 23, 24, 25, 26, 27, 28, 29, 30, 31, 32, 33, 34, 35, 36, 37, 38, 39, 40, 41, 42, 43, 44, 45, 46, 47, 48, 49, 50, 51, 52, 53, 54, 55, 56, 57, 58, 59, 60, 61, 62, 63] rfl (by decide +kernel)) (goodIn_sub (fun _ h => List.mem_cons_of_mem _ (List.mem_append_right _ h)) (by decide +kernel))
set_option maxRecDepth 20000 in
theorem gL_paid_X9_paid : GoodIn wsL_paid (wsV RL 20 RX9 yX9_paid wsX9_paid) := goodIn_app (goodIn_r _ [2, 3, 4, 5] rfl (by decide +kernel)) ggL_paid_X9_paid
set_option maxRecDepth 20000 in
theorem ggL_payInterest_X9_payInterest : GoodIn wsL_payInterest wsX9_payInterest := goodIn_ca (goodIn_r _ [6, 7, 8, 9, 10, 11, 12, 13, 14, 15, 16, 17, 18, 19, 20, 21, 22, 23, 24, 25, 26, 27, 28, 29, 30, 31, 32, 33, 34, 35, 36, 37, 38, 39, 40, 41, 42, 43, 44, 45, 46, 47, 48, 49, 50, 51, 52, 53, 54, 55, 56, 57, 58, 59, 60, 61, 62, 63, 64, 65, 66, 67, 68, 69, 70, 71, 72, 73, 74, 75, 76, 77, 78, 79, 80, 81, 82, 83, 84, 85, 86, 87, 88, 89, 90, 91, 92, 93, 94, 95, 96, 97, 98, 99, 100, 101, 102, 103, 104] rfl (by decide +kernel)) (goodIn_sub (fun _ h => List.mem_cons_of_mem _ (List.mem_append_right _ h)) (by decide +kernel))
set_option maxRecDepth 20000 in
theorem gL_payInterest_X9_payInterest : GoodIn wsL_payInterest (wsV RL 107 RX9 yX9_payInterest wsX9_payInterest) := goodIn_app (goodIn_r _ [2, 3, 4, 5] rfl (by decide +kernel)) ggL_payInterest_X9_payInterest
set_option maxRecDepth 20000 in
theorem ggL_pay_X9_pay : GoodIn wsL_pay wsX9_pay := goodIn_ca (goodIn_ca (goodIn_ca (goodIn_r _ [8, 9, 10, 11, 12, 13, 7, 14, 15, 16, 17, 18, 19, 20, 21, 22, 23, 24, 25, 26, 27, 28, 29, 30, 31, 32, 33, 34, 35, 36, 37, 38, 39, 40, 41, 42, 43, 44, 45, 46, 47, 48, 49, 50, 51, 52, 53, 54, 55, 56, 57, 58, 59, 60, 61, 62, 63, 64, 65, 66, 67, 68, 69, 70, 71, 72, 73, 74, 75, 76, 77, 78, 79, 80, 81, 82, 83, 84, 85, 86, 87, 88, 89, 90, 91, 92, 93, 94, 95, 96, 97, 98, 99, 100, 101, 102, 103, 104, 105, 106, 107, 108, 109, 110, 111, 112, 113, 114, 115, 116, 117, 118, 119, 120, 121, 122, 123, 124, 125, 126, 127, 128, 129, 130, 131, 132, 133, 134, 135, 136, 137, 138, 139, 140, 141, 142, 143, 144, 145, 146, 147, 148, 149, 150, 151, 152, 153, 154, 155, 156, 157, 158, 159, 160, 161, 162, 163, 164] rfl (by decide +kernel)) (goodIn_sub (fun _ h => List.mem_cons_of_mem _ (List.mem_append_left _ (List.mem_append_left _ (List.mem_append_right _ h)))) (by decide +kernel))) (goodIn_sub (fun _ h => List.mem_cons_of_mem _ (List.mem_append_left _ (List.mem_append_right _ h))) (by decide +kernel))) (goodIn_sub (fun _ h => List.mem_cons_of_mem _ (List.mem_append_right _ h)) (by decide +kernel))
set_option maxRecDepth 20000 in
theorem gL_pay_X9_pay : GoodIn wsL_pay (wsV RL 92 RX9 yX9_pay wsX9_pay) := goodIn_app (goodIn_r _ [4, 5, 6, 7] rfl (by decide +kernel)) ggL_pay_X9_pay
set_option maxRecDepth 20000 in
theorem ggL_paymentsAfter_X9_paymentsAfter : GoodIn wsL_paymentsAfter wsX9_paymentsAfter := goodIn_ca (goodIn_r _ [6, 7, 8, 9, 5, 10, 11, 12, 13, 14, 15, 16, 17, 18, 19, 20, 21, 22, 23, 24, 25, 26, 27, 28, 29, 30, 31, 32, 33, 34, 35, 36, 37, 38, 39, 40, 41, 42, 43, 44, 45, 46, 47, 48, 49, 50, 51, 52, 53, 54, 55, 56, 57, 58, 59, 60, 61, 62, 63, 64, 65, 66, 67, 68, 69, 70, 71, 72, 73, 74, 75, 76, 77, 78, 79, 80, 81, 82, 83, 84, 85, 86, 87, 88, 89, 90, 91, 92, 93, 94, 95, 96, 97, 98, 99, 100, 101, 102, 103, 104, 105, 106, 107, 108, 109, 110, 111, 112, 113, 114, 115, 116, 117, 118, 119, 120, 121, 122, 123, 124, 125, 126, 127, 128, 129, 130, 131, 132, 133, 134, 135, 136, 137, 138, 139, 140, 141, 142, 143, 144, 145, 146, 147, 148, 149, 150, 151, 152, 153, 154, 155, 156, 157, 158, 159, 160, 161, 162, 163, 164, 165, 166, 167, 168, 169, 170, 171, 172, 173, 174, 175, 176, 177, 178, 179, 180, 181, 182, 183, 184, 185, 186, 187, 188, 189, 190, 191, 192, 193, 194, 195] rfl (by decide +kernel)) (goodIn_sub (fun _ h => List.mem_cons_of_mem _ (List.mem_append_right _ h)) (by decide +kernel))
set_option maxRecDepth 20000 in
theorem gL_paymentsAfter_X9_paymentsAfter : GoodIn wsL_paymentsAfter (wsV RL 59 RX9 yX9_paymentsAfter wsX9_paymentsAfter) := goodIn_app (goodIn_r _ [2, 3, 4, 5] rfl (by decide +kernel)) ggL_paymentsAfter_X9_paymentsAfter
set_option maxRecDepth 20000 in
theorem ggL_proofCharacter_X9_proofCharacter : GoodIn wsL_proofCharacter wsX9_proofCharacter := goodIn_ca (goodIn_r _ [6, 7, 8, 9, 10, 5, 11, 12, 13, 14, 15, 16, 17, 18, 19, 20, 21, 22, 23, 24, 25, 26, 27, 28, 29, 30, 31, 32, 33, 34, 35, 36, 37, 38, 39, 40, 41, 42, 43, 44, 45, 46, 47, 48, 49, 50, 51, 52] rfl (by decide +kernel)) (goodIn_sub (fun _ h => List.mem_cons_of_mem _ (List.mem_append_right _ h)) (by decide +kernel))
set_option maxRecDepth 20000 in
theorem gL_proofCharacter_X9_proofCharacter : GoodIn wsL_proofCharacter (wsV RL 48 RX9 yX9_proofCharacter wsX9_proofCharacter) := goodIn_app (goodIn_r _ [2, 3, 4, 5] rfl (by decide +kernel)) ggL_proofCharacter_X9_proofCharacter
set_option maxRecDepth 20000 in
theorem ggL_remaining_X9_remaining : GoodIn wsL_remaining wsX9_remaining := goodIn_ca (goodIn_r _ [6, 7, 8, 9, 10, 5, 11, 12, 13, 14, 15, 16, 17, 18, 19, 20, 21, 22, 23, 24, 25, 26, 27, 28, 29, 30, 31, 32, 33, 34, 35, 36, 37, 38, 39, 40, 41, 42, 43, 44, 45, 46, 47, 48, 49, 50, 51, 52, 53, 54, 55, 56, 57, 58, 59, 60, 61, 62, 63, 64, 65, 66, 67, 68, 69, 70, 71, 72, 73, 74, 75] rfl (by decide +kernel)) (goodIn_sub (fun _ h => List.mem_cons_of_mem _ (List.mem_append_right _ h)) (by decide +kernel))
set_option maxRecDepth 20000 in
theorem gL_remaining_X9_remaining : GoodIn wsL_remaining (wsV RL 23 RX9 yX9_remaining wsX9_remaining) := goodIn_app (goodIn_r _ [2, 3, 4, 5] rfl (by decide +kernel)) ggL_remaining_X9_remaining
set_option maxRecDepth 20000 in
theorem ggL_resolve_X9_resolve : GoodIn wsL_resolve wsX9_resolve := goodIn_ca (goodIn_ca (goodIn_ca (goodIn_r _ [8, 9, 10, 11, 12, 13, 7, 14, 15, 16, 17, 18, 19, 20, 21, 22, 23, 24, 25, 26, 27, 28, 29, 30, 31, 32, 33, 34, 35, 36, 37, 38, 39, 40, 41, 42, 43, 44, 45, 46, 47, 48, 49, 50, 51, 52, 53, 54, 55, 56, 57, 58, 59, 60, 61, 62, 63, 64, 65, 66, 67, 68, 69, 70, 71, 72, 73, 74, 75, 76, 77, 78, 79, 80, 81, 82, 83, 84, 85, 86, 87, 88, 89, 90, 91, 92, 93, 94, 95, 96, 97, 98, 99, 100, 101, 102, 103, 104, 105, 106, 107, 108, 109, 110, 111, 112, 113, 114, 115, 116, 117, 118, 119, 120, 121, 122, 123, 124, 125, 126, 127, 128, 129, 130, 131, 132, 133, 134, 135, 136, 137, 138, 139, 140, 141, 142, 143, 144, 145, 146, 147, 148, 149, 150, 151, 152, 153, 154, 155, 156, 157, 158, 159, 160, 161, 162, 163, 164, 165, 166, 167, 168, 169, 170, 171, 172, 173, 174, 175, 176, 177, 178, 179, 180, 181, 182, 183] rfl (by decide +kernel)) (goodIn_sub (fun _ h => List.mem_cons_of_mem _ (List.mem_append_left _ (List.mem_append_left _ (List.mem_append_right _ h)))) (by decide +kernel))) (goodIn_sub (fun _ h => List.mem_cons_of_mem _ (List.mem_append_left _ (List.mem_append_right _ h))) (by decide +kernel))) (goodIn_sub (fun _ h => List.mem_cons_of_mem _ (List.mem_append_right _ h)) (by decide +kernel))
set_option maxRecDepth 20000 in
theorem gL_resolve_X9_resolve : GoodIn wsL_resolve (wsV RL 101 RX9 yX9_resolve wsX9_resolve) := goodIn_app (goodIn_r _ [4, 5, 6, 7] rfl (by decide +kernel)) ggL_resolve_X9_resolve
set_option maxRecDepth 20000 in
theorem ggL_setGrace_X9_setGrace : GoodIn wsL_setGrace wsX9_setGrace := goodIn_ca (goodIn_r _ [6, 7, 8, 9, 10, 5, 11, 12, 13, 14, 15, 16, 17, 18, 19, 20, 21, 22, 23, 24, 25, 26, 27, 28, 29, 30, 31, 32, 33, 34, 35, 36, 37, 38, 39, 40, 41, 42, 43, 44, 45, 46, 47, 48, 49, 50, 51, 52, 53, 54, 55, 56, 57, 58, 59, 60, 61, 62, 63, 64, 65, 66, 67, 68, 69, 70, 71, 72, 73, 74, 75, 76, 77, 78, 79, 80, 81, 82, 83, 84, 85, 86, 87, 88, 89, 90, 91, 92, 93, 94, 95, 96, 97, 98] rfl (by decide +kernel)) (goodIn_sub (fun _ h => List.mem_cons_of_mem _ (List.mem_append_right _ h)) (by decide +kernel))
set_option maxRecDepth 20000 in
theorem gL_setGrace_X9_setGrace : GoodIn wsL_setGrace (wsV RL 117 RX9 yX9_setGrace wsX9_setGrace) := goodIn_app (goodIn_r _ [2, 3, 4, 5] rfl (by decide +kernel)) ggL_setGrace_X9_setGrace
set_option maxRecDepth 20000 in
theorem ggL_setRate_X9_setRate : GoodIn wsL_setRate wsX9_setRate := goodIn_ca (goodIn_r _ [6, 7, 8, 9, 10, 11, 12, 5, 13, 14, 15, 16, 17, 18, 19, 20, 21, 22, 23, 24, 25, 26, 27, 28, 29, 30, 31, 32, 33, 34, 35, 36, 37, 38, 39, 40, 41, 42, 43, 44, 45, 46, 47, 48, 49, 50, 51, 52, 53, 54, 55, 56, 57, 58, 59, 60, 61, 62, 63, 64, 65, 66, 67, 68, 69, 70, 71, 72, 73, 74, 75, 76, 77, 78, 79, 80, 81, 82, 83, 84, 85, 86, 87, 88, 89, 90, 91, 92, 93, 94, 95, 96, 97, 98, 99, 100, 101, 102, 103] rfl (by decide +kernel)) (goodIn_sub (fun _ h => List.mem_cons_of_mem _ (List.mem_append_right _ h)) (by decide +kernel))
set_option maxRecDepth 20000 in
theorem gL_setRate_X9_setRate : GoodIn wsL_setRate (wsV RL 114 RX9 yX9_setRate wsX9_setRate) := goodIn_app (goodIn_r _ [2, 3, 4, 5] rfl (by decide +kernel)) ggL_setRate_X9_setRate
set_option maxRecDepth 20000 in
theorem ggL_shareFor_X9_shareFor : GoodIn wsL_shareFor wsX9_shareFor := goodIn_ca (goodIn_ca (goodIn_ca (goodIn_r _ [8, 9, 10, 11, 12, 13, 14, 7, 15, 16, 17, 18, 19, 20, 21, 22, 23, 24, 25, 26, 27, 28, 29, 30, 31, 32, 33, 34, 35, 36, 37, 38, 39, 40, 41, 42, 43, 44, 45, 46, 47, 48, 49, 50, 51, 52, 53, 54, 55, 56, 57, 58, 59, 60, 61, 62, 63, 64, 65, 66, 67, 68, 69, 70, 71, 72, 73, 74, 75, 76, 77, 78, 79, 80, 81, 82, 83, 84, 85, 86, 87, 88, 89, 90, 91, 92, 93, 94, 95, 96, 97, 98, 99, 100, 101, 102, 103, 104, 105, 106, 107, 108, 109, 110, 111, 112, 113, 114, 115] rfl (by decide +kernel)) (goodIn_sub (fun _ h => List.mem_cons_of_mem _ (List.mem_append_left _ (List.mem_append_left _ (List.mem_append_right _ h)))) (by decide +kernel))) (goodIn_sub (fun _ h => List.mem_cons_of_mem _ (List.mem_append_left _ (List.mem_append_right _ h))) (by decide +kernel))) (goodIn_sub (fun _ h => List.mem_cons_of_mem _ (List.mem_append_right _ h)) (by decide +kernel))
set_option maxRecDepth 20000 in
theorem gL_shareFor_X9_shareFor : GoodIn wsL_shareFor (wsV RL 77 RX9 yX9_shareFor wsX9_shareFor) := goodIn_app (goodIn_r _ [4, 5, 6, 7] rfl (by decide +kernel)) ggL_shareFor_X9_shareFor
set_option maxRecDepth 20000 in
theorem ggL_shortDay_X9_shortDay : GoodIn wsL_shortDay wsX9_shortDay := goodIn_ca (goodIn_r _ [6, 7, 8, 9, 10, 5, 11, 12, 13, 14, 15, 16, 17, 18, 19, 20, 21, 22, 23, 24, 25, 26, 27, 28, 29, 30, 31, 32, 33, 34, 35, 36, 37, 38, 39, 40, 41, 42, 43, 44, 45, 46, 47, 48, 49, 50, 51, 52, 53, 54, 55, 56, 57, 58, 59, 60, 61, 62, 63, 64, 65, 66, 67, 68, 69, 70, 71, 72, 73, 74, 75, 76, 77, 78, 79, 80, 81, 82, 83, 84, 85, 86, 87, 88, 89, 90, 91, 92, 93, 94, 95, 96, 97, 98, 99, 100, 101, 102, 103, 104, 105, 106, 107, 108, 109, 110, 111, 112, 113, 114, 115, 116, 117, 118, 119, 120, 121, 122, 123, 124, 125, 126, 127, 128, 129, 130, 131, 132, 133, 134, 135, 136, 137, 138, 139, 140, 141, 142, 143, 144, 145, 146, 147, 148, 149, 150, 151, 152, 153, 154, 155, 156, 157, 158, 159, 160, 161, 162, 163, 164, 165, 166, 167, 168, 169, 170, 171, 172, 173, 174, 175, 176, 177, 178, 179, 180, 181, 182, 183, 184, 185, 186, 187, 188, 189, 190] rfl (by decide +kernel)) (goodIn_sub (fun _ h => List.mem_cons_of_mem _ (List.mem_append_right _ h)) (by decide +kernel))
set_option maxRecDepth 20000 in
theorem gL_shortDay_X9_shortDay : GoodIn wsL_shortDay (wsV RL 80 RX9 yX9_shortDay wsX9_shortDay) := goodIn_app (goodIn_r _ [2, 3, 4, 5] rfl (by decide +kernel)) ggL_shortDay_X9_shortDay
set_option maxRecDepth 20000 in
theorem ggL_splitPayment_X9_splitPayment : GoodIn wsL_splitPayment wsX9_splitPayment := goodIn_ca (goodIn_ca (goodIn_ca (goodIn_r _ [8, 9, 10, 11, 12, 7, 13, 14, 15, 16, 17, 18, 19, 20, 21, 22, 23, 24, 25, 26, 27, 28, 29, 30, 31, 32, 33, 34, 35, 36, 37, 38, 39, 40, 41, 42, 43, 44, 45, 46, 47, 48, 49, 50, 51, 52, 53, 54, 55, 56, 57, 58, 59, 60, 61, 62, 63, 64, 65, 66, 67, 68, 69, 70, 71, 72, 73, 74, 75, 76, 77, 78, 79, 80, 81, 82, 83, 84, 85, 86, 87, 88, 89, 90, 91, 92, 93, 94, 95, 96, 97, 98, 99, 100, 101, 102, 103, 104, 105, 106, 107, 108] rfl (by decide +kernel)) (goodIn_sub (fun _ h => List.mem_cons_of_mem _ (List.mem_append_left _ (List.mem_append_left _ (List.mem_append_right _ h)))) (by decide +kernel))) (goodIn_sub (fun _ h => List.mem_cons_of_mem _ (List.mem_append_left _ (List.mem_append_right _ h))) (by decide +kernel))) (goodIn_sub (fun _ h => List.mem_cons_of_mem _ (List.mem_append_right _ h)) (by decide +kernel))
set_option maxRecDepth 20000 in
theorem gL_splitPayment_X9_splitPayment : GoodIn wsL_splitPayment (wsV RL 72 RX9 yX9_splitPayment wsX9_splitPayment) := goodIn_app (goodIn_r _ [4, 5, 6, 7] rfl (by decide +kernel)) ggL_splitPayment_X9_splitPayment
set_option maxRecDepth 20000 in
theorem ggL_state_X9_state : GoodIn wsL_state wsX9_state := goodIn_ca (goodIn_r _ [6, 7, 8, 9, 10, 5, 11, 12, 13, 14, 15, 16, 17, 18, 19, 20, 21, 22, 23, 24, 25, 26, 27, 28, 29, 30, 31, 32, 33, 34, 35, 36, 37, 38, 39, 40, 41, 42, 43, 44, 45, 46, 47, 48, 49, 50, 51, 52, 53, 54, 55, 56, 57, 58, 59, 60, 61, 62, 63] rfl (by decide +kernel)) (goodIn_sub (fun _ h => List.mem_cons_of_mem _ (List.mem_append_right _ h)) (by decide +kernel))
set_option maxRecDepth 20000 in
theorem gL_state_X9_state : GoodIn wsL_state (wsV RL 15 RX9 yX9_state wsX9_state) := goodIn_app (goodIn_r _ [2, 3, 4, 5] rfl (by decide +kernel)) ggL_state_X9_state
set_option maxRecDepth 20000 in
theorem ggL_submit_X9_submit : GoodIn wsL_submit wsX9_submit := goodIn_ca (goodIn_r _ [6, 7, 8, 9, 10, 11, 5, 12, 13, 14, 15, 16, 17, 18, 19, 20, 21, 22, 23, 24, 25, 26, 27, 28, 29, 30, 31, 32, 33, 34, 35, 36, 37, 38, 39, 40, 41, 42, 43, 44, 45, 46, 47, 48, 49, 50, 51, 52, 53, 54, 55, 56, 57, 58, 59, 60, 61, 62, 63, 64, 65, 66, 67, 68, 69, 70, 71, 72, 73, 74, 75, 76, 77, 78, 79, 80, 81, 82, 83, 84, 85, 86, 87, 88, 89, 90, 91, 92, 93, 94, 95, 96, 97, 98, 99, 100, 101, 102, 103, 104, 105, 106, 107, 108, 109, 110, 111, 112, 113, 114, 115, 116, 117, 118, 119, 120, 121, 122, 123, 124, 125, 126, 127, 128] rfl (by decide +kernel)) (goodIn_sub (fun _ h => List.mem_cons_of_mem _ (List.mem_append_right _ h)) (by decide +kernel))
set_option maxRecDepth 20000 in
theorem gL_submit_X9_submit : GoodIn wsL_submit (wsV RL 86 RX9 yX9_submit wsX9_submit) := goodIn_app (goodIn_r _ [2, 3, 4, 5] rfl (by decide +kernel)) ggL_submit_X9_submit
set_option maxRecDepth 20000 in
theorem ggL_totalOn_X9_totalOn : GoodIn wsL_totalOn wsX9_totalOn := goodIn_ca (goodIn_r _ [6, 7, 8, 9, 5, 10, 11, 12, 13, 14, 15, 16, 17, 18, 19, 20, 21, 22, 23, 24, 25, 26, 27, 28, 29, 30, 31, 32, 33, 34, 35, 36, 37, 38, 39, 40, 41, 42, 43, 44, 45, 46, 47, 48, 49, 50, 51, 52, 53, 54, 55, 56] rfl (by decide +kernel)) (goodIn_sub (fun _ h => List.mem_cons_of_mem _ (List.mem_append_right _ h)) (by decide +kernel))
set_option maxRecDepth 20000 in
theorem gL_totalOn_X9_totalOn : GoodIn wsL_totalOn (wsV RL 133 RX9 yX9_totalOn wsX9_totalOn) := goodIn_app (goodIn_r _ [2, 3, 4, 5] rfl (by decide +kernel)) ggL_totalOn_X9_totalOn
set_option maxRecDepth 20000 in
theorem ggL_withdraw_X9_withdraw : GoodIn wsL_withdraw wsX9_withdraw := goodIn_ca (goodIn_ca (goodIn_r _ [7, 8, 9, 10, 11, 12, 6, 13, 14, 15, 16, 17, 18, 19, 20, 21, 22, 23, 24, 25, 26, 27, 28, 29, 30, 31, 32, 33, 34, 35, 36, 37, 38, 39, 40, 41, 42, 43, 44, 45, 46, 47, 48, 49, 50, 51, 52, 53, 54, 55, 56, 57, 58, 59, 60, 61, 62, 63, 64, 65, 66, 67, 68, 69, 70, 71, 72, 73, 74, 75, 76, 77, 78, 79, 80, 81, 82, 83, 84, 85, 86, 87, 88, 89, 90, 91, 92, 93, 94, 95, 96, 97, 98, 99, 100, 101, 102, 103, 104, 105, 106, 107, 108, 109, 110, 111, 112, 113, 114, 115, 116, 117, 118, 119, 120, 121, 122, 123, 124, 125, 126, 127, 128, 129, 130, 131, 132, 133, 134, 135, 136, 137, 138] rfl (by decide +kernel)) (goodIn_sub (fun _ h => List.mem_cons_of_mem _ (List.mem_append_left _ (List.mem_append_right _ h))) (by decide +kernel))) (goodIn_sub (fun _ h => List.mem_cons_of_mem _ (List.mem_append_right _ h)) (by decide +kernel))
set_option maxRecDepth 20000 in
theorem gL_withdraw_X9_withdraw : GoodIn wsL_withdraw (wsV RL 98 RX9 yX9_withdraw wsX9_withdraw) := goodIn_app (goodIn_r _ [3, 4, 5, 6] rfl (by decide +kernel)) ggL_withdraw_X9_withdraw
set_option maxRecDepth 20000 in
theorem ggL_wouldHold_X9_wouldHold : GoodIn wsL_wouldHold wsX9_wouldHold := goodIn_ca (goodIn_ca (goodIn_r _ [7, 8, 9, 10, 11, 12, 6, 13, 14, 15, 16, 17, 18, 19, 20, 21, 22, 23, 24, 25, 26, 27, 28, 29, 30, 31, 32, 33, 34, 35, 36, 37, 38, 39, 40, 41, 42, 43, 44, 45, 46, 47, 48, 49, 50, 51, 52, 53, 54, 55, 56, 57, 58, 59, 60, 61, 62, 63, 64, 65, 66, 67, 68, 69, 70, 71, 72, 73, 74, 75, 76, 77, 78, 79, 80, 81, 82, 83, 84, 85, 86, 87, 88, 89, 90, 91, 92, 93, 94, 95, 96, 97, 98, 99, 100, 101, 102, 103, 104, 105, 106, 107, 108, 109, 110, 111, 112] rfl (by decide +kernel)) (goodIn_sub (fun _ h => List.mem_cons_of_mem _ (List.mem_append_left _ (List.mem_append_right _ h))) (by decide +kernel))) (goodIn_sub (fun _ h => List.mem_cons_of_mem _ (List.mem_append_right _ h)) (by decide +kernel))
set_option maxRecDepth 20000 in
theorem gL_wouldHold_X9_wouldHold : GoodIn wsL_wouldHold (wsV RL 52 RX9 yX9_wouldHold wsX9_wouldHold) := goodIn_app (goodIn_r _ [3, 4, 5, 6] rfl (by decide +kernel)) ggL_wouldHold_X9_wouldHold
set_option maxRecDepth 20000 in
theorem ggL_write_X9_write : GoodIn wsL_write wsX9_write := goodIn_ca (goodIn_r _ [6, 7, 8, 9, 10, 11, 12, 5, 13, 14, 15, 16, 17, 18, 19, 20, 21, 22, 23, 24, 25, 26, 27, 28, 29, 30, 31, 32, 33, 34, 35, 36, 37, 38, 39, 40, 41, 42, 43, 44, 45, 46, 47, 48, 49, 50, 51, 52, 53, 54, 55, 56, 57, 58, 59, 60, 61, 62, 63, 64, 65, 66, 67, 68, 69, 70, 71, 72, 73, 74, 75, 76, 77, 78, 79, 80, 81, 82, 83, 84, 85, 86, 87, 88, 89, 90, 91, 92, 93, 94, 95, 96, 97, 98, 99, 100, 101, 102, 103, 104, 105, 106, 107, 108, 109, 110, 111, 112, 113, 114, 115, 116, 117, 118, 119, 120, 121, 122, 123, 124, 125, 126, 127, 128, 129, 130, 131, 132, 133, 134, 135, 136, 137, 138, 139, 140, 141, 142, 143, 144, 145, 146, 147, 148, 149, 150, 151, 152, 153, 154, 155, 156, 157, 158, 159, 160, 161, 162, 163, 164, 165, 166, 167, 168, 169, 170, 171, 172, 173, 174, 175, 176, 177, 178, 179, 180, 181, 182, 183, 184, 185, 186, 187, 188, 189, 190, 191, 192, 193, 194, 195, 196, 197, 198, 199, 200, 201, 202, 203, 204, 205, 206, 207, 208, 209, 210, 211, 212, 213, 214, 215, 216, 217, 218, 219, 220, 221, 222, 223, 224, 225, 226, 227, 228, 229, 230, 231, 232, 233, 234, 235, 236, 237, 238, 239, 240, 241, 242, 243, 244, 245, 246, 247, 248, 249, 250, 251, 252, 253, 254, 255, 256, 257, 258, 259, 260, 261, 262, 263, 264, 265, 266, 267, 268, 269, 270, 271, 272, 273, 274, 275, 276, 277, 278, 279, 280, 281, 282, 283, 284, 285, 286, 287, 288, 289, 290, 291, 292, 293, 294, 295, 296, 297, 298, 299, 300, 301, 302, 303, 304, 305, 306, 307, 308, 309, 310, 311, 312, 313, 314, 315, 316, 317, 318, 319, 320, 321, 322, 323, 324, 325, 326, 327, 328, 329, 330, 331, 332, 333, 334] rfl (by decide +kernel)) (goodIn_sub (fun _ h => List.mem_cons_of_mem _ (List.mem_append_right _ h)) (by decide +kernel))
set_option maxRecDepth 20000 in
theorem gL_write_X9_write : GoodIn wsL_write (wsV RL 123 RX9 yX9_write wsX9_write) := goodIn_app (goodIn_r _ [2, 3, 4, 5] rfl (by decide +kernel)) ggL_write_X9_write
set_option maxRecDepth 20000 in
theorem ggL_written_X9_written : GoodIn wsL_written wsX9_written := goodIn_ca (goodIn_r _ [6, 7, 8, 9, 10, 11, 12, 13, 14, 15, 16, 17, 18, 19, 20, 21, 5, 22, 23, 24, 25, 26, 27, 28, 29, 30, 31, 32, 33, 34, 35, 36, 37, 38, 39, 40, 41, 42, 43, 44, 45, 46, 47, 48, 49, 50, 51, 52, 53, 54, 55, 56, 57, 58, 59, 60, 61, 62, 63, 64, 65, 66, 67, 68, 69, 70] rfl (by decide +kernel)) (goodIn_sub (fun _ h => List.mem_cons_of_mem _ (List.mem_append_right _ h)) (by decide +kernel))
set_option maxRecDepth 20000 in
theorem gL_written_X9_written : GoodIn wsL_written (wsV RL 126 RX9 yX9_written wsX9_written) := goodIn_app (goodIn_r _ [2, 3, 4, 5] rfl (by decide +kernel)) ggL_written_X9_written
theorem dL_approve_0 : decode cL_approve 0 = .ok (.aload_n 2, 1) := by decide +kernel
theorem dL_approve_1 : decode cL_approve 1 = .ok (.iconst 0, 1) := by decide +kernel
theorem dL_approve_2 : decode cL_approve 2 = .ok (.aload_n 0, 1) := by decide +kernel
theorem dL_approve_3 : decode cL_approve 3 = .ok (.iload_n 1, 1) := by decide +kernel
theorem dL_approve_4 : decode cL_approve 4 = .ok (.invokevirtual 89, 3) := by decide +kernel
theorem dL_approve_7 : decode cL_approve 7 = .ok (.ifCond .eq 7, 3) := by decide +kernel
theorem dL_approve_10 : decode cL_approve 10 = .ok (.lconst 1, 1) := by decide +kernel
theorem dL_approve_11 : decode cL_approve 11 = .ok (.goto 4, 3) := by decide +kernel
theorem dL_approve_14 : decode cL_approve 14 = .ok (.lconst 0, 1) := by decide +kernel
theorem dL_approve_15 : decode cL_approve 15 = .ok (.lastore, 1) := by decide +kernel
theorem dL_approve_16 : decode cL_approve 16 = .ok (.goto 9, 3) := by decide +kernel
theorem dL_approve_19 : decode cL_approve 19 = .ok (.astore_n 3, 1) := by decide +kernel
theorem dL_approve_20 : decode cL_approve 20 = .ok (.iconst 1, 1) := by decide +kernel
theorem dL_approve_21 : decode cL_approve 21 = .ok (.ireturn, 1) := by decide +kernel
theorem dL_approve_22 : decode cL_approve 22 = .ok (.astore_n 3, 1) := by decide +kernel
theorem dL_approve_23 : decode cL_approve 23 = .ok (.iconst 2, 1) := by decide +kernel
theorem dL_approve_24 : decode cL_approve 24 = .ok (.ireturn, 1) := by decide +kernel
theorem dL_approve_25 : decode cL_approve 25 = .ok (.iconst 0, 1) := by decide +kernel
theorem dL_approve_26 : decode cL_approve 26 = .ok (.ireturn, 1) := by decide +kernel
theorem dL_cancel_0 : decode cL_cancel 0 = .ok (.aload_n 2, 1) := by decide +kernel
theorem dL_cancel_1 : decode cL_cancel 1 = .ok (.iconst 0, 1) := by decide +kernel
theorem dL_cancel_2 : decode cL_cancel 2 = .ok (.aload_n 0, 1) := by decide +kernel
theorem dL_cancel_3 : decode cL_cancel 3 = .ok (.iload_n 1, 1) := by decide +kernel
theorem dL_cancel_4 : decode cL_cancel 4 = .ok (.invokevirtual 104, 3) := by decide +kernel
theorem dL_cancel_7 : decode cL_cancel 7 = .ok (.i2l, 1) := by decide +kernel
theorem dL_cancel_8 : decode cL_cancel 8 = .ok (.lastore, 1) := by decide +kernel
theorem dL_cancel_9 : decode cL_cancel 9 = .ok (.goto 9, 3) := by decide +kernel
theorem dL_cancel_12 : decode cL_cancel 12 = .ok (.astore_n 3, 1) := by decide +kernel
theorem dL_cancel_13 : decode cL_cancel 13 = .ok (.iconst 1, 1) := by decide +kernel
theorem dL_cancel_14 : decode cL_cancel 14 = .ok (.ireturn, 1) := by decide +kernel
theorem dL_cancel_15 : decode cL_cancel 15 = .ok (.astore_n 3, 1) := by decide +kernel
theorem dL_cancel_16 : decode cL_cancel 16 = .ok (.iconst 2, 1) := by decide +kernel
theorem dL_cancel_17 : decode cL_cancel 17 = .ok (.ireturn, 1) := by decide +kernel
theorem dL_cancel_18 : decode cL_cancel 18 = .ok (.iconst 0, 1) := by decide +kernel
theorem dL_cancel_19 : decode cL_cancel 19 = .ok (.ireturn, 1) := by decide +kernel
theorem dL_close_0 : decode cL_close 0 = .ok (.aload_n 1, 1) := by decide +kernel
theorem dL_close_1 : decode cL_close 1 = .ok (.iconst 0, 1) := by decide +kernel
theorem dL_close_2 : decode cL_close 2 = .ok (.aload_n 0, 1) := by decide +kernel
theorem dL_close_3 : decode cL_close 3 = .ok (.invokevirtual 110, 3) := by decide +kernel
theorem dL_close_6 : decode cL_close 6 = .ok (.i2l, 1) := by decide +kernel
theorem dL_close_7 : decode cL_close 7 = .ok (.lastore, 1) := by decide +kernel
theorem dL_close_8 : decode cL_close 8 = .ok (.goto 6, 3) := by decide +kernel
theorem dL_close_11 : decode cL_close 11 = .ok (.astore_n 2, 1) := by decide +kernel
theorem dL_close_12 : decode cL_close 12 = .ok (.iconst 1, 1) := by decide +kernel
theorem dL_close_13 : decode cL_close 13 = .ok (.ireturn, 1) := by decide +kernel
theorem dL_close_14 : decode cL_close 14 = .ok (.iconst 0, 1) := by decide +kernel
theorem dL_close_15 : decode cL_close 15 = .ok (.ireturn, 1) := by decide +kernel
theorem dL_creditedAfter_0 : decode cL_creditedAfter 0 = .ok (.aload_n 2, 1) := by decide +kernel
theorem dL_creditedAfter_1 : decode cL_creditedAfter 1 = .ok (.iconst 0, 1) := by decide +kernel
theorem dL_creditedAfter_2 : decode cL_creditedAfter 2 = .ok (.aload_n 0, 1) := by decide +kernel
theorem dL_creditedAfter_3 : decode cL_creditedAfter 3 = .ok (.iload_n 1, 1) := by decide +kernel
theorem dL_creditedAfter_4 : decode cL_creditedAfter 4 = .ok (.invokevirtual 66, 3) := by decide +kernel
theorem dL_creditedAfter_7 : decode cL_creditedAfter 7 = .ok (.i2l, 1) := by decide +kernel
theorem dL_creditedAfter_8 : decode cL_creditedAfter 8 = .ok (.lastore, 1) := by decide +kernel
theorem dL_creditedAfter_9 : decode cL_creditedAfter 9 = .ok (.goto 6, 3) := by decide +kernel
theorem dL_creditedAfter_12 : decode cL_creditedAfter 12 = .ok (.astore_n 3, 1) := by decide +kernel
theorem dL_creditedAfter_13 : decode cL_creditedAfter 13 = .ok (.iconst 1, 1) := by decide +kernel
theorem dL_creditedAfter_14 : decode cL_creditedAfter 14 = .ok (.ireturn, 1) := by decide +kernel
theorem dL_creditedAfter_15 : decode cL_creditedAfter 15 = .ok (.iconst 0, 1) := by decide +kernel
theorem dL_creditedAfter_16 : decode cL_creditedAfter 16 = .ok (.ireturn, 1) := by decide +kernel
theorem dL_dayByClock_0 : decode cL_dayByClock 0 = .ok (.aload_n 2, 1) := by decide +kernel
theorem dL_dayByClock_1 : decode cL_dayByClock 1 = .ok (.iconst 0, 1) := by decide +kernel
theorem dL_dayByClock_2 : decode cL_dayByClock 2 = .ok (.aload_n 0, 1) := by decide +kernel
theorem dL_dayByClock_3 : decode cL_dayByClock 3 = .ok (.iload_n 1, 1) := by decide +kernel
theorem dL_dayByClock_4 : decode cL_dayByClock 4 = .ok (.invokevirtual 36, 3) := by decide +kernel
theorem dL_dayByClock_7 : decode cL_dayByClock 7 = .ok (.i2l, 1) := by decide +kernel
theorem dL_dayByClock_8 : decode cL_dayByClock 8 = .ok (.lastore, 1) := by decide +kernel
theorem dL_dayByClock_9 : decode cL_dayByClock 9 = .ok (.goto 6, 3) := by decide +kernel
theorem dL_dayByClock_12 : decode cL_dayByClock 12 = .ok (.astore_n 3, 1) := by decide +kernel
theorem dL_dayByClock_13 : decode cL_dayByClock 13 = .ok (.iconst 1, 1) := by decide +kernel
theorem dL_dayByClock_14 : decode cL_dayByClock 14 = .ok (.ireturn, 1) := by decide +kernel
theorem dL_dayByClock_15 : decode cL_dayByClock 15 = .ok (.iconst 0, 1) := by decide +kernel
theorem dL_dayByClock_16 : decode cL_dayByClock 16 = .ok (.ireturn, 1) := by decide +kernel
theorem dL_daysUntilClosed_0 : decode cL_daysUntilClosed 0 = .ok (.aload_n 2, 1) := by decide +kernel
theorem dL_daysUntilClosed_1 : decode cL_daysUntilClosed 1 = .ok (.iconst 0, 1) := by decide +kernel
theorem dL_daysUntilClosed_2 : decode cL_daysUntilClosed 2 = .ok (.aload_n 0, 1) := by decide +kernel
theorem dL_daysUntilClosed_3 : decode cL_daysUntilClosed 3 = .ok (.iload_n 1, 1) := by decide +kernel
theorem dL_daysUntilClosed_4 : decode cL_daysUntilClosed 4 = .ok (.invokevirtual 69, 3) := by decide +kernel
theorem dL_daysUntilClosed_7 : decode cL_daysUntilClosed 7 = .ok (.i2l, 1) := by decide +kernel
theorem dL_daysUntilClosed_8 : decode cL_daysUntilClosed 8 = .ok (.lastore, 1) := by decide +kernel
theorem dL_daysUntilClosed_9 : decode cL_daysUntilClosed 9 = .ok (.goto 6, 3) := by decide +kernel
theorem dL_daysUntilClosed_12 : decode cL_daysUntilClosed 12 = .ok (.astore_n 3, 1) := by decide +kernel
theorem dL_daysUntilClosed_13 : decode cL_daysUntilClosed 13 = .ok (.iconst 1, 1) := by decide +kernel
theorem dL_daysUntilClosed_14 : decode cL_daysUntilClosed 14 = .ok (.ireturn, 1) := by decide +kernel
theorem dL_daysUntilClosed_15 : decode cL_daysUntilClosed 15 = .ok (.iconst 0, 1) := by decide +kernel
theorem dL_daysUntilClosed_16 : decode cL_daysUntilClosed 16 = .ok (.ireturn, 1) := by decide +kernel
theorem dL_deposit_0 : decode cL_deposit 0 = .ok (.aload_n 2, 1) := by decide +kernel
theorem dL_deposit_1 : decode cL_deposit 1 = .ok (.iconst 0, 1) := by decide +kernel
theorem dL_deposit_2 : decode cL_deposit 2 = .ok (.aload_n 0, 1) := by decide +kernel
theorem dL_deposit_3 : decode cL_deposit 3 = .ok (.iload_n 1, 1) := by decide +kernel
theorem dL_deposit_4 : decode cL_deposit 4 = .ok (.invokevirtual 83, 3) := by decide +kernel
theorem dL_deposit_7 : decode cL_deposit 7 = .ok (.i2l, 1) := by decide +kernel
theorem dL_deposit_8 : decode cL_deposit 8 = .ok (.lastore, 1) := by decide +kernel
theorem dL_deposit_9 : decode cL_deposit 9 = .ok (.goto 9, 3) := by decide +kernel
theorem dL_deposit_12 : decode cL_deposit 12 = .ok (.astore_n 3, 1) := by decide +kernel
theorem dL_deposit_13 : decode cL_deposit 13 = .ok (.iconst 1, 1) := by decide +kernel
theorem dL_deposit_14 : decode cL_deposit 14 = .ok (.ireturn, 1) := by decide +kernel
theorem dL_deposit_15 : decode cL_deposit 15 = .ok (.astore_n 3, 1) := by decide +kernel
theorem dL_deposit_16 : decode cL_deposit 16 = .ok (.iconst 2, 1) := by decide +kernel
theorem dL_deposit_17 : decode cL_deposit 17 = .ok (.ireturn, 1) := by decide +kernel
theorem dL_deposit_18 : decode cL_deposit 18 = .ok (.iconst 0, 1) := by decide +kernel
theorem dL_deposit_19 : decode cL_deposit 19 = .ok (.ireturn, 1) := by decide +kernel
theorem dL_dispute_0 : decode cL_dispute 0 = .ok (.aload_n 2, 1) := by decide +kernel
theorem dL_dispute_1 : decode cL_dispute 1 = .ok (.iconst 0, 1) := by decide +kernel
theorem dL_dispute_2 : decode cL_dispute 2 = .ok (.aload_n 0, 1) := by decide +kernel
theorem dL_dispute_3 : decode cL_dispute 3 = .ok (.iload_n 1, 1) := by decide +kernel
theorem dL_dispute_4 : decode cL_dispute 4 = .ok (.invokevirtual 95, 3) := by decide +kernel
theorem dL_dispute_7 : decode cL_dispute 7 = .ok (.i2l, 1) := by decide +kernel
theorem dL_dispute_8 : decode cL_dispute 8 = .ok (.lastore, 1) := by decide +kernel
theorem dL_dispute_9 : decode cL_dispute 9 = .ok (.goto 9, 3) := by decide +kernel
theorem dL_dispute_12 : decode cL_dispute 12 = .ok (.astore_n 3, 1) := by decide +kernel
theorem dL_dispute_13 : decode cL_dispute 13 = .ok (.iconst 1, 1) := by decide +kernel
theorem dL_dispute_14 : decode cL_dispute 14 = .ok (.ireturn, 1) := by decide +kernel
theorem dL_dispute_15 : decode cL_dispute 15 = .ok (.astore_n 3, 1) := by decide +kernel
theorem dL_dispute_16 : decode cL_dispute 16 = .ok (.iconst 2, 1) := by decide +kernel
theorem dL_dispute_17 : decode cL_dispute 17 = .ok (.ireturn, 1) := by decide +kernel
theorem dL_dispute_18 : decode cL_dispute 18 = .ok (.iconst 0, 1) := by decide +kernel
theorem dL_dispute_19 : decode cL_dispute 19 = .ok (.ireturn, 1) := by decide +kernel
theorem dL_dueAt_0 : decode cL_dueAt 0 = .ok (.aload_n 2, 1) := by decide +kernel
theorem dL_dueAt_1 : decode cL_dueAt 1 = .ok (.iconst 0, 1) := by decide +kernel
theorem dL_dueAt_2 : decode cL_dueAt 2 = .ok (.aload_n 0, 1) := by decide +kernel
theorem dL_dueAt_3 : decode cL_dueAt 3 = .ok (.iload_n 1, 1) := by decide +kernel
theorem dL_dueAt_4 : decode cL_dueAt 4 = .ok (.invokevirtual 56, 3) := by decide +kernel
theorem dL_dueAt_7 : decode cL_dueAt 7 = .ok (.i2l, 1) := by decide +kernel
theorem dL_dueAt_8 : decode cL_dueAt 8 = .ok (.lastore, 1) := by decide +kernel
theorem dL_dueAt_9 : decode cL_dueAt 9 = .ok (.goto 6, 3) := by decide +kernel
theorem dL_dueAt_12 : decode cL_dueAt 12 = .ok (.astore_n 3, 1) := by decide +kernel
theorem dL_dueAt_13 : decode cL_dueAt 13 = .ok (.iconst 1, 1) := by decide +kernel
theorem dL_dueAt_14 : decode cL_dueAt 14 = .ok (.ireturn, 1) := by decide +kernel
theorem dL_dueAt_15 : decode cL_dueAt 15 = .ok (.iconst 0, 1) := by decide +kernel
theorem dL_dueAt_16 : decode cL_dueAt 16 = .ok (.ireturn, 1) := by decide +kernel
theorem dL_dueDay_0 : decode cL_dueDay 0 = .ok (.aload_n 2, 1) := by decide +kernel
theorem dL_dueDay_1 : decode cL_dueDay 1 = .ok (.iconst 0, 1) := by decide +kernel
theorem dL_dueDay_2 : decode cL_dueDay 2 = .ok (.aload_n 0, 1) := by decide +kernel
theorem dL_dueDay_3 : decode cL_dueDay 3 = .ok (.iload_n 1, 1) := by decide +kernel
theorem dL_dueDay_4 : decode cL_dueDay 4 = .ok (.invokevirtual 29, 3) := by decide +kernel
theorem dL_dueDay_7 : decode cL_dueDay 7 = .ok (.i2l, 1) := by decide +kernel
theorem dL_dueDay_8 : decode cL_dueDay 8 = .ok (.lastore, 1) := by decide +kernel
theorem dL_dueDay_9 : decode cL_dueDay 9 = .ok (.goto 6, 3) := by decide +kernel
theorem dL_dueDay_12 : decode cL_dueDay 12 = .ok (.astore_n 3, 1) := by decide +kernel
theorem dL_dueDay_13 : decode cL_dueDay 13 = .ok (.iconst 1, 1) := by decide +kernel
theorem dL_dueDay_14 : decode cL_dueDay 14 = .ok (.ireturn, 1) := by decide +kernel
theorem dL_dueDay_15 : decode cL_dueDay 15 = .ok (.iconst 0, 1) := by decide +kernel
theorem dL_dueDay_16 : decode cL_dueDay 16 = .ok (.ireturn, 1) := by decide +kernel
theorem dL_entry_0 : decode cL_entry 0 = .ok (.aload_n 3, 1) := by decide +kernel
theorem dL_entry_1 : decode cL_entry 1 = .ok (.iconst 0, 1) := by decide +kernel
theorem dL_entry_2 : decode cL_entry 2 = .ok (.aload_n 0, 1) := by decide +kernel
theorem dL_entry_3 : decode cL_entry 3 = .ok (.iload_n 1, 1) := by decide +kernel
theorem dL_entry_4 : decode cL_entry 4 = .ok (.iload_n 2, 1) := by decide +kernel
theorem dL_entry_5 : decode cL_entry 5 = .ok (.invokevirtual 130, 3) := by decide +kernel
theorem dL_entry_8 : decode cL_entry 8 = .ok (.i2l, 1) := by decide +kernel
theorem dL_entry_9 : decode cL_entry 9 = .ok (.lastore, 1) := by decide +kernel
theorem dL_entry_10 : decode cL_entry 10 = .ok (.goto 11, 3) := by decide +kernel
theorem dL_entry_13 : decode cL_entry 13 = .ok (.astore 4, 2) := by decide +kernel
theorem dL_entry_15 : decode cL_entry 15 = .ok (.iconst 1, 1) := by decide +kernel
theorem dL_entry_16 : decode cL_entry 16 = .ok (.ireturn, 1) := by decide +kernel
theorem dL_entry_17 : decode cL_entry 17 = .ok (.astore 4, 2) := by decide +kernel
theorem dL_entry_19 : decode cL_entry 19 = .ok (.iconst 2, 1) := by decide +kernel
theorem dL_entry_20 : decode cL_entry 20 = .ok (.ireturn, 1) := by decide +kernel
theorem dL_entry_21 : decode cL_entry 21 = .ok (.iconst 0, 1) := by decide +kernel
theorem dL_entry_22 : decode cL_entry 22 = .ok (.ireturn, 1) := by decide +kernel
theorem dL_frozen_0 : decode cL_frozen 0 = .ok (.aload_n 2, 1) := by decide +kernel
theorem dL_frozen_1 : decode cL_frozen 1 = .ok (.iconst 0, 1) := by decide +kernel
theorem dL_frozen_2 : decode cL_frozen 2 = .ok (.aload_n 0, 1) := by decide +kernel
theorem dL_frozen_3 : decode cL_frozen 3 = .ok (.iload_n 1, 1) := by decide +kernel
theorem dL_frozen_4 : decode cL_frozen 4 = .ok (.invokevirtual 26, 3) := by decide +kernel
theorem dL_frozen_7 : decode cL_frozen 7 = .ok (.i2l, 1) := by decide +kernel
theorem dL_frozen_8 : decode cL_frozen 8 = .ok (.lastore, 1) := by decide +kernel
theorem dL_frozen_9 : decode cL_frozen 9 = .ok (.goto 6, 3) := by decide +kernel
theorem dL_frozen_12 : decode cL_frozen 12 = .ok (.astore_n 3, 1) := by decide +kernel
theorem dL_frozen_13 : decode cL_frozen 13 = .ok (.iconst 1, 1) := by decide +kernel
theorem dL_frozen_14 : decode cL_frozen 14 = .ok (.ireturn, 1) := by decide +kernel
theorem dL_frozen_15 : decode cL_frozen 15 = .ok (.iconst 0, 1) := by decide +kernel
theorem dL_frozen_16 : decode cL_frozen 16 = .ok (.ireturn, 1) := by decide +kernel
theorem dL_graceLeft_0 : decode cL_graceLeft 0 = .ok (.aload_n 2, 1) := by decide +kernel
theorem dL_graceLeft_1 : decode cL_graceLeft 1 = .ok (.iconst 0, 1) := by decide +kernel
theorem dL_graceLeft_2 : decode cL_graceLeft 2 = .ok (.aload_n 0, 1) := by decide +kernel
theorem dL_graceLeft_3 : decode cL_graceLeft 3 = .ok (.iload_n 1, 1) := by decide +kernel
theorem dL_graceLeft_4 : decode cL_graceLeft 4 = .ok (.invokevirtual 42, 3) := by decide +kernel
theorem dL_graceLeft_7 : decode cL_graceLeft 7 = .ok (.i2l, 1) := by decide +kernel
theorem dL_graceLeft_8 : decode cL_graceLeft 8 = .ok (.lastore, 1) := by decide +kernel
theorem dL_graceLeft_9 : decode cL_graceLeft 9 = .ok (.goto 6, 3) := by decide +kernel
theorem dL_graceLeft_12 : decode cL_graceLeft 12 = .ok (.astore_n 3, 1) := by decide +kernel
theorem dL_graceLeft_13 : decode cL_graceLeft 13 = .ok (.iconst 1, 1) := by decide +kernel
theorem dL_graceLeft_14 : decode cL_graceLeft 14 = .ok (.ireturn, 1) := by decide +kernel
theorem dL_graceLeft_15 : decode cL_graceLeft 15 = .ok (.iconst 0, 1) := by decide +kernel
theorem dL_graceLeft_16 : decode cL_graceLeft 16 = .ok (.ireturn, 1) := by decide +kernel
theorem dL_holds_0 : decode cL_holds 0 = .ok (.aload_n 2, 1) := by decide +kernel
theorem dL_holds_1 : decode cL_holds 1 = .ok (.iconst 0, 1) := by decide +kernel
theorem dL_holds_2 : decode cL_holds 2 = .ok (.aload_n 0, 1) := by decide +kernel
theorem dL_holds_3 : decode cL_holds 3 = .ok (.iload_n 1, 1) := by decide +kernel
theorem dL_holds_4 : decode cL_holds 4 = .ok (.invokevirtual 32, 3) := by decide +kernel
theorem dL_holds_7 : decode cL_holds 7 = .ok (.ifCond .eq 7, 3) := by decide +kernel
theorem dL_holds_10 : decode cL_holds 10 = .ok (.lconst 1, 1) := by decide +kernel
theorem dL_holds_11 : decode cL_holds 11 = .ok (.goto 4, 3) := by decide +kernel
theorem dL_holds_14 : decode cL_holds 14 = .ok (.lconst 0, 1) := by decide +kernel
theorem dL_holds_15 : decode cL_holds 15 = .ok (.lastore, 1) := by decide +kernel
theorem dL_holds_16 : decode cL_holds 16 = .ok (.goto 6, 3) := by decide +kernel
theorem dL_holds_19 : decode cL_holds 19 = .ok (.astore_n 3, 1) := by decide +kernel
theorem dL_holds_20 : decode cL_holds 20 = .ok (.iconst 1, 1) := by decide +kernel
theorem dL_holds_21 : decode cL_holds 21 = .ok (.ireturn, 1) := by decide +kernel
theorem dL_holds_22 : decode cL_holds 22 = .ok (.iconst 0, 1) := by decide +kernel
theorem dL_holds_23 : decode cL_holds 23 = .ok (.ireturn, 1) := by decide +kernel
theorem dL_isSubmitted_0 : decode cL_isSubmitted 0 = .ok (.aload_n 2, 1) := by decide +kernel
theorem dL_isSubmitted_1 : decode cL_isSubmitted 1 = .ok (.iconst 0, 1) := by decide +kernel
theorem dL_isSubmitted_2 : decode cL_isSubmitted 2 = .ok (.aload_n 0, 1) := by decide +kernel
theorem dL_isSubmitted_3 : decode cL_isSubmitted 3 = .ok (.iload_n 1, 1) := by decide +kernel
theorem dL_isSubmitted_4 : decode cL_isSubmitted 4 = .ok (.invokevirtual 45, 3) := by decide +kernel
theorem dL_isSubmitted_7 : decode cL_isSubmitted 7 = .ok (.ifCond .eq 7, 3) := by decide +kernel
theorem dL_isSubmitted_10 : decode cL_isSubmitted 10 = .ok (.lconst 1, 1) := by decide +kernel
theorem dL_isSubmitted_11 : decode cL_isSubmitted 11 = .ok (.goto 4, 3) := by decide +kernel
theorem dL_isSubmitted_14 : decode cL_isSubmitted 14 = .ok (.lconst 0, 1) := by decide +kernel
theorem dL_isSubmitted_15 : decode cL_isSubmitted 15 = .ok (.lastore, 1) := by decide +kernel
theorem dL_isSubmitted_16 : decode cL_isSubmitted 16 = .ok (.goto 6, 3) := by decide +kernel
theorem dL_isSubmitted_19 : decode cL_isSubmitted 19 = .ok (.astore_n 3, 1) := by decide +kernel
theorem dL_isSubmitted_20 : decode cL_isSubmitted 20 = .ok (.iconst 1, 1) := by decide +kernel
theorem dL_isSubmitted_21 : decode cL_isSubmitted 21 = .ok (.ireturn, 1) := by decide +kernel
theorem dL_isSubmitted_22 : decode cL_isSubmitted 22 = .ok (.iconst 0, 1) := by decide +kernel
theorem dL_isSubmitted_23 : decode cL_isSubmitted 23 = .ok (.ireturn, 1) := by decide +kernel
theorem dL_load_0 : decode cL_load 0 = .ok (.aload_n 2, 1) := by decide +kernel
theorem dL_load_1 : decode cL_load 1 = .ok (.iconst 0, 1) := by decide +kernel
theorem dL_load_2 : decode cL_load 2 = .ok (.aload_n 0, 1) := by decide +kernel
theorem dL_load_3 : decode cL_load 3 = .ok (.iload_n 1, 1) := by decide +kernel
theorem dL_load_4 : decode cL_load 4 = .ok (.invokevirtual 7, 3) := by decide +kernel
theorem dL_load_7 : decode cL_load 7 = .ok (.i2l, 1) := by decide +kernel
theorem dL_load_8 : decode cL_load 8 = .ok (.lastore, 1) := by decide +kernel
theorem dL_load_9 : decode cL_load 9 = .ok (.goto 6, 3) := by decide +kernel
theorem dL_load_12 : decode cL_load 12 = .ok (.astore_n 3, 1) := by decide +kernel
theorem dL_load_13 : decode cL_load 13 = .ok (.iconst 1, 1) := by decide +kernel
theorem dL_load_14 : decode cL_load 14 = .ok (.ireturn, 1) := by decide +kernel
theorem dL_load_15 : decode cL_load 15 = .ok (.iconst 0, 1) := by decide +kernel
theorem dL_load_16 : decode cL_load 16 = .ok (.ireturn, 1) := by decide +kernel
theorem dL_missingProofs_0 : decode cL_missingProofs 0 = .ok (.aload_n 2, 1) := by decide +kernel
theorem dL_missingProofs_1 : decode cL_missingProofs 1 = .ok (.iconst 0, 1) := by decide +kernel
theorem dL_missingProofs_2 : decode cL_missingProofs 2 = .ok (.aload_n 0, 1) := by decide +kernel
theorem dL_missingProofs_3 : decode cL_missingProofs 3 = .ok (.iload_n 1, 1) := by decide +kernel
theorem dL_missingProofs_4 : decode cL_missingProofs 4 = .ok (.invokevirtual 39, 3) := by decide +kernel
theorem dL_missingProofs_7 : decode cL_missingProofs 7 = .ok (.i2l, 1) := by decide +kernel
theorem dL_missingProofs_8 : decode cL_missingProofs 8 = .ok (.lastore, 1) := by decide +kernel
theorem dL_missingProofs_9 : decode cL_missingProofs 9 = .ok (.goto 6, 3) := by decide +kernel
theorem dL_missingProofs_12 : decode cL_missingProofs 12 = .ok (.astore_n 3, 1) := by decide +kernel
theorem dL_missingProofs_13 : decode cL_missingProofs 13 = .ok (.iconst 1, 1) := by decide +kernel
theorem dL_missingProofs_14 : decode cL_missingProofs 14 = .ok (.ireturn, 1) := by decide +kernel
theorem dL_missingProofs_15 : decode cL_missingProofs 15 = .ok (.iconst 0, 1) := by decide +kernel
theorem dL_missingProofs_16 : decode cL_missingProofs 16 = .ok (.ireturn, 1) := by decide +kernel
theorem dL_paid_0 : decode cL_paid 0 = .ok (.aload_n 2, 1) := by decide +kernel
theorem dL_paid_1 : decode cL_paid 1 = .ok (.iconst 0, 1) := by decide +kernel
theorem dL_paid_2 : decode cL_paid 2 = .ok (.aload_n 0, 1) := by decide +kernel
theorem dL_paid_3 : decode cL_paid 3 = .ok (.iload_n 1, 1) := by decide +kernel
theorem dL_paid_4 : decode cL_paid 4 = .ok (.invokevirtual 20, 3) := by decide +kernel
theorem dL_paid_7 : decode cL_paid 7 = .ok (.i2l, 1) := by decide +kernel
theorem dL_paid_8 : decode cL_paid 8 = .ok (.lastore, 1) := by decide +kernel
theorem dL_paid_9 : decode cL_paid 9 = .ok (.goto 6, 3) := by decide +kernel
theorem dL_paid_12 : decode cL_paid 12 = .ok (.astore_n 3, 1) := by decide +kernel
theorem dL_paid_13 : decode cL_paid 13 = .ok (.iconst 1, 1) := by decide +kernel
theorem dL_paid_14 : decode cL_paid 14 = .ok (.ireturn, 1) := by decide +kernel
theorem dL_paid_15 : decode cL_paid 15 = .ok (.iconst 0, 1) := by decide +kernel
theorem dL_paid_16 : decode cL_paid 16 = .ok (.ireturn, 1) := by decide +kernel
theorem dL_paidAfter_0 : decode cL_paidAfter 0 = .ok (.aload_n 3, 1) := by decide +kernel
theorem dL_paidAfter_1 : decode cL_paidAfter 1 = .ok (.iconst 0, 1) := by decide +kernel
theorem dL_paidAfter_2 : decode cL_paidAfter 2 = .ok (.aload_n 0, 1) := by decide +kernel
theorem dL_paidAfter_3 : decode cL_paidAfter 3 = .ok (.iload_n 1, 1) := by decide +kernel
theorem dL_paidAfter_4 : decode cL_paidAfter 4 = .ok (.iload_n 2, 1) := by decide +kernel
theorem dL_paidAfter_5 : decode cL_paidAfter 5 = .ok (.invokevirtual 62, 3) := by decide +kernel
theorem dL_paidAfter_8 : decode cL_paidAfter 8 = .ok (.i2l, 1) := by decide +kernel
theorem dL_paidAfter_9 : decode cL_paidAfter 9 = .ok (.lastore, 1) := by decide +kernel
theorem dL_paidAfter_10 : decode cL_paidAfter 10 = .ok (.goto 11, 3) := by decide +kernel
theorem dL_paidAfter_13 : decode cL_paidAfter 13 = .ok (.astore 4, 2) := by decide +kernel
theorem dL_paidAfter_15 : decode cL_paidAfter 15 = .ok (.iconst 1, 1) := by decide +kernel
theorem dL_paidAfter_16 : decode cL_paidAfter 16 = .ok (.ireturn, 1) := by decide +kernel
theorem dL_paidAfter_17 : decode cL_paidAfter 17 = .ok (.astore 4, 2) := by decide +kernel
theorem dL_paidAfter_19 : decode cL_paidAfter 19 = .ok (.iconst 2, 1) := by decide +kernel
theorem dL_paidAfter_20 : decode cL_paidAfter 20 = .ok (.ireturn, 1) := by decide +kernel
theorem dL_paidAfter_21 : decode cL_paidAfter 21 = .ok (.iconst 0, 1) := by decide +kernel
theorem dL_paidAfter_22 : decode cL_paidAfter 22 = .ok (.ireturn, 1) := by decide +kernel
theorem dL_pay_0 : decode cL_pay 0 = .ok (.aload_n 3, 1) := by decide +kernel
theorem dL_pay_1 : decode cL_pay 1 = .ok (.iconst 0, 1) := by decide +kernel
theorem dL_pay_2 : decode cL_pay 2 = .ok (.aload_n 0, 1) := by decide +kernel
theorem dL_pay_3 : decode cL_pay 3 = .ok (.iload_n 1, 1) := by decide +kernel
theorem dL_pay_4 : decode cL_pay 4 = .ok (.iload_n 2, 1) := by decide +kernel
theorem dL_pay_5 : decode cL_pay 5 = .ok (.invokevirtual 92, 3) := by decide +kernel
theorem dL_pay_8 : decode cL_pay 8 = .ok (.i2l, 1) := by decide +kernel
theorem dL_pay_9 : decode cL_pay 9 = .ok (.lastore, 1) := by decide +kernel
theorem dL_pay_10 : decode cL_pay 10 = .ok (.goto 15, 3) := by decide +kernel
theorem dL_pay_13 : decode cL_pay 13 = .ok (.astore 4, 2) := by decide +kernel
theorem dL_pay_15 : decode cL_pay 15 = .ok (.iconst 1, 1) := by decide +kernel
theorem dL_pay_16 : decode cL_pay 16 = .ok (.ireturn, 1) := by decide +kernel
theorem dL_pay_17 : decode cL_pay 17 = .ok (.astore 4, 2) := by decide +kernel
theorem dL_pay_19 : decode cL_pay 19 = .ok (.iconst 2, 1) := by decide +kernel
theorem dL_pay_20 : decode cL_pay 20 = .ok (.ireturn, 1) := by decide +kernel
theorem dL_pay_21 : decode cL_pay 21 = .ok (.astore 4, 2) := by decide +kernel
theorem dL_pay_23 : decode cL_pay 23 = .ok (.iconst 3, 1) := by decide +kernel
theorem dL_pay_24 : decode cL_pay 24 = .ok (.ireturn, 1) := by decide +kernel
theorem dL_pay_25 : decode cL_pay 25 = .ok (.iconst 0, 1) := by decide +kernel
theorem dL_pay_26 : decode cL_pay 26 = .ok (.ireturn, 1) := by decide +kernel
theorem dL_payInterest_0 : decode cL_payInterest 0 = .ok (.aload_n 2, 1) := by decide +kernel
theorem dL_payInterest_1 : decode cL_payInterest 1 = .ok (.iconst 0, 1) := by decide +kernel
theorem dL_payInterest_2 : decode cL_payInterest 2 = .ok (.aload_n 0, 1) := by decide +kernel
theorem dL_payInterest_3 : decode cL_payInterest 3 = .ok (.iload_n 1, 1) := by decide +kernel
theorem dL_payInterest_4 : decode cL_payInterest 4 = .ok (.invokevirtual 107, 3) := by decide +kernel
theorem dL_payInterest_7 : decode cL_payInterest 7 = .ok (.i2l, 1) := by decide +kernel
theorem dL_payInterest_8 : decode cL_payInterest 8 = .ok (.lastore, 1) := by decide +kernel
theorem dL_payInterest_9 : decode cL_payInterest 9 = .ok (.goto 6, 3) := by decide +kernel
theorem dL_payInterest_12 : decode cL_payInterest 12 = .ok (.astore_n 3, 1) := by decide +kernel
theorem dL_payInterest_13 : decode cL_payInterest 13 = .ok (.iconst 1, 1) := by decide +kernel
theorem dL_payInterest_14 : decode cL_payInterest 14 = .ok (.ireturn, 1) := by decide +kernel
theorem dL_payInterest_15 : decode cL_payInterest 15 = .ok (.iconst 0, 1) := by decide +kernel
theorem dL_payInterest_16 : decode cL_payInterest 16 = .ok (.ireturn, 1) := by decide +kernel
theorem dL_paymentsAfter_0 : decode cL_paymentsAfter 0 = .ok (.aload_n 2, 1) := by decide +kernel
theorem dL_paymentsAfter_1 : decode cL_paymentsAfter 1 = .ok (.iconst 0, 1) := by decide +kernel
theorem dL_paymentsAfter_2 : decode cL_paymentsAfter 2 = .ok (.aload_n 0, 1) := by decide +kernel
theorem dL_paymentsAfter_3 : decode cL_paymentsAfter 3 = .ok (.iload_n 1, 1) := by decide +kernel
theorem dL_paymentsAfter_4 : decode cL_paymentsAfter 4 = .ok (.invokevirtual 59, 3) := by decide +kernel
theorem dL_paymentsAfter_7 : decode cL_paymentsAfter 7 = .ok (.i2l, 1) := by decide +kernel
theorem dL_paymentsAfter_8 : decode cL_paymentsAfter 8 = .ok (.lastore, 1) := by decide +kernel
theorem dL_paymentsAfter_9 : decode cL_paymentsAfter 9 = .ok (.goto 6, 3) := by decide +kernel
theorem dL_paymentsAfter_12 : decode cL_paymentsAfter 12 = .ok (.astore_n 3, 1) := by decide +kernel
theorem dL_paymentsAfter_13 : decode cL_paymentsAfter 13 = .ok (.iconst 1, 1) := by decide +kernel
theorem dL_paymentsAfter_14 : decode cL_paymentsAfter 14 = .ok (.ireturn, 1) := by decide +kernel
theorem dL_paymentsAfter_15 : decode cL_paymentsAfter 15 = .ok (.iconst 0, 1) := by decide +kernel
theorem dL_paymentsAfter_16 : decode cL_paymentsAfter 16 = .ok (.ireturn, 1) := by decide +kernel
theorem dL_proofCharacter_0 : decode cL_proofCharacter 0 = .ok (.aload_n 3, 1) := by decide +kernel
theorem dL_proofCharacter_1 : decode cL_proofCharacter 1 = .ok (.iconst 0, 1) := by decide +kernel
theorem dL_proofCharacter_2 : decode cL_proofCharacter 2 = .ok (.aload_n 0, 1) := by decide +kernel
theorem dL_proofCharacter_3 : decode cL_proofCharacter 3 = .ok (.iload_n 1, 1) := by decide +kernel
theorem dL_proofCharacter_4 : decode cL_proofCharacter 4 = .ok (.iload_n 2, 1) := by decide +kernel
theorem dL_proofCharacter_5 : decode cL_proofCharacter 5 = .ok (.invokevirtual 48, 3) := by decide +kernel
theorem dL_proofCharacter_8 : decode cL_proofCharacter 8 = .ok (.i2l, 1) := by decide +kernel
theorem dL_proofCharacter_9 : decode cL_proofCharacter 9 = .ok (.lastore, 1) := by decide +kernel
theorem dL_proofCharacter_10 : decode cL_proofCharacter 10 = .ok (.goto 7, 3) := by decide +kernel
theorem dL_proofCharacter_13 : decode cL_proofCharacter 13 = .ok (.astore 4, 2) := by decide +kernel
theorem dL_proofCharacter_15 : decode cL_proofCharacter 15 = .ok (.iconst 1, 1) := by decide +kernel
theorem dL_proofCharacter_16 : decode cL_proofCharacter 16 = .ok (.ireturn, 1) := by decide +kernel
theorem dL_proofCharacter_17 : decode cL_proofCharacter 17 = .ok (.iconst 0, 1) := by decide +kernel
theorem dL_proofCharacter_18 : decode cL_proofCharacter 18 = .ok (.ireturn, 1) := by decide +kernel
theorem dL_remaining_0 : decode cL_remaining 0 = .ok (.aload_n 2, 1) := by decide +kernel
theorem dL_remaining_1 : decode cL_remaining 1 = .ok (.iconst 0, 1) := by decide +kernel
theorem dL_remaining_2 : decode cL_remaining 2 = .ok (.aload_n 0, 1) := by decide +kernel
theorem dL_remaining_3 : decode cL_remaining 3 = .ok (.iload_n 1, 1) := by decide +kernel
theorem dL_remaining_4 : decode cL_remaining 4 = .ok (.invokevirtual 23, 3) := by decide +kernel
theorem dL_remaining_7 : decode cL_remaining 7 = .ok (.i2l, 1) := by decide +kernel
theorem dL_remaining_8 : decode cL_remaining 8 = .ok (.lastore, 1) := by decide +kernel
theorem dL_remaining_9 : decode cL_remaining 9 = .ok (.goto 6, 3) := by decide +kernel
theorem dL_remaining_12 : decode cL_remaining 12 = .ok (.astore_n 3, 1) := by decide +kernel
theorem dL_remaining_13 : decode cL_remaining 13 = .ok (.iconst 1, 1) := by decide +kernel
theorem dL_remaining_14 : decode cL_remaining 14 = .ok (.ireturn, 1) := by decide +kernel
theorem dL_remaining_15 : decode cL_remaining 15 = .ok (.iconst 0, 1) := by decide +kernel
theorem dL_remaining_16 : decode cL_remaining 16 = .ok (.ireturn, 1) := by decide +kernel
theorem dL_resolve_0 : decode cL_resolve 0 = .ok (.aload_n 3, 1) := by decide +kernel
theorem dL_resolve_1 : decode cL_resolve 1 = .ok (.iconst 0, 1) := by decide +kernel
theorem dL_resolve_2 : decode cL_resolve 2 = .ok (.aload_n 0, 1) := by decide +kernel
theorem dL_resolve_3 : decode cL_resolve 3 = .ok (.iload_n 1, 1) := by decide +kernel
theorem dL_resolve_4 : decode cL_resolve 4 = .ok (.iload_n 2, 1) := by decide +kernel
theorem dL_resolve_5 : decode cL_resolve 5 = .ok (.invokevirtual 101, 3) := by decide +kernel
theorem dL_resolve_8 : decode cL_resolve 8 = .ok (.i2l, 1) := by decide +kernel
theorem dL_resolve_9 : decode cL_resolve 9 = .ok (.lastore, 1) := by decide +kernel
theorem dL_resolve_10 : decode cL_resolve 10 = .ok (.goto 15, 3) := by decide +kernel
theorem dL_resolve_13 : decode cL_resolve 13 = .ok (.astore 4, 2) := by decide +kernel
theorem dL_resolve_15 : decode cL_resolve 15 = .ok (.iconst 1, 1) := by decide +kernel
theorem dL_resolve_16 : decode cL_resolve 16 = .ok (.ireturn, 1) := by decide +kernel
theorem dL_resolve_17 : decode cL_resolve 17 = .ok (.astore 4, 2) := by decide +kernel
theorem dL_resolve_19 : decode cL_resolve 19 = .ok (.iconst 2, 1) := by decide +kernel
theorem dL_resolve_20 : decode cL_resolve 20 = .ok (.ireturn, 1) := by decide +kernel
theorem dL_resolve_21 : decode cL_resolve 21 = .ok (.astore 4, 2) := by decide +kernel
theorem dL_resolve_23 : decode cL_resolve 23 = .ok (.iconst 3, 1) := by decide +kernel
theorem dL_resolve_24 : decode cL_resolve 24 = .ok (.ireturn, 1) := by decide +kernel
theorem dL_resolve_25 : decode cL_resolve 25 = .ok (.iconst 0, 1) := by decide +kernel
theorem dL_resolve_26 : decode cL_resolve 26 = .ok (.ireturn, 1) := by decide +kernel
theorem dL_setGrace_0 : decode cL_setGrace 0 = .ok (.aload_n 2, 1) := by decide +kernel
theorem dL_setGrace_1 : decode cL_setGrace 1 = .ok (.iconst 0, 1) := by decide +kernel
theorem dL_setGrace_2 : decode cL_setGrace 2 = .ok (.aload_n 0, 1) := by decide +kernel
theorem dL_setGrace_3 : decode cL_setGrace 3 = .ok (.iload_n 1, 1) := by decide +kernel
theorem dL_setGrace_4 : decode cL_setGrace 4 = .ok (.invokevirtual 117, 3) := by decide +kernel
theorem dL_setGrace_7 : decode cL_setGrace 7 = .ok (.i2l, 1) := by decide +kernel
theorem dL_setGrace_8 : decode cL_setGrace 8 = .ok (.lastore, 1) := by decide +kernel
theorem dL_setGrace_9 : decode cL_setGrace 9 = .ok (.goto 6, 3) := by decide +kernel
theorem dL_setGrace_12 : decode cL_setGrace 12 = .ok (.astore_n 3, 1) := by decide +kernel
theorem dL_setGrace_13 : decode cL_setGrace 13 = .ok (.iconst 1, 1) := by decide +kernel
theorem dL_setGrace_14 : decode cL_setGrace 14 = .ok (.ireturn, 1) := by decide +kernel
theorem dL_setGrace_15 : decode cL_setGrace 15 = .ok (.iconst 0, 1) := by decide +kernel
theorem dL_setGrace_16 : decode cL_setGrace 16 = .ok (.ireturn, 1) := by decide +kernel
theorem dL_setRate_0 : decode cL_setRate 0 = .ok (.aload_n 3, 1) := by decide +kernel
theorem dL_setRate_1 : decode cL_setRate 1 = .ok (.iconst 0, 1) := by decide +kernel
theorem dL_setRate_2 : decode cL_setRate 2 = .ok (.aload_n 0, 1) := by decide +kernel
theorem dL_setRate_3 : decode cL_setRate 3 = .ok (.iload_n 1, 1) := by decide +kernel
theorem dL_setRate_4 : decode cL_setRate 4 = .ok (.iload_n 2, 1) := by decide +kernel
theorem dL_setRate_5 : decode cL_setRate 5 = .ok (.invokevirtual 114, 3) := by decide +kernel
theorem dL_setRate_8 : decode cL_setRate 8 = .ok (.i2l, 1) := by decide +kernel
theorem dL_setRate_9 : decode cL_setRate 9 = .ok (.lastore, 1) := by decide +kernel
theorem dL_setRate_10 : decode cL_setRate 10 = .ok (.goto 7, 3) := by decide +kernel
theorem dL_setRate_13 : decode cL_setRate 13 = .ok (.astore 4, 2) := by decide +kernel
theorem dL_setRate_15 : decode cL_setRate 15 = .ok (.iconst 1, 1) := by decide +kernel
theorem dL_setRate_16 : decode cL_setRate 16 = .ok (.ireturn, 1) := by decide +kernel
theorem dL_setRate_17 : decode cL_setRate 17 = .ok (.iconst 0, 1) := by decide +kernel
theorem dL_setRate_18 : decode cL_setRate 18 = .ok (.ireturn, 1) := by decide +kernel
theorem dL_shareFor_0 : decode cL_shareFor 0 = .ok (.aload_n 3, 1) := by decide +kernel
theorem dL_shareFor_1 : decode cL_shareFor 1 = .ok (.iconst 0, 1) := by decide +kernel
theorem dL_shareFor_2 : decode cL_shareFor 2 = .ok (.aload_n 0, 1) := by decide +kernel
theorem dL_shareFor_3 : decode cL_shareFor 3 = .ok (.iload_n 1, 1) := by decide +kernel
theorem dL_shareFor_4 : decode cL_shareFor 4 = .ok (.iload_n 2, 1) := by decide +kernel
theorem dL_shareFor_5 : decode cL_shareFor 5 = .ok (.invokevirtual 77, 3) := by decide +kernel
theorem dL_shareFor_8 : decode cL_shareFor 8 = .ok (.i2l, 1) := by decide +kernel
theorem dL_shareFor_9 : decode cL_shareFor 9 = .ok (.lastore, 1) := by decide +kernel
theorem dL_shareFor_10 : decode cL_shareFor 10 = .ok (.goto 15, 3) := by decide +kernel
theorem dL_shareFor_13 : decode cL_shareFor 13 = .ok (.astore 4, 2) := by decide +kernel
theorem dL_shareFor_15 : decode cL_shareFor 15 = .ok (.iconst 1, 1) := by decide +kernel
theorem dL_shareFor_16 : decode cL_shareFor 16 = .ok (.ireturn, 1) := by decide +kernel
theorem dL_shareFor_17 : decode cL_shareFor 17 = .ok (.astore 4, 2) := by decide +kernel
theorem dL_shareFor_19 : decode cL_shareFor 19 = .ok (.iconst 2, 1) := by decide +kernel
theorem dL_shareFor_20 : decode cL_shareFor 20 = .ok (.ireturn, 1) := by decide +kernel
theorem dL_shareFor_21 : decode cL_shareFor 21 = .ok (.astore 4, 2) := by decide +kernel
theorem dL_shareFor_23 : decode cL_shareFor 23 = .ok (.iconst 3, 1) := by decide +kernel
theorem dL_shareFor_24 : decode cL_shareFor 24 = .ok (.ireturn, 1) := by decide +kernel
theorem dL_shareFor_25 : decode cL_shareFor 25 = .ok (.iconst 0, 1) := by decide +kernel
theorem dL_shareFor_26 : decode cL_shareFor 26 = .ok (.ireturn, 1) := by decide +kernel
theorem dL_shortDay_0 : decode cL_shortDay 0 = .ok (.aload_n 2, 1) := by decide +kernel
theorem dL_shortDay_1 : decode cL_shortDay 1 = .ok (.iconst 0, 1) := by decide +kernel
theorem dL_shortDay_2 : decode cL_shortDay 2 = .ok (.aload_n 0, 1) := by decide +kernel
theorem dL_shortDay_3 : decode cL_shortDay 3 = .ok (.iload_n 1, 1) := by decide +kernel
theorem dL_shortDay_4 : decode cL_shortDay 4 = .ok (.invokevirtual 80, 3) := by decide +kernel
theorem dL_shortDay_7 : decode cL_shortDay 7 = .ok (.i2l, 1) := by decide +kernel
theorem dL_shortDay_8 : decode cL_shortDay 8 = .ok (.lastore, 1) := by decide +kernel
theorem dL_shortDay_9 : decode cL_shortDay 9 = .ok (.goto 6, 3) := by decide +kernel
theorem dL_shortDay_12 : decode cL_shortDay 12 = .ok (.astore_n 3, 1) := by decide +kernel
theorem dL_shortDay_13 : decode cL_shortDay 13 = .ok (.iconst 1, 1) := by decide +kernel
theorem dL_shortDay_14 : decode cL_shortDay 14 = .ok (.ireturn, 1) := by decide +kernel
theorem dL_shortDay_15 : decode cL_shortDay 15 = .ok (.iconst 0, 1) := by decide +kernel
theorem dL_shortDay_16 : decode cL_shortDay 16 = .ok (.ireturn, 1) := by decide +kernel
theorem dL_splitPayment_0 : decode cL_splitPayment 0 = .ok (.aload_n 3, 1) := by decide +kernel
theorem dL_splitPayment_1 : decode cL_splitPayment 1 = .ok (.iconst 0, 1) := by decide +kernel
theorem dL_splitPayment_2 : decode cL_splitPayment 2 = .ok (.aload_n 0, 1) := by decide +kernel
theorem dL_splitPayment_3 : decode cL_splitPayment 3 = .ok (.iload_n 1, 1) := by decide +kernel
theorem dL_splitPayment_4 : decode cL_splitPayment 4 = .ok (.iload_n 2, 1) := by decide +kernel
theorem dL_splitPayment_5 : decode cL_splitPayment 5 = .ok (.invokevirtual 72, 3) := by decide +kernel
theorem dL_splitPayment_8 : decode cL_splitPayment 8 = .ok (.i2l, 1) := by decide +kernel
theorem dL_splitPayment_9 : decode cL_splitPayment 9 = .ok (.lastore, 1) := by decide +kernel
theorem dL_splitPayment_10 : decode cL_splitPayment 10 = .ok (.goto 15, 3) := by decide +kernel
theorem dL_splitPayment_13 : decode cL_splitPayment 13 = .ok (.astore 4, 2) := by decide +kernel
theorem dL_splitPayment_15 : decode cL_splitPayment 15 = .ok (.iconst 1, 1) := by decide +kernel
theorem dL_splitPayment_16 : decode cL_splitPayment 16 = .ok (.ireturn, 1) := by decide +kernel
theorem dL_splitPayment_17 : decode cL_splitPayment 17 = .ok (.astore 4, 2) := by decide +kernel
theorem dL_splitPayment_19 : decode cL_splitPayment 19 = .ok (.iconst 2, 1) := by decide +kernel
theorem dL_splitPayment_20 : decode cL_splitPayment 20 = .ok (.ireturn, 1) := by decide +kernel
theorem dL_splitPayment_21 : decode cL_splitPayment 21 = .ok (.astore 4, 2) := by decide +kernel
theorem dL_splitPayment_23 : decode cL_splitPayment 23 = .ok (.iconst 3, 1) := by decide +kernel
theorem dL_splitPayment_24 : decode cL_splitPayment 24 = .ok (.ireturn, 1) := by decide +kernel
theorem dL_splitPayment_25 : decode cL_splitPayment 25 = .ok (.iconst 0, 1) := by decide +kernel
theorem dL_splitPayment_26 : decode cL_splitPayment 26 = .ok (.ireturn, 1) := by decide +kernel
theorem dL_state_0 : decode cL_state 0 = .ok (.aload_n 2, 1) := by decide +kernel
theorem dL_state_1 : decode cL_state 1 = .ok (.iconst 0, 1) := by decide +kernel
theorem dL_state_2 : decode cL_state 2 = .ok (.aload_n 0, 1) := by decide +kernel
theorem dL_state_3 : decode cL_state 3 = .ok (.iload_n 1, 1) := by decide +kernel
theorem dL_state_4 : decode cL_state 4 = .ok (.invokevirtual 15, 3) := by decide +kernel
theorem dL_state_7 : decode cL_state 7 = .ok (.i2l, 1) := by decide +kernel
theorem dL_state_8 : decode cL_state 8 = .ok (.lastore, 1) := by decide +kernel
theorem dL_state_9 : decode cL_state 9 = .ok (.goto 6, 3) := by decide +kernel
theorem dL_state_12 : decode cL_state 12 = .ok (.astore_n 3, 1) := by decide +kernel
theorem dL_state_13 : decode cL_state 13 = .ok (.iconst 1, 1) := by decide +kernel
theorem dL_state_14 : decode cL_state 14 = .ok (.ireturn, 1) := by decide +kernel
theorem dL_state_15 : decode cL_state 15 = .ok (.iconst 0, 1) := by decide +kernel
theorem dL_state_16 : decode cL_state 16 = .ok (.ireturn, 1) := by decide +kernel
theorem dL_submit_0 : decode cL_submit 0 = .ok (.aload_n 2, 1) := by decide +kernel
theorem dL_submit_1 : decode cL_submit 1 = .ok (.iconst 0, 1) := by decide +kernel
theorem dL_submit_2 : decode cL_submit 2 = .ok (.aload_n 0, 1) := by decide +kernel
theorem dL_submit_3 : decode cL_submit 3 = .ok (.iload_n 1, 1) := by decide +kernel
theorem dL_submit_4 : decode cL_submit 4 = .ok (.invokevirtual 86, 3) := by decide +kernel
theorem dL_submit_7 : decode cL_submit 7 = .ok (.ifCond .eq 7, 3) := by decide +kernel
theorem dL_submit_10 : decode cL_submit 10 = .ok (.lconst 1, 1) := by decide +kernel
theorem dL_submit_11 : decode cL_submit 11 = .ok (.goto 4, 3) := by decide +kernel
theorem dL_submit_14 : decode cL_submit 14 = .ok (.lconst 0, 1) := by decide +kernel
theorem dL_submit_15 : decode cL_submit 15 = .ok (.lastore, 1) := by decide +kernel
theorem dL_submit_16 : decode cL_submit 16 = .ok (.goto 6, 3) := by decide +kernel
theorem dL_submit_19 : decode cL_submit 19 = .ok (.astore_n 3, 1) := by decide +kernel
theorem dL_submit_20 : decode cL_submit 20 = .ok (.iconst 1, 1) := by decide +kernel
theorem dL_submit_21 : decode cL_submit 21 = .ok (.ireturn, 1) := by decide +kernel
theorem dL_submit_22 : decode cL_submit 22 = .ok (.iconst 0, 1) := by decide +kernel
theorem dL_submit_23 : decode cL_submit 23 = .ok (.ireturn, 1) := by decide +kernel
theorem dL_totalOn_0 : decode cL_totalOn 0 = .ok (.aload_n 3, 1) := by decide +kernel
theorem dL_totalOn_1 : decode cL_totalOn 1 = .ok (.iconst 0, 1) := by decide +kernel
theorem dL_totalOn_2 : decode cL_totalOn 2 = .ok (.aload_n 0, 1) := by decide +kernel
theorem dL_totalOn_3 : decode cL_totalOn 3 = .ok (.iload_n 1, 1) := by decide +kernel
theorem dL_totalOn_4 : decode cL_totalOn 4 = .ok (.iload_n 2, 1) := by decide +kernel
theorem dL_totalOn_5 : decode cL_totalOn 5 = .ok (.invokevirtual 133, 3) := by decide +kernel
theorem dL_totalOn_8 : decode cL_totalOn 8 = .ok (.i2l, 1) := by decide +kernel
theorem dL_totalOn_9 : decode cL_totalOn 9 = .ok (.lastore, 1) := by decide +kernel
theorem dL_totalOn_10 : decode cL_totalOn 10 = .ok (.goto 7, 3) := by decide +kernel
theorem dL_totalOn_13 : decode cL_totalOn 13 = .ok (.astore 4, 2) := by decide +kernel
theorem dL_totalOn_15 : decode cL_totalOn 15 = .ok (.iconst 1, 1) := by decide +kernel
theorem dL_totalOn_16 : decode cL_totalOn 16 = .ok (.ireturn, 1) := by decide +kernel
theorem dL_totalOn_17 : decode cL_totalOn 17 = .ok (.iconst 0, 1) := by decide +kernel
theorem dL_totalOn_18 : decode cL_totalOn 18 = .ok (.ireturn, 1) := by decide +kernel
theorem dL_withdraw_0 : decode cL_withdraw 0 = .ok (.aload_n 2, 1) := by decide +kernel
theorem dL_withdraw_1 : decode cL_withdraw 1 = .ok (.iconst 0, 1) := by decide +kernel
theorem dL_withdraw_2 : decode cL_withdraw 2 = .ok (.aload_n 0, 1) := by decide +kernel
theorem dL_withdraw_3 : decode cL_withdraw 3 = .ok (.iload_n 1, 1) := by decide +kernel
theorem dL_withdraw_4 : decode cL_withdraw 4 = .ok (.invokevirtual 98, 3) := by decide +kernel
theorem dL_withdraw_7 : decode cL_withdraw 7 = .ok (.i2l, 1) := by decide +kernel
theorem dL_withdraw_8 : decode cL_withdraw 8 = .ok (.lastore, 1) := by decide +kernel
theorem dL_withdraw_9 : decode cL_withdraw 9 = .ok (.goto 9, 3) := by decide +kernel
theorem dL_withdraw_12 : decode cL_withdraw 12 = .ok (.astore_n 3, 1) := by decide +kernel
theorem dL_withdraw_13 : decode cL_withdraw 13 = .ok (.iconst 1, 1) := by decide +kernel
theorem dL_withdraw_14 : decode cL_withdraw 14 = .ok (.ireturn, 1) := by decide +kernel
theorem dL_withdraw_15 : decode cL_withdraw 15 = .ok (.astore_n 3, 1) := by decide +kernel
theorem dL_withdraw_16 : decode cL_withdraw 16 = .ok (.iconst 2, 1) := by decide +kernel
theorem dL_withdraw_17 : decode cL_withdraw 17 = .ok (.ireturn, 1) := by decide +kernel
theorem dL_withdraw_18 : decode cL_withdraw 18 = .ok (.iconst 0, 1) := by decide +kernel
theorem dL_withdraw_19 : decode cL_withdraw 19 = .ok (.ireturn, 1) := by decide +kernel
theorem dL_wouldHold_0 : decode cL_wouldHold 0 = .ok (.aload_n 3, 1) := by decide +kernel
theorem dL_wouldHold_1 : decode cL_wouldHold 1 = .ok (.iconst 0, 1) := by decide +kernel
theorem dL_wouldHold_2 : decode cL_wouldHold 2 = .ok (.aload_n 0, 1) := by decide +kernel
theorem dL_wouldHold_3 : decode cL_wouldHold 3 = .ok (.iload_n 1, 1) := by decide +kernel
theorem dL_wouldHold_4 : decode cL_wouldHold 4 = .ok (.iload_n 2, 1) := by decide +kernel
theorem dL_wouldHold_5 : decode cL_wouldHold 5 = .ok (.invokevirtual 52, 3) := by decide +kernel
theorem dL_wouldHold_8 : decode cL_wouldHold 8 = .ok (.ifCond .eq 7, 3) := by decide +kernel
theorem dL_wouldHold_11 : decode cL_wouldHold 11 = .ok (.lconst 1, 1) := by decide +kernel
theorem dL_wouldHold_12 : decode cL_wouldHold 12 = .ok (.goto 4, 3) := by decide +kernel
theorem dL_wouldHold_15 : decode cL_wouldHold 15 = .ok (.lconst 0, 1) := by decide +kernel
theorem dL_wouldHold_16 : decode cL_wouldHold 16 = .ok (.lastore, 1) := by decide +kernel
theorem dL_wouldHold_17 : decode cL_wouldHold 17 = .ok (.goto 11, 3) := by decide +kernel
theorem dL_wouldHold_20 : decode cL_wouldHold 20 = .ok (.astore 4, 2) := by decide +kernel
theorem dL_wouldHold_22 : decode cL_wouldHold 22 = .ok (.iconst 1, 1) := by decide +kernel
theorem dL_wouldHold_23 : decode cL_wouldHold 23 = .ok (.ireturn, 1) := by decide +kernel
theorem dL_wouldHold_24 : decode cL_wouldHold 24 = .ok (.astore 4, 2) := by decide +kernel
theorem dL_wouldHold_26 : decode cL_wouldHold 26 = .ok (.iconst 2, 1) := by decide +kernel
theorem dL_wouldHold_27 : decode cL_wouldHold 27 = .ok (.ireturn, 1) := by decide +kernel
theorem dL_wouldHold_28 : decode cL_wouldHold 28 = .ok (.iconst 0, 1) := by decide +kernel
theorem dL_wouldHold_29 : decode cL_wouldHold 29 = .ok (.ireturn, 1) := by decide +kernel
theorem dL_write_0 : decode cL_write 0 = .ok (.aload_n 2, 1) := by decide +kernel
theorem dL_write_1 : decode cL_write 1 = .ok (.iconst 0, 1) := by decide +kernel
theorem dL_write_2 : decode cL_write 2 = .ok (.aload_n 0, 1) := by decide +kernel
theorem dL_write_3 : decode cL_write 3 = .ok (.iload_n 1, 1) := by decide +kernel
theorem dL_write_4 : decode cL_write 4 = .ok (.invokevirtual 123, 3) := by decide +kernel
theorem dL_write_7 : decode cL_write 7 = .ok (.i2l, 1) := by decide +kernel
theorem dL_write_8 : decode cL_write 8 = .ok (.lastore, 1) := by decide +kernel
theorem dL_write_9 : decode cL_write 9 = .ok (.goto 6, 3) := by decide +kernel
theorem dL_write_12 : decode cL_write 12 = .ok (.astore_n 3, 1) := by decide +kernel
theorem dL_write_13 : decode cL_write 13 = .ok (.iconst 1, 1) := by decide +kernel
theorem dL_write_14 : decode cL_write 14 = .ok (.ireturn, 1) := by decide +kernel
theorem dL_write_15 : decode cL_write 15 = .ok (.iconst 0, 1) := by decide +kernel
theorem dL_write_16 : decode cL_write 16 = .ok (.ireturn, 1) := by decide +kernel
theorem dL_written_0 : decode cL_written 0 = .ok (.aload_n 2, 1) := by decide +kernel
theorem dL_written_1 : decode cL_written 1 = .ok (.iconst 0, 1) := by decide +kernel
theorem dL_written_2 : decode cL_written 2 = .ok (.aload_n 0, 1) := by decide +kernel
theorem dL_written_3 : decode cL_written 3 = .ok (.iload_n 1, 1) := by decide +kernel
theorem dL_written_4 : decode cL_written 4 = .ok (.invokevirtual 126, 3) := by decide +kernel
theorem dL_written_7 : decode cL_written 7 = .ok (.i2l, 1) := by decide +kernel
theorem dL_written_8 : decode cL_written 8 = .ok (.lastore, 1) := by decide +kernel
theorem dL_written_9 : decode cL_written 9 = .ok (.goto 6, 3) := by decide +kernel
theorem dL_written_12 : decode cL_written 12 = .ok (.astore_n 3, 1) := by decide +kernel
theorem dL_written_13 : decode cL_written 13 = .ok (.iconst 1, 1) := by decide +kernel
theorem dL_written_14 : decode cL_written 14 = .ok (.ireturn, 1) := by decide +kernel
theorem dL_written_15 : decode cL_written 15 = .ok (.iconst 0, 1) := by decide +kernel
theorem dL_written_16 : decode cL_written 16 = .ok (.ireturn, 1) := by decide +kernel
