set_option maxRecDepth 20000 in
theorem ggX5_extendLast_X5_extended : GoodIn wsX5_extendLast wsX5_extended := goodIn_r _ [7, 8, 9, 10, 11, 12] rfl (by decide +kernel)
set_option maxRecDepth 20000 in
theorem gX5_extendLast_X5_extended : GoodIn wsX5_extendLast (va_wsS RX5 36 yX5_extended wsX5_extended) := goodIn_app (goodIn_r _ [4, 5, 6] rfl (by decide +kernel)) ggX5_extendLast_X5_extended
set_option maxRecDepth 20000 in
theorem ggX5_extended_X8_withLetter : GoodIn wsX5_extended wsX8_withLetter := goodIn_r _ [5] rfl (by decide +kernel)
set_option maxRecDepth 20000 in
theorem gX5_extended_X8_withLetter : GoodIn wsX5_extended (va_wsS RX5 47 yX8_withLetter wsX8_withLetter) := goodIn_app (goodIn_r _ [2, 3, 4] rfl (by decide +kernel)) ggX5_extended_X8_withLetter
set_option maxRecDepth 20000 in
theorem ggX9_dayByClock_X0_holdsOn : GoodIn wsX9_dayByClock wsX0_holdsOn := goodIn_r _ [17, 18, 19, 20, 21, 16, 22, 23, 24, 25, 26, 27, 28, 29, 30, 31, 32, 33, 34, 35, 36, 37, 38, 39, 40, 41, 42, 43, 44, 45, 46, 47, 48, 49, 50, 51, 52, 53, 54, 68, 69, 70, 71, 72, 73, 74, 75, 76, 77, 78, 79, 80, 81, 82, 83, 84, 85, 86, 87, 88, 89, 90, 91, 92, 93, 94, 95, 96, 97, 98, 99, 100, 101, 102, 103, 104] rfl (by decide +kernel)
set_option maxRecDepth 20000 in
theorem gX9_dayByClock_X0_holdsOn : GoodIn wsX9_dayByClock (wsV RX9 139 RX0 yX0_holdsOn wsX0_holdsOn) := goodIn_app (goodIn_r _ [13, 14, 15, 16] rfl (by decide +kernel)) ggX9_dayByClock_X0_holdsOn
set_option maxRecDepth 20000 in
theorem ggX9_dayByClock_X3_nextNamedDay : GoodIn wsX9_dayByClock wsX3_nextNamedDay := goodIn_r _ [58, 44, 45, 46, 47, 48, 49, 32, 50, 88, 89, 90, 91, 92, 93, 94, 95, 96, 97, 98, 99, 100, 101, 102, 103, 104] rfl (by decide +kernel)
set_option maxRecDepth 20000 in
theorem gX9_dayByClock_X3_nextNamedDay : GoodIn wsX9_dayByClock (wsV RX9 143 RX3 yX3_nextNamedDay wsX3_nextNamedDay) := goodIn_app (goodIn_r _ [55, 56, 57, 32] rfl (by decide +kernel)) ggX9_dayByClock_X3_nextNamedDay
set_option maxRecDepth 20000 in
theorem ggX9_daysUntilClosed_X0_copyFrom : GoodIn wsX9_daysUntilClosed wsX0_copyFrom := goodIn_r _ [18, 19, 20, 21, 22, 23, 24, 25, 26, 27, 28, 29, 30, 31, 32, 33, 34, 35, 36, 37, 38, 39, 40, 41, 42, 43, 44, 45, 46, 47, 48, 49, 50, 51, 165, 166, 167, 168, 169, 170, 171, 172, 173, 174, 175, 176, 177, 178, 179, 180, 181, 182, 183, 184, 185, 186, 187] rfl (by decide +kernel)
set_option maxRecDepth 20000 in
theorem gX9_daysUntilClosed_X0_copyFrom : GoodIn wsX9_daysUntilClosed (wsV RX9 223 RX0 yX0_copyFrom wsX0_copyFrom) := goodIn_app (goodIn_r _ [14, 15, 16, 17] rfl (by decide +kernel)) ggX9_daysUntilClosed_X0_copyFrom
set_option maxRecDepth 20000 in
theorem ggX9_daysUntilClosed_X0_isClosed : GoodIn wsX9_daysUntilClosed wsX0_isClosed := goodIn_r _ [55, 21, 165, 166, 167, 168, 169, 170, 171, 172, 173, 174, 175, 176, 177, 178, 179, 180, 181, 182, 183, 184] rfl (by decide +kernel)
set_option maxRecDepth 20000 in
theorem gX9_daysUntilClosed_X0_isClosed : GoodIn wsX9_daysUntilClosed (wsV RX9 161 RX0 yX0_isClosed wsX0_isClosed) := goodIn_app (goodIn_r _ [52, 53, 54, 17] rfl (by decide +kernel)) ggX9_daysUntilClosed_X0_isClosed
set_option maxRecDepth 20000 in
theorem ggX9_daysUntilClosed_X0_liveDay : GoodIn wsX9_daysUntilClosed wsX0_liveDay := goodIn_r _ [59, 34, 31, 32, 38, 29, 60, 61, 62, 17, 63, 64, 39, 33, 20, 65, 66, 67, 46, 68, 50, 48, 51, 69, 70, 71, 72, 73, 74, 75, 76, 19, 21, 41, 28, 77, 78, 79, 80, 81, 82, 83, 84, 42, 85, 86, 87, 88, 89, 90, 91, 92, 35, 36, 93, 94, 95, 96, 97, 98, 99, 100, 101, 102, 103, 104, 105, 106, 107, 108, 109, 110, 111, 112, 113, 114, 115, 116, 26, 117, 53, 54, 55, 118, 119, 120, 121, 27, 122, 123, 124, 125, 126, 127, 128, 129, 40, 130, 131, 132, 133, 134, 135, 136, 137, 138, 165, 166, 167, 168, 169, 170, 171, 172, 173, 174, 175, 176, 177, 178, 179, 180, 181, 182, 183, 184, 185, 186, 187, 148, 149, 150, 151, 152, 153, 154, 155, 156, 157, 158, 159, 160, 161, 162, 163, 164] rfl (by decide +kernel)
set_option maxRecDepth 20000 in
theorem gX9_daysUntilClosed_X0_liveDay : GoodIn wsX9_daysUntilClosed (wsV RX9 227 RX0 yX0_liveDay wsX0_liveDay) := goodIn_app (goodIn_r _ [56, 57, 58, 17] rfl (by decide +kernel)) ggX9_daysUntilClosed_X0_liveDay
set_option maxRecDepth 20000 in
theorem ggX9_entry_X2_partOfEntry : GoodIn wsX9_entry wsX2_partOfEntry := goodIn_r _ [17, 18, 19, 20, 50, 51, 52] rfl (by decide +kernel)
set_option maxRecDepth 20000 in
theorem gX9_entry_X2_partOfEntry : GoodIn wsX9_entry (wsV RX9 356 RX2 yX2_partOfEntry wsX2_partOfEntry) := goodIn_app (goodIn_r _ [13, 14, 15, 16] rfl (by decide +kernel)) ggX9_entry_X2_partOfEntry
set_option maxRecDepth 20000 in
theorem ggX9_entry_X9_needRange : GoodIn wsX9_entry wsX9_needRange := goodIn_ca (goodIn_r _ [10, 11, 12] rfl (by decide +kernel)) (goodIn_sub (fun _ h => List.mem_cons_of_mem _ (List.mem_append_right _ h)) (by decide +kernel))
set_option maxRecDepth 20000 in
theorem gX9_entry_X9_needRange : GoodIn wsX9_entry (va_wsS RX9 67 yX9_needRange wsX9_needRange) := goodIn_app (goodIn_r _ [8, 9, 4] rfl (by decide +kernel)) ggX9_entry_X9_needRange
set_option maxRecDepth 20000 in
theorem ggX9_graceLeft_X0_payDay : GoodIn wsX9_graceLeft wsX0_payDay := goodIn_r _ [21, 22, 23, 33, 34, 35, 36, 37, 38, 39, 40, 41, 42, 43, 44, 45, 46, 47, 48, 49, 50, 51, 52] rfl (by decide +kernel)
set_option maxRecDepth 20000 in
theorem gX9_graceLeft_X0_payDay : GoodIn wsX9_graceLeft (wsV RX9 172 RX0 yX0_payDay wsX0_payDay) := goodIn_app (goodIn_r _ [17, 18, 19, 20] rfl (by decide +kernel)) ggX9_graceLeft_X0_payDay
set_option maxRecDepth 20000 in
theorem ggX9_isSubmitted_X0_hasProof : GoodIn wsX9_isSubmitted wsX0_hasProof := goodIn_r _ [17, 18, 19, 20, 21, 22, 49, 50, 51, 52, 53, 54, 55, 56, 57, 58, 59, 60, 61, 62, 63, 64, 65, 66, 67, 68] rfl (by decide +kernel)
set_option maxRecDepth 20000 in
theorem gX9_isSubmitted_X0_hasProof : GoodIn wsX9_isSubmitted (wsV RX9 183 RX0 yX0_hasProof wsX0_hasProof) := goodIn_app (goodIn_r _ [13, 14, 15, 16] rfl (by decide +kernel)) ggX9_isSubmitted_X0_hasProof
set_option maxRecDepth 20000 in
theorem ggX9_missingProofs_J6_bitCount_0f7a4 : GoodIn wsX9_missingProofs wsJ6_bitCount_0f7a4 := goodIn_r _ [16, 17, 18, 19] rfl (by decide +kernel)
set_option maxRecDepth 20000 in
theorem gX9_missingProofs_J6_bitCount_0f7a4 : GoodIn wsX9_missingProofs (va_wsS RX9 153 yJ6_bitCount_0f7a4 wsJ6_bitCount_0f7a4) := goodIn_app (goodIn_r _ [13, 14, 15] rfl (by decide +kernel)) ggX9_missingProofs_J6_bitCount_0f7a4
set_option maxRecDepth 20000 in
theorem ggX9_missingProofs_X0_holdsWithProofs : GoodIn wsX9_missingProofs wsX0_holdsWithProofs := goodIn_r _ [24, 25, 26, 27, 28, 29, 23, 30, 31, 32, 33, 34, 35, 36, 37, 38, 39, 40, 41, 42, 43, 44, 45, 46, 47, 48, 49, 50, 51, 52, 53, 54, 55, 56, 57, 58, 59, 60, 61, 62, 89, 90, 91, 92, 93, 94, 95, 96, 97, 98, 99, 100, 101, 102, 103, 104, 105, 106, 107, 108, 72, 73, 74, 75, 76, 77, 78, 79, 80, 81, 82, 83, 84, 85, 86, 87, 88] rfl (by decide +kernel)
set_option maxRecDepth 20000 in
theorem gX9_missingProofs_X0_holdsWithProofs : GoodIn wsX9_missingProofs (wsV RX9 158 RX0 yX0_holdsWithProofs wsX0_holdsWithProofs) := goodIn_app (goodIn_r _ [20, 21, 22, 23] rfl (by decide +kernel)) ggX9_missingProofs_X0_holdsWithProofs
set_option maxRecDepth 20000 in
theorem ggX9_paidAfter_X9_needRange : GoodIn wsX9_paidAfter wsX9_needRange := goodIn_ca (goodIn_r _ [15, 16, 17] rfl (by decide +kernel)) (goodIn_sub (fun _ h => List.mem_cons_of_mem _ (List.mem_append_right _ h)) (by decide +kernel))
set_option maxRecDepth 20000 in
theorem gX9_paidAfter_X9_needRange : GoodIn wsX9_paidAfter (va_wsS RX9 67 yX9_needRange wsX9_needRange) := goodIn_app (goodIn_r _ [13, 14, 5] rfl (by decide +kernel)) ggX9_paidAfter_X9_needRange
set_option maxRecDepth 20000 in
theorem ggX9_paidAfter_X9_tryDays : GoodIn wsX9_paidAfter wsX9_tryDays := goodIn_r _ [21, 1, 22, 23, 24, 25, 26, 27, 28, 29, 30, 31, 32, 33, 34, 35, 36, 37, 38, 39, 40, 41, 42, 43, 44, 45, 46, 47, 48, 49, 50, 51, 52, 53, 54, 55, 56, 57, 58, 59, 60, 61, 62, 63, 64, 65, 66, 67, 68, 69, 70, 71, 72, 73, 74, 75, 76, 77, 78, 79, 80, 81, 82, 83, 84, 85, 86, 87, 88, 89, 90, 91, 92, 93, 94, 95, 96, 97, 98, 99, 100, 101, 102, 103, 104, 105, 106, 107, 108, 109, 110, 111, 112, 113, 114, 115, 116, 117, 118, 119, 120, 121, 122, 123, 124, 125, 126, 127, 128, 129, 130, 131, 132, 133, 134, 135, 136, 137, 138, 139, 140, 141, 142, 143, 144, 145, 146, 147, 148, 149, 150, 151, 152, 153, 154, 155, 156, 157, 158, 159, 160, 161, 162, 163, 164, 165, 166, 167, 168, 169, 170, 171, 172, 173, 174, 175, 176, 177, 178, 179, 197, 198, 199, 180, 181, 182, 183, 184, 185, 186, 187, 188, 189, 190, 191, 192, 193, 194, 195, 196] rfl (by decide +kernel)
set_option maxRecDepth 20000 in
theorem gX9_paidAfter_X9_tryDays : GoodIn wsX9_paidAfter (wsV RX9 217 RX9 yX9_tryDays wsX9_tryDays) := goodIn_app (goodIn_r _ [18, 19, 20, 5] rfl (by decide +kernel)) ggX9_paidAfter_X9_tryDays
set_option maxRecDepth 20000 in
theorem ggX9_shareFor_X0_moneyToSplit : GoodIn wsX9_shareFor wsX0_moneyToSplit := goodIn_r _ [32, 33, 34, 35, 36, 37, 38, 39, 40, 31, 41, 42, 43, 44, 45, 46, 47, 48, 49, 50, 51, 52, 53, 89, 90, 91, 92, 93, 94, 95, 96, 97, 98, 99, 100, 101, 102, 103, 104, 105, 106, 107, 108, 72, 73, 74, 75, 76, 77, 78, 79, 80, 81, 82, 83, 84, 85, 86, 87, 88] rfl (by decide +kernel)
set_option maxRecDepth 20000 in
theorem gX9_shareFor_X0_moneyToSplit : GoodIn wsX9_shareFor (wsV RX9 233 RX0 yX0_moneyToSplit wsX0_moneyToSplit) := goodIn_app (goodIn_r _ [28, 29, 30, 31] rfl (by decide +kernel)) ggX9_shareFor_X0_moneyToSplit
set_option maxRecDepth 20000 in
theorem ggX9_shareFor_X0_partOf : GoodIn wsX9_shareFor wsX0_partOf := goodIn_r _ [56] rfl (by decide +kernel)
set_option maxRecDepth 20000 in
theorem gX9_shareFor_X0_partOf : GoodIn wsX9_shareFor (va_wsS RX9 236 yX0_partOf wsX0_partOf) := goodIn_app (goodIn_r _ [54, 55, 31] rfl (by decide +kernel)) ggX9_shareFor_X0_partOf
set_option maxRecDepth 20000 in
theorem ggX9_shareFor_X3_feeOf : GoodIn wsX9_shareFor wsX3_feeOf := goodIn_r _ [61, 62, 72, 73, 74, 75, 76, 77, 78, 79, 80, 81, 82, 83, 84, 85, 86, 87, 88] rfl (by decide +kernel)
set_option maxRecDepth 20000 in
theorem gX9_shareFor_X3_feeOf : GoodIn wsX9_shareFor (wsV RX9 240 RX3 yX3_feeOf wsX3_feeOf) := goodIn_app (goodIn_r _ [57, 58, 59, 60] rfl (by decide +kernel)) ggX9_shareFor_X3_feeOf
set_option maxRecDepth 20000 in
theorem ggX9_shareFor_X9_needDispute : GoodIn wsX9_shareFor wsX9_needDispute := goodIn_ca (goodIn_r _ [22, 2, 23, 24, 7, 25, 26, 27, 63, 64, 65, 66, 67, 68, 69, 70, 71, 89, 90, 91, 92, 93, 94, 95, 96, 97, 98, 99, 100, 101, 102, 103, 104, 105, 106, 107, 108] rfl (by decide +kernel)) (goodIn_sub (fun _ h => List.mem_cons_of_mem _ (List.mem_append_right _ h)) (by decide +kernel))
set_option maxRecDepth 20000 in
theorem gX9_shareFor_X9_needDispute : GoodIn wsX9_shareFor (wsV RX9 230 RX9 yX9_needDispute wsX9_needDispute) := goodIn_app (goodIn_r _ [19, 20, 21, 7] rfl (by decide +kernel)) ggX9_shareFor_X9_needDispute
set_option maxRecDepth 20000 in
theorem ggX9_shareFor_X9_needRange : GoodIn wsX9_shareFor wsX9_needRange := goodIn_ca (goodIn_r _ [16, 17, 18] rfl (by decide +kernel)) (goodIn_sub (fun _ h => List.mem_cons_of_mem _ (List.mem_append_left _ (List.mem_append_right _ h))) (by decide +kernel))
set_option maxRecDepth 20000 in
theorem gX9_shareFor_X9_needRange : GoodIn wsX9_shareFor (va_wsS RX9 67 yX9_needRange wsX9_needRange) := goodIn_app (goodIn_r _ [14, 15, 7] rfl (by decide +kernel)) ggX9_shareFor_X9_needRange
set_option maxRecDepth 20000 in
theorem ggX9_shortage_X0_remainingOf : GoodIn wsX9_shortage wsX0_remainingOf := goodIn_r _ [11, 12, 13, 14, 15, 16, 10, 17, 18, 45, 46, 47, 48, 49, 50, 51, 52, 53, 54, 55, 56, 57, 58, 59, 60, 61, 62, 63, 64, 28, 29, 30, 31, 32, 33, 34, 35, 36, 37, 38, 39, 40, 41, 42, 43, 44] rfl (by decide +kernel)
set_option maxRecDepth 20000 in
theorem gX9_shortage_X0_remainingOf : GoodIn wsX9_shortage (wsV RX9 129 RX0 yX0_remainingOf wsX0_remainingOf) := goodIn_app (goodIn_r _ [7, 8, 9, 10] rfl (by decide +kernel)) ggX9_shortage_X0_remainingOf
set_option maxRecDepth 20000 in
theorem ggX9_splitPayment_X0_moneyToSplit : GoodIn wsX9_splitPayment wsX0_moneyToSplit := goodIn_r _ [31, 32, 33, 34, 35, 36, 37, 38, 39, 30, 40, 41, 42, 43, 44, 45, 46, 47, 48, 49, 50, 51, 52, 82, 83, 84, 85, 86, 87, 88, 89, 90, 91, 92, 93, 94, 95, 96, 97, 98, 99, 100, 101, 65, 66, 67, 68, 69, 70, 71, 72, 73, 74, 75, 76, 77, 78, 79, 80, 81] rfl (by decide +kernel)
set_option maxRecDepth 20000 in
theorem gX9_splitPayment_X0_moneyToSplit : GoodIn wsX9_splitPayment (wsV RX9 233 RX0 yX0_moneyToSplit wsX0_moneyToSplit) := goodIn_app (goodIn_r _ [27, 28, 29, 30] rfl (by decide +kernel)) ggX9_splitPayment_X0_moneyToSplit
set_option maxRecDepth 20000 in
theorem ggX9_splitPayment_X0_partOf : GoodIn wsX9_splitPayment wsX0_partOf := goodIn_r _ [55] rfl (by decide +kernel)
set_option maxRecDepth 20000 in
theorem gX9_splitPayment_X0_partOf : GoodIn wsX9_splitPayment (va_wsS RX9 236 yX0_partOf wsX0_partOf) := goodIn_app (goodIn_r _ [53, 54, 30] rfl (by decide +kernel)) ggX9_splitPayment_X0_partOf
set_option maxRecDepth 20000 in
theorem ggX9_splitPayment_X9_needDispute : GoodIn wsX9_splitPayment wsX9_needDispute := goodIn_ca (goodIn_r _ [21, 1, 22, 23, 5, 24, 25, 26, 56, 57, 58, 59, 60, 61, 62, 63, 64, 82, 83, 84, 85, 86, 87, 88, 89, 90, 91, 92, 93, 94, 95, 96, 97, 98, 99, 100, 101] rfl (by decide +kernel)) (goodIn_sub (fun _ h => List.mem_cons_of_mem _ (List.mem_append_right _ h)) (by decide +kernel))
set_option maxRecDepth 20000 in
theorem gX9_splitPayment_X9_needDispute : GoodIn wsX9_splitPayment (wsV RX9 230 RX9 yX9_needDispute wsX9_needDispute) := goodIn_app (goodIn_r _ [18, 19, 20, 5] rfl (by decide +kernel)) ggX9_splitPayment_X9_needDispute
set_option maxRecDepth 20000 in
theorem ggX9_splitPayment_X9_needRange : GoodIn wsX9_splitPayment wsX9_needRange := goodIn_ca (goodIn_r _ [15, 16, 17] rfl (by decide +kernel)) (goodIn_sub (fun _ h => List.mem_cons_of_mem _ (List.mem_append_left _ (List.mem_append_right _ h))) (by decide +kernel))
set_option maxRecDepth 20000 in
theorem gX9_splitPayment_X9_needRange : GoodIn wsX9_splitPayment (va_wsS RX9 67 yX9_needRange wsX9_needRange) := goodIn_app (goodIn_r _ [13, 14, 5] rfl (by decide +kernel)) ggX9_splitPayment_X9_needRange
set_option maxRecDepth 20000 in
theorem ggX9_wouldHold_X0_holdsWithDone : GoodIn wsX9_wouldHold wsX0_holdsWithDone := goodIn_r _ [22, 23, 24, 25, 26, 27, 21, 28, 29, 30, 31, 32, 33, 34, 35, 36, 37, 38, 39, 40, 41, 42, 43, 44, 45, 46, 47, 48, 49, 50, 51, 52, 53, 54, 55, 56, 57, 58, 59, 60, 87, 88, 89, 90, 91, 92, 93, 94, 95, 96, 97, 98, 99, 100, 101, 102, 103, 104, 105, 106, 70, 71, 72, 73, 74, 75, 76, 77, 78, 79, 80, 81, 82, 83, 84, 85, 86] rfl (by decide +kernel)
set_option maxRecDepth 20000 in
theorem gX9_wouldHold_X0_holdsWithDone : GoodIn wsX9_wouldHold (wsV RX9 204 RX0 yX0_holdsWithDone wsX0_holdsWithDone) := goodIn_app (goodIn_r _ [18, 19, 20, 21] rfl (by decide +kernel)) ggX9_wouldHold_X0_holdsWithDone
set_option maxRecDepth 20000 in
theorem ggX9_wouldHold_X9_needRange : GoodIn wsX9_wouldHold wsX9_needRange := goodIn_ca (goodIn_r _ [15, 16, 17] rfl (by decide +kernel)) (goodIn_sub (fun _ h => List.mem_cons_of_mem _ (List.mem_append_right _ h)) (by decide +kernel))
set_option maxRecDepth 20000 in
theorem gX9_wouldHold_X9_needRange : GoodIn wsX9_wouldHold (va_wsS RX9 67 yX9_needRange wsX9_needRange) := goodIn_app (goodIn_r _ [13, 14, 6] rfl (by decide +kernel)) ggX9_wouldHold_X9_needRange
theorem dJ6_bitCount_0f7a4_0 : decode cJ6_bitCount_0f7a4 0 = .ok (.iload_n 0, 1) := by decide +kernel
theorem dJ6_bitCount_0f7a4_1 : decode cJ6_bitCount_0f7a4 1 = .ok (.iload_n 0, 1) := by decide +kernel
theorem dJ6_bitCount_0f7a4_2 : decode cJ6_bitCount_0f7a4 2 = .ok (.iconst 1, 1) := by decide +kernel
theorem dJ6_bitCount_0f7a4_3 : decode cJ6_bitCount_0f7a4 3 = .ok (.iushr, 1) := by decide +kernel
theorem dJ6_bitCount_0f7a4_4 : decode cJ6_bitCount_0f7a4 4 = .ok (.ldc_w 265, 3) := by decide +kernel
theorem dJ6_bitCount_0f7a4_7 : decode cJ6_bitCount_0f7a4 7 = .ok (.iand, 1) := by decide +kernel
theorem dJ6_bitCount_0f7a4_8 : decode cJ6_bitCount_0f7a4 8 = .ok (.isub, 1) := by decide +kernel
theorem dJ6_bitCount_0f7a4_9 : decode cJ6_bitCount_0f7a4 9 = .ok (.istore_n 0, 1) := by decide +kernel
theorem dJ6_bitCount_0f7a4_10 : decode cJ6_bitCount_0f7a4 10 = .ok (.iload_n 0, 1) := by decide +kernel
theorem dJ6_bitCount_0f7a4_11 : decode cJ6_bitCount_0f7a4 11 = .ok (.ldc_w 266, 3) := by decide +kernel
theorem dJ6_bitCount_0f7a4_14 : decode cJ6_bitCount_0f7a4 14 = .ok (.iand, 1) := by decide +kernel
theorem dJ6_bitCount_0f7a4_15 : decode cJ6_bitCount_0f7a4 15 = .ok (.iload_n 0, 1) := by decide +kernel
theorem dJ6_bitCount_0f7a4_16 : decode cJ6_bitCount_0f7a4 16 = .ok (.iconst 2, 1) := by decide +kernel
theorem dJ6_bitCount_0f7a4_17 : decode cJ6_bitCount_0f7a4 17 = .ok (.iushr, 1) := by decide +kernel
theorem dJ6_bitCount_0f7a4_18 : decode cJ6_bitCount_0f7a4 18 = .ok (.ldc_w 266, 3) := by decide +kernel
theorem dJ6_bitCount_0f7a4_21 : decode cJ6_bitCount_0f7a4 21 = .ok (.iand, 1) := by decide +kernel
theorem dJ6_bitCount_0f7a4_22 : decode cJ6_bitCount_0f7a4 22 = .ok (.iadd, 1) := by decide +kernel
theorem dJ6_bitCount_0f7a4_23 : decode cJ6_bitCount_0f7a4 23 = .ok (.istore_n 0, 1) := by decide +kernel
theorem dJ6_bitCount_0f7a4_24 : decode cJ6_bitCount_0f7a4 24 = .ok (.iload_n 0, 1) := by decide +kernel
theorem dJ6_bitCount_0f7a4_25 : decode cJ6_bitCount_0f7a4 25 = .ok (.iload_n 0, 1) := by decide +kernel
theorem dJ6_bitCount_0f7a4_26 : decode cJ6_bitCount_0f7a4 26 = .ok (.iconst 4, 1) := by decide +kernel
theorem dJ6_bitCount_0f7a4_27 : decode cJ6_bitCount_0f7a4 27 = .ok (.iushr, 1) := by decide +kernel
theorem dJ6_bitCount_0f7a4_28 : decode cJ6_bitCount_0f7a4 28 = .ok (.iadd, 1) := by decide +kernel
theorem dJ6_bitCount_0f7a4_29 : decode cJ6_bitCount_0f7a4 29 = .ok (.ldc_w 267, 3) := by decide +kernel
theorem dJ6_bitCount_0f7a4_32 : decode cJ6_bitCount_0f7a4 32 = .ok (.iand, 1) := by decide +kernel
theorem dJ6_bitCount_0f7a4_33 : decode cJ6_bitCount_0f7a4 33 = .ok (.istore_n 0, 1) := by decide +kernel
theorem dJ6_bitCount_0f7a4_34 : decode cJ6_bitCount_0f7a4 34 = .ok (.iload_n 0, 1) := by decide +kernel
theorem dJ6_bitCount_0f7a4_35 : decode cJ6_bitCount_0f7a4 35 = .ok (.iload_n 0, 1) := by decide +kernel
theorem dJ6_bitCount_0f7a4_36 : decode cJ6_bitCount_0f7a4 36 = .ok (.bipush 8, 2) := by decide +kernel
theorem dJ6_bitCount_0f7a4_38 : decode cJ6_bitCount_0f7a4 38 = .ok (.iushr, 1) := by decide +kernel
theorem dJ6_bitCount_0f7a4_39 : decode cJ6_bitCount_0f7a4 39 = .ok (.iadd, 1) := by decide +kernel
theorem dJ6_bitCount_0f7a4_40 : decode cJ6_bitCount_0f7a4 40 = .ok (.istore_n 0, 1) := by decide +kernel
theorem dJ6_bitCount_0f7a4_41 : decode cJ6_bitCount_0f7a4 41 = .ok (.iload_n 0, 1) := by decide +kernel
theorem dJ6_bitCount_0f7a4_42 : decode cJ6_bitCount_0f7a4 42 = .ok (.iload_n 0, 1) := by decide +kernel
theorem dJ6_bitCount_0f7a4_43 : decode cJ6_bitCount_0f7a4 43 = .ok (.bipush 16, 2) := by decide +kernel
theorem dJ6_bitCount_0f7a4_45 : decode cJ6_bitCount_0f7a4 45 = .ok (.iushr, 1) := by decide +kernel
theorem dJ6_bitCount_0f7a4_46 : decode cJ6_bitCount_0f7a4 46 = .ok (.iadd, 1) := by decide +kernel
theorem dJ6_bitCount_0f7a4_47 : decode cJ6_bitCount_0f7a4 47 = .ok (.istore_n 0, 1) := by decide +kernel
theorem dJ6_bitCount_0f7a4_48 : decode cJ6_bitCount_0f7a4 48 = .ok (.iload_n 0, 1) := by decide +kernel
theorem dJ6_bitCount_0f7a4_49 : decode cJ6_bitCount_0f7a4 49 = .ok (.bipush 63, 2) := by decide +kernel
theorem dJ6_bitCount_0f7a4_51 : decode cJ6_bitCount_0f7a4 51 = .ok (.iand, 1) := by decide +kernel
theorem dJ6_bitCount_0f7a4_52 : decode cJ6_bitCount_0f7a4 52 = .ok (.ireturn, 1) := by decide +kernel
theorem dX5_extendLast_0 : decode cX5_extendLast 0 = .ok (.aload_n 0, 1) := by decide +kernel
theorem dX5_extendLast_1 : decode cX5_extendLast 1 = .ok (.getfield 22, 3) := by decide +kernel
theorem dX5_extendLast_4 : decode cX5_extendLast 4 = .ok (.iconst 1, 1) := by decide +kernel
theorem dX5_extendLast_5 : decode cX5_extendLast 5 = .ok (.isub, 1) := by decide +kernel
theorem dX5_extendLast_6 : decode cX5_extendLast 6 = .ok (.istore 4, 2) := by decide +kernel
theorem dX5_extendLast_8 : decode cX5_extendLast 8 = .ok (.iload 4, 2) := by decide +kernel
theorem dX5_extendLast_10 : decode cX5_extendLast 10 = .ok (.ifCond .ge 4, 3) := by decide +kernel
theorem dX5_extendLast_13 : decode cX5_extendLast 13 = .ok (.return_, 1) := by decide +kernel
theorem dX5_extendLast_14 : decode cX5_extendLast 14 = .ok (.aload_n 0, 1) := by decide +kernel
theorem dX5_extendLast_15 : decode cX5_extendLast 15 = .ok (.getfield 18, 3) := by decide +kernel
theorem dX5_extendLast_18 : decode cX5_extendLast 18 = .ok (.iload 4, 2) := by decide +kernel
theorem dX5_extendLast_20 : decode cX5_extendLast 20 = .ok (.iload_n 1, 1) := by decide +kernel
theorem dX5_extendLast_21 : decode cX5_extendLast 21 = .ok (.aload_n 0, 1) := by decide +kernel
theorem dX5_extendLast_22 : decode cX5_extendLast 22 = .ok (.getfield 18, 3) := by decide +kernel
theorem dX5_extendLast_25 : decode cX5_extendLast 25 = .ok (.iload 4, 2) := by decide +kernel
theorem dX5_extendLast_27 : decode cX5_extendLast 27 = .ok (.laload, 1) := by decide +kernel
theorem dX5_extendLast_28 : decode cX5_extendLast 28 = .ok (.iload_n 2, 1) := by decide +kernel
theorem dX5_extendLast_29 : decode cX5_extendLast 29 = .ok (.invokestatic 36, 3) := by decide +kernel
theorem dX5_extendLast_32 : decode cX5_extendLast 32 = .ok (.lastore, 1) := by decide +kernel
theorem dX5_extendLast_33 : decode cX5_extendLast 33 = .ok (.iload_n 3, 1) := by decide +kernel
theorem dX5_extendLast_34 : decode cX5_extendLast 34 = .ok (.iload_n 1, 1) := by decide +kernel
theorem dX5_extendLast_35 : decode cX5_extendLast 35 = .ok (.iconst 4, 1) := by decide +kernel
theorem dX5_extendLast_36 : decode cX5_extendLast 36 = .ok (.if_icmp .ne 8, 3) := by decide +kernel
theorem dX5_extendLast_39 : decode cX5_extendLast 39 = .ok (.bipush 9, 2) := by decide +kernel
theorem dX5_extendLast_41 : decode cX5_extendLast 41 = .ok (.goto 4, 3) := by decide +kernel
theorem dX5_extendLast_44 : decode cX5_extendLast 44 = .ok (.iconst 5, 1) := by decide +kernel
theorem dX5_extendLast_45 : decode cX5_extendLast 45 = .ok (.if_icmp .le 11, 3) := by decide +kernel
theorem dX5_extendLast_48 : decode cX5_extendLast 48 = .ok (.aload_n 0, 1) := by decide +kernel
theorem dX5_extendLast_49 : decode cX5_extendLast 49 = .ok (.getfield 9, 3) := by decide +kernel
theorem dX5_extendLast_52 : decode cX5_extendLast 52 = .ok (.iload 4, 2) := by decide +kernel
theorem dX5_extendLast_54 : decode cX5_extendLast 54 = .ok (.iconst 2, 1) := by decide +kernel
theorem dX5_extendLast_55 : decode cX5_extendLast 55 = .ok (.iastore, 1) := by decide +kernel
theorem dX5_extendLast_56 : decode cX5_extendLast 56 = .ok (.return_, 1) := by decide +kernel
theorem dX5_extended_0 : decode cX5_extended 0 = .ok (.iload_n 0, 1) := by decide +kernel
theorem dX5_extended_1 : decode cX5_extended 1 = .ok (.iconst 4, 1) := by decide +kernel
theorem dX5_extended_2 : decode cX5_extended 2 = .ok (.if_icmp .ne 9, 3) := by decide +kernel
theorem dX5_extended_5 : decode cX5_extended 5 = .ok (.lload_n 1, 1) := by decide +kernel
theorem dX5_extended_6 : decode cX5_extended 6 = .ok (.iload_n 3, 1) := by decide +kernel
theorem dX5_extended_7 : decode cX5_extended 7 = .ok (.invokestatic 47, 3) := by decide +kernel
theorem dX5_extended_10 : decode cX5_extended 10 = .ok (.lreturn, 1) := by decide +kernel
theorem dX5_extended_11 : decode cX5_extended 11 = .ok (.iload_n 0, 1) := by decide +kernel
theorem dX5_extended_12 : decode cX5_extended 12 = .ok (.iconst 3, 1) := by decide +kernel
theorem dX5_extended_13 : decode cX5_extended 13 = .ok (.if_icmp .ne 17, 3) := by decide +kernel
theorem dX5_extended_16 : decode cX5_extended 16 = .ok (.lload_n 1, 1) := by decide +kernel
theorem dX5_extended_17 : decode cX5_extended 17 = .ok (.ldc2_w 53, 3) := by decide +kernel
theorem dX5_extended_20 : decode cX5_extended 20 = .ok (.lmul, 1) := by decide +kernel
theorem dX5_extended_21 : decode cX5_extended 21 = .ok (.iload_n 3, 1) := by decide +kernel
theorem dX5_extended_22 : decode cX5_extended 22 = .ok (.bipush 48, 2) := by decide +kernel
theorem dX5_extended_24 : decode cX5_extended 24 = .ok (.isub, 1) := by decide +kernel
theorem dX5_extended_25 : decode cX5_extended 25 = .ok (.i2l, 1) := by decide +kernel
theorem dX5_extended_26 : decode cX5_extended 26 = .ok (.ladd, 1) := by decide +kernel
theorem dX5_extended_27 : decode cX5_extended 27 = .ok (.goto 4, 3) := by decide +kernel
theorem dX5_extended_30 : decode cX5_extended 30 = .ok (.lconst 0, 1) := by decide +kernel
theorem dX5_extended_31 : decode cX5_extended 31 = .ok (.lreturn, 1) := by decide +kernel
theorem dX5_kindOf_0 : decode cX5_kindOf 0 = .ok (.iload_n 0, 1) := by decide +kernel
theorem dX5_kindOf_1 : decode cX5_kindOf 1 = .ok (.bipush 97, 2) := by decide +kernel
theorem dX5_kindOf_3 : decode cX5_kindOf 3 = .ok (.if_icmp .lt 11, 3) := by decide +kernel
theorem dX5_kindOf_6 : decode cX5_kindOf 6 = .ok (.iload_n 0, 1) := by decide +kernel
theorem dX5_kindOf_7 : decode cX5_kindOf 7 = .ok (.bipush 122, 2) := by decide +kernel
theorem dX5_kindOf_9 : decode cX5_kindOf 9 = .ok (.if_icmp .gt 5, 3) := by decide +kernel
theorem dX5_kindOf_12 : decode cX5_kindOf 12 = .ok (.iconst 4, 1) := by decide +kernel
theorem dX5_kindOf_13 : decode cX5_kindOf 13 = .ok (.ireturn, 1) := by decide +kernel
theorem dX5_kindOf_14 : decode cX5_kindOf 14 = .ok (.iload_n 0, 1) := by decide +kernel
theorem dX5_kindOf_15 : decode cX5_kindOf 15 = .ok (.bipush 48, 2) := by decide +kernel
theorem dX5_kindOf_17 : decode cX5_kindOf 17 = .ok (.if_icmp .lt 11, 3) := by decide +kernel
theorem dX5_kindOf_20 : decode cX5_kindOf 20 = .ok (.iload_n 0, 1) := by decide +kernel
theorem dX5_kindOf_21 : decode cX5_kindOf 21 = .ok (.bipush 57, 2) := by decide +kernel
theorem dX5_kindOf_23 : decode cX5_kindOf 23 = .ok (.if_icmp .gt 5, 3) := by decide +kernel
theorem dX5_kindOf_26 : decode cX5_kindOf 26 = .ok (.iconst 3, 1) := by decide +kernel
theorem dX5_kindOf_27 : decode cX5_kindOf 27 = .ok (.ireturn, 1) := by decide +kernel
theorem dX5_kindOf_28 : decode cX5_kindOf 28 = .ok (.iload_n 0, 1) := by decide +kernel
theorem dX5_kindOf_29 : decode cX5_kindOf 29 = .ok (.bipush 32, 2) := by decide +kernel
theorem dX5_kindOf_31 : decode cX5_kindOf 31 = .ok (.if_icmp .eq 9, 3) := by decide +kernel
theorem dX5_kindOf_34 : decode cX5_kindOf 34 = .ok (.iload_n 0, 1) := by decide +kernel
theorem dX5_kindOf_35 : decode cX5_kindOf 35 = .ok (.bipush 10, 2) := by decide +kernel
theorem dX5_kindOf_37 : decode cX5_kindOf 37 = .ok (.if_icmp .ne 5, 3) := by decide +kernel
theorem dX5_kindOf_40 : decode cX5_kindOf 40 = .ok (.iconst 0, 1) := by decide +kernel
theorem dX5_kindOf_41 : decode cX5_kindOf 41 = .ok (.ireturn, 1) := by decide +kernel
theorem dX5_kindOf_42 : decode cX5_kindOf 42 = .ok (.iload_n 0, 1) := by decide +kernel
theorem dX5_kindOf_43 : decode cX5_kindOf 43 = .ok (.bipush 40, 2) := by decide +kernel
theorem dX5_kindOf_45 : decode cX5_kindOf 45 = .ok (.if_icmp .ne 5, 3) := by decide +kernel
theorem dX5_kindOf_48 : decode cX5_kindOf 48 = .ok (.iconst 5, 1) := by decide +kernel
theorem dX5_kindOf_49 : decode cX5_kindOf 49 = .ok (.ireturn, 1) := by decide +kernel
theorem dX5_kindOf_50 : decode cX5_kindOf 50 = .ok (.iload_n 0, 1) := by decide +kernel
theorem dX5_kindOf_51 : decode cX5_kindOf 51 = .ok (.bipush 41, 2) := by decide +kernel
theorem dX5_kindOf_53 : decode cX5_kindOf 53 = .ok (.if_icmp .ne 6, 3) := by decide +kernel
theorem dX5_kindOf_56 : decode cX5_kindOf 56 = .ok (.bipush 6, 2) := by decide +kernel
theorem dX5_kindOf_58 : decode cX5_kindOf 58 = .ok (.ireturn, 1) := by decide +kernel
theorem dX5_kindOf_59 : decode cX5_kindOf 59 = .ok (.iload_n 0, 1) := by decide +kernel
theorem dX5_kindOf_60 : decode cX5_kindOf 60 = .ok (.bipush 59, 2) := by decide +kernel
theorem dX5_kindOf_62 : decode cX5_kindOf 62 = .ok (.if_icmp .ne 8, 3) := by decide +kernel
theorem dX5_kindOf_65 : decode cX5_kindOf 65 = .ok (.bipush 7, 2) := by decide +kernel
theorem dX5_kindOf_67 : decode cX5_kindOf 67 = .ok (.goto 4, 3) := by decide +kernel
theorem dX5_kindOf_70 : decode cX5_kindOf 70 = .ok (.iconst 2, 1) := by decide +kernel
theorem dX5_kindOf_71 : decode cX5_kindOf 71 = .ok (.ireturn, 1) := by decide +kernel
theorem dX8_letterCount_0 : decode cX8_letterCount 0 = .ok (.iconst 0, 1) := by decide +kernel
theorem dX8_letterCount_1 : decode cX8_letterCount 1 = .ok (.istore_n 2, 1) := by decide +kernel
theorem dX8_letterCount_2 : decode cX8_letterCount 2 = .ok (.iload_n 2, 1) := by decide +kernel
theorem dX8_letterCount_3 : decode cX8_letterCount 3 = .ok (.bipush 9, 2) := by decide +kernel
theorem dX8_letterCount_5 : decode cX8_letterCount 5 = .ok (.if_icmp .ge 19, 3) := by decide +kernel
theorem dX8_letterCount_8 : decode cX8_letterCount 8 = .ok (.lload_n 0, 1) := by decide +kernel
theorem dX8_letterCount_9 : decode cX8_letterCount 9 = .ok (.iconst 5, 1) := by decide +kernel
theorem dX8_letterCount_10 : decode cX8_letterCount 10 = .ok (.iload_n 2, 1) := by decide +kernel
theorem dX8_letterCount_11 : decode cX8_letterCount 11 = .ok (.imul, 1) := by decide +kernel
theorem dX8_letterCount_12 : decode cX8_letterCount 12 = .ok (.lushr, 1) := by decide +kernel
theorem dX8_letterCount_13 : decode cX8_letterCount 13 = .ok (.lconst 0, 1) := by decide +kernel
theorem dX8_letterCount_14 : decode cX8_letterCount 14 = .ok (.lcmp, 1) := by decide +kernel
theorem dX8_letterCount_15 : decode cX8_letterCount 15 = .ok (.ifCond .eq 9, 3) := by decide +kernel
theorem dX8_letterCount_18 : decode cX8_letterCount 18 = .ok (.iinc 2 1, 3) := by decide +kernel
theorem dX8_letterCount_21 : decode cX8_letterCount 21 = .ok (.goto (-19), 3) := by decide +kernel
theorem dX8_letterCount_24 : decode cX8_letterCount 24 = .ok (.iload_n 2, 1) := by decide +kernel
theorem dX8_letterCount_25 : decode cX8_letterCount 25 = .ok (.ireturn, 1) := by decide +kernel
