theorem dep_pos {a : Int32} (h : ¬ a < 1) : 0 < a := by
  rw [Int32.lt_iff_toInt_lt] at *
  have h1 : (1 : Int32).toInt = 1 := by decide
  have h0 : (0 : Int32).toInt = 0 := by decide
  omega
theorem dep_le {a : Int32} (h : ¬ 99999 < a) : ¬ 9999999 < 0 + a := by
  rw [Int32.zero_add]
  rw [Int32.lt_iff_toInt_lt] at *
  have h1 : (99999 : Int32).toInt = 99999 := by decide
  have h0 : (9999999 : Int32).toInt = 9999999 := by decide
  omega
theorem pass_le {N : Nat} (h : N ≤ 120) : ¬ 9999 < 0 + nI N := by
  rw [Int32.zero_add]
  exact nI_nlt (a := 9999) (by omega) (by decide)
theorem lg_eq {x y : Int64} (h : lg_cmp x y = 0) : x = y := by
  unfold lg_cmp at h
  split at h
  · exact absurd h (by decide)
  · split at h
    · assumption
    · exact absurd h (by decide)
theorem lcmp_pos {v : Int32} (h : ¬ v < 1) : ¬ lg_cmp v.toInt64 0 ≤ 0 := by
  have h1 : v.toInt64 > 0 := by
    show (0 : Int64) < v.toInt64
    rw [Int64.lt_iff_toInt_lt, Int32.toInt_toInt64]
    rw [Int32.lt_iff_toInt_lt] at h
    have a1 : (1 : Int32).toInt = 1 := by decide
    have a0 : (0 : Int64).toInt = 0 := by decide
    omega
  unfold lg_cmp
  rw [if_pos h1]
  decide
set_option maxRecDepth 20000 in
theorem ggX0_takeDeposit_X2_enter : GoodIn wsX0_takeDeposit wsX2_enter := goodIn_r _ [9, 10, 11, 12, 13, 14, 15, 16, 37, 38, 39] (by decide +kernel) (by decide +kernel)
set_option maxRecDepth 20000 in
theorem gX0_takeDeposit_X2_enter : GoodIn wsX0_takeDeposit (wsV RX0 151 RX2 yX2_enter wsX2_enter) := goodIn_app (goodIn_of _ (by decide +kernel)) ggX0_takeDeposit_X2_enter
set_option maxRecDepth 20000 in
theorem ggX0_refund_X2_enter : GoodIn wsX0_refund wsX2_enter := goodIn_r _ [9, 10, 11, 12, 13, 14, 15, 16, 37, 38, 39] (by decide +kernel) (by decide +kernel)
set_option maxRecDepth 20000 in
theorem gX0_refund_X2_enter : GoodIn wsX0_refund (wsV RX0 151 RX2 yX2_enter wsX2_enter) := goodIn_app (goodIn_of _ (by decide +kernel)) ggX0_refund_X2_enter
set_option maxRecDepth 20000 in
theorem ggX1_remember_X0_copyFrom : GoodIn wsX1_remember wsX0_copyFrom := goodIn_r _ [12, 13, 14, 15, 16, 17, 18, 19, 20, 21, 22, 23, 24, 25, 26, 27, 28, 29, 30, 31, 32, 33, 34, 35, 36, 37, 38, 39, 40, 41, 42, 43, 44, 45, 49, 50, 51, 52, 53, 54, 55, 56, 57, 58, 59, 60, 61, 62, 63, 64, 65, 66, 67, 68, 69, 70, 71] (by decide +kernel) (by decide +kernel)
set_option maxRecDepth 20000 in
theorem gX1_remember_X0_copyFrom : GoodIn wsX1_remember (wsV RX1 24 RX0 yX0_copyFrom wsX0_copyFrom) := goodIn_app (goodIn_of _ (by decide +kernel)) ggX1_remember_X0_copyFrom
set_option maxRecDepth 20000 in
theorem ggX9_feed_X9_appendBytes : GoodIn wsX9_feed wsX9_appendBytes := goodIn_r _ [6, 1, 7, 8, 9, 10, 11, 12, 13, 14, 15, 16] (by decide +kernel) (by decide +kernel)
set_option maxRecDepth 20000 in
theorem gX9_feed_X9_appendBytes : GoodIn wsX9_feed (wsV RX9 63 RX9 yX9_appendBytes wsX9_appendBytes) := goodIn_app (goodIn_of _ (by decide +kernel)) ggX9_feed_X9_appendBytes
set_option maxRecDepth 20000 in
theorem ggX9_paymentsAfter_X9_needRange : GoodIn wsX9_paymentsAfter wsX9_needRange := goodIn_ca (goodIn_r _ [5, 6, 7] (by decide +kernel) (by decide +kernel)) (goodIn_sub (fun _ h => List.mem_cons_of_mem _ (List.mem_append_right _ h)) (by decide +kernel))
set_option maxRecDepth 20000 in
theorem gX9_paymentsAfter_X9_needRange : GoodIn wsX9_paymentsAfter (va_wsS RX9 67 yX9_needRange wsX9_needRange) := goodIn_app (goodIn_of _ (by decide +kernel)) ggX9_paymentsAfter_X9_needRange
set_option maxRecDepth 20000 in
theorem ggX9_paymentsAfter_X9_tryDays : GoodIn wsX9_paymentsAfter wsX9_tryDays := goodIn_r _ [11, 1, 12, 13, 14, 15, 16, 17, 18, 19, 20, 21, 22, 23, 24, 25, 26, 27, 28, 29, 30, 31, 32, 33, 34, 35, 36, 37, 38, 39, 40, 41, 42, 43, 44, 45, 46, 47, 48, 49, 50, 51, 52, 53, 54, 55, 56, 57, 58, 59, 60, 61, 62, 63, 64, 65, 66, 67, 68, 69, 70, 71, 72, 73, 74, 75, 76, 77, 78, 79, 80, 81, 82, 83, 84, 85, 86, 87, 88, 89, 90, 91, 92, 93, 94, 95, 96, 97, 98, 99, 100, 101, 102, 103, 104, 105, 106, 107, 108, 109, 110, 111, 112, 113, 114, 115, 116, 117, 118, 119, 120, 121, 122, 123, 124, 125, 126, 127, 128, 129, 130, 131, 132, 133, 134, 135, 136, 137, 138, 139, 140, 142, 143, 144, 145, 146, 147, 148, 149, 150, 151, 152, 153, 154, 155, 156, 157, 158, 159, 160, 161, 162, 163, 164, 165, 166, 167, 168, 169, 170, 171, 172, 173, 174, 175, 176, 177, 178, 179, 180, 181, 182, 183, 184, 185, 186, 187, 188, 189, 190] (by decide +kernel) (by decide +kernel)
set_option maxRecDepth 20000 in
theorem gX9_paymentsAfter_X9_tryDays : GoodIn wsX9_paymentsAfter (wsV RX9 217 RX9 yX9_tryDays wsX9_tryDays) := goodIn_app (goodIn_of _ (by decide +kernel)) ggX9_paymentsAfter_X9_tryDays
set_option maxRecDepth 20000 in
theorem ggX9_paymentsAfter_X0_payments : GoodIn wsX9_paymentsAfter wsX0_payments := goodIn_r _ [91, 34, 35, 151, 152, 153, 154, 155, 156, 157, 158, 159, 160, 161, 162, 163, 164, 165, 166, 167, 168, 169, 170] (by decide +kernel) (by decide +kernel)
set_option maxRecDepth 20000 in
theorem gX9_paymentsAfter_X0_payments : GoodIn wsX9_paymentsAfter (wsV RX9 220 RX0 yX0_payments wsX0_payments) := goodIn_app (goodIn_of _ (by decide +kernel)) ggX9_paymentsAfter_X0_payments
set_option maxRecDepth 20000 in
theorem ggX9_creditedAfter_X9_needRange : GoodIn wsX9_creditedAfter wsX9_needRange := goodIn_ca (goodIn_r _ [5, 6, 7] (by decide +kernel) (by decide +kernel)) (goodIn_sub (fun _ h => List.mem_cons_of_mem _ (List.mem_append_right _ h)) (by decide +kernel))
set_option maxRecDepth 20000 in
theorem gX9_creditedAfter_X9_needRange : GoodIn wsX9_creditedAfter (va_wsS RX9 67 yX9_needRange wsX9_needRange) := goodIn_app (goodIn_of _ (by decide +kernel)) ggX9_creditedAfter_X9_needRange
set_option maxRecDepth 20000 in
theorem ggX9_creditedAfter_X9_tryDays : GoodIn wsX9_creditedAfter wsX9_tryDays := goodIn_r _ [11, 1, 12, 13, 14, 15, 16, 17, 18, 19, 20, 21, 22, 23, 24, 25, 26, 27, 28, 29, 30, 31, 32, 33, 34, 35, 36, 37, 38, 39, 40, 41, 42, 43, 44, 45, 46, 47, 48, 49, 50, 51, 52, 53, 54, 55, 56, 57, 58, 59, 60, 61, 62, 63, 64, 65, 66, 67, 68, 69, 70, 71, 72, 73, 74, 75, 76, 77, 78, 79, 80, 81, 82, 83, 84, 85, 86, 87, 88, 89, 90, 91, 92, 93, 94, 95, 96, 97, 98, 99, 100, 101, 102, 103, 104, 105, 106, 107, 108, 109, 110, 111, 112, 113, 114, 115, 116, 117, 118, 119, 120, 121, 122, 123, 124, 125, 126, 127, 128, 129, 130, 131, 132, 133, 134, 135, 136, 137, 138, 139, 140, 141, 142, 143, 144, 145, 146, 147, 148, 149, 150, 151, 152, 153, 154, 155, 156, 157, 158, 159, 160, 161, 162, 163, 164, 165, 166, 167, 168, 169, 170, 171, 172, 173, 174, 175, 176, 177, 178, 179, 180, 181, 182, 183, 184, 185, 186, 187, 188, 189] (by decide +kernel) (by decide +kernel)
set_option maxRecDepth 20000 in
theorem gX9_creditedAfter_X9_tryDays : GoodIn wsX9_creditedAfter (wsV RX9 217 RX9 yX9_tryDays wsX9_tryDays) := goodIn_app (goodIn_of _ (by decide +kernel)) ggX9_creditedAfter_X9_tryDays
set_option maxRecDepth 20000 in
theorem ggX9_shortDay_X9_needRange : GoodIn wsX9_shortDay wsX9_needRange := goodIn_ca (goodIn_r _ [6, 7, 8] (by decide +kernel) (by decide +kernel)) (goodIn_sub (fun _ h => List.mem_cons_of_mem _ (List.mem_append_right _ h)) (by decide +kernel))
set_option maxRecDepth 20000 in
theorem gX9_shortDay_X9_needRange : GoodIn wsX9_shortDay (va_wsS RX9 67 yX9_needRange wsX9_needRange) := goodIn_app (goodIn_of _ (by decide +kernel)) ggX9_shortDay_X9_needRange
set_option maxRecDepth 20000 in
theorem ggX9_shortDay_X0_copyFrom : GoodIn wsX9_shortDay wsX0_copyFrom := goodIn_r _ [13, 14, 15, 16, 17, 18, 19, 20, 21, 22, 23, 24, 25, 26, 27, 28, 29, 30, 31, 32, 33, 34, 35, 36, 37, 38, 39, 40, 41, 42, 43, 44, 45, 46, 146, 147, 148, 149, 150, 151, 152, 153, 154, 155, 156, 157, 158, 159, 160, 161, 162, 163, 164, 165, 166, 167, 168] (by decide +kernel) (by decide +kernel)
set_option maxRecDepth 20000 in
theorem gX9_shortDay_X0_copyFrom : GoodIn wsX9_shortDay (wsV RX9 223 RX0 yX0_copyFrom wsX0_copyFrom) := goodIn_app (goodIn_of _ (by decide +kernel)) ggX9_shortDay_X0_copyFrom
set_option maxRecDepth 20000 in
theorem ggX9_shortDay_X0_liveDay : GoodIn wsX9_shortDay wsX0_liveDay := goodIn_r _ [50, 29, 26, 27, 33, 24, 51, 52, 53, 12, 54, 55, 34, 28, 15, 56, 57, 58, 41, 59, 45, 43, 46, 60, 61, 62, 63, 64, 65, 66, 67, 14, 16, 36, 23, 68, 69, 70, 71, 72, 73, 74, 75, 37, 76, 77, 78, 79, 80, 81, 82, 83, 30, 31, 84, 85, 86, 87, 88, 89, 90, 91, 92, 93, 94, 95, 96, 97, 98, 99, 100, 101, 102, 103, 104, 105, 106, 107, 21, 108, 109, 110, 111, 112, 113, 114, 115, 22, 116, 117, 118, 119, 120, 121, 122, 123, 35, 124, 125, 126, 127, 128, 129, 130, 131, 132, 146, 147, 148, 149, 150, 151, 152, 153, 154, 155, 156, 157, 158, 159, 160, 161, 162, 163, 164, 165, 166, 167, 168, 169, 170, 171, 172, 173, 174, 175, 176, 177, 178, 179, 180, 181, 182, 183, 184, 185] (by decide +kernel) (by decide +kernel)
set_option maxRecDepth 20000 in
theorem gX9_shortDay_X0_liveDay : GoodIn wsX9_shortDay (wsV RX9 227 RX0 yX0_liveDay wsX0_liveDay) := goodIn_app (goodIn_of _ (by decide +kernel)) ggX9_shortDay_X0_liveDay
set_option maxRecDepth 20000 in
theorem ggX9_shortDay_X0_isShort : GoodIn wsX9_shortDay wsX0_isShort := goodIn_r _ [136, 14, 116, 117, 118, 12, 119, 16, 24, 120, 121, 122, 123, 23, 35, 104, 105, 106, 107, 21, 108, 109, 110, 111, 146, 147, 148, 149, 150, 151, 152, 153, 154, 155, 156, 157, 158, 159, 160, 161, 162, 163, 164, 165, 169, 170, 171, 172, 173, 174, 175, 176, 177, 178, 179, 180, 181, 182, 183, 184, 185] (by decide +kernel) (by decide +kernel)
set_option maxRecDepth 20000 in
theorem gX9_shortDay_X0_isShort : GoodIn wsX9_shortDay (wsV RX9 243 RX0 yX0_isShort wsX0_isShort) := goodIn_app (goodIn_of _ (by decide +kernel)) ggX9_shortDay_X0_isShort
set_option maxRecDepth 20000 in
theorem ggX9_tryDays_X0_copyFrom : GoodIn wsX9_tryDays wsX0_copyFrom := goodIn_r _ [7, 8, 9, 10, 11, 12, 13, 14, 15, 16, 17, 18, 19, 20, 21, 22, 23, 24, 25, 26, 27, 28, 29, 30, 31, 32, 33, 34, 35, 36, 37, 38, 39, 40, 140, 141, 142, 143, 144, 145, 146, 147, 148, 149, 150, 151, 152, 153, 154, 155, 156, 157, 158, 159, 160, 161, 162] (by decide +kernel) (by decide +kernel)
set_option maxRecDepth 20000 in
theorem gX9_tryDays_X0_copyFrom : GoodIn wsX9_tryDays (wsV RX9 223 RX0 yX0_copyFrom wsX0_copyFrom) := goodIn_app (goodIn_of _ (by decide +kernel)) ggX9_tryDays_X0_copyFrom
set_option maxRecDepth 20000 in
theorem ggX9_tryDays_X0_liveDays : GoodIn wsX9_tryDays wsX0_liveDays := goodIn_r _ [44, 45, 46, 47, 6, 48, 23, 20, 21, 27, 18, 49, 50, 51, 52, 53, 28, 22, 9, 54, 55, 56, 35, 57, 39, 37, 40, 58, 59, 60, 61, 62, 63, 64, 65, 8, 10, 30, 17, 66, 67, 68, 69, 70, 71, 72, 73, 31, 74, 75, 76, 77, 78, 79, 80, 81, 24, 25, 82, 83, 84, 85, 86, 87, 88, 89, 90, 91, 92, 93, 94, 95, 96, 97, 98, 99, 100, 101, 102, 103, 104, 105, 15, 106, 107, 108, 109, 110, 111, 112, 113, 16, 114, 115, 116, 117, 118, 119, 120, 121, 29, 122, 123, 124, 125, 126, 127, 128, 129, 130, 140, 141, 142, 143, 144, 145, 146, 147, 148, 149, 150, 151, 152, 153, 154, 155, 156, 157, 158, 159, 160, 161, 162, 163, 164, 165, 166, 167, 168, 169, 170, 171, 172, 173, 174, 175, 176, 177, 178, 179] (by decide +kernel) (by decide +kernel)
set_option maxRecDepth 20000 in
theorem gX9_tryDays_X0_liveDays : GoodIn wsX9_tryDays (wsV RX9 247 RX0 yX0_liveDays wsX0_liveDays) := goodIn_app (goodIn_of _ (by decide +kernel)) ggX9_tryDays_X0_liveDays
set_option maxRecDepth 20000 in
theorem ggX9_deposit_X9_needRange : GoodIn wsX9_deposit wsX9_needRange := goodIn_ca (goodIn_r _ [8, 9, 10] (by decide +kernel) (by decide +kernel)) (goodIn_sub (fun _ h => List.mem_cons_of_mem _ (List.mem_append_left _ (List.mem_append_right _ h))) (by decide +kernel))
set_option maxRecDepth 20000 in
theorem gX9_deposit_X9_needRange : GoodIn wsX9_deposit (va_wsS RX9 67 yX9_needRange wsX9_needRange) := goodIn_app (goodIn_of _ (by decide +kernel)) ggX9_deposit_X9_needRange
set_option maxRecDepth 20000 in
theorem ggX9_deposit_X9_needPossible : GoodIn wsX9_deposit wsX9_needPossible := goodIn_ca (goodIn_r _ [13, 14, 15] (by decide +kernel) (by decide +kernel)) (goodIn_sub (fun _ h => List.mem_cons_of_mem _ (List.mem_append_right _ h)) (by decide +kernel))
set_option maxRecDepth 20000 in
theorem gX9_deposit_X9_needPossible : GoodIn wsX9_deposit (va_wsS RX9 251 yX9_needPossible wsX9_needPossible) := goodIn_app (goodIn_of _ (by decide +kernel)) ggX9_deposit_X9_needPossible
set_option maxRecDepth 20000 in
theorem ggX9_deposit_X1_remember : GoodIn wsX9_deposit wsX1_remember := goodIn_r _ [20, 21, 22, 23, 24, 25, 26, 27, 28, 29, 30, 31, 32, 33, 34, 35, 36, 37, 38, 39, 40, 41, 42, 43, 44, 45, 46, 47, 48, 49, 50, 51, 52, 53, 54, 55, 56, 57, 58, 59, 60, 61, 62, 63, 64, 65, 104, 105, 106, 84, 85, 86, 87, 88, 89, 90, 91, 92, 93, 94, 95, 96, 97, 98, 99, 100, 101, 102, 103, 107, 108, 109] (by decide +kernel) (by decide +kernel)
set_option maxRecDepth 20000 in
theorem gX9_deposit_X1_remember : GoodIn wsX9_deposit (wsV RX9 255 RX1 yX1_remember wsX1_remember) := goodIn_app (goodIn_of _ (by decide +kernel)) ggX9_deposit_X1_remember
set_option maxRecDepth 20000 in
theorem ggX9_deposit_X0_takeDeposit : GoodIn wsX9_deposit wsX0_takeDeposit := goodIn_r _ [69, 44, 45, 34, 43, 70, 71, 72, 60, 73, 64, 62, 65, 74, 25, 26, 27, 84, 85, 86, 87, 88, 89, 90, 91, 92, 93, 94, 95, 96, 97, 98, 99, 100, 101, 102, 103, 107, 108, 109] (by decide +kernel) (by decide +kernel)
set_option maxRecDepth 20000 in
theorem gX9_deposit_X0_takeDeposit : GoodIn wsX9_deposit (wsV RX9 258 RX0 yX0_takeDeposit wsX0_takeDeposit) := goodIn_app (goodIn_of _ (by decide +kernel)) ggX9_deposit_X0_takeDeposit
set_option maxRecDepth 20000 in
theorem ggX9_close_X9_closedCount : GoodIn wsX9_close wsX9_closedCount := goodIn_r _ [8, 1, 3, 9, 10, 11, 12, 13, 14, 77, 78, 79, 80, 81, 82, 83, 84, 85, 86, 87, 88, 89, 90, 91, 92, 93, 94, 95, 96, 97, 98, 99, 100, 101, 102, 103, 104, 105, 106, 107, 108, 109, 110, 111, 112, 113, 114, 115, 116, 117, 118, 119, 120, 121, 122] (by decide +kernel) (by decide +kernel)
set_option maxRecDepth 20000 in
theorem gX9_close_X9_closedCount : GoodIn wsX9_close (wsV RX9 287 RX9 yX9_closedCount wsX9_closedCount) := goodIn_app (goodIn_of _ (by decide +kernel)) ggX9_close_X9_closedCount
set_option maxRecDepth 20000 in
theorem ggX9_close_X9_needPossible : GoodIn wsX9_close wsX9_needPossible := goodIn_ca (goodIn_r _ [17, 18, 19] (by decide +kernel) (by decide +kernel)) (goodIn_sub (fun _ h => List.mem_cons_of_mem _ (List.mem_append_right _ h)) (by decide +kernel))
set_option maxRecDepth 20000 in
theorem gX9_close_X9_needPossible : GoodIn wsX9_close (va_wsS RX9 251 yX9_needPossible wsX9_needPossible) := goodIn_app (goodIn_of _ (by decide +kernel)) ggX9_close_X9_needPossible
set_option maxRecDepth 20000 in
theorem ggX9_close_X1_remember : GoodIn wsX9_close wsX1_remember := goodIn_r _ [24, 25, 26, 27, 28, 29, 30, 31, 32, 33, 34, 12, 35, 36, 37, 14, 38, 39, 40, 41, 42, 43, 44, 45, 46, 47, 48, 49, 50, 51, 52, 53, 54, 55, 56, 57, 58, 59, 60, 61, 62, 63, 64, 65, 66, 67, 123, 124, 125, 103, 104, 105, 106, 107, 108, 109, 110, 111, 112, 113, 114, 115, 116, 117, 118, 119, 120, 121, 122, 126, 127, 128] (by decide +kernel) (by decide +kernel)
set_option maxRecDepth 20000 in
theorem gX9_close_X1_remember : GoodIn wsX9_close (wsV RX9 255 RX1 yX1_remember wsX1_remember) := goodIn_app (goodIn_of _ (by decide +kernel)) ggX9_close_X1_remember
set_option maxRecDepth 20000 in
theorem ggX9_close_X0_refund : GoodIn wsX9_close wsX0_refund := goodIn_r _ [71, 47, 53, 37, 45, 72, 73, 74, 62, 75, 66, 64, 67, 76, 29, 30, 31, 103, 104, 105, 106, 107, 108, 109, 110, 111, 112, 113, 114, 115, 116, 117, 118, 119, 120, 121, 122, 126, 127, 128] (by decide +kernel) (by decide +kernel)
set_option maxRecDepth 20000 in
theorem gX9_close_X0_refund : GoodIn wsX9_close (wsV RX9 290 RX0 yX0_refund wsX0_refund) := goodIn_app (goodIn_of _ (by decide +kernel)) ggX9_close_X0_refund
set_option maxRecDepth 20000 in
theorem ggX9_setRate_X9_needRange : GoodIn wsX9_setRate wsX9_needRange := goodIn_ca (goodIn_r _ [8, 1, 2] (by decide +kernel) (by decide +kernel)) (goodIn_sub (fun _ h => List.mem_cons_of_mem _ (List.mem_append_right _ h)) (by decide +kernel))
set_option maxRecDepth 20000 in
theorem gX9_setRate_X9_needRange : GoodIn wsX9_setRate (va_wsS RX9 67 yX9_needRange wsX9_needRange) := goodIn_app (goodIn_of _ (by decide +kernel)) ggX9_setRate_X9_needRange
set_option maxRecDepth 20000 in
theorem ggX9_setRate_X9_isBasis : GoodIn wsX9_setRate wsX9_isBasis := goodIn_r _ [11, 12, 13] (by decide +kernel) (by decide +kernel)
set_option maxRecDepth 20000 in
theorem gX9_setRate_X9_isBasis : GoodIn wsX9_setRate (va_wsS RX9 293 yX9_isBasis wsX9_isBasis) := goodIn_app (goodIn_of _ (by decide +kernel)) ggX9_setRate_X9_isBasis
set_option maxRecDepth 20000 in
theorem ggX9_setRate_X1_remember : GoodIn wsX9_setRate wsX1_remember := goodIn_r _ [18, 19, 20, 21, 22, 23, 24, 25, 26, 27, 28, 29, 30, 31, 32, 33, 34, 35, 36, 37, 38, 39, 40, 41, 42, 43, 44, 45, 46, 47, 48, 49, 50, 51, 52, 53, 54, 55, 56, 57, 58, 59, 60, 61, 62, 63, 93, 94, 95, 73, 74, 75, 76, 77, 78, 79, 80, 81, 82, 83, 84, 85, 86, 87, 88, 89, 90, 91, 92, 96, 97, 98] (by decide +kernel) (by decide +kernel)
set_option maxRecDepth 20000 in
theorem gX9_setRate_X1_remember : GoodIn wsX9_setRate (wsV RX9 255 RX1 yX1_remember wsX1_remember) := goodIn_app (goodIn_of _ (by decide +kernel)) ggX9_setRate_X1_remember
set_option maxRecDepth 20000 in
theorem ggX9_setGrace_X9_needRange : GoodIn wsX9_setGrace wsX9_needRange := goodIn_ca (goodIn_r _ [6, 7, 8] (by decide +kernel) (by decide +kernel)) (goodIn_sub (fun _ h => List.mem_cons_of_mem _ (List.mem_append_right _ h)) (by decide +kernel))
set_option maxRecDepth 20000 in
theorem gX9_setGrace_X9_needRange : GoodIn wsX9_setGrace (va_wsS RX9 67 yX9_needRange wsX9_needRange) := goodIn_app (goodIn_of _ (by decide +kernel)) ggX9_setGrace_X9_needRange
set_option maxRecDepth 20000 in
theorem ggX9_setGrace_X1_remember : GoodIn wsX9_setGrace wsX1_remember := goodIn_r _ [13, 14, 15, 16, 17, 18, 19, 20, 21, 22, 23, 24, 25, 26, 27, 28, 29, 30, 31, 32, 33, 34, 35, 36, 37, 38, 39, 40, 41, 42, 43, 44, 45, 46, 47, 48, 49, 50, 51, 52, 53, 54, 55, 56, 57, 58, 88, 89, 90, 68, 69, 70, 71, 72, 73, 74, 75, 76, 77, 78, 79, 80, 81, 82, 83, 84, 85, 86, 87, 91, 92, 93] (by decide +kernel) (by decide +kernel)
set_option maxRecDepth 20000 in
theorem gX9_setGrace_X1_remember : GoodIn wsX9_setGrace (wsV RX9 255 RX1 yX1_remember wsX1_remember) := goodIn_app (goodIn_of _ (by decide +kernel)) ggX9_setGrace_X1_remember
set_option maxRecDepth 20000 in
theorem ggX9_pass_X9_needRange : GoodIn wsX9_pass wsX9_needRange := goodIn_ca (goodIn_r _ [6, 7, 8] (by decide +kernel) (by decide +kernel)) (goodIn_sub (fun _ h => List.mem_cons_of_mem _ (List.mem_append_left _ (List.mem_append_right _ h))) (by decide +kernel))
set_option maxRecDepth 20000 in
theorem gX9_pass_X9_needRange : GoodIn wsX9_pass (va_wsS RX9 67 yX9_needRange wsX9_needRange) := goodIn_app (goodIn_of _ (by decide +kernel)) ggX9_pass_X9_needRange
set_option maxRecDepth 20000 in
theorem ggX9_pass_X9_needPossible : GoodIn wsX9_pass wsX9_needPossible := goodIn_ca (goodIn_r _ [11, 12, 13] (by decide +kernel) (by decide +kernel)) (goodIn_sub (fun _ h => List.mem_cons_of_mem _ (List.mem_append_right _ h)) (by decide +kernel))
set_option maxRecDepth 20000 in
theorem gX9_pass_X9_needPossible : GoodIn wsX9_pass (va_wsS RX9 251 yX9_needPossible wsX9_needPossible) := goodIn_app (goodIn_of _ (by decide +kernel)) ggX9_pass_X9_needPossible
set_option maxRecDepth 20000 in
theorem ggX9_pass_X1_remember : GoodIn wsX9_pass wsX1_remember := goodIn_r _ [18, 19, 20, 21, 22, 23, 24, 25, 26, 27, 28, 29, 30, 31, 32, 33, 34, 35, 36, 37, 38, 39, 40, 41, 42, 43, 44, 45, 46, 47, 48, 49, 50, 51, 52, 53, 54, 55, 56, 57, 58, 59, 60, 61, 62, 63, 181, 182, 183, 161, 162, 163, 164, 165, 166, 167, 168, 169, 170, 171, 172, 173, 174, 175, 176, 177, 178, 179, 180, 184, 185, 186] (by decide +kernel) (by decide +kernel)
set_option maxRecDepth 20000 in
theorem gX9_pass_X1_remember : GoodIn wsX9_pass (wsV RX9 255 RX1 yX1_remember wsX1_remember) := goodIn_app (goodIn_of _ (by decide +kernel)) ggX9_pass_X1_remember
set_option maxRecDepth 20000 in
theorem ggX9_pass_X0_payments : GoodIn wsX9_pass wsX0_payments := goodIn_r _ [67, 47, 48, 161, 162, 163, 164, 165, 166, 167, 168, 169, 170, 171, 172, 173, 174, 175, 176, 177, 178, 179, 180] (by decide +kernel) (by decide +kernel)
set_option maxRecDepth 20000 in
theorem gX9_pass_X0_payments : GoodIn wsX9_pass (wsV RX9 220 RX0 yX0_payments wsX0_payments) := goodIn_app (goodIn_of _ (by decide +kernel)) ggX9_pass_X0_payments
set_option maxRecDepth 20000 in
theorem ggX9_pass_X0_liveDays : GoodIn wsX9_pass wsX0_liveDays := goodIn_r _ [71, 72, 73, 74, 29, 75, 46, 43, 44, 50, 41, 76, 77, 78, 79, 80, 51, 45, 32, 81, 82, 83, 58, 84, 62, 60, 63, 85, 23, 24, 25, 86, 87, 88, 89, 31, 33, 53, 40, 90, 91, 92, 93, 94, 95, 96, 97, 54, 98, 99, 100, 101, 102, 65, 66, 67, 47, 48, 103, 104, 105, 106, 107, 108, 109, 110, 111, 112, 113, 114, 115, 116, 117, 118, 119, 120, 121, 122, 123, 124, 125, 126, 38, 127, 128, 129, 130, 131, 132, 133, 134, 39, 135, 136, 137, 138, 139, 140, 141, 142, 52, 143, 144, 145, 146, 147, 148, 149, 150, 151, 161, 162, 163, 164, 165, 166, 167, 168, 169, 170, 171, 172, 173, 174, 175, 176, 177, 178, 179, 180, 184, 185, 186, 187, 188, 189, 190, 191, 192, 193, 194, 195, 196, 197, 198, 199, 200, 201, 202, 203] (by decide +kernel) (by decide +kernel)
set_option maxRecDepth 20000 in
theorem gX9_pass_X0_liveDays : GoodIn wsX9_pass (wsV RX9 247 RX0 yX0_liveDays wsX0_liveDays) := goodIn_app (goodIn_of _ (by decide +kernel)) ggX9_pass_X0_liveDays
theorem dX0_refund_0 : decode cX0_refund 0 = .ok (.aload_n 0, 1) := by decide +kernel
theorem dX0_refund_1 : decode cX0_refund 1 = .ok (.dup, 1) := by decide +kernel
theorem dX0_refund_2 : decode cX0_refund 2 = .ok (.getfield 47, 3) := by decide +kernel
theorem dX0_refund_5 : decode cX0_refund 5 = .ok (.iload_n 1, 1) := by decide +kernel
theorem dX0_refund_6 : decode cX0_refund 6 = .ok (.isub, 1) := by decide +kernel
theorem dX0_refund_7 : decode cX0_refund 7 = .ok (.putfield 47, 3) := by decide +kernel
theorem dX0_refund_10 : decode cX0_refund 10 = .ok (.aload_n 0, 1) := by decide +kernel
theorem dX0_refund_11 : decode cX0_refund 11 = .ok (.dup, 1) := by decide +kernel
theorem dX0_refund_12 : decode cX0_refund 12 = .ok (.getfield 66, 3) := by decide +kernel
theorem dX0_refund_15 : decode cX0_refund 15 = .ok (.iload_n 1, 1) := by decide +kernel
theorem dX0_refund_16 : decode cX0_refund 16 = .ok (.iadd, 1) := by decide +kernel
theorem dX0_refund_17 : decode cX0_refund 17 = .ok (.putfield 66, 3) := by decide +kernel
theorem dX0_refund_20 : decode cX0_refund 20 = .ok (.aload_n 0, 1) := by decide +kernel
theorem dX0_refund_21 : decode cX0_refund 21 = .ok (.getfield 12, 3) := by decide +kernel
theorem dX0_refund_24 : decode cX0_refund 24 = .ok (.iconst 2, 1) := by decide +kernel
theorem dX0_refund_25 : decode cX0_refund 25 = .ok (.aload_n 0, 1) := by decide +kernel
theorem dX0_refund_26 : decode cX0_refund 26 = .ok (.getfield 40, 3) := by decide +kernel
theorem dX0_refund_29 : decode cX0_refund 29 = .ok (.iload_n 1, 1) := by decide +kernel
theorem dX0_refund_30 : decode cX0_refund 30 = .ok (.iload_n 2, 1) := by decide +kernel
theorem dX0_refund_31 : decode cX0_refund 31 = .ok (.invokevirtual 151, 3) := by decide +kernel
theorem dX0_refund_34 : decode cX0_refund 34 = .ok (.return_, 1) := by decide +kernel
theorem dX0_takeDeposit_0 : decode cX0_takeDeposit 0 = .ok (.aload_n 0, 1) := by decide +kernel
theorem dX0_takeDeposit_1 : decode cX0_takeDeposit 1 = .ok (.dup, 1) := by decide +kernel
theorem dX0_takeDeposit_2 : decode cX0_takeDeposit 2 = .ok (.getfield 44, 3) := by decide +kernel
theorem dX0_takeDeposit_5 : decode cX0_takeDeposit 5 = .ok (.iload_n 1, 1) := by decide +kernel
theorem dX0_takeDeposit_6 : decode cX0_takeDeposit 6 = .ok (.iadd, 1) := by decide +kernel
theorem dX0_takeDeposit_7 : decode cX0_takeDeposit 7 = .ok (.putfield 44, 3) := by decide +kernel
theorem dX0_takeDeposit_10 : decode cX0_takeDeposit 10 = .ok (.aload_n 0, 1) := by decide +kernel
theorem dX0_takeDeposit_11 : decode cX0_takeDeposit 11 = .ok (.dup, 1) := by decide +kernel
theorem dX0_takeDeposit_12 : decode cX0_takeDeposit 12 = .ok (.getfield 47, 3) := by decide +kernel
theorem dX0_takeDeposit_15 : decode cX0_takeDeposit 15 = .ok (.iload_n 1, 1) := by decide +kernel
theorem dX0_takeDeposit_16 : decode cX0_takeDeposit 16 = .ok (.iadd, 1) := by decide +kernel
theorem dX0_takeDeposit_17 : decode cX0_takeDeposit 17 = .ok (.putfield 47, 3) := by decide +kernel
theorem dX0_takeDeposit_20 : decode cX0_takeDeposit 20 = .ok (.aload_n 0, 1) := by decide +kernel
theorem dX0_takeDeposit_21 : decode cX0_takeDeposit 21 = .ok (.getfield 12, 3) := by decide +kernel
theorem dX0_takeDeposit_24 : decode cX0_takeDeposit 24 = .ok (.iconst 0, 1) := by decide +kernel
theorem dX0_takeDeposit_25 : decode cX0_takeDeposit 25 = .ok (.aload_n 0, 1) := by decide +kernel
theorem dX0_takeDeposit_26 : decode cX0_takeDeposit 26 = .ok (.getfield 40, 3) := by decide +kernel
theorem dX0_takeDeposit_29 : decode cX0_takeDeposit 29 = .ok (.iload_n 1, 1) := by decide +kernel
theorem dX0_takeDeposit_30 : decode cX0_takeDeposit 30 = .ok (.iconst (-1), 1) := by decide +kernel
theorem dX0_takeDeposit_31 : decode cX0_takeDeposit 31 = .ok (.invokevirtual 151, 3) := by decide +kernel
theorem dX0_takeDeposit_34 : decode cX0_takeDeposit 34 = .ok (.return_, 1) := by decide +kernel
theorem dX1_remember_0 : decode cX1_remember 0 = .ok (.aload_n 0, 1) := by decide +kernel
theorem dX1_remember_1 : decode cX1_remember 1 = .ok (.getfield 13, 3) := by decide +kernel
theorem dX1_remember_4 : decode cX1_remember 4 = .ok (.aload_n 0, 1) := by decide +kernel
theorem dX1_remember_5 : decode cX1_remember 5 = .ok (.getfield 20, 3) := by decide +kernel
theorem dX1_remember_8 : decode cX1_remember 8 = .ok (.aaload, 1) := by decide +kernel
theorem dX1_remember_9 : decode cX1_remember 9 = .ok (.aload_n 1, 1) := by decide +kernel
theorem dX1_remember_10 : decode cX1_remember 10 = .ok (.invokevirtual 24, 3) := by decide +kernel
theorem dX1_remember_13 : decode cX1_remember 13 = .ok (.aload_n 0, 1) := by decide +kernel
theorem dX1_remember_14 : decode cX1_remember 14 = .ok (.aload_n 0, 1) := by decide +kernel
theorem dX1_remember_15 : decode cX1_remember 15 = .ok (.getfield 20, 3) := by decide +kernel
theorem dX1_remember_18 : decode cX1_remember 18 = .ok (.iconst 1, 1) := by decide +kernel
theorem dX1_remember_19 : decode cX1_remember 19 = .ok (.iadd, 1) := by decide +kernel
theorem dX1_remember_20 : decode cX1_remember 20 = .ok (.bipush 10, 2) := by decide +kernel
theorem dX1_remember_22 : decode cX1_remember 22 = .ok (.irem, 1) := by decide +kernel
theorem dX1_remember_23 : decode cX1_remember 23 = .ok (.putfield 20, 3) := by decide +kernel
theorem dX1_remember_26 : decode cX1_remember 26 = .ok (.aload_n 0, 1) := by decide +kernel
theorem dX1_remember_27 : decode cX1_remember 27 = .ok (.aload_n 0, 1) := by decide +kernel
theorem dX1_remember_28 : decode cX1_remember 28 = .ok (.getfield 28, 3) := by decide +kernel
theorem dX1_remember_31 : decode cX1_remember 31 = .ok (.iconst 1, 1) := by decide +kernel
theorem dX1_remember_32 : decode cX1_remember 32 = .ok (.iadd, 1) := by decide +kernel
theorem dX1_remember_33 : decode cX1_remember 33 = .ok (.bipush 10, 2) := by decide +kernel
theorem dX1_remember_35 : decode cX1_remember 35 = .ok (.invokestatic 31, 3) := by decide +kernel
theorem dX1_remember_38 : decode cX1_remember 38 = .ok (.putfield 28, 3) := by decide +kernel
theorem dX1_remember_41 : decode cX1_remember 41 = .ok (.return_, 1) := by decide +kernel
theorem dX9_appendBytes_0 : decode cX9_appendBytes 0 = .ok (.bipush 24, 2) := by decide +kernel
theorem dX9_appendBytes_2 : decode cX9_appendBytes 2 = .ok (.istore_n 2, 1) := by decide +kernel
theorem dX9_appendBytes_3 : decode cX9_appendBytes 3 = .ok (.iload_n 2, 1) := by decide +kernel
theorem dX9_appendBytes_4 : decode cX9_appendBytes 4 = .ok (.ifCond .lt 48, 3) := by decide +kernel
theorem dX9_appendBytes_7 : decode cX9_appendBytes 7 = .ok (.aload_n 0, 1) := by decide +kernel
theorem dX9_appendBytes_8 : decode cX9_appendBytes 8 = .ok (.getfield 59, 3) := by decide +kernel
theorem dX9_appendBytes_11 : decode cX9_appendBytes 11 = .ok (.aload_n 0, 1) := by decide +kernel
theorem dX9_appendBytes_12 : decode cX9_appendBytes 12 = .ok (.getfield 9, 3) := by decide +kernel
theorem dX9_appendBytes_15 : decode cX9_appendBytes 15 = .ok (.arraylength, 1) := by decide +kernel
theorem dX9_appendBytes_16 : decode cX9_appendBytes 16 = .ok (.if_icmp .ge 30, 3) := by decide +kernel
theorem dX9_appendBytes_19 : decode cX9_appendBytes 19 = .ok (.aload_n 0, 1) := by decide +kernel
theorem dX9_appendBytes_20 : decode cX9_appendBytes 20 = .ok (.getfield 9, 3) := by decide +kernel
theorem dX9_appendBytes_23 : decode cX9_appendBytes 23 = .ok (.aload_n 0, 1) := by decide +kernel
theorem dX9_appendBytes_24 : decode cX9_appendBytes 24 = .ok (.getfield 59, 3) := by decide +kernel
theorem dX9_appendBytes_27 : decode cX9_appendBytes 27 = .ok (.iload_n 1, 1) := by decide +kernel
theorem dX9_appendBytes_28 : decode cX9_appendBytes 28 = .ok (.iload_n 2, 1) := by decide +kernel
theorem dX9_appendBytes_29 : decode cX9_appendBytes 29 = .ok (.iushr, 1) := by decide +kernel
theorem dX9_appendBytes_30 : decode cX9_appendBytes 30 = .ok (.sipush 255, 3) := by decide +kernel
theorem dX9_appendBytes_33 : decode cX9_appendBytes 33 = .ok (.iand, 1) := by decide +kernel
theorem dX9_appendBytes_34 : decode cX9_appendBytes 34 = .ok (.i2c, 1) := by decide +kernel
theorem dX9_appendBytes_35 : decode cX9_appendBytes 35 = .ok (.castore, 1) := by decide +kernel
theorem dX9_appendBytes_36 : decode cX9_appendBytes 36 = .ok (.aload_n 0, 1) := by decide +kernel
theorem dX9_appendBytes_37 : decode cX9_appendBytes 37 = .ok (.dup, 1) := by decide +kernel
theorem dX9_appendBytes_38 : decode cX9_appendBytes 38 = .ok (.getfield 59, 3) := by decide +kernel
theorem dX9_appendBytes_41 : decode cX9_appendBytes 41 = .ok (.iconst 1, 1) := by decide +kernel
theorem dX9_appendBytes_42 : decode cX9_appendBytes 42 = .ok (.iadd, 1) := by decide +kernel
theorem dX9_appendBytes_43 : decode cX9_appendBytes 43 = .ok (.putfield 59, 3) := by decide +kernel
theorem dX9_appendBytes_46 : decode cX9_appendBytes 46 = .ok (.iinc 2 (-8), 3) := by decide +kernel
theorem dX9_appendBytes_49 : decode cX9_appendBytes 49 = .ok (.goto (-46), 3) := by decide +kernel
theorem dX9_appendBytes_52 : decode cX9_appendBytes 52 = .ok (.return_, 1) := by decide +kernel
theorem dX9_close_0 : decode cX9_close 0 = .ok (.aload_n 0, 1) := by decide +kernel
theorem dX9_close_1 : decode cX9_close 1 = .ok (.invokevirtual 287, 3) := by decide +kernel
theorem dX9_close_4 : decode cX9_close 4 = .ok (.aload_n 0, 1) := by decide +kernel
theorem dX9_close_5 : decode cX9_close 5 = .ok (.getfield 16, 3) := by decide +kernel
theorem dX9_close_8 : decode cX9_close 8 = .ok (.getfield 78, 3) := by decide +kernel
theorem dX9_close_11 : decode cX9_close 11 = .ok (.if_icmp .ne 7, 3) := by decide +kernel
theorem dX9_close_14 : decode cX9_close 14 = .ok (.iconst 1, 1) := by decide +kernel
theorem dX9_close_15 : decode cX9_close 15 = .ok (.goto 4, 3) := by decide +kernel
theorem dX9_close_18 : decode cX9_close 18 = .ok (.iconst 0, 1) := by decide +kernel
theorem dX9_close_19 : decode cX9_close 19 = .ok (.invokestatic 251, 3) := by decide +kernel
theorem dX9_close_22 : decode cX9_close 22 = .ok (.aload_n 0, 1) := by decide +kernel
theorem dX9_close_23 : decode cX9_close 23 = .ok (.getfield 45, 3) := by decide +kernel
theorem dX9_close_26 : decode cX9_close 26 = .ok (.aload_n 0, 1) := by decide +kernel
theorem dX9_close_27 : decode cX9_close 27 = .ok (.getfield 35, 3) := by decide +kernel
theorem dX9_close_30 : decode cX9_close 30 = .ok (.invokevirtual 255, 3) := by decide +kernel
theorem dX9_close_33 : decode cX9_close 33 = .ok (.aload_n 0, 1) := by decide +kernel
theorem dX9_close_34 : decode cX9_close 34 = .ok (.getfield 35, 3) := by decide +kernel
theorem dX9_close_37 : decode cX9_close 37 = .ok (.getfield 93, 3) := by decide +kernel
theorem dX9_close_40 : decode cX9_close 40 = .ok (.istore_n 1, 1) := by decide +kernel
theorem dX9_close_41 : decode cX9_close 41 = .ok (.aload_n 0, 1) := by decide +kernel
theorem dX9_close_42 : decode cX9_close 42 = .ok (.getfield 35, 3) := by decide +kernel
theorem dX9_close_45 : decode cX9_close 45 = .ok (.iload_n 1, 1) := by decide +kernel
theorem dX9_close_46 : decode cX9_close 46 = .ok (.iconst (-1), 1) := by decide +kernel
theorem dX9_close_47 : decode cX9_close 47 = .ok (.invokevirtual 290, 3) := by decide +kernel
theorem dX9_close_50 : decode cX9_close 50 = .ok (.iload_n 1, 1) := by decide +kernel
theorem dX9_close_51 : decode cX9_close 51 = .ok (.ireturn, 1) := by decide +kernel
theorem dX9_creditedAfter_0 : decode cX9_creditedAfter 0 = .ok (.iload_n 1, 1) := by decide +kernel
theorem dX9_creditedAfter_1 : decode cX9_creditedAfter 1 = .ok (.iconst 1, 1) := by decide +kernel
theorem dX9_creditedAfter_2 : decode cX9_creditedAfter 2 = .ok (.bipush 120, 2) := by decide +kernel
theorem dX9_creditedAfter_4 : decode cX9_creditedAfter 4 = .ok (.invokestatic 67, 3) := by decide +kernel
theorem dX9_creditedAfter_7 : decode cX9_creditedAfter 7 = .ok (.aload_n 0, 1) := by decide +kernel
theorem dX9_creditedAfter_8 : decode cX9_creditedAfter 8 = .ok (.iload_n 1, 1) := by decide +kernel
theorem dX9_creditedAfter_9 : decode cX9_creditedAfter 9 = .ok (.invokevirtual 217, 3) := by decide +kernel
theorem dX9_creditedAfter_12 : decode cX9_creditedAfter 12 = .ok (.aload_n 0, 1) := by decide +kernel
theorem dX9_creditedAfter_13 : decode cX9_creditedAfter 13 = .ok (.getfield 39, 3) := by decide +kernel
theorem dX9_creditedAfter_16 : decode cX9_creditedAfter 16 = .ok (.getfield 104, 3) := by decide +kernel
theorem dX9_creditedAfter_19 : decode cX9_creditedAfter 19 = .ok (.l2i, 1) := by decide +kernel
theorem dX9_creditedAfter_20 : decode cX9_creditedAfter 20 = .ok (.ireturn, 1) := by decide +kernel
theorem dX9_deposit_0 : decode cX9_deposit 0 = .ok (.iload_n 1, 1) := by decide +kernel
theorem dX9_deposit_1 : decode cX9_deposit 1 = .ok (.iconst 1, 1) := by decide +kernel
theorem dX9_deposit_2 : decode cX9_deposit 2 = .ok (.ldc 239, 2) := by decide +kernel
theorem dX9_deposit_4 : decode cX9_deposit 4 = .ok (.invokestatic 67, 3) := by decide +kernel
theorem dX9_deposit_7 : decode cX9_deposit 7 = .ok (.aload_n 0, 1) := by decide +kernel
theorem dX9_deposit_8 : decode cX9_deposit 8 = .ok (.getfield 35, 3) := by decide +kernel
theorem dX9_deposit_11 : decode cX9_deposit 11 = .ok (.getfield 90, 3) := by decide +kernel
theorem dX9_deposit_14 : decode cX9_deposit 14 = .ok (.iload_n 1, 1) := by decide +kernel
theorem dX9_deposit_15 : decode cX9_deposit 15 = .ok (.iadd, 1) := by decide +kernel
theorem dX9_deposit_16 : decode cX9_deposit 16 = .ok (.ldc 250, 2) := by decide +kernel
theorem dX9_deposit_18 : decode cX9_deposit 18 = .ok (.if_icmp .gt 7, 3) := by decide +kernel
theorem dX9_deposit_21 : decode cX9_deposit 21 = .ok (.iconst 1, 1) := by decide +kernel
theorem dX9_deposit_22 : decode cX9_deposit 22 = .ok (.goto 4, 3) := by decide +kernel
theorem dX9_deposit_25 : decode cX9_deposit 25 = .ok (.iconst 0, 1) := by decide +kernel
theorem dX9_deposit_26 : decode cX9_deposit 26 = .ok (.invokestatic 251, 3) := by decide +kernel
theorem dX9_deposit_29 : decode cX9_deposit 29 = .ok (.aload_n 0, 1) := by decide +kernel
theorem dX9_deposit_30 : decode cX9_deposit 30 = .ok (.getfield 45, 3) := by decide +kernel
theorem dX9_deposit_33 : decode cX9_deposit 33 = .ok (.aload_n 0, 1) := by decide +kernel
theorem dX9_deposit_34 : decode cX9_deposit 34 = .ok (.getfield 35, 3) := by decide +kernel
theorem dX9_deposit_37 : decode cX9_deposit 37 = .ok (.invokevirtual 255, 3) := by decide +kernel
theorem dX9_deposit_40 : decode cX9_deposit 40 = .ok (.aload_n 0, 1) := by decide +kernel
theorem dX9_deposit_41 : decode cX9_deposit 41 = .ok (.getfield 35, 3) := by decide +kernel
theorem dX9_deposit_44 : decode cX9_deposit 44 = .ok (.iload_n 1, 1) := by decide +kernel
theorem dX9_deposit_45 : decode cX9_deposit 45 = .ok (.invokevirtual 258, 3) := by decide +kernel
theorem dX9_deposit_48 : decode cX9_deposit 48 = .ok (.aload_n 0, 1) := by decide +kernel
theorem dX9_deposit_49 : decode cX9_deposit 49 = .ok (.getfield 35, 3) := by decide +kernel
theorem dX9_deposit_52 : decode cX9_deposit 52 = .ok (.getfield 93, 3) := by decide +kernel
theorem dX9_deposit_55 : decode cX9_deposit 55 = .ok (.ireturn, 1) := by decide +kernel
theorem dX9_feed_0 : decode cX9_feed 0 = .ok (.aload_n 0, 1) := by decide +kernel
theorem dX9_feed_1 : decode cX9_feed 1 = .ok (.getfield 59, 3) := by decide +kernel
theorem dX9_feed_4 : decode cX9_feed 4 = .ok (.bipush 20, 2) := by decide +kernel
theorem dX9_feed_6 : decode cX9_feed 6 = .ok (.iadd, 1) := by decide +kernel
theorem dX9_feed_7 : decode cX9_feed 7 = .ok (.sipush 700, 3) := by decide +kernel
theorem dX9_feed_10 : decode cX9_feed 10 = .ok (.if_icmp .le 6, 3) := by decide +kernel
theorem dX9_feed_13 : decode cX9_feed 13 = .ok (.bipush (-2), 2) := by decide +kernel
theorem dX9_feed_15 : decode cX9_feed 15 = .ok (.ireturn, 1) := by decide +kernel
theorem dX9_feed_16 : decode cX9_feed 16 = .ok (.aload_n 0, 1) := by decide +kernel
theorem dX9_feed_17 : decode cX9_feed 17 = .ok (.iload_n 1, 1) := by decide +kernel
theorem dX9_feed_18 : decode cX9_feed 18 = .ok (.invokevirtual 63, 3) := by decide +kernel
theorem dX9_feed_21 : decode cX9_feed 21 = .ok (.aload_n 0, 1) := by decide +kernel
theorem dX9_feed_22 : decode cX9_feed 22 = .ok (.iload_n 2, 1) := by decide +kernel
theorem dX9_feed_23 : decode cX9_feed 23 = .ok (.invokevirtual 63, 3) := by decide +kernel
theorem dX9_feed_26 : decode cX9_feed 26 = .ok (.aload_n 0, 1) := by decide +kernel
theorem dX9_feed_27 : decode cX9_feed 27 = .ok (.iload_n 3, 1) := by decide +kernel
theorem dX9_feed_28 : decode cX9_feed 28 = .ok (.invokevirtual 63, 3) := by decide +kernel
theorem dX9_feed_31 : decode cX9_feed 31 = .ok (.aload_n 0, 1) := by decide +kernel
theorem dX9_feed_32 : decode cX9_feed 32 = .ok (.iload 4, 2) := by decide +kernel
theorem dX9_feed_34 : decode cX9_feed 34 = .ok (.invokevirtual 63, 3) := by decide +kernel
theorem dX9_feed_37 : decode cX9_feed 37 = .ok (.aload_n 0, 1) := by decide +kernel
theorem dX9_feed_38 : decode cX9_feed 38 = .ok (.iload 5, 2) := by decide +kernel
theorem dX9_feed_40 : decode cX9_feed 40 = .ok (.invokevirtual 63, 3) := by decide +kernel
theorem dX9_feed_43 : decode cX9_feed 43 = .ok (.aload_n 0, 1) := by decide +kernel
theorem dX9_feed_44 : decode cX9_feed 44 = .ok (.getfield 59, 3) := by decide +kernel
theorem dX9_feed_47 : decode cX9_feed 47 = .ok (.ireturn, 1) := by decide +kernel
theorem dX9_isBasis_0 : decode cX9_isBasis 0 = .ok (.lload_n 0, 1) := by decide +kernel
theorem dX9_isBasis_1 : decode cX9_isBasis 1 = .ok (.ldc2_w 374, 3) := by decide +kernel
theorem dX9_isBasis_4 : decode cX9_isBasis 4 = .ok (.lcmp, 1) := by decide +kernel
theorem dX9_isBasis_5 : decode cX9_isBasis 5 = .ok (.ifCond .eq 11, 3) := by decide +kernel
theorem dX9_isBasis_8 : decode cX9_isBasis 8 = .ok (.lload_n 0, 1) := by decide +kernel
theorem dX9_isBasis_9 : decode cX9_isBasis 9 = .ok (.ldc2_w 376, 3) := by decide +kernel
theorem dX9_isBasis_12 : decode cX9_isBasis 12 = .ok (.lcmp, 1) := by decide +kernel
theorem dX9_isBasis_13 : decode cX9_isBasis 13 = .ok (.ifCond .ne 7, 3) := by decide +kernel
theorem dX9_isBasis_16 : decode cX9_isBasis 16 = .ok (.iconst 1, 1) := by decide +kernel
theorem dX9_isBasis_17 : decode cX9_isBasis 17 = .ok (.goto 4, 3) := by decide +kernel
theorem dX9_isBasis_20 : decode cX9_isBasis 20 = .ok (.iconst 0, 1) := by decide +kernel
theorem dX9_isBasis_21 : decode cX9_isBasis 21 = .ok (.ireturn, 1) := by decide +kernel
theorem dX9_pass_0 : decode cX9_pass 0 = .ok (.iload_n 1, 1) := by decide +kernel
theorem dX9_pass_1 : decode cX9_pass 1 = .ok (.iconst 1, 1) := by decide +kernel
theorem dX9_pass_2 : decode cX9_pass 2 = .ok (.bipush 120, 2) := by decide +kernel
theorem dX9_pass_4 : decode cX9_pass 4 = .ok (.invokestatic 67, 3) := by decide +kernel
theorem dX9_pass_7 : decode cX9_pass 7 = .ok (.aload_n 0, 1) := by decide +kernel
theorem dX9_pass_8 : decode cX9_pass 8 = .ok (.getfield 35, 3) := by decide +kernel
theorem dX9_pass_11 : decode cX9_pass 11 = .ok (.getfield 87, 3) := by decide +kernel
theorem dX9_pass_14 : decode cX9_pass 14 = .ok (.iload_n 1, 1) := by decide +kernel
theorem dX9_pass_15 : decode cX9_pass 15 = .ok (.iadd, 1) := by decide +kernel
theorem dX9_pass_16 : decode cX9_pass 16 = .ok (.sipush 9999, 3) := by decide +kernel
theorem dX9_pass_19 : decode cX9_pass 19 = .ok (.if_icmp .gt 7, 3) := by decide +kernel
theorem dX9_pass_22 : decode cX9_pass 22 = .ok (.iconst 1, 1) := by decide +kernel
theorem dX9_pass_23 : decode cX9_pass 23 = .ok (.goto 4, 3) := by decide +kernel
theorem dX9_pass_26 : decode cX9_pass 26 = .ok (.iconst 0, 1) := by decide +kernel
theorem dX9_pass_27 : decode cX9_pass 27 = .ok (.invokestatic 251, 3) := by decide +kernel
theorem dX9_pass_30 : decode cX9_pass 30 = .ok (.aload_n 0, 1) := by decide +kernel
theorem dX9_pass_31 : decode cX9_pass 31 = .ok (.getfield 45, 3) := by decide +kernel
theorem dX9_pass_34 : decode cX9_pass 34 = .ok (.aload_n 0, 1) := by decide +kernel
theorem dX9_pass_35 : decode cX9_pass 35 = .ok (.getfield 35, 3) := by decide +kernel
theorem dX9_pass_38 : decode cX9_pass 38 = .ok (.invokevirtual 255, 3) := by decide +kernel
theorem dX9_pass_41 : decode cX9_pass 41 = .ok (.aload_n 0, 1) := by decide +kernel
theorem dX9_pass_42 : decode cX9_pass 42 = .ok (.getfield 35, 3) := by decide +kernel
theorem dX9_pass_45 : decode cX9_pass 45 = .ok (.invokevirtual 220, 3) := by decide +kernel
theorem dX9_pass_48 : decode cX9_pass 48 = .ok (.istore_n 2, 1) := by decide +kernel
theorem dX9_pass_49 : decode cX9_pass 49 = .ok (.aload_n 0, 1) := by decide +kernel
theorem dX9_pass_50 : decode cX9_pass 50 = .ok (.getfield 35, 3) := by decide +kernel
theorem dX9_pass_53 : decode cX9_pass 53 = .ok (.iload_n 1, 1) := by decide +kernel
theorem dX9_pass_54 : decode cX9_pass 54 = .ok (.invokevirtual 247, 3) := by decide +kernel
theorem dX9_pass_57 : decode cX9_pass 57 = .ok (.aload_n 0, 1) := by decide +kernel
theorem dX9_pass_58 : decode cX9_pass 58 = .ok (.getfield 35, 3) := by decide +kernel
theorem dX9_pass_61 : decode cX9_pass 61 = .ok (.invokevirtual 220, 3) := by decide +kernel
theorem dX9_pass_64 : decode cX9_pass 64 = .ok (.iload_n 2, 1) := by decide +kernel
theorem dX9_pass_65 : decode cX9_pass 65 = .ok (.isub, 1) := by decide +kernel
theorem dX9_pass_66 : decode cX9_pass 66 = .ok (.ireturn, 1) := by decide +kernel
theorem dX9_payInterest_0 : decode cX9_payInterest 0 = .ok (.iload_n 1, 1) := by decide +kernel
theorem dX9_payInterest_1 : decode cX9_payInterest 1 = .ok (.iconst 1, 1) := by decide +kernel
theorem dX9_payInterest_2 : decode cX9_payInterest 2 = .ok (.if_icmp .lt 16, 3) := by decide +kernel
theorem dX9_payInterest_5 : decode cX9_payInterest 5 = .ok (.iload_n 1, 1) := by decide +kernel
theorem dX9_payInterest_6 : decode cX9_payInterest 6 = .ok (.i2l, 1) := by decide +kernel
theorem dX9_payInterest_7 : decode cX9_payInterest 7 = .ok (.aload_n 0, 1) := by decide +kernel
theorem dX9_payInterest_8 : decode cX9_payInterest 8 = .ok (.getfield 35, 3) := by decide +kernel
theorem dX9_payInterest_11 : decode cX9_payInterest 11 = .ok (.getfield 100, 3) := by decide +kernel
theorem dX9_payInterest_14 : decode cX9_payInterest 14 = .ok (.lcmp, 1) := by decide +kernel
theorem dX9_payInterest_15 : decode cX9_payInterest 15 = .ok (.ifCond .le 14, 3) := by decide +kernel
theorem dX9_payInterest_18 : decode cX9_payInterest 18 = .ok (.new 279, 3) := by decide +kernel
theorem dX9_payInterest_21 : decode cX9_payInterest 21 = .ok (.dup, 1) := by decide +kernel
theorem dX9_payInterest_22 : decode cX9_payInterest 22 = .ok (.ldc_w 281, 3) := by decide +kernel
theorem dX9_payInterest_25 : decode cX9_payInterest 25 = .ok (.invokespecial 283, 3) := by decide +kernel
theorem dX9_payInterest_28 : decode cX9_payInterest 28 = .ok (.athrow, 1) := by decide +kernel
theorem dX9_payInterest_29 : decode cX9_payInterest 29 = .ok (.aload_n 0, 1) := by decide +kernel
theorem dX9_payInterest_30 : decode cX9_payInterest 30 = .ok (.getfield 45, 3) := by decide +kernel
theorem dX9_payInterest_33 : decode cX9_payInterest 33 = .ok (.aload_n 0, 1) := by decide +kernel
theorem dX9_payInterest_34 : decode cX9_payInterest 34 = .ok (.getfield 35, 3) := by decide +kernel
theorem dX9_payInterest_37 : decode cX9_payInterest 37 = .ok (.invokevirtual 255, 3) := by decide +kernel
theorem dX9_payInterest_40 : decode cX9_payInterest 40 = .ok (.aload_n 0, 1) := by decide +kernel
theorem dX9_payInterest_41 : decode cX9_payInterest 41 = .ok (.getfield 35, 3) := by decide +kernel
theorem dX9_payInterest_44 : decode cX9_payInterest 44 = .ok (.iload_n 1, 1) := by decide +kernel
theorem dX9_payInterest_45 : decode cX9_payInterest 45 = .ok (.invokevirtual 284, 3) := by decide +kernel
theorem dX9_payInterest_48 : decode cX9_payInterest 48 = .ok (.aload_n 0, 1) := by decide +kernel
theorem dX9_payInterest_49 : decode cX9_payInterest 49 = .ok (.getfield 35, 3) := by decide +kernel
theorem dX9_payInterest_52 : decode cX9_payInterest 52 = .ok (.getfield 100, 3) := by decide +kernel
theorem dX9_payInterest_55 : decode cX9_payInterest 55 = .ok (.l2i, 1) := by decide +kernel
theorem dX9_payInterest_56 : decode cX9_payInterest 56 = .ok (.ireturn, 1) := by decide +kernel
theorem dX9_paymentsAfter_0 : decode cX9_paymentsAfter 0 = .ok (.iload_n 1, 1) := by decide +kernel
theorem dX9_paymentsAfter_1 : decode cX9_paymentsAfter 1 = .ok (.iconst 1, 1) := by decide +kernel
theorem dX9_paymentsAfter_2 : decode cX9_paymentsAfter 2 = .ok (.bipush 120, 2) := by decide +kernel
theorem dX9_paymentsAfter_4 : decode cX9_paymentsAfter 4 = .ok (.invokestatic 67, 3) := by decide +kernel
theorem dX9_paymentsAfter_7 : decode cX9_paymentsAfter 7 = .ok (.aload_n 0, 1) := by decide +kernel
theorem dX9_paymentsAfter_8 : decode cX9_paymentsAfter 8 = .ok (.iload_n 1, 1) := by decide +kernel
theorem dX9_paymentsAfter_9 : decode cX9_paymentsAfter 9 = .ok (.invokevirtual 217, 3) := by decide +kernel
theorem dX9_paymentsAfter_12 : decode cX9_paymentsAfter 12 = .ok (.aload_n 0, 1) := by decide +kernel
theorem dX9_paymentsAfter_13 : decode cX9_paymentsAfter 13 = .ok (.getfield 39, 3) := by decide +kernel
theorem dX9_paymentsAfter_16 : decode cX9_paymentsAfter 16 = .ok (.invokevirtual 220, 3) := by decide +kernel
theorem dX9_paymentsAfter_19 : decode cX9_paymentsAfter 19 = .ok (.ireturn, 1) := by decide +kernel
theorem dX9_setGrace_0 : decode cX9_setGrace 0 = .ok (.iload_n 1, 1) := by decide +kernel
theorem dX9_setGrace_1 : decode cX9_setGrace 1 = .ok (.iconst 0, 1) := by decide +kernel
theorem dX9_setGrace_2 : decode cX9_setGrace 2 = .ok (.bipush 60, 2) := by decide +kernel
theorem dX9_setGrace_4 : decode cX9_setGrace 4 = .ok (.invokestatic 67, 3) := by decide +kernel
theorem dX9_setGrace_7 : decode cX9_setGrace 7 = .ok (.aload_n 0, 1) := by decide +kernel
theorem dX9_setGrace_8 : decode cX9_setGrace 8 = .ok (.getfield 45, 3) := by decide +kernel
theorem dX9_setGrace_11 : decode cX9_setGrace 11 = .ok (.aload_n 0, 1) := by decide +kernel
theorem dX9_setGrace_12 : decode cX9_setGrace 12 = .ok (.getfield 35, 3) := by decide +kernel
theorem dX9_setGrace_15 : decode cX9_setGrace 15 = .ok (.invokevirtual 255, 3) := by decide +kernel
theorem dX9_setGrace_18 : decode cX9_setGrace 18 = .ok (.aload_n 0, 1) := by decide +kernel
theorem dX9_setGrace_19 : decode cX9_setGrace 19 = .ok (.getfield 35, 3) := by decide +kernel
theorem dX9_setGrace_22 : decode cX9_setGrace 22 = .ok (.getfield 305, 3) := by decide +kernel
theorem dX9_setGrace_25 : decode cX9_setGrace 25 = .ok (.istore_n 2, 1) := by decide +kernel
theorem dX9_setGrace_26 : decode cX9_setGrace 26 = .ok (.aload_n 0, 1) := by decide +kernel
theorem dX9_setGrace_27 : decode cX9_setGrace 27 = .ok (.getfield 35, 3) := by decide +kernel
theorem dX9_setGrace_30 : decode cX9_setGrace 30 = .ok (.iload_n 1, 1) := by decide +kernel
theorem dX9_setGrace_31 : decode cX9_setGrace 31 = .ok (.putfield 305, 3) := by decide +kernel
theorem dX9_setGrace_34 : decode cX9_setGrace 34 = .ok (.iload_n 2, 1) := by decide +kernel
theorem dX9_setGrace_35 : decode cX9_setGrace 35 = .ok (.ireturn, 1) := by decide +kernel
theorem dX9_setRate_0 : decode cX9_setRate 0 = .ok (.iload_n 1, 1) := by decide +kernel
theorem dX9_setRate_1 : decode cX9_setRate 1 = .ok (.iconst 0, 1) := by decide +kernel
theorem dX9_setRate_2 : decode cX9_setRate 2 = .ok (.sipush 3000, 3) := by decide +kernel
theorem dX9_setRate_5 : decode cX9_setRate 5 = .ok (.invokestatic 67, 3) := by decide +kernel
theorem dX9_setRate_8 : decode cX9_setRate 8 = .ok (.iload_n 2, 1) := by decide +kernel
theorem dX9_setRate_9 : decode cX9_setRate 9 = .ok (.i2l, 1) := by decide +kernel
theorem dX9_setRate_10 : decode cX9_setRate 10 = .ok (.invokestatic 293, 3) := by decide +kernel
theorem dX9_setRate_13 : decode cX9_setRate 13 = .ok (.ifCond .ne 14, 3) := by decide +kernel
theorem dX9_setRate_16 : decode cX9_setRate 16 = .ok (.new 279, 3) := by decide +kernel
theorem dX9_setRate_19 : decode cX9_setRate 19 = .ok (.dup, 1) := by decide +kernel
theorem dX9_setRate_20 : decode cX9_setRate 20 = .ok (.ldc_w 297, 3) := by decide +kernel
theorem dX9_setRate_23 : decode cX9_setRate 23 = .ok (.invokespecial 283, 3) := by decide +kernel
theorem dX9_setRate_26 : decode cX9_setRate 26 = .ok (.athrow, 1) := by decide +kernel
theorem dX9_setRate_27 : decode cX9_setRate 27 = .ok (.aload_n 0, 1) := by decide +kernel
theorem dX9_setRate_28 : decode cX9_setRate 28 = .ok (.getfield 45, 3) := by decide +kernel
theorem dX9_setRate_31 : decode cX9_setRate 31 = .ok (.aload_n 0, 1) := by decide +kernel
theorem dX9_setRate_32 : decode cX9_setRate 32 = .ok (.getfield 35, 3) := by decide +kernel
theorem dX9_setRate_35 : decode cX9_setRate 35 = .ok (.invokevirtual 255, 3) := by decide +kernel
theorem dX9_setRate_38 : decode cX9_setRate 38 = .ok (.aload_n 0, 1) := by decide +kernel
theorem dX9_setRate_39 : decode cX9_setRate 39 = .ok (.getfield 35, 3) := by decide +kernel
theorem dX9_setRate_42 : decode cX9_setRate 42 = .ok (.getfield 299, 3) := by decide +kernel
theorem dX9_setRate_45 : decode cX9_setRate 45 = .ok (.istore_n 3, 1) := by decide +kernel
theorem dX9_setRate_46 : decode cX9_setRate 46 = .ok (.aload_n 0, 1) := by decide +kernel
theorem dX9_setRate_47 : decode cX9_setRate 47 = .ok (.getfield 35, 3) := by decide +kernel
theorem dX9_setRate_50 : decode cX9_setRate 50 = .ok (.iload_n 1, 1) := by decide +kernel
theorem dX9_setRate_51 : decode cX9_setRate 51 = .ok (.putfield 299, 3) := by decide +kernel
theorem dX9_setRate_54 : decode cX9_setRate 54 = .ok (.aload_n 0, 1) := by decide +kernel
theorem dX9_setRate_55 : decode cX9_setRate 55 = .ok (.getfield 35, 3) := by decide +kernel
theorem dX9_setRate_58 : decode cX9_setRate 58 = .ok (.iload_n 2, 1) := by decide +kernel
theorem dX9_setRate_59 : decode cX9_setRate 59 = .ok (.putfield 302, 3) := by decide +kernel
theorem dX9_setRate_62 : decode cX9_setRate 62 = .ok (.iload_n 3, 1) := by decide +kernel
theorem dX9_setRate_63 : decode cX9_setRate 63 = .ok (.ireturn, 1) := by decide +kernel
theorem dX9_shortDay_0 : decode cX9_shortDay 0 = .ok (.iload_n 1, 1) := by decide +kernel
theorem dX9_shortDay_1 : decode cX9_shortDay 1 = .ok (.iconst 1, 1) := by decide +kernel
theorem dX9_shortDay_2 : decode cX9_shortDay 2 = .ok (.bipush 120, 2) := by decide +kernel
theorem dX9_shortDay_4 : decode cX9_shortDay 4 = .ok (.invokestatic 67, 3) := by decide +kernel
theorem dX9_shortDay_7 : decode cX9_shortDay 7 = .ok (.aload_n 0, 1) := by decide +kernel
theorem dX9_shortDay_8 : decode cX9_shortDay 8 = .ok (.getfield 39, 3) := by decide +kernel
theorem dX9_shortDay_11 : decode cX9_shortDay 11 = .ok (.aload_n 0, 1) := by decide +kernel
theorem dX9_shortDay_12 : decode cX9_shortDay 12 = .ok (.getfield 35, 3) := by decide +kernel
theorem dX9_shortDay_15 : decode cX9_shortDay 15 = .ok (.invokevirtual 223, 3) := by decide +kernel
theorem dX9_shortDay_18 : decode cX9_shortDay 18 = .ok (.iconst 0, 1) := by decide +kernel
theorem dX9_shortDay_19 : decode cX9_shortDay 19 = .ok (.istore_n 2, 1) := by decide +kernel
theorem dX9_shortDay_20 : decode cX9_shortDay 20 = .ok (.iload_n 2, 1) := by decide +kernel
theorem dX9_shortDay_21 : decode cX9_shortDay 21 = .ok (.iload_n 1, 1) := by decide +kernel
theorem dX9_shortDay_22 : decode cX9_shortDay 22 = .ok (.if_icmp .ge 34, 3) := by decide +kernel
theorem dX9_shortDay_25 : decode cX9_shortDay 25 = .ok (.aload_n 0, 1) := by decide +kernel
theorem dX9_shortDay_26 : decode cX9_shortDay 26 = .ok (.getfield 39, 3) := by decide +kernel
theorem dX9_shortDay_29 : decode cX9_shortDay 29 = .ok (.invokevirtual 227, 3) := by decide +kernel
theorem dX9_shortDay_32 : decode cX9_shortDay 32 = .ok (.aload_n 0, 1) := by decide +kernel
theorem dX9_shortDay_33 : decode cX9_shortDay 33 = .ok (.getfield 39, 3) := by decide +kernel
theorem dX9_shortDay_36 : decode cX9_shortDay 36 = .ok (.invokevirtual 243, 3) := by decide +kernel
theorem dX9_shortDay_39 : decode cX9_shortDay 39 = .ok (.ifCond .eq 11, 3) := by decide +kernel
theorem dX9_shortDay_42 : decode cX9_shortDay 42 = .ok (.aload_n 0, 1) := by decide +kernel
theorem dX9_shortDay_43 : decode cX9_shortDay 43 = .ok (.getfield 39, 3) := by decide +kernel
theorem dX9_shortDay_46 : decode cX9_shortDay 46 = .ok (.getfield 87, 3) := by decide +kernel
theorem dX9_shortDay_49 : decode cX9_shortDay 49 = .ok (.ireturn, 1) := by decide +kernel
theorem dX9_shortDay_50 : decode cX9_shortDay 50 = .ok (.iinc 2 1, 3) := by decide +kernel
theorem dX9_shortDay_53 : decode cX9_shortDay 53 = .ok (.goto (-33), 3) := by decide +kernel
theorem dX9_shortDay_56 : decode cX9_shortDay 56 = .ok (.iconst (-1), 1) := by decide +kernel
theorem dX9_shortDay_57 : decode cX9_shortDay 57 = .ok (.ireturn, 1) := by decide +kernel
theorem dX9_tryDays_0 : decode cX9_tryDays 0 = .ok (.aload_n 0, 1) := by decide +kernel
theorem dX9_tryDays_1 : decode cX9_tryDays 1 = .ok (.getfield 39, 3) := by decide +kernel
theorem dX9_tryDays_4 : decode cX9_tryDays 4 = .ok (.aload_n 0, 1) := by decide +kernel
theorem dX9_tryDays_5 : decode cX9_tryDays 5 = .ok (.getfield 35, 3) := by decide +kernel
theorem dX9_tryDays_8 : decode cX9_tryDays 8 = .ok (.invokevirtual 223, 3) := by decide +kernel
theorem dX9_tryDays_11 : decode cX9_tryDays 11 = .ok (.aload_n 0, 1) := by decide +kernel
theorem dX9_tryDays_12 : decode cX9_tryDays 12 = .ok (.getfield 39, 3) := by decide +kernel
theorem dX9_tryDays_15 : decode cX9_tryDays 15 = .ok (.iload_n 1, 1) := by decide +kernel
theorem dX9_tryDays_16 : decode cX9_tryDays 16 = .ok (.invokevirtual 247, 3) := by decide +kernel
theorem dX9_tryDays_19 : decode cX9_tryDays 19 = .ok (.return_, 1) := by decide +kernel
