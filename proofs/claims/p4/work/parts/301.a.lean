set_option maxRecDepth 20000 in
theorem ggX1_restore_X0_copyFrom : GoodIn wsX1_restore wsX0_copyFrom := goodIn_r _ [8, 9, 10, 11, 12, 13, 14, 15, 16, 17, 18, 19, 20, 21, 22, 23, 24, 25, 26, 27, 28, 29, 30, 31, 32, 33, 34, 35, 36, 37, 38, 39, 40, 41, 45, 46, 47, 48, 49, 50, 51, 52, 53, 54, 55, 56, 57, 58, 59, 60, 61, 62, 63, 64, 65, 66, 67] rfl (by decide +kernel)
set_option maxRecDepth 20000 in
theorem gX1_restore_X0_copyFrom : GoodIn wsX1_restore (wsV RX1 24 RX0 yX0_copyFrom wsX0_copyFrom) := goodIn_app (goodIn_r _ [4, 5, 6, 7] rfl (by decide +kernel)) ggX1_restore_X0_copyFrom
set_option maxRecDepth 20000 in
theorem ggX9_needDispute_X9_needPossible : GoodIn wsX9_needDispute wsX9_needPossible := goodIn_ca (goodIn_r _ [5, 6, 7] rfl (by decide +kernel)) (goodIn_sub (fun _ h => List.mem_cons_of_mem _ (List.mem_append_right _ h)) (by decide +kernel))
set_option maxRecDepth 20000 in
theorem gX9_needDispute_X9_needPossible : GoodIn wsX9_needDispute (va_wsS RX9 251 yX9_needPossible wsX9_needPossible) := goodIn_app (goodIn_r _ [2, 3, 4] rfl (by decide +kernel)) ggX9_needDispute_X9_needPossible
theorem dX9_needDispute_0 : decode cX9_needDispute 0 = .ok (.aload_n 0, 1) := by decide +kernel
theorem dX9_needDispute_1 : decode cX9_needDispute 1 = .ok (.getfield 35, 3) := by decide +kernel
theorem dX9_needDispute_4 : decode cX9_needDispute 4 = .ok (.getfield 122, 3) := by decide +kernel
theorem dX9_needDispute_7 : decode cX9_needDispute 7 = .ok (.iload_n 1, 1) := by decide +kernel
theorem dX9_needDispute_8 : decode cX9_needDispute 8 = .ok (.iaload, 1) := by decide +kernel
theorem dX9_needDispute_9 : decode cX9_needDispute 9 = .ok (.iconst 2, 1) := by decide +kernel
theorem dX9_needDispute_10 : decode cX9_needDispute 10 = .ok (.if_icmp .ne 7, 3) := by decide +kernel
theorem dX9_needDispute_13 : decode cX9_needDispute 13 = .ok (.iconst 1, 1) := by decide +kernel
theorem dX9_needDispute_14 : decode cX9_needDispute 14 = .ok (.goto 4, 3) := by decide +kernel
theorem dX9_needDispute_17 : decode cX9_needDispute 17 = .ok (.iconst 0, 1) := by decide +kernel
theorem dX9_needDispute_18 : decode cX9_needDispute 18 = .ok (.invokestatic 251, 3) := by decide +kernel
theorem dX9_needDispute_21 : decode cX9_needDispute 21 = .ok (.return_, 1) := by decide +kernel
