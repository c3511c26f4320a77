set_option maxRecDepth 20000 in
theorem ggX10_both_X10_advance : GoodIn wsX10_both wsX10_advance := goodIn_r _ [14, 15, 16, 10, 17, 9, 18, 19, 20, 21, 22, 23, 4, 24, 25, 26, 27, 28, 29, 30, 31, 32, 33, 34, 35, 36, 37, 112, 113, 114, 115, 116, 117, 118, 119, 120, 121, 122, 123, 124, 125, 126, 127, 128, 129, 130, 131, 132, 133, 134, 135, 136, 137, 138, 139, 140, 141, 142, 143, 144, 145, 146, 147, 148, 149, 150] rfl (by decide +kernel)
set_option maxRecDepth 20000 in
theorem gX10_both_X10_advance : GoodIn wsX10_both (wsV RX10 159 RX10 yX10_advance wsX10_advance) := goodIn_app (goodIn_r _ [11, 12, 13, 4] rfl (by decide +kernel)) ggX10_both_X10_advance
set_option maxRecDepth 20000 in
theorem ggX10_both_X10_emit : GoodIn wsX10_both wsX10_emit := goodIn_r _ [41, 42, 43, 112, 113, 114, 115, 116, 117, 118, 119, 120, 121, 122, 123, 124, 125, 126, 127, 128, 129, 130, 131, 132, 133, 134, 135, 136, 137, 138, 139, 140, 141, 142, 143, 144, 145, 146, 147, 148, 149, 150] rfl (by decide +kernel)
set_option maxRecDepth 20000 in
theorem gX10_both_X10_emit : GoodIn wsX10_both (wsV RX10 176 RX10 yX10_emit wsX10_emit) := goodIn_app (goodIn_r _ [38, 39, 40, 4] rfl (by decide +kernel)) ggX10_both_X10_emit
set_option maxRecDepth 20000 in
theorem ggX10_both_X10_fact : GoodIn wsX10_both wsX10_fact := goodIn_r _ [67, 9, 10, 68, 59, 60, 61, 4, 62, 26, 16, 69, 70, 71, 50, 51, 52, 53, 54, 55, 72, 73, 74, 75, 76, 77, 78, 79, 80, 11, 12, 13, 14, 15, 17, 18, 19, 20, 21, 22, 23, 24, 25, 27, 28, 29, 30, 31, 32, 33, 34, 35, 36, 37, 81, 82, 83, 84, 85, 86, 87, 38, 39, 40, 41, 42, 43, 88, 89, 90, 91, 92, 93, 94, 95, 96, 97, 98, 99, 100, 101, 102, 103, 104, 105, 106, 107, 108, 109, 110, 0, 1, 2, 3, 5, 6, 7, 8, 44, 45, 46, 47, 48, 49, 56, 57, 58, 63, 64, 65, 66, 111, 112, 113, 114, 115, 116, 117, 118, 119, 120, 121, 122, 123, 124, 125, 126, 127, 128, 129, 130, 131, 132, 133, 134, 135, 136, 137, 138, 139, 140, 141, 142, 143, 144, 145, 146, 147, 148, 149, 150] rfl (by decide +kernel)
set_option maxRecDepth 20000 in
theorem gX10_both_X10_fact : GoodIn wsX10_both (wsV RX10 179 RX10 yX10_fact wsX10_fact) := goodIn_app (goodIn_r _ [1, 2, 3, 4] rfl (by decide +kernel)) ggX10_both_X10_fact
set_option maxRecDepth 20000 in
theorem ggX10_both_X10_isKeyword : GoodIn wsX10_both wsX10_isKeyword := goodIn_r _ [8, 9, 10, 112, 113, 114, 115, 116, 117, 118, 119, 120, 121, 122, 123, 124, 125, 126, 127, 128, 129, 130, 131, 132, 133, 134, 135, 136, 137, 138, 139, 140, 141, 142, 143, 144, 145, 146, 147, 148, 149, 150] rfl (by decide +kernel)
set_option maxRecDepth 20000 in
theorem gX10_both_X10_isKeyword : GoodIn wsX10_both (wsV RX10 173 RX10 yX10_isKeyword wsX10_isKeyword) := goodIn_app (goodIn_r _ [5, 6, 7, 4] rfl (by decide +kernel)) ggX10_both_X10_isKeyword
set_option maxRecDepth 20000 in
theorem ggX10_bracket_X10_advance : GoodIn wsX10_bracket wsX10_advance := goodIn_r _ [18, 19, 13, 20, 21, 11, 22, 23, 24, 25, 26, 27, 5, 28, 29, 30, 31, 32, 33, 34, 35, 36, 37, 38, 39, 40, 41, 112, 113, 114, 115, 116, 117, 118, 119, 120, 121, 122, 123, 124, 125, 126, 127, 128, 129, 130, 131, 132, 133, 134, 135, 136, 137, 138, 139, 140, 141, 142, 143, 144, 145, 146, 147, 148, 149, 150] rfl (by decide +kernel)
set_option maxRecDepth 20000 in
theorem gX10_bracket_X10_advance : GoodIn wsX10_bracket (wsV RX10 159 RX10 yX10_advance wsX10_advance) := goodIn_app (goodIn_r _ [15, 16, 17, 5] rfl (by decide +kernel)) ggX10_bracket_X10_advance
set_option maxRecDepth 20000 in
theorem ggX10_bracket_X10_condition : GoodIn wsX10_bracket wsX10_condition := goodIn_r _ [63, 64, 65, 66, 5, 53, 54, 55, 56, 11, 20, 15, 16, 17, 18, 19, 13, 21, 22, 23, 24, 25, 26, 27, 28, 29, 30, 31, 32, 33, 34, 35, 36, 37, 38, 39, 40, 41, 57, 58, 59, 60, 61, 62, 49, 50, 51, 52, 0, 1, 2, 3, 4, 6, 7, 8, 9, 10, 12, 14, 42, 43, 44, 45, 46, 47, 48, 67, 68, 69, 70, 71, 72, 73, 74, 75, 76, 77, 78, 79, 80, 81, 82, 83, 84, 85, 86, 87, 88, 89, 90, 91, 92, 93, 94, 95, 96, 97, 98, 99, 100, 101, 102, 103, 104, 105, 106, 107, 108, 109, 110, 111, 112, 113, 114, 115, 116, 117, 118, 119, 120, 121, 122, 123, 124, 125, 126, 127, 128, 129, 130, 131, 132, 133, 134, 135, 136, 137, 138, 139, 140, 141, 142, 143, 144, 145, 146, 147, 148, 149, 150] rfl (by decide +kernel)
set_option maxRecDepth 20000 in
theorem gX10_bracket_X10_condition : GoodIn wsX10_bracket (wsV RX10 188 RX10 yX10_condition wsX10_condition) := goodIn_app (goodIn_r _ [42, 43, 44, 5] rfl (by decide +kernel)) ggX10_bracket_X10_condition
set_option maxRecDepth 20000 in
theorem ggX10_bracket_X10_fail : GoodIn wsX10_bracket wsX10_fail := goodIn_r _ [10, 11, 12, 13, 14, 112, 113, 114, 115, 116, 117, 118, 119, 120, 121, 122, 123, 124, 125, 126, 127, 128, 129, 130, 131, 132, 133, 134, 135, 136, 137, 138, 139, 140, 141, 142, 143, 144, 145, 146, 147, 148, 149, 150] rfl (by decide +kernel)
set_option maxRecDepth 20000 in
theorem gX10_bracket_X10_fail : GoodIn wsX10_bracket (wsV RX10 149 RX10 yX10_fail wsX10_fail) := goodIn_app (goodIn_r _ [7, 8, 9, 5] rfl (by decide +kernel)) ggX10_bracket_X10_fail
set_option maxRecDepth 20000 in
theorem ggX10_bracket_X10_isSymbol : GoodIn wsX10_bracket wsX10_isSymbol := goodIn_r _ [48, 11, 30, 13, 112, 113, 114, 115, 116, 117, 118, 119, 120, 121, 122, 123, 124, 125, 126, 127, 128, 129, 130, 131, 132, 133, 134, 135, 136, 137, 138, 139, 140, 141, 142, 143, 144, 145, 146, 147, 148, 149, 150] rfl (by decide +kernel)
set_option maxRecDepth 20000 in
theorem gX10_bracket_X10_isSymbol : GoodIn wsX10_bracket (wsV RX10 191 RX10 yX10_isSymbol wsX10_isSymbol) := goodIn_app (goodIn_r _ [45, 46, 47, 5] rfl (by decide +kernel)) ggX10_bracket_X10_isSymbol
set_option maxRecDepth 20000 in
theorem ggX10_bracket_X10_opens : GoodIn wsX10_bracket wsX10_opens := goodIn_r _ [6, 1, 7, 8, 9, 5, 10, 11, 12, 13, 14, 15, 16, 17, 18, 19, 20, 21, 22, 23, 24, 25, 26, 27, 28, 29, 30, 31, 32, 33, 34, 35, 36, 37, 38, 39, 40, 41, 112, 113, 114, 115, 116, 117, 118, 119, 120, 121, 122, 123, 124, 125, 126, 127, 128, 129, 130, 131, 132, 133, 134, 135, 136, 137, 138, 139, 140, 141, 142, 143, 144, 145, 146, 147, 148, 149, 150] rfl (by decide +kernel)
set_option maxRecDepth 20000 in
theorem gX10_bracket_X10_opens : GoodIn wsX10_bracket (wsV RX10 185 RX10 yX10_opens wsX10_opens) := goodIn_app (goodIn_r _ [2, 3, 4, 5] rfl (by decide +kernel)) ggX10_bracket_X10_opens
set_option maxRecDepth 20000 in
theorem ggX10_closed_X10_advance : GoodIn wsX10_closed wsX10_advance := goodIn_r _ [12, 13, 8, 14, 15, 6, 16, 17, 18, 19, 20, 21, 4, 22, 23, 7, 24, 25, 26, 27, 28, 29, 30, 31, 32, 33, 34, 41, 42, 43, 44, 45, 46, 47, 48, 49, 50, 51, 52, 53, 54, 55, 56, 57, 58, 59, 60, 61, 62, 63, 64, 65, 66, 67, 68, 69, 70, 71, 72, 73, 74, 75, 76, 77, 78, 79] rfl (by decide +kernel)
set_option maxRecDepth 20000 in
theorem gX10_closed_X10_advance : GoodIn wsX10_closed (wsV RX10 159 RX10 yX10_advance wsX10_advance) := goodIn_app (goodIn_r _ [9, 10, 11, 4] rfl (by decide +kernel)) ggX10_closed_X10_advance
set_option maxRecDepth 20000 in
theorem ggX10_closed_X10_fail : GoodIn wsX10_closed wsX10_fail := goodIn_r _ [38, 6, 39, 8, 40, 41, 42, 43, 44, 45, 46, 47, 48, 49, 50, 51, 52, 53, 54, 55, 56, 57, 58, 59, 60, 61, 62, 63, 64, 65, 66, 67, 68, 69, 70, 71, 72, 73, 74, 75, 76, 77, 78, 79] rfl (by decide +kernel)
set_option maxRecDepth 20000 in
theorem gX10_closed_X10_fail : GoodIn wsX10_closed (wsV RX10 149 RX10 yX10_fail wsX10_fail) := goodIn_app (goodIn_r _ [35, 36, 37, 4] rfl (by decide +kernel)) ggX10_closed_X10_fail
set_option maxRecDepth 20000 in
theorem ggX10_closed_X10_isSymbol : GoodIn wsX10_closed wsX10_isSymbol := goodIn_r _ [5, 6, 7, 8, 41, 42, 43, 44, 45, 46, 47, 48, 49, 50, 51, 52, 53, 54, 55, 56, 57, 58, 59, 60, 61, 62, 63, 64, 65, 66, 67, 68, 69, 70, 71, 72, 73, 74, 75, 76, 77, 78, 79] rfl (by decide +kernel)
set_option maxRecDepth 20000 in
theorem gX10_closed_X10_isSymbol : GoodIn wsX10_closed (wsV RX10 191 RX10 yX10_isSymbol wsX10_isSymbol) := goodIn_app (goodIn_r _ [1, 2, 3, 4] rfl (by decide +kernel)) ggX10_closed_X10_isSymbol
set_option maxRecDepth 20000 in
theorem ggX10_condition_X10_advance : GoodIn wsX10_condition wsX10_advance := goodIn_r _ [14, 15, 16, 10, 17, 9, 18, 19, 20, 21, 22, 23, 4, 24, 25, 26, 27, 28, 29, 30, 31, 32, 33, 34, 35, 36, 37, 112, 113, 114, 115, 116, 117, 118, 119, 120, 121, 122, 123, 124, 125, 126, 127, 128, 129, 130, 131, 132, 133, 134, 135, 136, 137, 138, 139, 140, 141, 142, 143, 144, 145, 146, 147, 148, 149, 150] rfl (by decide +kernel)
set_option maxRecDepth 20000 in
theorem gX10_condition_X10_advance : GoodIn wsX10_condition (wsV RX10 159 RX10 yX10_advance wsX10_advance) := goodIn_app (goodIn_r _ [11, 12, 13, 4] rfl (by decide +kernel)) ggX10_condition_X10_advance
set_option maxRecDepth 20000 in
theorem ggX10_condition_X10_both : GoodIn wsX10_condition wsX10_both := goodIn_r _ [44, 45, 46, 47, 4, 5, 6, 7, 8, 9, 10, 11, 12, 13, 14, 15, 16, 17, 18, 19, 20, 21, 22, 23, 24, 25, 26, 27, 28, 29, 30, 31, 32, 33, 34, 35, 36, 37, 38, 39, 40, 41, 42, 43, 48, 49, 50, 51, 52, 53, 54, 55, 56, 57, 58, 59, 60, 61, 62, 63, 64, 65, 66, 0, 1, 2, 3, 67, 68, 69, 70, 71, 72, 73, 74, 75, 76, 77, 78, 79, 80, 81, 82, 83, 84, 85, 86, 87, 88, 89, 90, 91, 92, 93, 94, 95, 96, 97, 98, 99, 100, 101, 102, 103, 104, 105, 106, 107, 108, 109, 110, 111, 112, 113, 114, 115, 116, 117, 118, 119, 120, 121, 122, 123, 124, 125, 126, 127, 128, 129, 130, 131, 132, 133, 134, 135, 136, 137, 138, 139, 140, 141, 142, 143, 144, 145, 146, 147, 148, 149, 150] rfl (by decide +kernel)
set_option maxRecDepth 20000 in
theorem gX10_condition_X10_both : GoodIn wsX10_condition (wsV RX10 170 RX10 yX10_both wsX10_both) := goodIn_app (goodIn_r _ [1, 2, 3, 4] rfl (by decide +kernel)) ggX10_condition_X10_both
set_option maxRecDepth 20000 in
theorem ggX10_condition_X10_emit : GoodIn wsX10_condition wsX10_emit := goodIn_r _ [41, 42, 43, 112, 113, 114, 115, 116, 117, 118, 119, 120, 121, 122, 123, 124, 125, 126, 127, 128, 129, 130, 131, 132, 133, 134, 135, 136, 137, 138, 139, 140, 141, 142, 143, 144, 145, 146, 147, 148, 149, 150] rfl (by decide +kernel)
set_option maxRecDepth 20000 in
theorem gX10_condition_X10_emit : GoodIn wsX10_condition (wsV RX10 176 RX10 yX10_emit wsX10_emit) := goodIn_app (goodIn_r _ [38, 39, 40, 4] rfl (by decide +kernel)) ggX10_condition_X10_emit
set_option maxRecDepth 20000 in
theorem ggX10_condition_X10_isKeyword : GoodIn wsX10_condition wsX10_isKeyword := goodIn_r _ [8, 9, 10, 112, 113, 114, 115, 116, 117, 118, 119, 120, 121, 122, 123, 124, 125, 126, 127, 128, 129, 130, 131, 132, 133, 134, 135, 136, 137, 138, 139, 140, 141, 142, 143, 144, 145, 146, 147, 148, 149, 150] rfl (by decide +kernel)
set_option maxRecDepth 20000 in
theorem gX10_condition_X10_isKeyword : GoodIn wsX10_condition (wsV RX10 173 RX10 yX10_isKeyword wsX10_isKeyword) := goodIn_app (goodIn_r _ [5, 6, 7, 4] rfl (by decide +kernel)) ggX10_condition_X10_isKeyword
set_option maxRecDepth 20000 in
theorem ggX10_depositStatement_X10_advance : GoodIn wsX10_depositStatement wsX10_advance := goodIn_r _ [17, 18, 12, 19, 20, 10, 21, 22, 23, 24, 25, 26, 8, 27, 28, 29, 30, 31, 32, 33, 34, 35, 36, 37, 38, 39, 40, 51, 52, 53, 54, 55, 56, 57, 58, 59, 60, 61, 62, 63, 64, 65, 66, 67, 68, 69, 70, 71, 72, 73, 74, 75, 76, 77, 78, 79, 80, 81, 82, 83, 84, 85, 86, 87, 88, 89] rfl (by decide +kernel)
set_option maxRecDepth 20000 in
theorem gX10_depositStatement_X10_advance : GoodIn wsX10_depositStatement (wsV RX10 159 RX10 yX10_advance wsX10_advance) := goodIn_app (goodIn_r _ [14, 15, 16, 8] rfl (by decide +kernel)) ggX10_depositStatement_X10_advance
set_option maxRecDepth 20000 in
theorem ggX10_depositStatement_X10_enter : GoodIn wsX10_depositStatement wsX10_enter := goodIn_r _ [50] rfl (by decide +kernel)
set_option maxRecDepth 20000 in
theorem gX10_depositStatement_X10_enter : GoodIn wsX10_depositStatement (va_wsS RX10 229 yX10_enter wsX10_enter) := goodIn_app (goodIn_r _ [48, 49, 8] rfl (by decide +kernel)) ggX10_depositStatement_X10_enter
set_option maxRecDepth 20000 in
theorem ggX10_depositStatement_X10_fail : GoodIn wsX10_depositStatement wsX10_fail := goodIn_r _ [9, 10, 11, 12, 13, 51, 52, 53, 54, 55, 56, 57, 58, 59, 60, 61, 62, 63, 64, 65, 66, 67, 68, 69, 70, 71, 72, 73, 74, 75, 76, 77, 78, 79, 80, 81, 82, 83, 84, 85, 86, 87, 88, 89] rfl (by decide +kernel)
set_option maxRecDepth 20000 in
theorem gX10_depositStatement_X10_fail : GoodIn wsX10_depositStatement (wsV RX10 149 RX10 yX10_fail wsX10_fail) := goodIn_app (goodIn_r _ [5, 6, 7, 8] rfl (by decide +kernel)) ggX10_depositStatement_X10_fail
set_option maxRecDepth 20000 in
theorem ggX10_depositStatement_X10_number : GoodIn wsX10_depositStatement wsX10_number := goodIn_r _ [44, 10, 23, 4, 5, 6, 7, 8, 9, 11, 12, 13, 45, 46, 47, 14, 15, 16, 17, 18, 19, 20, 21, 22, 24, 25, 26, 27, 28, 29, 30, 31, 32, 33, 34, 35, 36, 37, 38, 39, 40, 51, 52, 53, 54, 55, 56, 57, 58, 59, 60, 61, 62, 63, 64, 65, 66, 67, 68, 69, 70, 71, 72, 73, 74, 75, 76, 77, 78, 79, 80, 81, 82, 83, 84, 85, 86, 87, 88, 89] rfl (by decide +kernel)
set_option maxRecDepth 20000 in
theorem gX10_depositStatement_X10_number : GoodIn wsX10_depositStatement (wsV RX10 163 RX10 yX10_number wsX10_number) := goodIn_app (goodIn_r _ [41, 42, 43, 8] rfl (by decide +kernel)) ggX10_depositStatement_X10_number
set_option maxRecDepth 20000 in
theorem ggX10_fact_X10_bracket : GoodIn wsX10_fact wsX10_bracket := goodIn_r _ [98, 99, 100, 101, 102, 7, 103, 14, 15, 16, 17, 1, 18, 10, 19, 29, 30, 31, 32, 33, 2, 34, 35, 36, 37, 38, 39, 40, 41, 42, 9, 43, 44, 45, 46, 47, 48, 49, 50, 51, 52, 53, 104, 105, 106, 4, 5, 6, 8, 90, 91, 92, 93, 94, 95, 96, 97, 61, 62, 63, 64, 65, 66, 107, 108, 109, 110, 0, 3, 11, 12, 13, 20, 21, 22, 23, 24, 25, 26, 27, 28, 54, 55, 56, 57, 58, 59, 60, 67, 68, 69, 70, 71, 72, 73, 74, 75, 76, 77, 78, 79, 80, 81, 82, 83, 84, 85, 86, 87, 88, 89, 111, 112, 113, 114, 115, 116, 117, 118, 119, 120, 121, 122, 123, 124, 125, 126, 127, 128, 129, 130, 131, 132, 133, 134, 135, 136, 137, 138, 139, 140, 141, 142, 143, 144, 145, 146, 147, 148, 149, 150] rfl (by decide +kernel)
set_option maxRecDepth 20000 in
theorem gX10_fact_X10_bracket : GoodIn wsX10_fact (wsV RX10 203 RX10 yX10_bracket wsX10_bracket) := goodIn_app (goodIn_r _ [11, 12, 13, 7] rfl (by decide +kernel)) ggX10_fact_X10_bracket
set_option maxRecDepth 20000 in
theorem ggX10_fact_X10_doneFact : GoodIn wsX10_fact wsX10_doneFact := goodIn_r _ [83, 84, 72, 34, 85, 29, 30, 31, 7, 32, 33, 10, 2, 1, 35, 36, 37, 38, 39, 40, 41, 42, 9, 43, 44, 45, 46, 47, 48, 49, 50, 51, 52, 53, 73, 74, 75, 76, 14, 15, 16, 17, 18, 19, 77, 78, 79, 61, 62, 63, 64, 65, 66, 112, 113, 114, 115, 116, 117, 118, 119, 120, 121, 122, 123, 124, 125, 126, 127, 128, 129, 130, 131, 132, 133, 134, 135, 136, 137, 138, 139, 140, 141, 142, 143, 144, 145, 146, 147, 148, 149, 150] rfl (by decide +kernel)
set_option maxRecDepth 20000 in
theorem gX10_fact_X10_doneFact : GoodIn wsX10_fact (wsV RX10 215 RX10 yX10_doneFact wsX10_doneFact) := goodIn_app (goodIn_r _ [80, 81, 82, 7] rfl (by decide +kernel)) ggX10_fact_X10_doneFact
set_option maxRecDepth 20000 in
theorem ggX10_fact_X10_fail : GoodIn wsX10_fact wsX10_fail := goodIn_r _ [17, 1, 18, 10, 19, 112, 113, 114, 115, 116, 117, 118, 119, 120, 121, 122, 123, 124, 125, 126, 127, 128, 129, 130, 131, 132, 133, 134, 135, 136, 137, 138, 139, 140, 141, 142, 143, 144, 145, 146, 147, 148, 149, 150] rfl (by decide +kernel)
set_option maxRecDepth 20000 in
theorem gX10_fact_X10_fail : GoodIn wsX10_fact (wsV RX10 149 RX10 yX10_fail wsX10_fail) := goodIn_app (goodIn_r _ [14, 15, 16, 7] rfl (by decide +kernel)) ggX10_fact_X10_fail
set_option maxRecDepth 20000 in
theorem ggX10_fact_X10_isSymbol : GoodIn wsX10_fact wsX10_isSymbol := goodIn_r _ [8, 1, 9, 10, 112, 113, 114, 115, 116, 117, 118, 119, 120, 121, 122, 123, 124, 125, 126, 127, 128, 129, 130, 131, 132, 133, 134, 135, 136, 137, 138, 139, 140, 141, 142, 143, 144, 145, 146, 147, 148, 149, 150] rfl (by decide +kernel)
set_option maxRecDepth 20000 in
theorem gX10_fact_X10_isSymbol : GoodIn wsX10_fact (wsV RX10 191 RX10 yX10_isSymbol wsX10_isSymbol) := goodIn_app (goodIn_r _ [4, 5, 6, 7] rfl (by decide +kernel)) ggX10_fact_X10_isSymbol
set_option maxRecDepth 20000 in
theorem ggX10_fact_X10_notFact : GoodIn wsX10_fact wsX10_notFact := goodIn_r _ [111, 99, 100, 101, 102, 7, 103, 14, 15, 16, 17, 1, 18, 10, 19, 29, 30, 31, 32, 33, 2, 34, 35, 36, 37, 38, 39, 40, 41, 42, 9, 43, 44, 45, 46, 47, 48, 49, 50, 51, 52, 53, 91, 92, 93, 61, 62, 63, 64, 65, 66, 90, 94, 95, 96, 97, 98, 104, 105, 106, 4, 5, 6, 8, 107, 108, 109, 110, 0, 3, 11, 12, 13, 20, 21, 22, 23, 24, 25, 26, 27, 28, 54, 55, 56, 57, 58, 59, 60, 67, 68, 69, 70, 71, 72, 73, 74, 75, 76, 77, 78, 79, 80, 81, 82, 83, 84, 85, 86, 87, 88, 89, 112, 113, 114, 115, 116, 117, 118, 119, 120, 121, 122, 123, 124, 125, 126, 127, 128, 129, 130, 131, 132, 133, 134, 135, 136, 137, 138, 139, 140, 141, 142, 143, 144, 145, 146, 147, 148, 149, 150] rfl (by decide +kernel)
set_option maxRecDepth 20000 in
theorem gX10_fact_X10_notFact : GoodIn wsX10_fact (wsV RX10 206 RX10 yX10_notFact wsX10_notFact) := goodIn_app (goodIn_r _ [20, 21, 22, 7] rfl (by decide +kernel)) ggX10_fact_X10_notFact
set_option maxRecDepth 20000 in
theorem ggX10_fact_X10_numberFact : GoodIn wsX10_fact wsX10_numberFact := goodIn_r _ [26, 27, 28, 29, 30, 31, 7, 32, 33, 10, 2, 34, 1, 35, 36, 37, 38, 39, 40, 41, 42, 9, 43, 44, 45, 46, 47, 48, 49, 50, 51, 52, 53, 54, 55, 56, 57, 14, 15, 16, 17, 18, 19, 58, 59, 60, 61, 62, 63, 64, 65, 66, 112, 113, 114, 115, 116, 117, 118, 119, 120, 121, 122, 123, 124, 125, 126, 127, 128, 129, 130, 131, 132, 133, 134, 135, 136, 137, 138, 139, 140, 141, 142, 143, 144, 145, 146, 147, 148, 149, 150] rfl (by decide +kernel)
set_option maxRecDepth 20000 in
theorem gX10_fact_X10_numberFact : GoodIn wsX10_fact (wsV RX10 209 RX10 yX10_numberFact wsX10_numberFact) := goodIn_app (goodIn_r _ [23, 24, 25, 7] rfl (by decide +kernel)) ggX10_fact_X10_numberFact
set_option maxRecDepth 20000 in
theorem ggX10_fact_X10_plainFact : GoodIn wsX10_fact wsX10_plainFact := goodIn_r _ [89, 27, 61, 62, 63, 7, 64, 65, 66, 29, 30, 31, 32, 33, 10, 2, 34, 1, 35, 36, 37, 38, 39, 40, 41, 42, 9, 43, 44, 45, 46, 47, 48, 49, 50, 51, 52, 53, 112, 113, 114, 115, 116, 117, 118, 119, 120, 121, 122, 123, 124, 125, 126, 127, 128, 129, 130, 131, 132, 133, 134, 135, 136, 137, 138, 139, 140, 141, 142, 143, 144, 145, 146, 147, 148, 149, 150] rfl (by decide +kernel)
set_option maxRecDepth 20000 in
theorem gX10_fact_X10_plainFact : GoodIn wsX10_fact (wsV RX10 219 RX10 yX10_plainFact wsX10_plainFact) := goodIn_app (goodIn_r _ [86, 87, 88, 7] rfl (by decide +kernel)) ggX10_fact_X10_plainFact
set_option maxRecDepth 20000 in
theorem ggX10_fact_X10_proofFact : GoodIn wsX10_fact wsX10_proofFact := goodIn_r _ [70, 71, 72, 34, 27, 29, 30, 31, 7, 32, 33, 10, 2, 1, 35, 36, 37, 38, 39, 40, 41, 42, 9, 43, 44, 45, 46, 47, 48, 49, 50, 51, 52, 53, 73, 74, 75, 76, 14, 15, 16, 17, 18, 19, 77, 78, 79, 61, 62, 63, 64, 65, 66, 112, 113, 114, 115, 116, 117, 118, 119, 120, 121, 122, 123, 124, 125, 126, 127, 128, 129, 130, 131, 132, 133, 134, 135, 136, 137, 138, 139, 140, 141, 142, 143, 144, 145, 146, 147, 148, 149, 150] rfl (by decide +kernel)
set_option maxRecDepth 20000 in
theorem gX10_fact_X10_proofFact : GoodIn wsX10_fact (wsV RX10 212 RX10 yX10_proofFact wsX10_proofFact) := goodIn_app (goodIn_r _ [67, 68, 69, 7] rfl (by decide +kernel)) ggX10_fact_X10_proofFact
set_option maxRecDepth 20000 in
theorem ggX10_feed_X10_append : GoodIn wsX10_feed wsX10_append := goodIn_r _ [7, 8, 2, 9, 10, 11, 12, 13, 14, 15, 16, 17, 18, 19, 20, 21, 22, 23, 24, 25, 26, 27, 28, 29, 30, 31, 32, 33, 34, 35, 36, 37, 38, 39, 40, 41, 42, 43, 44, 45, 46, 47] rfl (by decide +kernel)
set_option maxRecDepth 20000 in
theorem gX10_feed_X10_append : GoodIn wsX10_feed (wsV RX10 93 RX10 yX10_append wsX10_append) := goodIn_app (goodIn_r _ [3, 4, 5, 6] rfl (by decide +kernel)) ggX10_feed_X10_append
set_option maxRecDepth 20000 in
theorem ggX10_load_X10_advance : GoodIn wsX10_load wsX10_advance := goodIn_r _ [25, 4, 26, 27, 28, 11, 29, 30, 31, 32, 33, 34, 17, 35, 3, 36, 37, 38, 39, 40, 41, 42, 43, 44, 45, 46, 47, 167, 168, 169, 170, 171, 172, 173, 174, 175, 176, 177, 178, 179, 180, 181, 182, 183, 184, 185, 186, 187, 188, 189, 190, 191, 192, 193, 194, 195, 196, 197, 198, 199, 200, 201, 202, 203, 204, 205] rfl (by decide +kernel)
set_option maxRecDepth 20000 in
theorem gX10_load_X10_advance : GoodIn wsX10_load (wsV RX10 159 RX10 yX10_advance wsX10_advance) := goodIn_app (goodIn_r _ [22, 23, 24, 17] rfl (by decide +kernel)) ggX10_load_X10_advance
set_option maxRecDepth 20000 in
theorem ggX10_load_X10_between : GoodIn wsX10_load wsX10_between := goodIn_r _ [18] rfl (by decide +kernel)
set_option maxRecDepth 20000 in
theorem gX10_load_X10_between : GoodIn wsX10_load (va_wsS RX10 152 yX10_between wsX10_between) := goodIn_app (goodIn_r _ [15, 16, 17] rfl (by decide +kernel)) ggX10_load_X10_between
set_option maxRecDepth 20000 in
theorem ggX10_load_X10_closed : GoodIn wsX10_load wsX10_closed := goodIn_r _ [153, 119, 120, 121, 17, 122, 11, 36, 26, 22, 23, 24, 25, 4, 27, 28, 29, 30, 31, 32, 33, 34, 35, 3, 37, 38, 39, 40, 41, 42, 43, 44, 45, 46, 47, 52, 53, 54, 55, 5, 6, 167, 168, 169, 170, 171, 172, 173, 174, 175, 176, 177, 178, 179, 180, 181, 182, 183, 184, 185, 186, 187, 188, 189, 190, 191, 192, 193, 194, 195, 196, 197, 198, 199, 200, 201, 202, 203, 204, 205] rfl (by decide +kernel)
set_option maxRecDepth 20000 in
theorem gX10_load_X10_closed : GoodIn wsX10_load (wsV RX10 252 RX10 yX10_closed wsX10_closed) := goodIn_app (goodIn_r _ [150, 151, 152, 17] rfl (by decide +kernel)) ggX10_load_X10_closed
set_option maxRecDepth 20000 in
theorem ggX10_load_X10_reset : GoodIn wsX10_load wsX10_reset := goodIn_r _ [21] rfl (by decide +kernel)
set_option maxRecDepth 20000 in
theorem gX10_load_X10_reset : GoodIn wsX10_load (va_wsS RX10 76 yX10_reset wsX10_reset) := goodIn_app (goodIn_r _ [19, 20, 17] rfl (by decide +kernel)) ggX10_load_X10_reset
set_option maxRecDepth 20000 in
theorem ggX10_load_X10_statement : GoodIn wsX10_load wsX10_statement := goodIn_r _ [51, 11, 27, 52, 53, 54, 17, 55, 5, 26, 6, 56, 57, 58, 59, 31, 22, 23, 24, 25, 4, 28, 29, 30, 32, 33, 34, 35, 3, 36, 37, 38, 39, 40, 41, 42, 43, 44, 45, 46, 47, 60, 61, 62, 63, 10, 64, 65, 66, 67, 68, 15, 16, 18, 69, 70, 71, 72, 73, 74, 75, 76, 8, 77, 78, 79, 80, 81, 82, 83, 84, 85, 86, 9, 87, 88, 89, 90, 91, 92, 93, 94, 95, 96, 97, 98, 99, 100, 101, 102, 103, 104, 105, 106, 107, 108, 109, 110, 111, 112, 113, 114, 7, 115, 116, 117, 118, 119, 120, 121, 122, 123, 124, 125, 126, 127, 128, 129, 130, 131, 132, 133, 134, 135, 136, 137, 138, 139, 140, 141, 142, 143, 144, 145, 146, 147, 148, 149, 167, 168, 169, 170, 171, 172, 173, 174, 175, 176, 177, 178, 179, 180, 181, 182, 183, 184, 185, 186, 187, 188, 189, 190, 191, 192, 193, 194, 195, 196, 197, 198, 199, 200, 201, 202, 203, 204, 205] rfl (by decide +kernel)
set_option maxRecDepth 20000 in
theorem gX10_load_X10_statement : GoodIn wsX10_load (wsV RX10 249 RX10 yX10_statement wsX10_statement) := goodIn_app (goodIn_r _ [48, 49, 50, 17] rfl (by decide +kernel)) ggX10_load_X10_statement
set_option maxRecDepth 20000 in
theorem ggX10_load_X10_takeOver : GoodIn wsX10_load wsX10_takeOver := goodIn_r _ [157, 10, 14, 158, 85, 159, 139, 160, 86, 9, 161, 109, 162, 163, 164, 165, 17, 166, 167, 168, 169, 170, 171, 172, 173, 174, 175, 176, 177, 178, 179, 180, 181, 182, 183, 184, 185, 186, 187, 188, 189, 190, 191, 192, 193, 194, 195, 196, 197, 198, 199, 200, 201, 202, 203, 204, 205] rfl (by decide +kernel)
set_option maxRecDepth 20000 in
theorem gX10_load_X10_takeOver : GoodIn wsX10_load (wsV RX10 258 RX10 yX10_takeOver wsX10_takeOver) := goodIn_app (goodIn_r _ [154, 155, 156, 17] rfl (by decide +kernel)) ggX10_load_X10_takeOver
set_option maxRecDepth 20000 in
theorem ggX10_milestoneStatement_X10_advance : GoodIn wsX10_milestoneStatement wsX10_advance := goodIn_r _ [19, 20, 14, 21, 3, 12, 22, 23, 24, 25, 26, 27, 10, 28, 29, 30, 31, 32, 33, 34, 35, 36, 37, 38, 39, 40, 41, 118, 119, 120, 121, 122, 123, 124, 125, 126, 127, 128, 129, 130, 131, 132, 133, 134, 135, 136, 137, 138, 139, 140, 141, 142, 143, 144, 145, 146, 147, 148, 149, 150, 151, 152, 153, 154, 155, 156] rfl (by decide +kernel)
set_option maxRecDepth 20000 in
theorem gX10_milestoneStatement_X10_advance : GoodIn wsX10_milestoneStatement (wsV RX10 159 RX10 yX10_advance wsX10_advance) := goodIn_app (goodIn_r _ [16, 17, 18, 10] rfl (by decide +kernel)) ggX10_milestoneStatement_X10_advance
set_option maxRecDepth 20000 in
theorem ggX10_milestoneStatement_X10_condition : GoodIn wsX10_milestoneStatement wsX10_condition := goodIn_r _ [68, 69, 70, 71, 10, 61, 62, 63, 64, 12, 21, 16, 17, 18, 19, 20, 14, 3, 22, 23, 24, 25, 26, 27, 28, 29, 30, 31, 32, 33, 34, 35, 36, 37, 38, 39, 40, 41, 72, 73, 74, 75, 76, 6, 77, 78, 79, 80, 81, 82, 83, 84, 85, 86, 7, 8, 9, 11, 13, 15, 65, 66, 67, 87, 88, 89, 90, 91, 4, 92, 93, 94, 95, 96, 97, 98, 99, 100, 101, 102, 53, 54, 55, 56, 57, 58, 59, 60, 103, 104, 105, 106, 107, 1, 42, 43, 44, 45, 46, 47, 48, 108, 109, 110, 111, 2, 112, 113, 114, 115, 116, 117, 118, 119, 120, 121, 122, 123, 124, 125, 126, 127, 128, 129, 130, 131, 132, 133, 134, 135, 136, 137, 138, 139, 140, 141, 142, 143, 144, 145, 146, 147, 148, 149, 150, 151, 152, 153, 154, 155, 156] rfl (by decide +kernel)
set_option maxRecDepth 20000 in
theorem gX10_milestoneStatement_X10_condition : GoodIn wsX10_milestoneStatement (wsV RX10 188 RX10 yX10_condition wsX10_condition) := goodIn_app (goodIn_r _ [65, 66, 67, 10] rfl (by decide +kernel)) ggX10_milestoneStatement_X10_condition
set_option maxRecDepth 20000 in
theorem ggX10_milestoneStatement_X10_fail : GoodIn wsX10_milestoneStatement wsX10_fail := goodIn_r _ [11, 12, 13, 14, 15, 118, 119, 120, 121, 122, 123, 124, 125, 126, 127, 128, 129, 130, 131, 132, 133, 134, 135, 136, 137, 138, 139, 140, 141, 142, 143, 144, 145, 146, 147, 148, 149, 150, 151, 152, 153, 154, 155, 156] rfl (by decide +kernel)
set_option maxRecDepth 20000 in
theorem gX10_milestoneStatement_X10_fail : GoodIn wsX10_milestoneStatement (wsV RX10 149 RX10 yX10_fail wsX10_fail) := goodIn_app (goodIn_r _ [7, 8, 9, 10] rfl (by decide +kernel)) ggX10_milestoneStatement_X10_fail
set_option maxRecDepth 20000 in
theorem ggX10_milestoneStatement_X10_find : GoodIn wsX10_milestoneStatement wsX10_find := goodIn_r _ [48] rfl (by decide +kernel)
set_option maxRecDepth 20000 in
theorem gX10_milestoneStatement_X10_find : GoodIn wsX10_milestoneStatement (va_wsS RX10 197 yX10_find wsX10_find) := goodIn_app (goodIn_r _ [46, 47, 10] rfl (by decide +kernel)) ggX10_milestoneStatement_X10_find
set_option maxRecDepth 20000 in
theorem ggX10_milestoneStatement_X10_isKeyword : GoodIn wsX10_milestoneStatement wsX10_isKeyword := goodIn_r _ [64, 12, 21, 118, 119, 120, 121, 122, 123, 124, 125, 126, 127, 128, 129, 130, 131, 132, 133, 134, 135, 136, 137, 138, 139, 140, 141, 142, 143, 144, 145, 146, 147, 148, 149, 150, 151, 152, 153, 154, 155, 156] rfl (by decide +kernel)
set_option maxRecDepth 20000 in
theorem gX10_milestoneStatement_X10_isKeyword : GoodIn wsX10_milestoneStatement (wsV RX10 173 RX10 yX10_isKeyword wsX10_isKeyword) := goodIn_app (goodIn_r _ [61, 62, 63, 10] rfl (by decide +kernel)) ggX10_milestoneStatement_X10_isKeyword
set_option maxRecDepth 20000 in
theorem ggX10_milestoneStatement_X10_isName : GoodIn wsX10_milestoneStatement wsX10_isName := goodIn_r _ [45, 12, 21, 118, 119, 120, 121, 122, 123, 124, 125, 126, 127, 128, 129, 130, 131, 132, 133, 134, 135, 136, 137, 138, 139, 140, 141, 142, 143, 144, 145, 146, 147, 148, 149, 150, 151, 152, 153, 154, 155, 156] rfl (by decide +kernel)
set_option maxRecDepth 20000 in
theorem gX10_milestoneStatement_X10_isName : GoodIn wsX10_milestoneStatement (wsV RX10 194 RX10 yX10_isName wsX10_isName) := goodIn_app (goodIn_r _ [42, 43, 44, 10] rfl (by decide +kernel)) ggX10_milestoneStatement_X10_isName
set_option maxRecDepth 20000 in
theorem ggX10_milestoneStatement_X10_numberTo : GoodIn wsX10_milestoneStatement wsX10_numberTo := goodIn_r _ [52, 1, 53, 54, 55, 56, 10, 57, 12, 24, 7, 8, 9, 11, 13, 14, 15, 58, 59, 60, 16, 17, 18, 19, 20, 21, 3, 22, 23, 25, 26, 27, 28, 29, 30, 31, 32, 33, 34, 35, 36, 37, 38, 39, 40, 41, 118, 119, 120, 121, 122, 123, 124, 125, 126, 127, 128, 129, 130, 131, 132, 133, 134, 135, 136, 137, 138, 139, 140, 141, 142, 143, 144, 145, 146, 147, 148, 149, 150, 151, 152, 153, 154, 155, 156] rfl (by decide +kernel)
set_option maxRecDepth 20000 in
theorem gX10_milestoneStatement_X10_numberTo : GoodIn wsX10_milestoneStatement (wsV RX10 222 RX10 yX10_numberTo wsX10_numberTo) := goodIn_app (goodIn_r _ [49, 50, 51, 10] rfl (by decide +kernel)) ggX10_milestoneStatement_X10_numberTo
set_option maxRecDepth 20000 in
theorem ggX10_notFact_X10_emit : GoodIn wsX10_notFact wsX10_emit := goodIn_r _ [48, 49, 50, 112, 113, 114, 115, 116, 117, 118, 119, 120, 121, 122, 123, 124, 125, 126, 127, 128, 129, 130, 131, 132, 133, 134, 135, 136, 137, 138, 139, 140, 141, 142, 143, 144, 145, 146, 147, 148, 149, 150] rfl (by decide +kernel)
set_option maxRecDepth 20000 in
theorem gX10_notFact_X10_emit : GoodIn wsX10_notFact (wsV RX10 176 RX10 yX10_emit wsX10_emit) := goodIn_app (goodIn_r _ [45, 46, 47, 5] rfl (by decide +kernel)) ggX10_notFact_X10_emit
set_option maxRecDepth 20000 in
theorem ggX10_notFact_X10_fact : GoodIn wsX10_notFact wsX10_fact := goodIn_r _ [68, 11, 20, 69, 60, 61, 62, 5, 63, 30, 13, 70, 71, 72, 7, 8, 9, 10, 12, 14, 73, 74, 75, 76, 77, 78, 79, 80, 81, 15, 16, 17, 18, 19, 21, 22, 23, 24, 25, 26, 27, 28, 29, 31, 32, 33, 34, 35, 36, 37, 38, 39, 40, 41, 82, 83, 84, 85, 86, 87, 88, 45, 46, 47, 48, 49, 50, 89, 90, 91, 92, 93, 94, 95, 96, 97, 98, 99, 100, 101, 102, 103, 104, 105, 106, 107, 108, 109, 110, 111, 51, 42, 43, 44, 52, 53, 54, 55, 56, 1, 2, 3, 4, 6, 57, 58, 59, 64, 65, 66, 67, 0, 112, 113, 114, 115, 116, 117, 118, 119, 120, 121, 122, 123, 124, 125, 126, 127, 128, 129, 130, 131, 132, 133, 134, 135, 136, 137, 138, 139, 140, 141, 142, 143, 144, 145, 146, 147, 148, 149, 150] rfl (by decide +kernel)
set_option maxRecDepth 20000 in
theorem gX10_notFact_X10_fact : GoodIn wsX10_notFact (wsV RX10 179 RX10 yX10_fact wsX10_fact) := goodIn_app (goodIn_r _ [42, 43, 44, 5] rfl (by decide +kernel)) ggX10_notFact_X10_fact
set_option maxRecDepth 20000 in
theorem ggX10_notFact_X10_opens : GoodIn wsX10_notFact wsX10_opens := goodIn_r _ [6, 1, 7, 8, 9, 5, 10, 11, 12, 13, 14, 15, 16, 17, 18, 19, 20, 21, 22, 23, 24, 25, 26, 27, 28, 29, 30, 31, 32, 33, 34, 35, 36, 37, 38, 39, 40, 41, 112, 113, 114, 115, 116, 117, 118, 119, 120, 121, 122, 123, 124, 125, 126, 127, 128, 129, 130, 131, 132, 133, 134, 135, 136, 137, 138, 139, 140, 141, 142, 143, 144, 145, 146, 147, 148, 149, 150] rfl (by decide +kernel)
set_option maxRecDepth 20000 in
theorem gX10_notFact_X10_opens : GoodIn wsX10_notFact (wsV RX10 185 RX10 yX10_opens wsX10_opens) := goodIn_app (goodIn_r _ [2, 3, 4, 5] rfl (by decide +kernel)) ggX10_notFact_X10_opens
set_option maxRecDepth 20000 in
theorem ggX10_numberFact_X10_advance : GoodIn wsX10_numberFact wsX10_advance := goodIn_r _ [7, 8, 9, 10, 11, 12, 13, 14, 15, 16, 17, 18, 6, 19, 20, 21, 22, 23, 24, 25, 26, 27, 28, 29, 30, 31, 32, 52, 53, 54, 55, 56, 57, 58, 59, 60, 61, 62, 63, 64, 65, 66, 67, 68, 69, 70, 71, 72, 73, 74, 75, 76, 77, 78, 79, 80, 81, 82, 83, 84, 85, 86, 87, 88, 89, 90] rfl (by decide +kernel)
set_option maxRecDepth 20000 in
theorem gX10_numberFact_X10_advance : GoodIn wsX10_numberFact (wsV RX10 159 RX10 yX10_advance wsX10_advance) := goodIn_app (goodIn_r _ [3, 4, 5, 6] rfl (by decide +kernel)) ggX10_numberFact_X10_advance
set_option maxRecDepth 20000 in
theorem ggX10_numberFact_X10_emit : GoodIn wsX10_numberFact wsX10_emit := goodIn_r _ [49, 50, 51, 52, 53, 54, 55, 56, 57, 58, 59, 60, 61, 62, 63, 64, 65, 66, 67, 68, 69, 70, 71, 72, 73, 74, 75, 76, 77, 78, 79, 80, 81, 82, 83, 84, 85, 86, 87, 88, 89, 90] rfl (by decide +kernel)
set_option maxRecDepth 20000 in
theorem gX10_numberFact_X10_emit : GoodIn wsX10_numberFact (wsV RX10 176 RX10 yX10_emit wsX10_emit) := goodIn_app (goodIn_r _ [46, 47, 48, 6] rfl (by decide +kernel)) ggX10_numberFact_X10_emit
set_option maxRecDepth 20000 in
theorem ggX10_numberFact_X10_number : GoodIn wsX10_numberFact wsX10_number := goodIn_r _ [36, 12, 15, 2, 37, 38, 39, 6, 40, 41, 9, 42, 43, 44, 45, 3, 4, 5, 7, 8, 10, 11, 13, 14, 16, 17, 18, 19, 20, 21, 22, 23, 24, 25, 26, 27, 28, 29, 30, 31, 32, 52, 53, 54, 55, 56, 57, 58, 59, 60, 61, 62, 63, 64, 65, 66, 67, 68, 69, 70, 71, 72, 73, 74, 75, 76, 77, 78, 79, 80, 81, 82, 83, 84, 85, 86, 87, 88, 89, 90] rfl (by decide +kernel)
set_option maxRecDepth 20000 in
theorem gX10_numberFact_X10_number : GoodIn wsX10_numberFact (wsV RX10 163 RX10 yX10_number wsX10_number) := goodIn_app (goodIn_r _ [33, 34, 35, 6] rfl (by decide +kernel)) ggX10_numberFact_X10_number
set_option maxRecDepth 20000 in
theorem ggX10_numberTo_X10_number : GoodIn wsX10_numberTo wsX10_number := goodIn_r _ [7, 8, 9, 2, 10, 11, 12, 6, 13, 14, 15, 16, 17, 18, 19, 20, 21, 22, 23, 24, 25, 26, 27, 28, 29, 30, 31, 32, 33, 34, 35, 36, 37, 38, 39, 40, 41, 42, 43, 44, 45, 46, 47, 48, 49, 50, 51, 52, 53, 54, 55, 56, 57, 58, 59, 60, 61, 62, 63, 64, 65, 66, 67, 68, 69, 70, 71, 72, 73, 74, 75, 76, 77, 78, 79, 80, 81, 82, 83, 84] rfl (by decide +kernel)
set_option maxRecDepth 20000 in
theorem gX10_numberTo_X10_number : GoodIn wsX10_numberTo (wsV RX10 163 RX10 yX10_number wsX10_number) := goodIn_app (goodIn_r _ [3, 4, 5, 6] rfl (by decide +kernel)) ggX10_numberTo_X10_number
set_option maxRecDepth 20000 in
theorem ggX10_number_X10_advance : GoodIn wsX10_number wsX10_advance := goodIn_r _ [18, 19, 10, 20, 21, 1, 22, 23, 2, 24, 25, 26, 7, 27, 28, 29, 30, 31, 32, 33, 34, 35, 36, 37, 38, 39, 40, 41, 42, 43, 44, 45, 46, 47, 48, 49, 50, 51, 52, 53, 54, 55, 56, 57, 58, 59, 60, 61, 62, 63, 64, 65, 66, 67, 68, 69, 70, 71, 72, 73, 74, 75, 76, 77, 78, 79] rfl (by decide +kernel)
set_option maxRecDepth 20000 in
theorem gX10_number_X10_advance : GoodIn wsX10_number (wsV RX10 159 RX10 yX10_advance wsX10_advance) := goodIn_app (goodIn_r _ [15, 16, 17, 7] rfl (by decide +kernel)) ggX10_number_X10_advance
set_option maxRecDepth 20000 in
theorem ggX10_number_X10_between : GoodIn wsX10_number wsX10_between := goodIn_r _ [14] rfl (by decide +kernel)
set_option maxRecDepth 20000 in
theorem gX10_number_X10_between : GoodIn wsX10_number (va_wsS RX10 152 yX10_between wsX10_between) := goodIn_app (goodIn_r _ [12, 13, 7] rfl (by decide +kernel)) ggX10_number_X10_between
set_option maxRecDepth 20000 in
theorem ggX10_number_X10_fail : GoodIn wsX10_number wsX10_fail := goodIn_r _ [8, 1, 9, 10, 11, 41, 42, 43, 44, 45, 46, 47, 48, 49, 50, 51, 52, 53, 54, 55, 56, 57, 58, 59, 60, 61, 62, 63, 64, 65, 66, 67, 68, 69, 70, 71, 72, 73, 74, 75, 76, 77, 78, 79] rfl (by decide +kernel)
set_option maxRecDepth 20000 in
theorem gX10_number_X10_fail : GoodIn wsX10_number (wsV RX10 149 RX10 yX10_fail wsX10_fail) := goodIn_app (goodIn_r _ [4, 5, 6, 7] rfl (by decide +kernel)) ggX10_number_X10_fail
set_option maxRecDepth 20000 in
theorem ggX10_rate_X10_advance : GoodIn wsX10_rate wsX10_advance := goodIn_r _ [7, 8, 9, 10, 11, 1, 12, 13, 2, 14, 15, 16, 6, 17, 18, 19, 20, 21, 22, 23, 24, 25, 26, 27, 28, 29, 30, 50, 51, 52, 53, 54, 55, 56, 57, 58, 59, 60, 61, 62, 63, 64, 65, 66, 67, 68, 69, 70, 71, 72, 73, 74, 75, 76, 77, 78, 79, 80, 81, 82, 83, 84, 85, 86, 87, 88] rfl (by decide +kernel)
set_option maxRecDepth 20000 in
theorem gX10_rate_X10_advance : GoodIn wsX10_rate (wsV RX10 159 RX10 yX10_advance wsX10_advance) := goodIn_app (goodIn_r _ [3, 4, 5, 6] rfl (by decide +kernel)) ggX10_rate_X10_advance
set_option maxRecDepth 20000 in
theorem ggX10_rate_X10_fail : GoodIn wsX10_rate wsX10_fail := goodIn_r _ [44, 1, 45, 9, 46, 50, 51, 52, 53, 54, 55, 56, 57, 58, 59, 60, 61, 62, 63, 64, 65, 66, 67, 68, 69, 70, 71, 72, 73, 74, 75, 76, 77, 78, 79, 80, 81, 82, 83, 84, 85, 86, 87, 88] rfl (by decide +kernel)
set_option maxRecDepth 20000 in
theorem gX10_rate_X10_fail : GoodIn wsX10_rate (wsV RX10 149 RX10 yX10_fail wsX10_fail) := goodIn_app (goodIn_r _ [41, 42, 43, 6] rfl (by decide +kernel)) ggX10_rate_X10_fail
set_option maxRecDepth 20000 in
theorem ggX10_rate_X10_numberTo : GoodIn wsX10_rate wsX10_numberTo := goodIn_r _ [34, 35, 36, 37, 38, 39, 6, 40, 1, 2, 41, 42, 43, 44, 45, 9, 46, 47, 48, 49, 3, 4, 5, 7, 8, 10, 11, 12, 13, 14, 15, 16, 17, 18, 19, 20, 21, 22, 23, 24, 25, 26, 27, 28, 29, 30, 50, 51, 52, 53, 54, 55, 56, 57, 58, 59, 60, 61, 62, 63, 64, 65, 66, 67, 68, 69, 70, 71, 72, 73, 74, 75, 76, 77, 78, 79, 80, 81, 82, 83, 84, 85, 86, 87, 88] rfl (by decide +kernel)
set_option maxRecDepth 20000 in
theorem gX10_rate_X10_numberTo : GoodIn wsX10_rate (wsV RX10 222 RX10 yX10_numberTo wsX10_numberTo) := goodIn_app (goodIn_r _ [31, 32, 33, 6] rfl (by decide +kernel)) ggX10_rate_X10_numberTo
set_option maxRecDepth 20000 in
theorem ggX10_setting_X10_advance : GoodIn wsX10_setting wsX10_advance := goodIn_r _ [5, 6, 7, 8, 9, 10, 11, 12, 13, 14, 15, 16, 4, 17, 18, 19, 20, 21, 22, 23, 24, 25, 26, 27, 28, 29, 30, 50, 51, 52, 53, 54, 55, 56, 57, 58, 59, 60, 61, 62, 63, 64, 65, 66, 67, 68, 69, 70, 71, 72, 73, 74, 75, 76, 77, 78, 79, 80, 81, 82, 83, 84, 85, 86, 87, 88] rfl (by decide +kernel)
set_option maxRecDepth 20000 in
theorem gX10_setting_X10_advance : GoodIn wsX10_setting (wsV RX10 159 RX10 yX10_advance wsX10_advance) := goodIn_app (goodIn_r _ [1, 2, 3, 4] rfl (by decide +kernel)) ggX10_setting_X10_advance
set_option maxRecDepth 20000 in
theorem ggX10_setting_X10_numberTo : GoodIn wsX10_setting wsX10_numberTo := goodIn_r _ [34, 35, 36, 37, 38, 39, 4, 40, 10, 13, 41, 42, 43, 44, 45, 7, 46, 47, 48, 49, 1, 2, 3, 5, 6, 8, 9, 11, 12, 14, 15, 16, 17, 18, 19, 20, 21, 22, 23, 24, 25, 26, 27, 28, 29, 30, 50, 51, 52, 53, 54, 55, 56, 57, 58, 59, 60, 61, 62, 63, 64, 65, 66, 67, 68, 69, 70, 71, 72, 73, 74, 75, 76, 77, 78, 79, 80, 81, 82, 83, 84, 85, 86, 87, 88] rfl (by decide +kernel)
set_option maxRecDepth 20000 in
theorem gX10_setting_X10_numberTo : GoodIn wsX10_setting (wsV RX10 222 RX10 yX10_numberTo wsX10_numberTo) := goodIn_app (goodIn_r _ [31, 32, 33, 4] rfl (by decide +kernel)) ggX10_setting_X10_numberTo
set_option maxRecDepth 20000 in
theorem ggX10_statement_X10_depositStatement : GoodIn wsX10_statement wsX10_depositStatement := goodIn_r _ [61, 62, 63, 45, 46, 3, 4, 5, 6, 7, 1, 8, 9, 10, 16, 17, 18, 19, 20, 2, 21, 22, 23, 15, 24, 25, 26, 27, 28, 29, 30, 31, 32, 33, 34, 35, 36, 37, 38, 39, 40, 47, 48, 49, 50, 51, 52, 53, 64, 65, 66, 138, 139, 140, 141, 142, 143, 144, 145, 146, 147, 148, 149, 150, 151, 152, 153, 154, 155, 156, 157, 158, 159, 160, 161, 162, 163, 164, 165, 166, 167, 168, 169, 170, 171, 172, 173, 174, 175, 176] rfl (by decide +kernel)
set_option maxRecDepth 20000 in
theorem gX10_statement_X10_depositStatement : GoodIn wsX10_statement (wsV RX10 239 RX10 yX10_depositStatement wsX10_depositStatement) := goodIn_app (goodIn_r _ [58, 59, 60, 6] rfl (by decide +kernel)) ggX10_statement_X10_depositStatement
set_option maxRecDepth 20000 in
theorem ggX10_statement_X10_fail : GoodIn wsX10_statement wsX10_fail := goodIn_r _ [7, 1, 8, 9, 10, 138, 139, 140, 141, 142, 143, 144, 145, 146, 147, 148, 149, 150, 151, 152, 153, 154, 155, 156, 157, 158, 159, 160, 161, 162, 163, 164, 165, 166, 167, 168, 169, 170, 171, 172, 173, 174, 175, 176] rfl (by decide +kernel)
set_option maxRecDepth 20000 in
theorem gX10_statement_X10_fail : GoodIn wsX10_statement (wsV RX10 149 RX10 yX10_fail wsX10_fail) := goodIn_app (goodIn_r _ [3, 4, 5, 6] rfl (by decide +kernel)) ggX10_statement_X10_fail
set_option maxRecDepth 20000 in
theorem ggX10_statement_X10_milestoneStatement : GoodIn wsX10_statement wsX10_milestoneStatement := goodIn_r _ [70, 45, 71, 21, 63, 72, 73, 3, 4, 5, 6, 7, 1, 8, 9, 10, 16, 17, 18, 19, 20, 2, 22, 23, 15, 24, 25, 26, 27, 28, 29, 30, 31, 32, 33, 34, 35, 36, 37, 38, 39, 40, 74, 75, 76, 77, 78, 79, 80, 41, 42, 43, 44, 46, 47, 48, 49, 50, 51, 52, 53, 81, 82, 83, 84, 85, 86, 87, 88, 89, 90, 91, 92, 93, 94, 95, 96, 97, 98, 99, 100, 101, 102, 103, 104, 105, 106, 107, 108, 109, 110, 111, 112, 113, 114, 115, 116, 117, 118, 119, 120, 121, 122, 123, 124, 125, 126, 127, 128, 129, 130, 131, 132, 133, 134, 135, 136, 137, 138, 139, 140, 141, 142, 143, 144, 145, 146, 147, 148, 149, 150, 151, 152, 153, 154, 155, 156, 157, 158, 159, 160, 161, 162, 163, 164, 165, 166, 167, 168, 169, 170, 171, 172, 173, 174, 175, 176] rfl (by decide +kernel)
set_option maxRecDepth 20000 in
theorem gX10_statement_X10_milestoneStatement : GoodIn wsX10_statement (wsV RX10 242 RX10 yX10_milestoneStatement wsX10_milestoneStatement) := goodIn_app (goodIn_r _ [67, 68, 69, 6] rfl (by decide +kernel)) ggX10_statement_X10_milestoneStatement
set_option maxRecDepth 20000 in
theorem ggX10_statement_X10_rate : GoodIn wsX10_statement wsX10_rate := goodIn_r _ [14, 1, 15, 16, 17, 18, 6, 19, 20, 9, 2, 21, 22, 23, 24, 25, 26, 27, 28, 29, 30, 31, 32, 33, 34, 35, 36, 37, 38, 39, 40, 41, 42, 43, 44, 45, 46, 47, 48, 49, 50, 3, 4, 5, 7, 8, 10, 51, 52, 53, 138, 139, 140, 141, 142, 143, 144, 145, 146, 147, 148, 149, 150, 151, 152, 153, 154, 155, 156, 157, 158, 159, 160, 161, 162, 163, 164, 165, 166, 167, 168, 169, 170, 171, 172, 173, 174, 175, 176] rfl (by decide +kernel)
set_option maxRecDepth 20000 in
theorem gX10_statement_X10_rate : GoodIn wsX10_statement (wsV RX10 233 RX10 yX10_rate wsX10_rate) := goodIn_app (goodIn_r _ [11, 12, 13, 6] rfl (by decide +kernel)) ggX10_statement_X10_rate
set_option maxRecDepth 20000 in
theorem ggX10_statement_X10_setting : GoodIn wsX10_statement wsX10_setting := goodIn_r _ [57, 16, 17, 18, 6, 19, 20, 9, 2, 21, 1, 22, 23, 15, 24, 25, 26, 27, 28, 29, 30, 31, 32, 33, 34, 35, 36, 37, 38, 39, 40, 41, 42, 43, 44, 45, 46, 47, 48, 49, 50, 3, 4, 5, 7, 8, 10, 51, 52, 53, 138, 139, 140, 141, 142, 143, 144, 145, 146, 147, 148, 149, 150, 151, 152, 153, 154, 155, 156, 157, 158, 159, 160, 161, 162, 163, 164, 165, 166, 167, 168, 169, 170, 171, 172, 173, 174, 175, 176] rfl (by decide +kernel)
set_option maxRecDepth 20000 in
theorem gX10_statement_X10_setting : GoodIn wsX10_statement (wsV RX10 236 RX10 yX10_setting wsX10_setting) := goodIn_app (goodIn_r _ [54, 55, 56, 6] rfl (by decide +kernel)) ggX10_statement_X10_setting
set_option maxRecDepth 20000 in
theorem ggX10_takeOver_X10_copy : GoodIn wsX10_takeOver wsX10_copy := goodIn_r _ [17] rfl (by decide +kernel)
set_option maxRecDepth 20000 in
theorem gX10_takeOver_X10_copy : GoodIn wsX10_takeOver (va_wsS RX10 245 yX10_copy wsX10_copy) := goodIn_app (goodIn_r _ [14, 15, 16] rfl (by decide +kernel)) ggX10_takeOver_X10_copy
theorem dX10_append_0 : decode cX10_append 0 = .ok (.bipush 24, 2) := by decide +kernel
theorem dX10_append_2 : decode cX10_append 2 = .ok (.istore_n 2, 1) := by decide +kernel
theorem dX10_append_3 : decode cX10_append 3 = .ok (.iload_n 2, 1) := by decide +kernel
theorem dX10_append_4 : decode cX10_append 4 = .ok (.ifCond .lt 35, 3) := by decide +kernel
theorem dX10_append_7 : decode cX10_append 7 = .ok (.aload_n 0, 1) := by decide +kernel
theorem dX10_append_8 : decode cX10_append 8 = .ok (.getfield 26, 3) := by decide +kernel
theorem dX10_append_11 : decode cX10_append 11 = .ok (.aload_n 0, 1) := by decide +kernel
theorem dX10_append_12 : decode cX10_append 12 = .ok (.getfield 90, 3) := by decide +kernel
theorem dX10_append_15 : decode cX10_append 15 = .ok (.iload_n 1, 1) := by decide +kernel
theorem dX10_append_16 : decode cX10_append 16 = .ok (.iload_n 2, 1) := by decide +kernel
theorem dX10_append_17 : decode cX10_append 17 = .ok (.iushr, 1) := by decide +kernel
theorem dX10_append_18 : decode cX10_append 18 = .ok (.sipush 255, 3) := by decide +kernel
theorem dX10_append_21 : decode cX10_append 21 = .ok (.iand, 1) := by decide +kernel
theorem dX10_append_22 : decode cX10_append 22 = .ok (.iastore, 1) := by decide +kernel
theorem dX10_append_23 : decode cX10_append 23 = .ok (.aload_n 0, 1) := by decide +kernel
theorem dX10_append_24 : decode cX10_append 24 = .ok (.dup, 1) := by decide +kernel
theorem dX10_append_25 : decode cX10_append 25 = .ok (.getfield 90, 3) := by decide +kernel
theorem dX10_append_28 : decode cX10_append 28 = .ok (.iconst 1, 1) := by decide +kernel
theorem dX10_append_29 : decode cX10_append 29 = .ok (.iadd, 1) := by decide +kernel
theorem dX10_append_30 : decode cX10_append 30 = .ok (.putfield 90, 3) := by decide +kernel
theorem dX10_append_33 : decode cX10_append 33 = .ok (.iinc 2 (-8), 3) := by decide +kernel
theorem dX10_append_36 : decode cX10_append 36 = .ok (.goto (-33), 3) := by decide +kernel
theorem dX10_append_39 : decode cX10_append 39 = .ok (.return_, 1) := by decide +kernel
theorem dX10_both_0 : decode cX10_both 0 = .ok (.aload_n 0, 1) := by decide +kernel
theorem dX10_both_1 : decode cX10_both 1 = .ok (.invokevirtual 179, 3) := by decide +kernel
theorem dX10_both_4 : decode cX10_both 4 = .ok (.ifCond .ne 5, 3) := by decide +kernel
theorem dX10_both_7 : decode cX10_both 7 = .ok (.iconst 0, 1) := by decide +kernel
theorem dX10_both_8 : decode cX10_both 8 = .ok (.ireturn, 1) := by decide +kernel
theorem dX10_both_9 : decode cX10_both 9 = .ok (.aload_n 0, 1) := by decide +kernel
theorem dX10_both_10 : decode cX10_both 10 = .ok (.bipush 7, 2) := by decide +kernel
theorem dX10_both_12 : decode cX10_both 12 = .ok (.invokevirtual 173, 3) := by decide +kernel
theorem dX10_both_15 : decode cX10_both 15 = .ok (.ifCond .eq 26, 3) := by decide +kernel
theorem dX10_both_18 : decode cX10_both 18 = .ok (.aload_n 0, 1) := by decide +kernel
theorem dX10_both_19 : decode cX10_both 19 = .ok (.invokevirtual 159, 3) := by decide +kernel
theorem dX10_both_22 : decode cX10_both 22 = .ok (.pop, 1) := by decide +kernel
theorem dX10_both_23 : decode cX10_both 23 = .ok (.aload_n 0, 1) := by decide +kernel
theorem dX10_both_24 : decode cX10_both 24 = .ok (.invokevirtual 179, 3) := by decide +kernel
theorem dX10_both_27 : decode cX10_both 27 = .ok (.ifCond .ne 5, 3) := by decide +kernel
theorem dX10_both_30 : decode cX10_both 30 = .ok (.iconst 0, 1) := by decide +kernel
theorem dX10_both_31 : decode cX10_both 31 = .ok (.ireturn, 1) := by decide +kernel
theorem dX10_both_32 : decode cX10_both 32 = .ok (.aload_n 0, 1) := by decide +kernel
theorem dX10_both_33 : decode cX10_both 33 = .ok (.iconst (-1), 1) := by decide +kernel
theorem dX10_both_34 : decode cX10_both 34 = .ok (.invokevirtual 176, 3) := by decide +kernel
theorem dX10_both_37 : decode cX10_both 37 = .ok (.pop, 1) := by decide +kernel
theorem dX10_both_38 : decode cX10_both 38 = .ok (.goto (-29), 3) := by decide +kernel
theorem dX10_both_41 : decode cX10_both 41 = .ok (.iconst 1, 1) := by decide +kernel
theorem dX10_both_42 : decode cX10_both 42 = .ok (.ireturn, 1) := by decide +kernel
theorem dX10_bracket_0 : decode cX10_bracket 0 = .ok (.aload_n 0, 1) := by decide +kernel
theorem dX10_bracket_1 : decode cX10_bracket 1 = .ok (.invokevirtual 185, 3) := by decide +kernel
theorem dX10_bracket_4 : decode cX10_bracket 4 = .ok (.ifCond .eq 10, 3) := by decide +kernel
theorem dX10_bracket_7 : decode cX10_bracket 7 = .ok (.aload_n 0, 1) := by decide +kernel
theorem dX10_bracket_8 : decode cX10_bracket 8 = .ok (.invokevirtual 188, 3) := by decide +kernel
theorem dX10_bracket_11 : decode cX10_bracket 11 = .ok (.ifCond .ne 5, 3) := by decide +kernel
theorem dX10_bracket_14 : decode cX10_bracket 14 = .ok (.iconst 0, 1) := by decide +kernel
theorem dX10_bracket_15 : decode cX10_bracket 15 = .ok (.ireturn, 1) := by decide +kernel
theorem dX10_bracket_16 : decode cX10_bracket 16 = .ok (.aload_n 0, 1) := by decide +kernel
theorem dX10_bracket_17 : decode cX10_bracket 17 = .ok (.bipush 41, 2) := by decide +kernel
theorem dX10_bracket_19 : decode cX10_bracket 19 = .ok (.invokevirtual 191, 3) := by decide +kernel
theorem dX10_bracket_22 : decode cX10_bracket 22 = .ok (.ifCond .ne 9, 3) := by decide +kernel
theorem dX10_bracket_25 : decode cX10_bracket 25 = .ok (.aload_n 0, 1) := by decide +kernel
theorem dX10_bracket_26 : decode cX10_bracket 26 = .ok (.iconst 2, 1) := by decide +kernel
theorem dX10_bracket_27 : decode cX10_bracket 27 = .ok (.invokevirtual 149, 3) := by decide +kernel
theorem dX10_bracket_30 : decode cX10_bracket 30 = .ok (.ireturn, 1) := by decide +kernel
theorem dX10_bracket_31 : decode cX10_bracket 31 = .ok (.aload_n 0, 1) := by decide +kernel
theorem dX10_bracket_32 : decode cX10_bracket 32 = .ok (.dup, 1) := by decide +kernel
theorem dX10_bracket_33 : decode cX10_bracket 33 = .ok (.getfield 182, 3) := by decide +kernel
theorem dX10_bracket_36 : decode cX10_bracket 36 = .ok (.iconst 1, 1) := by decide +kernel
theorem dX10_bracket_37 : decode cX10_bracket 37 = .ok (.isub, 1) := by decide +kernel
theorem dX10_bracket_38 : decode cX10_bracket 38 = .ok (.putfield 182, 3) := by decide +kernel
theorem dX10_bracket_41 : decode cX10_bracket 41 = .ok (.aload_n 0, 1) := by decide +kernel
theorem dX10_bracket_42 : decode cX10_bracket 42 = .ok (.invokevirtual 159, 3) := by decide +kernel
theorem dX10_bracket_45 : decode cX10_bracket 45 = .ok (.ireturn, 1) := by decide +kernel
theorem dX10_closed_0 : decode cX10_closed 0 = .ok (.aload_n 0, 1) := by decide +kernel
theorem dX10_closed_1 : decode cX10_closed 1 = .ok (.bipush 59, 2) := by decide +kernel
theorem dX10_closed_3 : decode cX10_closed 3 = .ok (.invokevirtual 191, 3) := by decide +kernel
theorem dX10_closed_6 : decode cX10_closed 6 = .ok (.ifCond .eq 10, 3) := by decide +kernel
theorem dX10_closed_9 : decode cX10_closed 9 = .ok (.aload_n 0, 1) := by decide +kernel
theorem dX10_closed_10 : decode cX10_closed 10 = .ok (.invokevirtual 159, 3) := by decide +kernel
theorem dX10_closed_13 : decode cX10_closed 13 = .ok (.goto 8, 3) := by decide +kernel
theorem dX10_closed_16 : decode cX10_closed 16 = .ok (.aload_n 0, 1) := by decide +kernel
theorem dX10_closed_17 : decode cX10_closed 17 = .ok (.iconst 2, 1) := by decide +kernel
theorem dX10_closed_18 : decode cX10_closed 18 = .ok (.invokevirtual 149, 3) := by decide +kernel
theorem dX10_closed_21 : decode cX10_closed 21 = .ok (.ireturn, 1) := by decide +kernel
theorem dX10_condition_0 : decode cX10_condition 0 = .ok (.aload_n 0, 1) := by decide +kernel
theorem dX10_condition_1 : decode cX10_condition 1 = .ok (.invokevirtual 170, 3) := by decide +kernel
theorem dX10_condition_4 : decode cX10_condition 4 = .ok (.ifCond .ne 5, 3) := by decide +kernel
theorem dX10_condition_7 : decode cX10_condition 7 = .ok (.iconst 0, 1) := by decide +kernel
theorem dX10_condition_8 : decode cX10_condition 8 = .ok (.ireturn, 1) := by decide +kernel
theorem dX10_condition_9 : decode cX10_condition 9 = .ok (.aload_n 0, 1) := by decide +kernel
theorem dX10_condition_10 : decode cX10_condition 10 = .ok (.bipush 6, 2) := by decide +kernel
theorem dX10_condition_12 : decode cX10_condition 12 = .ok (.invokevirtual 173, 3) := by decide +kernel
theorem dX10_condition_15 : decode cX10_condition 15 = .ok (.ifCond .eq 27, 3) := by decide +kernel
theorem dX10_condition_18 : decode cX10_condition 18 = .ok (.aload_n 0, 1) := by decide +kernel
theorem dX10_condition_19 : decode cX10_condition 19 = .ok (.invokevirtual 159, 3) := by decide +kernel
theorem dX10_condition_22 : decode cX10_condition 22 = .ok (.pop, 1) := by decide +kernel
theorem dX10_condition_23 : decode cX10_condition 23 = .ok (.aload_n 0, 1) := by decide +kernel
theorem dX10_condition_24 : decode cX10_condition 24 = .ok (.invokevirtual 170, 3) := by decide +kernel
theorem dX10_condition_27 : decode cX10_condition 27 = .ok (.ifCond .ne 5, 3) := by decide +kernel
theorem dX10_condition_30 : decode cX10_condition 30 = .ok (.iconst 0, 1) := by decide +kernel
theorem dX10_condition_31 : decode cX10_condition 31 = .ok (.ireturn, 1) := by decide +kernel
theorem dX10_condition_32 : decode cX10_condition 32 = .ok (.aload_n 0, 1) := by decide +kernel
theorem dX10_condition_33 : decode cX10_condition 33 = .ok (.bipush (-2), 2) := by decide +kernel
theorem dX10_condition_35 : decode cX10_condition 35 = .ok (.invokevirtual 176, 3) := by decide +kernel
theorem dX10_condition_38 : decode cX10_condition 38 = .ok (.pop, 1) := by decide +kernel
theorem dX10_condition_39 : decode cX10_condition 39 = .ok (.goto (-30), 3) := by decide +kernel
theorem dX10_condition_42 : decode cX10_condition 42 = .ok (.iconst 1, 1) := by decide +kernel
theorem dX10_condition_43 : decode cX10_condition 43 = .ok (.ireturn, 1) := by decide +kernel
theorem dX10_depositStatement_0 : decode cX10_depositStatement 0 = .ok (.aload_n 0, 1) := by decide +kernel
theorem dX10_depositStatement_1 : decode cX10_depositStatement 1 = .ok (.getfield 226, 3) := by decide +kernel
theorem dX10_depositStatement_4 : decode cX10_depositStatement 4 = .ok (.bipush 6, 2) := by decide +kernel
theorem dX10_depositStatement_6 : decode cX10_depositStatement 6 = .ok (.if_icmp .ne 9, 3) := by decide +kernel
theorem dX10_depositStatement_9 : decode cX10_depositStatement 9 = .ok (.aload_n 0, 1) := by decide +kernel
theorem dX10_depositStatement_10 : decode cX10_depositStatement 10 = .ok (.iconst 5, 1) := by decide +kernel
theorem dX10_depositStatement_11 : decode cX10_depositStatement 11 = .ok (.invokevirtual 149, 3) := by decide +kernel
theorem dX10_depositStatement_14 : decode cX10_depositStatement 14 = .ok (.ireturn, 1) := by decide +kernel
theorem dX10_depositStatement_15 : decode cX10_depositStatement 15 = .ok (.aload_n 0, 1) := by decide +kernel
theorem dX10_depositStatement_16 : decode cX10_depositStatement 16 = .ok (.invokevirtual 159, 3) := by decide +kernel
theorem dX10_depositStatement_19 : decode cX10_depositStatement 19 = .ok (.pop, 1) := by decide +kernel
theorem dX10_depositStatement_20 : decode cX10_depositStatement 20 = .ok (.aload_n 0, 1) := by decide +kernel
theorem dX10_depositStatement_21 : decode cX10_depositStatement 21 = .ok (.iconst 1, 1) := by decide +kernel
theorem dX10_depositStatement_22 : decode cX10_depositStatement 22 = .ok (.ldc 218, 2) := by decide +kernel
theorem dX10_depositStatement_24 : decode cX10_depositStatement 24 = .ok (.invokevirtual 163, 3) := by decide +kernel
theorem dX10_depositStatement_27 : decode cX10_depositStatement 27 = .ok (.ifCond .ne 5, 3) := by decide +kernel
theorem dX10_depositStatement_30 : decode cX10_depositStatement 30 = .ok (.iconst 0, 1) := by decide +kernel
theorem dX10_depositStatement_31 : decode cX10_depositStatement 31 = .ok (.ireturn, 1) := by decide +kernel
theorem dX10_depositStatement_32 : decode cX10_depositStatement 32 = .ok (.aload_n 0, 1) := by decide +kernel
theorem dX10_depositStatement_33 : decode cX10_depositStatement 33 = .ok (.dup, 1) := by decide +kernel
theorem dX10_depositStatement_34 : decode cX10_depositStatement 34 = .ok (.getfield 226, 3) := by decide +kernel
theorem dX10_depositStatement_37 : decode cX10_depositStatement 37 = .ok (.iconst 1, 1) := by decide +kernel
theorem dX10_depositStatement_38 : decode cX10_depositStatement 38 = .ok (.iadd, 1) := by decide +kernel
theorem dX10_depositStatement_39 : decode cX10_depositStatement 39 = .ok (.putfield 226, 3) := by decide +kernel
theorem dX10_depositStatement_42 : decode cX10_depositStatement 42 = .ok (.aload_n 0, 1) := by decide +kernel
theorem dX10_depositStatement_43 : decode cX10_depositStatement 43 = .ok (.getfield 13, 3) := by decide +kernel
theorem dX10_depositStatement_46 : decode cX10_depositStatement 46 = .ok (.iconst 5, 1) := by decide +kernel
theorem dX10_depositStatement_47 : decode cX10_depositStatement 47 = .ok (.dup2, 1) := by decide +kernel
theorem dX10_depositStatement_48 : decode cX10_depositStatement 48 = .ok (.iaload, 1) := by decide +kernel
theorem dX10_depositStatement_49 : decode cX10_depositStatement 49 = .ok (.aload_n 0, 1) := by decide +kernel
theorem dX10_depositStatement_50 : decode cX10_depositStatement 50 = .ok (.getfield 156, 3) := by decide +kernel
theorem dX10_depositStatement_53 : decode cX10_depositStatement 53 = .ok (.iadd, 1) := by decide +kernel
theorem dX10_depositStatement_54 : decode cX10_depositStatement 54 = .ok (.iastore, 1) := by decide +kernel
theorem dX10_depositStatement_55 : decode cX10_depositStatement 55 = .ok (.aload_n 0, 1) := by decide +kernel
theorem dX10_depositStatement_56 : decode cX10_depositStatement 56 = .ok (.getfield 13, 3) := by decide +kernel
theorem dX10_depositStatement_59 : decode cX10_depositStatement 59 = .ok (.bipush 6, 2) := by decide +kernel
theorem dX10_depositStatement_61 : decode cX10_depositStatement 61 = .ok (.dup2, 1) := by decide +kernel
theorem dX10_depositStatement_62 : decode cX10_depositStatement 62 = .ok (.iaload, 1) := by decide +kernel
theorem dX10_depositStatement_63 : decode cX10_depositStatement 63 = .ok (.aload_n 0, 1) := by decide +kernel
theorem dX10_depositStatement_64 : decode cX10_depositStatement 64 = .ok (.getfield 156, 3) := by decide +kernel
theorem dX10_depositStatement_67 : decode cX10_depositStatement 67 = .ok (.iadd, 1) := by decide +kernel
theorem dX10_depositStatement_68 : decode cX10_depositStatement 68 = .ok (.iastore, 1) := by decide +kernel
theorem dX10_depositStatement_69 : decode cX10_depositStatement 69 = .ok (.aload_n 0, 1) := by decide +kernel
theorem dX10_depositStatement_70 : decode cX10_depositStatement 70 = .ok (.getfield 13, 3) := by decide +kernel
theorem dX10_depositStatement_73 : decode cX10_depositStatement 73 = .ok (.iconst 0, 1) := by decide +kernel
theorem dX10_depositStatement_74 : decode cX10_depositStatement 74 = .ok (.aload_n 0, 1) := by decide +kernel
theorem dX10_depositStatement_75 : decode cX10_depositStatement 75 = .ok (.getfield 156, 3) := by decide +kernel
theorem dX10_depositStatement_78 : decode cX10_depositStatement 78 = .ok (.iconst (-1), 1) := by decide +kernel
theorem dX10_depositStatement_79 : decode cX10_depositStatement 79 = .ok (.invokestatic 229, 3) := by decide +kernel
theorem dX10_depositStatement_82 : decode cX10_depositStatement 82 = .ok (.iconst 1, 1) := by decide +kernel
theorem dX10_depositStatement_83 : decode cX10_depositStatement 83 = .ok (.ireturn, 1) := by decide +kernel
theorem dX10_fact_0 : decode cX10_fact 0 = .ok (.aload_n 0, 1) := by decide +kernel
theorem dX10_fact_1 : decode cX10_fact 1 = .ok (.bipush 40, 2) := by decide +kernel
theorem dX10_fact_3 : decode cX10_fact 3 = .ok (.invokevirtual 191, 3) := by decide +kernel
theorem dX10_fact_6 : decode cX10_fact 6 = .ok (.ifCond .eq 8, 3) := by decide +kernel
theorem dX10_fact_9 : decode cX10_fact 9 = .ok (.aload_n 0, 1) := by decide +kernel
theorem dX10_fact_10 : decode cX10_fact 10 = .ok (.invokevirtual 203, 3) := by decide +kernel
theorem dX10_fact_13 : decode cX10_fact 13 = .ok (.ireturn, 1) := by decide +kernel
theorem dX10_fact_14 : decode cX10_fact 14 = .ok (.aload_n 0, 1) := by decide +kernel
theorem dX10_fact_15 : decode cX10_fact 15 = .ok (.getfield 126, 3) := by decide +kernel
theorem dX10_fact_18 : decode cX10_fact 18 = .ok (.iconst 2, 1) := by decide +kernel
theorem dX10_fact_19 : decode cX10_fact 19 = .ok (.if_icmp .eq 9, 3) := by decide +kernel
theorem dX10_fact_22 : decode cX10_fact 22 = .ok (.aload_n 0, 1) := by decide +kernel
theorem dX10_fact_23 : decode cX10_fact 23 = .ok (.iconst 2, 1) := by decide +kernel
theorem dX10_fact_24 : decode cX10_fact 24 = .ok (.invokevirtual 149, 3) := by decide +kernel
theorem dX10_fact_27 : decode cX10_fact 27 = .ok (.ireturn, 1) := by decide +kernel
theorem dX10_fact_28 : decode cX10_fact 28 = .ok (.aload_n 0, 1) := by decide +kernel
theorem dX10_fact_29 : decode cX10_fact 29 = .ok (.getfield 120, 3) := by decide +kernel
theorem dX10_fact_32 : decode cX10_fact 32 = .ok (.tableswitch 88 8 14 #[44, 49, 58, 63, 68, 76, 82], 44) := by decide +kernel
theorem dX10_fact_76 : decode cX10_fact 76 = .ok (.aload_n 0, 1) := by decide +kernel
theorem dX10_fact_77 : decode cX10_fact 77 = .ok (.invokevirtual 206, 3) := by decide +kernel
theorem dX10_fact_80 : decode cX10_fact 80 = .ok (.ireturn, 1) := by decide +kernel
theorem dX10_fact_81 : decode cX10_fact 81 = .ok (.aload_n 0, 1) := by decide +kernel
theorem dX10_fact_82 : decode cX10_fact 82 = .ok (.iconst 0, 1) := by decide +kernel
theorem dX10_fact_83 : decode cX10_fact 83 = .ok (.sipush 999, 3) := by decide +kernel
theorem dX10_fact_86 : decode cX10_fact 86 = .ok (.invokevirtual 209, 3) := by decide +kernel
theorem dX10_fact_89 : decode cX10_fact 89 = .ok (.ireturn, 1) := by decide +kernel
theorem dX10_fact_90 : decode cX10_fact 90 = .ok (.aload_n 0, 1) := by decide +kernel
theorem dX10_fact_91 : decode cX10_fact 91 = .ok (.invokevirtual 212, 3) := by decide +kernel
theorem dX10_fact_94 : decode cX10_fact 94 = .ok (.ireturn, 1) := by decide +kernel
theorem dX10_fact_95 : decode cX10_fact 95 = .ok (.aload_n 0, 1) := by decide +kernel
theorem dX10_fact_96 : decode cX10_fact 96 = .ok (.invokevirtual 215, 3) := by decide +kernel
theorem dX10_fact_99 : decode cX10_fact 99 = .ok (.ireturn, 1) := by decide +kernel
theorem dX10_fact_100 : decode cX10_fact 100 = .ok (.aload_n 0, 1) := by decide +kernel
theorem dX10_fact_101 : decode cX10_fact 101 = .ok (.iconst 3, 1) := by decide +kernel
theorem dX10_fact_102 : decode cX10_fact 102 = .ok (.ldc 218, 2) := by decide +kernel
theorem dX10_fact_104 : decode cX10_fact 104 = .ok (.invokevirtual 209, 3) := by decide +kernel
theorem dX10_fact_107 : decode cX10_fact 107 = .ok (.ireturn, 1) := by decide +kernel
theorem dX10_fact_108 : decode cX10_fact 108 = .ok (.aload_n 0, 1) := by decide +kernel
theorem dX10_fact_109 : decode cX10_fact 109 = .ok (.iconst 4, 1) := by decide +kernel
theorem dX10_fact_110 : decode cX10_fact 110 = .ok (.invokevirtual 219, 3) := by decide +kernel
theorem dX10_fact_113 : decode cX10_fact 113 = .ok (.ireturn, 1) := by decide +kernel
theorem dX10_fact_114 : decode cX10_fact 114 = .ok (.aload_n 0, 1) := by decide +kernel
theorem dX10_fact_115 : decode cX10_fact 115 = .ok (.iconst 5, 1) := by decide +kernel
theorem dX10_fact_116 : decode cX10_fact 116 = .ok (.invokevirtual 219, 3) := by decide +kernel
theorem dX10_fact_119 : decode cX10_fact 119 = .ok (.ireturn, 1) := by decide +kernel
theorem dX10_fact_120 : decode cX10_fact 120 = .ok (.aload_n 0, 1) := by decide +kernel
theorem dX10_fact_121 : decode cX10_fact 121 = .ok (.iconst 2, 1) := by decide +kernel
theorem dX10_fact_122 : decode cX10_fact 122 = .ok (.invokevirtual 149, 3) := by decide +kernel
theorem dX10_fact_125 : decode cX10_fact 125 = .ok (.ireturn, 1) := by decide +kernel
theorem dX10_feed_0 : decode cX10_feed 0 = .ok (.aload_n 0, 1) := by decide +kernel
theorem dX10_feed_1 : decode cX10_feed 1 = .ok (.iconst 0, 1) := by decide +kernel
theorem dX10_feed_2 : decode cX10_feed 2 = .ok (.putfield 80, 3) := by decide +kernel
theorem dX10_feed_5 : decode cX10_feed 5 = .ok (.aload_n 0, 1) := by decide +kernel
theorem dX10_feed_6 : decode cX10_feed 6 = .ok (.getfield 90, 3) := by decide +kernel
theorem dX10_feed_9 : decode cX10_feed 9 = .ok (.bipush 20, 2) := by decide +kernel
theorem dX10_feed_11 : decode cX10_feed 11 = .ok (.iadd, 1) := by decide +kernel
theorem dX10_feed_12 : decode cX10_feed 12 = .ok (.sipush 700, 3) := by decide +kernel
theorem dX10_feed_15 : decode cX10_feed 15 = .ok (.if_icmp .le 6, 3) := by decide +kernel
theorem dX10_feed_18 : decode cX10_feed 18 = .ok (.bipush (-2), 2) := by decide +kernel
theorem dX10_feed_20 : decode cX10_feed 20 = .ok (.ireturn, 1) := by decide +kernel
theorem dX10_feed_21 : decode cX10_feed 21 = .ok (.aload_n 0, 1) := by decide +kernel
theorem dX10_feed_22 : decode cX10_feed 22 = .ok (.iload_n 1, 1) := by decide +kernel
theorem dX10_feed_23 : decode cX10_feed 23 = .ok (.invokevirtual 93, 3) := by decide +kernel
theorem dX10_feed_26 : decode cX10_feed 26 = .ok (.aload_n 0, 1) := by decide +kernel
theorem dX10_feed_27 : decode cX10_feed 27 = .ok (.iload_n 2, 1) := by decide +kernel
theorem dX10_feed_28 : decode cX10_feed 28 = .ok (.invokevirtual 93, 3) := by decide +kernel
theorem dX10_feed_31 : decode cX10_feed 31 = .ok (.aload_n 0, 1) := by decide +kernel
theorem dX10_feed_32 : decode cX10_feed 32 = .ok (.iload_n 3, 1) := by decide +kernel
theorem dX10_feed_33 : decode cX10_feed 33 = .ok (.invokevirtual 93, 3) := by decide +kernel
theorem dX10_feed_36 : decode cX10_feed 36 = .ok (.aload_n 0, 1) := by decide +kernel
theorem dX10_feed_37 : decode cX10_feed 37 = .ok (.iload 4, 2) := by decide +kernel
theorem dX10_feed_39 : decode cX10_feed 39 = .ok (.invokevirtual 93, 3) := by decide +kernel
theorem dX10_feed_42 : decode cX10_feed 42 = .ok (.aload_n 0, 1) := by decide +kernel
theorem dX10_feed_43 : decode cX10_feed 43 = .ok (.iload 5, 2) := by decide +kernel
theorem dX10_feed_45 : decode cX10_feed 45 = .ok (.invokevirtual 93, 3) := by decide +kernel
theorem dX10_feed_48 : decode cX10_feed 48 = .ok (.aload_n 0, 1) := by decide +kernel
theorem dX10_feed_49 : decode cX10_feed 49 = .ok (.getfield 90, 3) := by decide +kernel
theorem dX10_feed_52 : decode cX10_feed 52 = .ok (.ireturn, 1) := by decide +kernel
theorem dX10_isSymbol_0 : decode cX10_isSymbol 0 = .ok (.aload_n 0, 1) := by decide +kernel
theorem dX10_isSymbol_1 : decode cX10_isSymbol 1 = .ok (.getfield 126, 3) := by decide +kernel
theorem dX10_isSymbol_4 : decode cX10_isSymbol 4 = .ok (.iconst 4, 1) := by decide +kernel
theorem dX10_isSymbol_5 : decode cX10_isSymbol 5 = .ok (.if_icmp .ne 20, 3) := by decide +kernel
theorem dX10_isSymbol_8 : decode cX10_isSymbol 8 = .ok (.aload_n 0, 1) := by decide +kernel
theorem dX10_isSymbol_9 : decode cX10_isSymbol 9 = .ok (.getfield 26, 3) := by decide +kernel
theorem dX10_isSymbol_12 : decode cX10_isSymbol 12 = .ok (.aload_n 0, 1) := by decide +kernel
theorem dX10_isSymbol_13 : decode cX10_isSymbol 13 = .ok (.getfield 117, 3) := by decide +kernel
theorem dX10_isSymbol_16 : decode cX10_isSymbol 16 = .ok (.iaload, 1) := by decide +kernel
theorem dX10_isSymbol_17 : decode cX10_isSymbol 17 = .ok (.iload_n 1, 1) := by decide +kernel
theorem dX10_isSymbol_18 : decode cX10_isSymbol 18 = .ok (.if_icmp .ne 7, 3) := by decide +kernel
theorem dX10_isSymbol_21 : decode cX10_isSymbol 21 = .ok (.iconst 1, 1) := by decide +kernel
theorem dX10_isSymbol_22 : decode cX10_isSymbol 22 = .ok (.goto 4, 3) := by decide +kernel
theorem dX10_isSymbol_25 : decode cX10_isSymbol 25 = .ok (.iconst 0, 1) := by decide +kernel
theorem dX10_isSymbol_26 : decode cX10_isSymbol 26 = .ok (.ireturn, 1) := by decide +kernel
theorem dX10_load_0 : decode cX10_load 0 = .ok (.aload_n 0, 1) := by decide +kernel
theorem dX10_load_1 : decode cX10_load 1 = .ok (.iload_n 1, 1) := by decide +kernel
theorem dX10_load_2 : decode cX10_load 2 = .ok (.i2l, 1) := by decide +kernel
theorem dX10_load_3 : decode cX10_load 3 = .ok (.lconst 0, 1) := by decide +kernel
theorem dX10_load_4 : decode cX10_load 4 = .ok (.aload_n 0, 1) := by decide +kernel
theorem dX10_load_5 : decode cX10_load 5 = .ok (.getfield 90, 3) := by decide +kernel
theorem dX10_load_8 : decode cX10_load 8 = .ok (.i2l, 1) := by decide +kernel
theorem dX10_load_9 : decode cX10_load 9 = .ok (.invokestatic 152, 3) := by decide +kernel
theorem dX10_load_12 : decode cX10_load 12 = .ok (.ifCond .eq 7, 3) := by decide +kernel
theorem dX10_load_15 : decode cX10_load 15 = .ok (.iconst 0, 1) := by decide +kernel
theorem dX10_load_16 : decode cX10_load 16 = .ok (.goto 4, 3) := by decide +kernel
theorem dX10_load_19 : decode cX10_load 19 = .ok (.iconst 1, 1) := by decide +kernel
theorem dX10_load_20 : decode cX10_load 20 = .ok (.putfield 80, 3) := by decide +kernel
theorem dX10_load_23 : decode cX10_load 23 = .ok (.aload_n 0, 1) := by decide +kernel
theorem dX10_load_24 : decode cX10_load 24 = .ok (.getfield 80, 3) := by decide +kernel
theorem dX10_load_27 : decode cX10_load 27 = .ok (.ifCond .le 5, 3) := by decide +kernel
theorem dX10_load_30 : decode cX10_load 30 = .ok (.iconst 0, 1) := by decide +kernel
theorem dX10_load_31 : decode cX10_load 31 = .ok (.ireturn, 1) := by decide +kernel
theorem dX10_load_32 : decode cX10_load 32 = .ok (.aload_n 0, 1) := by decide +kernel
theorem dX10_load_33 : decode cX10_load 33 = .ok (.iload_n 1, 1) := by decide +kernel
theorem dX10_load_34 : decode cX10_load 34 = .ok (.putfield 107, 3) := by decide +kernel
theorem dX10_load_37 : decode cX10_load 37 = .ok (.aload_n 0, 1) := by decide +kernel
theorem dX10_load_38 : decode cX10_load 38 = .ok (.iconst 0, 1) := by decide +kernel
theorem dX10_load_39 : decode cX10_load 39 = .ok (.putfield 90, 3) := by decide +kernel
theorem dX10_load_42 : decode cX10_load 42 = .ok (.aload_n 0, 1) := by decide +kernel
theorem dX10_load_43 : decode cX10_load 43 = .ok (.iconst 0, 1) := by decide +kernel
theorem dX10_load_44 : decode cX10_load 44 = .ok (.putfield 110, 3) := by decide +kernel
theorem dX10_load_47 : decode cX10_load 47 = .ok (.aload_n 0, 1) := by decide +kernel
theorem dX10_load_48 : decode cX10_load 48 = .ok (.iconst 0, 1) := by decide +kernel
theorem dX10_load_49 : decode cX10_load 49 = .ok (.putfield 143, 3) := by decide +kernel
theorem dX10_load_52 : decode cX10_load 52 = .ok (.aload_n 0, 1) := by decide +kernel
theorem dX10_load_53 : decode cX10_load 53 = .ok (.iconst (-1), 1) := by decide +kernel
theorem dX10_load_54 : decode cX10_load 54 = .ok (.putfield 146, 3) := by decide +kernel
theorem dX10_load_57 : decode cX10_load 57 = .ok (.aload_n 0, 1) := by decide +kernel
theorem dX10_load_58 : decode cX10_load 58 = .ok (.iconst 0, 1) := by decide +kernel
theorem dX10_load_59 : decode cX10_load 59 = .ok (.putfield 182, 3) := by decide +kernel
theorem dX10_load_62 : decode cX10_load 62 = .ok (.aload_n 0, 1) := by decide +kernel
theorem dX10_load_63 : decode cX10_load 63 = .ok (.iconst 0, 1) := by decide +kernel
theorem dX10_load_64 : decode cX10_load 64 = .ok (.putfield 226, 3) := by decide +kernel
theorem dX10_load_67 : decode cX10_load 67 = .ok (.aload_n 0, 1) := by decide +kernel
theorem dX10_load_68 : decode cX10_load 68 = .ok (.iconst 0, 1) := by decide +kernel
theorem dX10_load_69 : decode cX10_load 69 = .ok (.putfield 167, 3) := by decide +kernel
theorem dX10_load_72 : decode cX10_load 72 = .ok (.aload_n 0, 1) := by decide +kernel
theorem dX10_load_73 : decode cX10_load 73 = .ok (.getfield 13, 3) := by decide +kernel
theorem dX10_load_76 : decode cX10_load 76 = .ok (.invokestatic 76, 3) := by decide +kernel
theorem dX10_load_79 : decode cX10_load 79 = .ok (.aload_n 0, 1) := by decide +kernel
theorem dX10_load_80 : decode cX10_load 80 = .ok (.invokevirtual 159, 3) := by decide +kernel
theorem dX10_load_83 : decode cX10_load 83 = .ok (.pop, 1) := by decide +kernel
theorem dX10_load_84 : decode cX10_load 84 = .ok (.iconst 1, 1) := by decide +kernel
theorem dX10_load_85 : decode cX10_load 85 = .ok (.istore_n 2, 1) := by decide +kernel
theorem dX10_load_86 : decode cX10_load 86 = .ok (.iload_n 2, 1) := by decide +kernel
theorem dX10_load_87 : decode cX10_load 87 = .ok (.ifCond .eq 33, 3) := by decide +kernel
theorem dX10_load_90 : decode cX10_load 90 = .ok (.aload_n 0, 1) := by decide +kernel
theorem dX10_load_91 : decode cX10_load 91 = .ok (.getfield 126, 3) := by decide +kernel
theorem dX10_load_94 : decode cX10_load 94 = .ok (.ifCond .eq 26, 3) := by decide +kernel
theorem dX10_load_97 : decode cX10_load 97 = .ok (.aload_n 0, 1) := by decide +kernel
theorem dX10_load_98 : decode cX10_load 98 = .ok (.invokevirtual 249, 3) := by decide +kernel
theorem dX10_load_101 : decode cX10_load 101 = .ok (.ifCond .eq 14, 3) := by decide +kernel
theorem dX10_load_104 : decode cX10_load 104 = .ok (.aload_n 0, 1) := by decide +kernel
theorem dX10_load_105 : decode cX10_load 105 = .ok (.invokevirtual 252, 3) := by decide +kernel
theorem dX10_load_108 : decode cX10_load 108 = .ok (.ifCond .eq 7, 3) := by decide +kernel
theorem dX10_load_111 : decode cX10_load 111 = .ok (.iconst 1, 1) := by decide +kernel
theorem dX10_load_112 : decode cX10_load 112 = .ok (.goto 4, 3) := by decide +kernel
theorem dX10_load_115 : decode cX10_load 115 = .ok (.iconst 0, 1) := by decide +kernel
theorem dX10_load_116 : decode cX10_load 116 = .ok (.istore_n 2, 1) := by decide +kernel
theorem dX10_load_117 : decode cX10_load 117 = .ok (.goto (-31), 3) := by decide +kernel
theorem dX10_load_120 : decode cX10_load 120 = .ok (.aload_n 0, 1) := by decide +kernel
theorem dX10_load_121 : decode cX10_load 121 = .ok (.aload_n 0, 1) := by decide +kernel
theorem dX10_load_122 : decode cX10_load 122 = .ok (.getfield 143, 3) := by decide +kernel
theorem dX10_load_125 : decode cX10_load 125 = .ok (.putfield 255, 3) := by decide +kernel
theorem dX10_load_128 : decode cX10_load 128 = .ok (.aload_n 0, 1) := by decide +kernel
theorem dX10_load_129 : decode cX10_load 129 = .ok (.aload_n 0, 1) := by decide +kernel
theorem dX10_load_130 : decode cX10_load 130 = .ok (.getfield 146, 3) := by decide +kernel
theorem dX10_load_133 : decode cX10_load 133 = .ok (.putfield 29, 3) := by decide +kernel
theorem dX10_load_136 : decode cX10_load 136 = .ok (.iload_n 2, 1) := by decide +kernel
theorem dX10_load_137 : decode cX10_load 137 = .ok (.ifCond .ne 6, 3) := by decide +kernel
theorem dX10_load_140 : decode cX10_load 140 = .ok (.bipush (-3), 2) := by decide +kernel
theorem dX10_load_142 : decode cX10_load 142 = .ok (.ireturn, 1) := by decide +kernel
theorem dX10_load_143 : decode cX10_load 143 = .ok (.aload_n 0, 1) := by decide +kernel
theorem dX10_load_144 : decode cX10_load 144 = .ok (.invokevirtual 258, 3) := by decide +kernel
theorem dX10_load_147 : decode cX10_load 147 = .ok (.aload_n 0, 1) := by decide +kernel
theorem dX10_load_148 : decode cX10_load 148 = .ok (.getfield 7, 3) := by decide +kernel
theorem dX10_load_151 : decode cX10_load 151 = .ok (.bipush 13, 2) := by decide +kernel
theorem dX10_load_153 : decode cX10_load 153 = .ok (.iaload, 1) := by decide +kernel
theorem dX10_load_154 : decode cX10_load 154 = .ok (.ireturn, 1) := by decide +kernel
theorem dX10_milestoneStatement_0 : decode cX10_milestoneStatement 0 = .ok (.aload_n 0, 1) := by decide +kernel
theorem dX10_milestoneStatement_1 : decode cX10_milestoneStatement 1 = .ok (.getfield 13, 3) := by decide +kernel
theorem dX10_milestoneStatement_4 : decode cX10_milestoneStatement 4 = .ok (.bipush 13, 2) := by decide +kernel
theorem dX10_milestoneStatement_6 : decode cX10_milestoneStatement 6 = .ok (.iaload, 1) := by decide +kernel
theorem dX10_milestoneStatement_7 : decode cX10_milestoneStatement 7 = .ok (.istore_n 1, 1) := by decide +kernel
theorem dX10_milestoneStatement_8 : decode cX10_milestoneStatement 8 = .ok (.iload_n 1, 1) := by decide +kernel
theorem dX10_milestoneStatement_9 : decode cX10_milestoneStatement 9 = .ok (.bipush 10, 2) := by decide +kernel
theorem dX10_milestoneStatement_11 : decode cX10_milestoneStatement 11 = .ok (.if_icmp .ne 9, 3) := by decide +kernel
theorem dX10_milestoneStatement_14 : decode cX10_milestoneStatement 14 = .ok (.aload_n 0, 1) := by decide +kernel
theorem dX10_milestoneStatement_15 : decode cX10_milestoneStatement 15 = .ok (.iconst 5, 1) := by decide +kernel
theorem dX10_milestoneStatement_16 : decode cX10_milestoneStatement 16 = .ok (.invokevirtual 149, 3) := by decide +kernel
theorem dX10_milestoneStatement_19 : decode cX10_milestoneStatement 19 = .ok (.ireturn, 1) := by decide +kernel
theorem dX10_milestoneStatement_20 : decode cX10_milestoneStatement 20 = .ok (.aload_n 0, 1) := by decide +kernel
theorem dX10_milestoneStatement_21 : decode cX10_milestoneStatement 21 = .ok (.invokevirtual 159, 3) := by decide +kernel
theorem dX10_milestoneStatement_24 : decode cX10_milestoneStatement 24 = .ok (.pop, 1) := by decide +kernel
theorem dX10_milestoneStatement_25 : decode cX10_milestoneStatement 25 = .ok (.aload_n 0, 1) := by decide +kernel
theorem dX10_milestoneStatement_26 : decode cX10_milestoneStatement 26 = .ok (.invokevirtual 194, 3) := by decide +kernel
theorem dX10_milestoneStatement_29 : decode cX10_milestoneStatement 29 = .ok (.ifCond .ne 9, 3) := by decide +kernel
theorem dX10_milestoneStatement_32 : decode cX10_milestoneStatement 32 = .ok (.aload_n 0, 1) := by decide +kernel
theorem dX10_milestoneStatement_33 : decode cX10_milestoneStatement 33 = .ok (.iconst 2, 1) := by decide +kernel
theorem dX10_milestoneStatement_34 : decode cX10_milestoneStatement 34 = .ok (.invokevirtual 149, 3) := by decide +kernel
theorem dX10_milestoneStatement_37 : decode cX10_milestoneStatement 37 = .ok (.ireturn, 1) := by decide +kernel
theorem dX10_milestoneStatement_38 : decode cX10_milestoneStatement 38 = .ok (.aload_n 0, 1) := by decide +kernel
theorem dX10_milestoneStatement_39 : decode cX10_milestoneStatement 39 = .ok (.getfield 39, 3) := by decide +kernel
theorem dX10_milestoneStatement_42 : decode cX10_milestoneStatement 42 = .ok (.iload_n 1, 1) := by decide +kernel
theorem dX10_milestoneStatement_43 : decode cX10_milestoneStatement 43 = .ok (.aload_n 0, 1) := by decide +kernel
theorem dX10_milestoneStatement_44 : decode cX10_milestoneStatement 44 = .ok (.getfield 123, 3) := by decide +kernel
theorem dX10_milestoneStatement_47 : decode cX10_milestoneStatement 47 = .ok (.invokestatic 197, 3) := by decide +kernel
theorem dX10_milestoneStatement_50 : decode cX10_milestoneStatement 50 = .ok (.iconst (-1), 1) := by decide +kernel
theorem dX10_milestoneStatement_51 : decode cX10_milestoneStatement 51 = .ok (.if_icmp .eq 9, 3) := by decide +kernel
theorem dX10_milestoneStatement_54 : decode cX10_milestoneStatement 54 = .ok (.aload_n 0, 1) := by decide +kernel
theorem dX10_milestoneStatement_55 : decode cX10_milestoneStatement 55 = .ok (.iconst 4, 1) := by decide +kernel
theorem dX10_milestoneStatement_56 : decode cX10_milestoneStatement 56 = .ok (.invokevirtual 149, 3) := by decide +kernel
theorem dX10_milestoneStatement_59 : decode cX10_milestoneStatement 59 = .ok (.ireturn, 1) := by decide +kernel
theorem dX10_milestoneStatement_60 : decode cX10_milestoneStatement 60 = .ok (.aload_n 0, 1) := by decide +kernel
theorem dX10_milestoneStatement_61 : decode cX10_milestoneStatement 61 = .ok (.getfield 123, 3) := by decide +kernel
theorem dX10_milestoneStatement_64 : decode cX10_milestoneStatement 64 = .ok (.lstore_n 2, 1) := by decide +kernel
theorem dX10_milestoneStatement_65 : decode cX10_milestoneStatement 65 = .ok (.aload_n 0, 1) := by decide +kernel
theorem dX10_milestoneStatement_66 : decode cX10_milestoneStatement 66 = .ok (.invokevirtual 159, 3) := by decide +kernel
theorem dX10_milestoneStatement_69 : decode cX10_milestoneStatement 69 = .ok (.pop, 1) := by decide +kernel
theorem dX10_milestoneStatement_70 : decode cX10_milestoneStatement 70 = .ok (.bipush 16, 2) := by decide +kernel
theorem dX10_milestoneStatement_72 : decode cX10_milestoneStatement 72 = .ok (.bipush 7, 2) := by decide +kernel
theorem dX10_milestoneStatement_74 : decode cX10_milestoneStatement 74 = .ok (.iload_n 1, 1) := by decide +kernel
theorem dX10_milestoneStatement_75 : decode cX10_milestoneStatement 75 = .ok (.imul, 1) := by decide +kernel
theorem dX10_milestoneStatement_76 : decode cX10_milestoneStatement 76 = .ok (.iadd, 1) := by decide +kernel
theorem dX10_milestoneStatement_77 : decode cX10_milestoneStatement 77 = .ok (.istore 4, 2) := by decide +kernel
theorem dX10_milestoneStatement_79 : decode cX10_milestoneStatement 79 = .ok (.aload_n 0, 1) := by decide +kernel
theorem dX10_milestoneStatement_80 : decode cX10_milestoneStatement 80 = .ok (.iload 4, 2) := by decide +kernel
theorem dX10_milestoneStatement_82 : decode cX10_milestoneStatement 82 = .ok (.iconst 0, 1) := by decide +kernel
theorem dX10_milestoneStatement_83 : decode cX10_milestoneStatement 83 = .ok (.iadd, 1) := by decide +kernel
theorem dX10_milestoneStatement_84 : decode cX10_milestoneStatement 84 = .ok (.iconst 1, 1) := by decide +kernel
theorem dX10_milestoneStatement_85 : decode cX10_milestoneStatement 85 = .ok (.ldc 218, 2) := by decide +kernel
theorem dX10_milestoneStatement_87 : decode cX10_milestoneStatement 87 = .ok (.invokevirtual 222, 3) := by decide +kernel
theorem dX10_milestoneStatement_90 : decode cX10_milestoneStatement 90 = .ok (.ifCond .eq 18, 3) := by decide +kernel
theorem dX10_milestoneStatement_93 : decode cX10_milestoneStatement 93 = .ok (.aload_n 0, 1) := by decide +kernel
theorem dX10_milestoneStatement_94 : decode cX10_milestoneStatement 94 = .ok (.iload 4, 2) := by decide +kernel
theorem dX10_milestoneStatement_96 : decode cX10_milestoneStatement 96 = .ok (.bipush 6, 2) := by decide +kernel
theorem dX10_milestoneStatement_98 : decode cX10_milestoneStatement 98 = .ok (.iadd, 1) := by decide +kernel
theorem dX10_milestoneStatement_99 : decode cX10_milestoneStatement 99 = .ok (.iconst 0, 1) := by decide +kernel
theorem dX10_milestoneStatement_100 : decode cX10_milestoneStatement 100 = .ok (.bipush 99, 2) := by decide +kernel
theorem dX10_milestoneStatement_102 : decode cX10_milestoneStatement 102 = .ok (.invokevirtual 222, 3) := by decide +kernel
theorem dX10_milestoneStatement_105 : decode cX10_milestoneStatement 105 = .ok (.ifCond .ne 5, 3) := by decide +kernel
theorem dX10_milestoneStatement_108 : decode cX10_milestoneStatement 108 = .ok (.iconst 0, 1) := by decide +kernel
theorem dX10_milestoneStatement_109 : decode cX10_milestoneStatement 109 = .ok (.ireturn, 1) := by decide +kernel
theorem dX10_milestoneStatement_110 : decode cX10_milestoneStatement 110 = .ok (.aload_n 0, 1) := by decide +kernel
theorem dX10_milestoneStatement_111 : decode cX10_milestoneStatement 111 = .ok (.iconst 5, 1) := by decide +kernel
theorem dX10_milestoneStatement_112 : decode cX10_milestoneStatement 112 = .ok (.invokevirtual 173, 3) := by decide +kernel
theorem dX10_milestoneStatement_115 : decode cX10_milestoneStatement 115 = .ok (.ifCond .ne 9, 3) := by decide +kernel
theorem dX10_milestoneStatement_118 : decode cX10_milestoneStatement 118 = .ok (.aload_n 0, 1) := by decide +kernel
theorem dX10_milestoneStatement_119 : decode cX10_milestoneStatement 119 = .ok (.iconst 2, 1) := by decide +kernel
theorem dX10_milestoneStatement_120 : decode cX10_milestoneStatement 120 = .ok (.invokevirtual 149, 3) := by decide +kernel
theorem dX10_milestoneStatement_123 : decode cX10_milestoneStatement 123 = .ok (.ireturn, 1) := by decide +kernel
theorem dX10_milestoneStatement_124 : decode cX10_milestoneStatement 124 = .ok (.aload_n 0, 1) := by decide +kernel
theorem dX10_milestoneStatement_125 : decode cX10_milestoneStatement 125 = .ok (.invokevirtual 159, 3) := by decide +kernel
theorem dX10_milestoneStatement_128 : decode cX10_milestoneStatement 128 = .ok (.pop, 1) := by decide +kernel
theorem dX10_milestoneStatement_129 : decode cX10_milestoneStatement 129 = .ok (.aload_n 0, 1) := by decide +kernel
theorem dX10_milestoneStatement_130 : decode cX10_milestoneStatement 130 = .ok (.getfield 57, 3) := by decide +kernel
theorem dX10_milestoneStatement_133 : decode cX10_milestoneStatement 133 = .ok (.iload_n 1, 1) := by decide +kernel
theorem dX10_milestoneStatement_134 : decode cX10_milestoneStatement 134 = .ok (.aload_n 0, 1) := by decide +kernel
theorem dX10_milestoneStatement_135 : decode cX10_milestoneStatement 135 = .ok (.getfield 167, 3) := by decide +kernel
theorem dX10_milestoneStatement_138 : decode cX10_milestoneStatement 138 = .ok (.iastore, 1) := by decide +kernel
theorem dX10_milestoneStatement_139 : decode cX10_milestoneStatement 139 = .ok (.aload_n 0, 1) := by decide +kernel
theorem dX10_milestoneStatement_140 : decode cX10_milestoneStatement 140 = .ok (.invokevirtual 188, 3) := by decide +kernel
theorem dX10_milestoneStatement_143 : decode cX10_milestoneStatement 143 = .ok (.ifCond .ne 5, 3) := by decide +kernel
theorem dX10_milestoneStatement_146 : decode cX10_milestoneStatement 146 = .ok (.iconst 0, 1) := by decide +kernel
theorem dX10_milestoneStatement_147 : decode cX10_milestoneStatement 147 = .ok (.ireturn, 1) := by decide +kernel
theorem dX10_milestoneStatement_148 : decode cX10_milestoneStatement 148 = .ok (.aload_n 0, 1) := by decide +kernel
theorem dX10_milestoneStatement_149 : decode cX10_milestoneStatement 149 = .ok (.getfield 57, 3) := by decide +kernel
theorem dX10_milestoneStatement_152 : decode cX10_milestoneStatement 152 = .ok (.iload_n 1, 1) := by decide +kernel
theorem dX10_milestoneStatement_153 : decode cX10_milestoneStatement 153 = .ok (.iconst 1, 1) := by decide +kernel
theorem dX10_milestoneStatement_154 : decode cX10_milestoneStatement 154 = .ok (.iadd, 1) := by decide +kernel
theorem dX10_milestoneStatement_155 : decode cX10_milestoneStatement 155 = .ok (.aload_n 0, 1) := by decide +kernel
theorem dX10_milestoneStatement_156 : decode cX10_milestoneStatement 156 = .ok (.getfield 167, 3) := by decide +kernel
theorem dX10_milestoneStatement_159 : decode cX10_milestoneStatement 159 = .ok (.iastore, 1) := by decide +kernel
theorem dX10_milestoneStatement_160 : decode cX10_milestoneStatement 160 = .ok (.aload_n 0, 1) := by decide +kernel
theorem dX10_milestoneStatement_161 : decode cX10_milestoneStatement 161 = .ok (.getfield 39, 3) := by decide +kernel
theorem dX10_milestoneStatement_164 : decode cX10_milestoneStatement 164 = .ok (.iload_n 1, 1) := by decide +kernel
theorem dX10_milestoneStatement_165 : decode cX10_milestoneStatement 165 = .ok (.lload_n 2, 1) := by decide +kernel
theorem dX10_milestoneStatement_166 : decode cX10_milestoneStatement 166 = .ok (.lastore, 1) := by decide +kernel
theorem dX10_milestoneStatement_167 : decode cX10_milestoneStatement 167 = .ok (.aload_n 0, 1) := by decide +kernel
theorem dX10_milestoneStatement_168 : decode cX10_milestoneStatement 168 = .ok (.getfield 13, 3) := by decide +kernel
theorem dX10_milestoneStatement_171 : decode cX10_milestoneStatement 171 = .ok (.iload 4, 2) := by decide +kernel
theorem dX10_milestoneStatement_173 : decode cX10_milestoneStatement 173 = .ok (.iconst 4, 1) := by decide +kernel
theorem dX10_milestoneStatement_174 : decode cX10_milestoneStatement 174 = .ok (.iadd, 1) := by decide +kernel
theorem dX10_milestoneStatement_175 : decode cX10_milestoneStatement 175 = .ok (.iconst (-1), 1) := by decide +kernel
theorem dX10_milestoneStatement_176 : decode cX10_milestoneStatement 176 = .ok (.iastore, 1) := by decide +kernel
theorem dX10_milestoneStatement_177 : decode cX10_milestoneStatement 177 = .ok (.aload_n 0, 1) := by decide +kernel
theorem dX10_milestoneStatement_178 : decode cX10_milestoneStatement 178 = .ok (.getfield 13, 3) := by decide +kernel
theorem dX10_milestoneStatement_181 : decode cX10_milestoneStatement 181 = .ok (.bipush 13, 2) := by decide +kernel
theorem dX10_milestoneStatement_183 : decode cX10_milestoneStatement 183 = .ok (.dup2, 1) := by decide +kernel
theorem dX10_milestoneStatement_184 : decode cX10_milestoneStatement 184 = .ok (.iaload, 1) := by decide +kernel
theorem dX10_milestoneStatement_185 : decode cX10_milestoneStatement 185 = .ok (.iconst 1, 1) := by decide +kernel
theorem dX10_milestoneStatement_186 : decode cX10_milestoneStatement 186 = .ok (.iadd, 1) := by decide +kernel
theorem dX10_milestoneStatement_187 : decode cX10_milestoneStatement 187 = .ok (.iastore, 1) := by decide +kernel
theorem dX10_milestoneStatement_188 : decode cX10_milestoneStatement 188 = .ok (.iconst 1, 1) := by decide +kernel
theorem dX10_milestoneStatement_189 : decode cX10_milestoneStatement 189 = .ok (.ireturn, 1) := by decide +kernel
theorem dX10_notFact_0 : decode cX10_notFact 0 = .ok (.aload_n 0, 1) := by decide +kernel
theorem dX10_notFact_1 : decode cX10_notFact 1 = .ok (.invokevirtual 185, 3) := by decide +kernel
theorem dX10_notFact_4 : decode cX10_notFact 4 = .ok (.ifCond .eq 10, 3) := by decide +kernel
theorem dX10_notFact_7 : decode cX10_notFact 7 = .ok (.aload_n 0, 1) := by decide +kernel
theorem dX10_notFact_8 : decode cX10_notFact 8 = .ok (.invokevirtual 179, 3) := by decide +kernel
theorem dX10_notFact_11 : decode cX10_notFact 11 = .ok (.ifCond .ne 5, 3) := by decide +kernel
theorem dX10_notFact_14 : decode cX10_notFact 14 = .ok (.iconst 0, 1) := by decide +kernel
theorem dX10_notFact_15 : decode cX10_notFact 15 = .ok (.ireturn, 1) := by decide +kernel
theorem dX10_notFact_16 : decode cX10_notFact 16 = .ok (.aload_n 0, 1) := by decide +kernel
theorem dX10_notFact_17 : decode cX10_notFact 17 = .ok (.dup, 1) := by decide +kernel
theorem dX10_notFact_18 : decode cX10_notFact 18 = .ok (.getfield 182, 3) := by decide +kernel
theorem dX10_notFact_21 : decode cX10_notFact 21 = .ok (.iconst 1, 1) := by decide +kernel
theorem dX10_notFact_22 : decode cX10_notFact 22 = .ok (.isub, 1) := by decide +kernel
theorem dX10_notFact_23 : decode cX10_notFact 23 = .ok (.putfield 182, 3) := by decide +kernel
theorem dX10_notFact_26 : decode cX10_notFact 26 = .ok (.aload_n 0, 1) := by decide +kernel
theorem dX10_notFact_27 : decode cX10_notFact 27 = .ok (.bipush (-3), 2) := by decide +kernel
theorem dX10_notFact_29 : decode cX10_notFact 29 = .ok (.invokevirtual 176, 3) := by decide +kernel
theorem dX10_notFact_32 : decode cX10_notFact 32 = .ok (.ireturn, 1) := by decide +kernel
theorem dX10_number_0 : decode cX10_number 0 = .ok (.aload_n 0, 1) := by decide +kernel
theorem dX10_number_1 : decode cX10_number 1 = .ok (.getfield 126, 3) := by decide +kernel
theorem dX10_number_4 : decode cX10_number 4 = .ok (.iconst 3, 1) := by decide +kernel
theorem dX10_number_5 : decode cX10_number 5 = .ok (.if_icmp .eq 9, 3) := by decide +kernel
theorem dX10_number_8 : decode cX10_number 8 = .ok (.aload_n 0, 1) := by decide +kernel
theorem dX10_number_9 : decode cX10_number 9 = .ok (.iconst 2, 1) := by decide +kernel
theorem dX10_number_10 : decode cX10_number 10 = .ok (.invokevirtual 149, 3) := by decide +kernel
theorem dX10_number_13 : decode cX10_number 13 = .ok (.ireturn, 1) := by decide +kernel
theorem dX10_number_14 : decode cX10_number 14 = .ok (.aload_n 0, 1) := by decide +kernel
theorem dX10_number_15 : decode cX10_number 15 = .ok (.getfield 140, 3) := by decide +kernel
theorem dX10_number_18 : decode cX10_number 18 = .ok (.i2l, 1) := by decide +kernel
theorem dX10_number_19 : decode cX10_number 19 = .ok (.iload_n 1, 1) := by decide +kernel
theorem dX10_number_20 : decode cX10_number 20 = .ok (.i2l, 1) := by decide +kernel
theorem dX10_number_21 : decode cX10_number 21 = .ok (.iload_n 2, 1) := by decide +kernel
theorem dX10_number_22 : decode cX10_number 22 = .ok (.i2l, 1) := by decide +kernel
theorem dX10_number_23 : decode cX10_number 23 = .ok (.invokestatic 152, 3) := by decide +kernel
theorem dX10_number_26 : decode cX10_number 26 = .ok (.ifCond .ne 9, 3) := by decide +kernel
theorem dX10_number_29 : decode cX10_number 29 = .ok (.aload_n 0, 1) := by decide +kernel
theorem dX10_number_30 : decode cX10_number 30 = .ok (.iconst 3, 1) := by decide +kernel
theorem dX10_number_31 : decode cX10_number 31 = .ok (.invokevirtual 149, 3) := by decide +kernel
theorem dX10_number_34 : decode cX10_number 34 = .ok (.ireturn, 1) := by decide +kernel
theorem dX10_number_35 : decode cX10_number 35 = .ok (.aload_n 0, 1) := by decide +kernel
theorem dX10_number_36 : decode cX10_number 36 = .ok (.aload_n 0, 1) := by decide +kernel
theorem dX10_number_37 : decode cX10_number 37 = .ok (.getfield 140, 3) := by decide +kernel
theorem dX10_number_40 : decode cX10_number 40 = .ok (.putfield 156, 3) := by decide +kernel
theorem dX10_number_43 : decode cX10_number 43 = .ok (.aload_n 0, 1) := by decide +kernel
theorem dX10_number_44 : decode cX10_number 44 = .ok (.invokevirtual 159, 3) := by decide +kernel
theorem dX10_number_47 : decode cX10_number 47 = .ok (.ireturn, 1) := by decide +kernel
theorem dX10_numberFact_0 : decode cX10_numberFact 0 = .ok (.aload_n 0, 1) := by decide +kernel
theorem dX10_numberFact_1 : decode cX10_numberFact 1 = .ok (.invokevirtual 159, 3) := by decide +kernel
theorem dX10_numberFact_4 : decode cX10_numberFact 4 = .ok (.pop, 1) := by decide +kernel
theorem dX10_numberFact_5 : decode cX10_numberFact 5 = .ok (.aload_n 0, 1) := by decide +kernel
theorem dX10_numberFact_6 : decode cX10_numberFact 6 = .ok (.iconst 0, 1) := by decide +kernel
theorem dX10_numberFact_7 : decode cX10_numberFact 7 = .ok (.iload_n 2, 1) := by decide +kernel
theorem dX10_numberFact_8 : decode cX10_numberFact 8 = .ok (.invokevirtual 163, 3) := by decide +kernel
theorem dX10_numberFact_11 : decode cX10_numberFact 11 = .ok (.ifCond .eq 23, 3) := by decide +kernel
theorem dX10_numberFact_14 : decode cX10_numberFact 14 = .ok (.aload_n 0, 1) := by decide +kernel
theorem dX10_numberFact_15 : decode cX10_numberFact 15 = .ok (.ldc 201, 2) := by decide +kernel
theorem dX10_numberFact_17 : decode cX10_numberFact 17 = .ok (.iload_n 1, 1) := by decide +kernel
theorem dX10_numberFact_18 : decode cX10_numberFact 18 = .ok (.imul, 1) := by decide +kernel
theorem dX10_numberFact_19 : decode cX10_numberFact 19 = .ok (.aload_n 0, 1) := by decide +kernel
theorem dX10_numberFact_20 : decode cX10_numberFact 20 = .ok (.getfield 156, 3) := by decide +kernel
theorem dX10_numberFact_23 : decode cX10_numberFact 23 = .ok (.iadd, 1) := by decide +kernel
theorem dX10_numberFact_24 : decode cX10_numberFact 24 = .ok (.invokevirtual 176, 3) := by decide +kernel
theorem dX10_numberFact_27 : decode cX10_numberFact 27 = .ok (.ifCond .eq 7, 3) := by decide +kernel
theorem dX10_numberFact_30 : decode cX10_numberFact 30 = .ok (.iconst 1, 1) := by decide +kernel
theorem dX10_numberFact_31 : decode cX10_numberFact 31 = .ok (.goto 4, 3) := by decide +kernel
theorem dX10_numberFact_34 : decode cX10_numberFact 34 = .ok (.iconst 0, 1) := by decide +kernel
theorem dX10_numberFact_35 : decode cX10_numberFact 35 = .ok (.ireturn, 1) := by decide +kernel
theorem dX10_numberTo_0 : decode cX10_numberTo 0 = .ok (.aload_n 0, 1) := by decide +kernel
theorem dX10_numberTo_1 : decode cX10_numberTo 1 = .ok (.iload_n 2, 1) := by decide +kernel
theorem dX10_numberTo_2 : decode cX10_numberTo 2 = .ok (.iload_n 3, 1) := by decide +kernel
theorem dX10_numberTo_3 : decode cX10_numberTo 3 = .ok (.invokevirtual 163, 3) := by decide +kernel
theorem dX10_numberTo_6 : decode cX10_numberTo 6 = .ok (.ifCond .ne 5, 3) := by decide +kernel
theorem dX10_numberTo_9 : decode cX10_numberTo 9 = .ok (.iconst 0, 1) := by decide +kernel
theorem dX10_numberTo_10 : decode cX10_numberTo 10 = .ok (.ireturn, 1) := by decide +kernel
theorem dX10_numberTo_11 : decode cX10_numberTo 11 = .ok (.aload_n 0, 1) := by decide +kernel
theorem dX10_numberTo_12 : decode cX10_numberTo 12 = .ok (.getfield 13, 3) := by decide +kernel
theorem dX10_numberTo_15 : decode cX10_numberTo 15 = .ok (.iload_n 1, 1) := by decide +kernel
theorem dX10_numberTo_16 : decode cX10_numberTo 16 = .ok (.aload_n 0, 1) := by decide +kernel
theorem dX10_numberTo_17 : decode cX10_numberTo 17 = .ok (.getfield 156, 3) := by decide +kernel
theorem dX10_numberTo_20 : decode cX10_numberTo 20 = .ok (.iastore, 1) := by decide +kernel
theorem dX10_numberTo_21 : decode cX10_numberTo 21 = .ok (.iconst 1, 1) := by decide +kernel
theorem dX10_numberTo_22 : decode cX10_numberTo 22 = .ok (.ireturn, 1) := by decide +kernel
theorem dX10_rate_0 : decode cX10_rate 0 = .ok (.aload_n 0, 1) := by decide +kernel
theorem dX10_rate_1 : decode cX10_rate 1 = .ok (.invokevirtual 159, 3) := by decide +kernel
theorem dX10_rate_4 : decode cX10_rate 4 = .ok (.pop, 1) := by decide +kernel
theorem dX10_rate_5 : decode cX10_rate 5 = .ok (.aload_n 0, 1) := by decide +kernel
theorem dX10_rate_6 : decode cX10_rate 6 = .ok (.iconst 0, 1) := by decide +kernel
theorem dX10_rate_7 : decode cX10_rate 7 = .ok (.iconst 0, 1) := by decide +kernel
theorem dX10_rate_8 : decode cX10_rate 8 = .ok (.sipush 3000, 3) := by decide +kernel
theorem dX10_rate_11 : decode cX10_rate 11 = .ok (.invokevirtual 222, 3) := by decide +kernel
theorem dX10_rate_14 : decode cX10_rate 14 = .ok (.ifCond .ne 5, 3) := by decide +kernel
theorem dX10_rate_17 : decode cX10_rate 17 = .ok (.iconst 0, 1) := by decide +kernel
theorem dX10_rate_18 : decode cX10_rate 18 = .ok (.ireturn, 1) := by decide +kernel
theorem dX10_rate_19 : decode cX10_rate 19 = .ok (.aload_n 0, 1) := by decide +kernel
theorem dX10_rate_20 : decode cX10_rate 20 = .ok (.getfield 126, 3) := by decide +kernel
theorem dX10_rate_23 : decode cX10_rate 23 = .ok (.iconst 3, 1) := by decide +kernel
theorem dX10_rate_24 : decode cX10_rate 24 = .ok (.if_icmp .ne 29, 3) := by decide +kernel
theorem dX10_rate_27 : decode cX10_rate 27 = .ok (.aload_n 0, 1) := by decide +kernel
theorem dX10_rate_28 : decode cX10_rate 28 = .ok (.getfield 140, 3) := by decide +kernel
theorem dX10_rate_31 : decode cX10_rate 31 = .ok (.sipush 360, 3) := by decide +kernel
theorem dX10_rate_34 : decode cX10_rate 34 = .ok (.if_icmp .eq 19, 3) := by decide +kernel
theorem dX10_rate_37 : decode cX10_rate 37 = .ok (.aload_n 0, 1) := by decide +kernel
theorem dX10_rate_38 : decode cX10_rate 38 = .ok (.getfield 140, 3) := by decide +kernel
theorem dX10_rate_41 : decode cX10_rate 41 = .ok (.sipush 365, 3) := by decide +kernel
theorem dX10_rate_44 : decode cX10_rate 44 = .ok (.if_icmp .eq 9, 3) := by decide +kernel
theorem dX10_rate_47 : decode cX10_rate 47 = .ok (.aload_n 0, 1) := by decide +kernel
theorem dX10_rate_48 : decode cX10_rate 48 = .ok (.iconst 3, 1) := by decide +kernel
theorem dX10_rate_49 : decode cX10_rate 49 = .ok (.invokevirtual 149, 3) := by decide +kernel
theorem dX10_rate_52 : decode cX10_rate 52 = .ok (.ireturn, 1) := by decide +kernel
theorem dX10_rate_53 : decode cX10_rate 53 = .ok (.aload_n 0, 1) := by decide +kernel
theorem dX10_rate_54 : decode cX10_rate 54 = .ok (.iconst 1, 1) := by decide +kernel
theorem dX10_rate_55 : decode cX10_rate 55 = .ok (.sipush 360, 3) := by decide +kernel
theorem dX10_rate_58 : decode cX10_rate 58 = .ok (.sipush 365, 3) := by decide +kernel
theorem dX10_rate_61 : decode cX10_rate 61 = .ok (.invokevirtual 222, 3) := by decide +kernel
theorem dX10_rate_64 : decode cX10_rate 64 = .ok (.ireturn, 1) := by decide +kernel
theorem dX10_setting_0 : decode cX10_setting 0 = .ok (.aload_n 0, 1) := by decide +kernel
theorem dX10_setting_1 : decode cX10_setting 1 = .ok (.invokevirtual 159, 3) := by decide +kernel
theorem dX10_setting_4 : decode cX10_setting 4 = .ok (.pop, 1) := by decide +kernel
theorem dX10_setting_5 : decode cX10_setting 5 = .ok (.aload_n 0, 1) := by decide +kernel
theorem dX10_setting_6 : decode cX10_setting 6 = .ok (.iload_n 1, 1) := by decide +kernel
theorem dX10_setting_7 : decode cX10_setting 7 = .ok (.iconst 0, 1) := by decide +kernel
theorem dX10_setting_8 : decode cX10_setting 8 = .ok (.iload_n 2, 1) := by decide +kernel
theorem dX10_setting_9 : decode cX10_setting 9 = .ok (.invokevirtual 222, 3) := by decide +kernel
theorem dX10_setting_12 : decode cX10_setting 12 = .ok (.ireturn, 1) := by decide +kernel
theorem dX10_statement_0 : decode cX10_statement 0 = .ok (.aload_n 0, 1) := by decide +kernel
theorem dX10_statement_1 : decode cX10_statement 1 = .ok (.getfield 126, 3) := by decide +kernel
theorem dX10_statement_4 : decode cX10_statement 4 = .ok (.iconst 2, 1) := by decide +kernel
theorem dX10_statement_5 : decode cX10_statement 5 = .ok (.if_icmp .eq 9, 3) := by decide +kernel
theorem dX10_statement_8 : decode cX10_statement 8 = .ok (.aload_n 0, 1) := by decide +kernel
theorem dX10_statement_9 : decode cX10_statement 9 = .ok (.iconst 2, 1) := by decide +kernel
theorem dX10_statement_10 : decode cX10_statement 10 = .ok (.invokevirtual 149, 3) := by decide +kernel
theorem dX10_statement_13 : decode cX10_statement 13 = .ok (.ireturn, 1) := by decide +kernel
theorem dX10_statement_14 : decode cX10_statement 14 = .ok (.aload_n 0, 1) := by decide +kernel
theorem dX10_statement_15 : decode cX10_statement 15 = .ok (.getfield 120, 3) := by decide +kernel
theorem dX10_statement_18 : decode cX10_statement 18 = .ok (.tableswitch 66 0 4 #[34, 39, 48, 56, 61], 34) := by decide +kernel
theorem dX10_statement_52 : decode cX10_statement 52 = .ok (.aload_n 0, 1) := by decide +kernel
theorem dX10_statement_53 : decode cX10_statement 53 = .ok (.invokevirtual 233, 3) := by decide +kernel
theorem dX10_statement_56 : decode cX10_statement 56 = .ok (.ireturn, 1) := by decide +kernel
theorem dX10_statement_57 : decode cX10_statement 57 = .ok (.aload_n 0, 1) := by decide +kernel
theorem dX10_statement_58 : decode cX10_statement 58 = .ok (.iconst 2, 1) := by decide +kernel
theorem dX10_statement_59 : decode cX10_statement 59 = .ok (.sipush 2000, 3) := by decide +kernel
theorem dX10_statement_62 : decode cX10_statement 62 = .ok (.invokevirtual 236, 3) := by decide +kernel
theorem dX10_statement_65 : decode cX10_statement 65 = .ok (.ireturn, 1) := by decide +kernel
theorem dX10_statement_66 : decode cX10_statement 66 = .ok (.aload_n 0, 1) := by decide +kernel
theorem dX10_statement_67 : decode cX10_statement 67 = .ok (.iconst 3, 1) := by decide +kernel
theorem dX10_statement_68 : decode cX10_statement 68 = .ok (.bipush 60, 2) := by decide +kernel
theorem dX10_statement_70 : decode cX10_statement 70 = .ok (.invokevirtual 236, 3) := by decide +kernel
theorem dX10_statement_73 : decode cX10_statement 73 = .ok (.ireturn, 1) := by decide +kernel
theorem dX10_statement_74 : decode cX10_statement 74 = .ok (.aload_n 0, 1) := by decide +kernel
theorem dX10_statement_75 : decode cX10_statement 75 = .ok (.invokevirtual 239, 3) := by decide +kernel
theorem dX10_statement_78 : decode cX10_statement 78 = .ok (.ireturn, 1) := by decide +kernel
theorem dX10_statement_79 : decode cX10_statement 79 = .ok (.aload_n 0, 1) := by decide +kernel
theorem dX10_statement_80 : decode cX10_statement 80 = .ok (.invokevirtual 242, 3) := by decide +kernel
theorem dX10_statement_83 : decode cX10_statement 83 = .ok (.ireturn, 1) := by decide +kernel
theorem dX10_statement_84 : decode cX10_statement 84 = .ok (.aload_n 0, 1) := by decide +kernel
theorem dX10_statement_85 : decode cX10_statement 85 = .ok (.iconst 2, 1) := by decide +kernel
theorem dX10_statement_86 : decode cX10_statement 86 = .ok (.invokevirtual 149, 3) := by decide +kernel
theorem dX10_statement_89 : decode cX10_statement 89 = .ok (.ireturn, 1) := by decide +kernel
theorem dX10_takeOver_0 : decode cX10_takeOver 0 = .ok (.aload_n 0, 1) := by decide +kernel
theorem dX10_takeOver_1 : decode cX10_takeOver 1 = .ok (.getfield 13, 3) := by decide +kernel
theorem dX10_takeOver_4 : decode cX10_takeOver 4 = .ok (.aload_n 0, 1) := by decide +kernel
theorem dX10_takeOver_5 : decode cX10_takeOver 5 = .ok (.getfield 7, 3) := by decide +kernel
theorem dX10_takeOver_8 : decode cX10_takeOver 8 = .ok (.invokestatic 245, 3) := by decide +kernel
theorem dX10_takeOver_11 : decode cX10_takeOver 11 = .ok (.iconst 0, 1) := by decide +kernel
theorem dX10_takeOver_12 : decode cX10_takeOver 12 = .ok (.istore_n 1, 1) := by decide +kernel
theorem dX10_takeOver_13 : decode cX10_takeOver 13 = .ok (.iload_n 1, 1) := by decide +kernel
theorem dX10_takeOver_14 : decode cX10_takeOver 14 = .ok (.bipush 10, 2) := by decide +kernel
theorem dX10_takeOver_16 : decode cX10_takeOver 16 = .ok (.if_icmp .ge 21, 3) := by decide +kernel
theorem dX10_takeOver_19 : decode cX10_takeOver 19 = .ok (.aload_n 0, 1) := by decide +kernel
theorem dX10_takeOver_20 : decode cX10_takeOver 20 = .ok (.getfield 36, 3) := by decide +kernel
theorem dX10_takeOver_23 : decode cX10_takeOver 23 = .ok (.iload_n 1, 1) := by decide +kernel
theorem dX10_takeOver_24 : decode cX10_takeOver 24 = .ok (.aload_n 0, 1) := by decide +kernel
theorem dX10_takeOver_25 : decode cX10_takeOver 25 = .ok (.getfield 39, 3) := by decide +kernel
theorem dX10_takeOver_28 : decode cX10_takeOver 28 = .ok (.iload_n 1, 1) := by decide +kernel
theorem dX10_takeOver_29 : decode cX10_takeOver 29 = .ok (.laload, 1) := by decide +kernel
theorem dX10_takeOver_30 : decode cX10_takeOver 30 = .ok (.lastore, 1) := by decide +kernel
theorem dX10_takeOver_31 : decode cX10_takeOver 31 = .ok (.iinc 1 1, 3) := by decide +kernel
theorem dX10_takeOver_34 : decode cX10_takeOver 34 = .ok (.goto (-21), 3) := by decide +kernel
theorem dX10_takeOver_37 : decode cX10_takeOver 37 = .ok (.iconst 0, 1) := by decide +kernel
theorem dX10_takeOver_38 : decode cX10_takeOver 38 = .ok (.istore_n 1, 1) := by decide +kernel
theorem dX10_takeOver_39 : decode cX10_takeOver 39 = .ok (.iload_n 1, 1) := by decide +kernel
theorem dX10_takeOver_40 : decode cX10_takeOver 40 = .ok (.bipush 8, 2) := by decide +kernel
theorem dX10_takeOver_42 : decode cX10_takeOver 42 = .ok (.if_icmp .ge 21, 3) := by decide +kernel
theorem dX10_takeOver_45 : decode cX10_takeOver 45 = .ok (.aload_n 0, 1) := by decide +kernel
theorem dX10_takeOver_46 : decode cX10_takeOver 46 = .ok (.getfield 42, 3) := by decide +kernel
theorem dX10_takeOver_49 : decode cX10_takeOver 49 = .ok (.iload_n 1, 1) := by decide +kernel
theorem dX10_takeOver_50 : decode cX10_takeOver 50 = .ok (.aload_n 0, 1) := by decide +kernel
theorem dX10_takeOver_51 : decode cX10_takeOver 51 = .ok (.getfield 45, 3) := by decide +kernel
theorem dX10_takeOver_54 : decode cX10_takeOver 54 = .ok (.iload_n 1, 1) := by decide +kernel
theorem dX10_takeOver_55 : decode cX10_takeOver 55 = .ok (.laload, 1) := by decide +kernel
theorem dX10_takeOver_56 : decode cX10_takeOver 56 = .ok (.lastore, 1) := by decide +kernel
theorem dX10_takeOver_57 : decode cX10_takeOver 57 = .ok (.iinc 1 1, 3) := by decide +kernel
theorem dX10_takeOver_60 : decode cX10_takeOver 60 = .ok (.goto (-21), 3) := by decide +kernel
theorem dX10_takeOver_63 : decode cX10_takeOver 63 = .ok (.iconst 0, 1) := by decide +kernel
theorem dX10_takeOver_64 : decode cX10_takeOver 64 = .ok (.istore_n 1, 1) := by decide +kernel
theorem dX10_takeOver_65 : decode cX10_takeOver 65 = .ok (.iload_n 1, 1) := by decide +kernel
theorem dX10_takeOver_66 : decode cX10_takeOver 66 = .ok (.bipush 10, 2) := by decide +kernel
theorem dX10_takeOver_68 : decode cX10_takeOver 68 = .ok (.if_icmp .gt 21, 3) := by decide +kernel
theorem dX10_takeOver_71 : decode cX10_takeOver 71 = .ok (.aload_n 0, 1) := by decide +kernel
theorem dX10_takeOver_72 : decode cX10_takeOver 72 = .ok (.getfield 54, 3) := by decide +kernel
theorem dX10_takeOver_75 : decode cX10_takeOver 75 = .ok (.iload_n 1, 1) := by decide +kernel
theorem dX10_takeOver_76 : decode cX10_takeOver 76 = .ok (.aload_n 0, 1) := by decide +kernel
theorem dX10_takeOver_77 : decode cX10_takeOver 77 = .ok (.getfield 57, 3) := by decide +kernel
theorem dX10_takeOver_80 : decode cX10_takeOver 80 = .ok (.iload_n 1, 1) := by decide +kernel
theorem dX10_takeOver_81 : decode cX10_takeOver 81 = .ok (.iaload, 1) := by decide +kernel
theorem dX10_takeOver_82 : decode cX10_takeOver 82 = .ok (.iastore, 1) := by decide +kernel
theorem dX10_takeOver_83 : decode cX10_takeOver 83 = .ok (.iinc 1 1, 3) := by decide +kernel
theorem dX10_takeOver_86 : decode cX10_takeOver 86 = .ok (.goto (-21), 3) := by decide +kernel
theorem dX10_takeOver_89 : decode cX10_takeOver 89 = .ok (.iconst 0, 1) := by decide +kernel
theorem dX10_takeOver_90 : decode cX10_takeOver 90 = .ok (.istore_n 1, 1) := by decide +kernel
theorem dX10_takeOver_91 : decode cX10_takeOver 91 = .ok (.iload_n 1, 1) := by decide +kernel
theorem dX10_takeOver_92 : decode cX10_takeOver 92 = .ok (.aload_n 0, 1) := by decide +kernel
theorem dX10_takeOver_93 : decode cX10_takeOver 93 = .ok (.getfield 167, 3) := by decide +kernel
theorem dX10_takeOver_96 : decode cX10_takeOver 96 = .ok (.if_icmp .ge 21, 3) := by decide +kernel
theorem dX10_takeOver_99 : decode cX10_takeOver 99 = .ok (.aload_n 0, 1) := by decide +kernel
theorem dX10_takeOver_100 : decode cX10_takeOver 100 = .ok (.getfield 48, 3) := by decide +kernel
theorem dX10_takeOver_103 : decode cX10_takeOver 103 = .ok (.iload_n 1, 1) := by decide +kernel
theorem dX10_takeOver_104 : decode cX10_takeOver 104 = .ok (.aload_n 0, 1) := by decide +kernel
theorem dX10_takeOver_105 : decode cX10_takeOver 105 = .ok (.getfield 51, 3) := by decide +kernel
theorem dX10_takeOver_108 : decode cX10_takeOver 108 = .ok (.iload_n 1, 1) := by decide +kernel
theorem dX10_takeOver_109 : decode cX10_takeOver 109 = .ok (.iaload, 1) := by decide +kernel
theorem dX10_takeOver_110 : decode cX10_takeOver 110 = .ok (.iastore, 1) := by decide +kernel
theorem dX10_takeOver_111 : decode cX10_takeOver 111 = .ok (.iinc 1 1, 3) := by decide +kernel
theorem dX10_takeOver_114 : decode cX10_takeOver 114 = .ok (.goto (-23), 3) := by decide +kernel
theorem dX10_takeOver_117 : decode cX10_takeOver 117 = .ok (.aload_n 0, 1) := by decide +kernel
theorem dX10_takeOver_118 : decode cX10_takeOver 118 = .ok (.lconst 0, 1) := by decide +kernel
theorem dX10_takeOver_119 : decode cX10_takeOver 119 = .ok (.putfield 86, 3) := by decide +kernel
theorem dX10_takeOver_122 : decode cX10_takeOver 122 = .ok (.aload_n 0, 1) := by decide +kernel
theorem dX10_takeOver_123 : decode cX10_takeOver 123 = .ok (.iconst 0, 1) := by decide +kernel
theorem dX10_takeOver_124 : decode cX10_takeOver 124 = .ok (.putfield 83, 3) := by decide +kernel
theorem dX10_takeOver_127 : decode cX10_takeOver 127 = .ok (.return_, 1) := by decide +kernel
