set_option maxRecDepth 20000 in
theorem ggX10_both_X10_advance : GoodIn wsX10_both wsX10_advance := goodIn_r _ [14, 15, 16, 10, 17, 9, 18, 19, 20, 21, 22, 23, 4, 24, 25, 26, 27, 28, 29, 30, 31, 32, 33, 34, 35, 36, 37, 112, 113, 114, 115, 116, 117, 118, 119, 120, 121, 122, 123, 124, 125, 126, 127, 128, 129, 130, 131, 132, 133, 134, 135, 136, 137, 138, 139, 140, 141, 142, 143, 144, 145, 146, 147, 148, 149, 150] rfl (by decide +kernel)
set_option maxRecDepth 20000 in
theorem gX10_both_X10_advance : GoodIn wsX10_both (wsV RX10 159 RX10 yX10_advance wsX10_advance) := goodIn_app (goodIn_r _ [11, 12, 13, 4] rfl (by decide +kernel)) ggX10_both_X10_advance
set_option maxRecDepth 20000 in
theorem ggX10_both_X10_emit : GoodIn wsX10_both wsX10_emit := goodIn_r _ [41, 42, 43, 112, 113, 114, 115, 116, 117, 118, 119, 120, 121, 122, 123, 124, 125, 126, 127, 128, 129, 130, 131, 132, 133, 134, 135, 136, 137, 138, 139, 140, 141, 142, 143, 144, 145, 146, 147, 148, 149, 150] rfl (by decide +kernel)
set_option maxRecDepth 20000 in
theorem gX10_both_X10_emit : GoodIn wsX10_both (wsV RX10 176 RX10 yX10_emit wsX10_emit) := goodIn_app (goodIn_r _ [38, 39, 40, 4] rfl (by decide +kernel)) ggX10_both_X10_emit
set_option maxRecDepth 20000 in
theorem ggX10_both_X10_fact : GoodIn wsX10_both wsX10_fact := goodIn_r _ [67, 9, 10, 68, 59, 60, 61, 4, 62, 26, 16, 69, 70, 71, 50, 51, 52, 53, 54, 55, 72, 73, 74, 75, 76, 77, 78, 79, 80, 11, 12, 13, 14, 15, 17, 18, 19, 20, 21, 22, 23, 24, 25, 27, 28, 29, 30, 31, 32, 33, 34, 35, 36, 37, 81, 82, 83, 84, 85, 86, 87, 38, 39, 40, 41, 42, 43, 88, 89, 90, 91, 92, 93, 94, 95, 96, 97, 98, 99, 100, 101, 102, 103, 104, 105, 106, 107, 108, 109, 110, 0, 1, 2, 3, 5, 6, 7, 8, 44, 45, 46, 47, 48, 49, 56, 57, 58, 63, 64, 65, 66, 111, 112, 113, 114, 115, 116, 117, 118, 119, 120, 121, 122, 123, 124, 125, 126, 127, 128, 129, 130, 131, 132, 133, 134, 135, 136, 137, 138, 139, 140, 141, 142, 143, 144, 145, 146, 147, 148, 149, 150] rfl (by decide +kernel)
set_option maxRecDepth 20000 in
theorem gX10_both_X10_fact : GoodIn wsX10_both (wsV RX10 179 RX10 yX10_fact wsX10_fact) := goodIn_app (goodIn_r _ [1, 2, 3, 4] rfl (by decide +kernel)) ggX10_both_X10_fact
set_option maxRecDepth 20000 in
theorem ggX10_both_X10_isKeyword : GoodIn wsX10_both wsX10_isKeyword := goodIn_r _ [8, 9, 10, 112, 113, 114, 115, 116, 117, 118, 119, 120, 121, 122, 123, 124, 125, 126, 127, 128, 129, 130, 131, 132, 133, 134, 135, 136, 137, 138, 139, 140, 141, 142, 143, 144, 145, 146, 147, 148, 149, 150] rfl (by decide +kernel)
set_option maxRecDepth 20000 in
theorem gX10_both_X10_isKeyword : GoodIn wsX10_both (wsV RX10 173 RX10 yX10_isKeyword wsX10_isKeyword) := goodIn_app (goodIn_r _ [5, 6, 7, 4] rfl (by decide +kernel)) ggX10_both_X10_isKeyword
set_option maxRecDepth 20000 in
theorem ggX10_bracket_X10_advance : GoodIn wsX10_bracket wsX10_advance := goodIn_r _ [18, 19, 13, 20, 21, 11, 22, 23, 24, 25, 26, 27, 5, 28, 29, 30, 31, 32, 33, 34, 35, 36, 37, 38, 39, 40, 41, 112, 113, 114, 115, 116, 117, 118, 119, 120, 121, 122, 123, 124, 125, 126, 127, 128, 129, 130, 131, 132, 133, 134, 135, 136, 137, 138, 139, 140, 141, 142, 143, 144, 145, 146, 147, 148, 149, 150] rfl (by decide +kernel)
set_option maxRecDepth 20000 in
theorem gX10_bracket_X10_advance : GoodIn wsX10_bracket (wsV RX10 159 RX10 yX10_advance wsX10_advance) := goodIn_app (goodIn_r _ [15, 16, 17, 5] rfl (by decide +kernel)) ggX10_bracket_X10_advance
set_option maxRecDepth 20000 in
theorem ggX10_bracket_X10_condition : GoodIn wsX10_bracket wsX10_condition := goodIn_r _ [63, 64, 65, 66, 5, 53, 54, 55, 56, 11, 20, 15, 16, 17, 18, 19, 13, 21, 22, 23, 24, 25, 26, 27, 28, 29, 30, 31, 32, 33, 34, 35, 36, 37, 38, 39, 40, 41, 57, 58, 59, 60, 61, 62, 49, 50, 51, 52, 0, 1, 2, 3, 4, 6, 7, 8, 9, 10, 12, 14, 42, 43, 44, 45, 46, 47, 48, 67, 68, 69, 70, 71, 72, 73, 74, 75, 76, 77, 78, 79, 80, 81, 82, 83, 84, 85, 86, 87, 88, 89, 90, 91, 92, 93, 94, 95, 96, 97, 98, 99, 100, 101, 102, 103, 104, 105, 106, 107, 108, 109, 110, 111, 112, 113, 114, 115, 116, 117, 118, 119, 120, 121, 122, 123, 124, 125, 126, 127, 128, 129, 130, 131, 132, 133, 134, 135, 136, 137, 138, 139, 140, 141, 142, 143, 144, 145, 146, 147, 148, 149, 150] rfl (by decide +kernel)
set_option maxRecDepth 20000 in
theorem gX10_bracket_X10_condition : GoodIn wsX10_bracket (wsV RX10 188 RX10 yX10_condition wsX10_condition) := goodIn_app (goodIn_r _ [42, 43, 44, 5] rfl (by decide +kernel)) ggX10_bracket_X10_condition
set_option maxRecDepth 20000 in
theorem ggX10_bracket_X10_fail : GoodIn wsX10_bracket wsX10_fail := goodIn_r _ [10, 11, 12, 13, 14, 112, 113, 114, 115, 116, 117, 118, 119, 120, 121, 122, 123, 124, 125, 126, 127, 128, 129, 130, 131, 132, 133, 134, 135, 136, 137, 138, 139, 140, 141, 142, 143, 144, 145, 146, 147, 148, 149, 150] rfl (by decide +kernel)
set_option maxRecDepth 20000 in
theorem gX10_bracket_X10_fail : GoodIn wsX10_bracket (wsV RX10 149 RX10 yX10_fail wsX10_fail) := goodIn_app (goodIn_r _ [7, 8, 9, 5] rfl (by decide +kernel)) ggX10_bracket_X10_fail
set_option maxRecDepth 20000 in
theorem ggX10_bracket_X10_isSymbol : GoodIn wsX10_bracket wsX10_isSymbol := goodIn_r _ [48, 11, 30, 13, 112, 113, 114, 115, 116, 117, 118, 119, 120, 121, 122, 123, 124, 125, 126, 127, 128, 129, 130, 131, 132, 133, 134, 135, 136, 137, 138, 139, 140, 141, 142, 143, 144, 145, 146, 147, 148, 149, 150] rfl (by decide +kernel)
set_option maxRecDepth 20000 in
theorem gX10_bracket_X10_isSymbol : GoodIn wsX10_bracket (wsV RX10 191 RX10 yX10_isSymbol wsX10_isSymbol) := goodIn_app (goodIn_r _ [45, 46, 47, 5] rfl (by decide +kernel)) ggX10_bracket_X10_isSymbol
set_option maxRecDepth 20000 in
theorem ggX10_bracket_X10_opens : GoodIn wsX10_bracket wsX10_opens := goodIn_r _ [6, 1, 7, 8, 9, 5, 10, 11, 12, 13, 14, 15, 16, 17, 18, 19, 20, 21, 22, 23, 24, 25, 26, 27, 28, 29, 30, 31, 32, 33, 34, 35, 36, 37, 38, 39, 40, 41, 112, 113, 114, 115, 116, 117, 118, 119, 120, 121, 122, 123, 124, 125, 126, 127, 128, 129, 130, 131, 132, 133, 134, 135, 136, 137, 138, 139, 140, 141, 142, 143, 144, 145, 146, 147, 148, 149, 150] rfl (by decide +kernel)
set_option maxRecDepth 20000 in
theorem gX10_bracket_X10_opens : GoodIn wsX10_bracket (wsV RX10 185 RX10 yX10_opens wsX10_opens) := goodIn_app (goodIn_r _ [2, 3, 4, 5] rfl (by decide +kernel)) ggX10_bracket_X10_opens
set_option maxRecDepth 20000 in
theorem ggX10_condition_X10_advance : GoodIn wsX10_condition wsX10_advance := goodIn_r _ [14, 15, 16, 10, 17, 9, 18, 19, 20, 21, 22, 23, 4, 24, 25, 26, 27, 28, 29, 30, 31, 32, 33, 34, 35, 36, 37, 112, 113, 114, 115, 116, 117, 118, 119, 120, 121, 122, 123, 124, 125, 126, 127, 128, 129, 130, 131, 132, 133, 134, 135, 136, 137, 138, 139, 140, 141, 142, 143, 144, 145, 146, 147, 148, 149, 150] rfl (by decide +kernel)
set_option maxRecDepth 20000 in
theorem gX10_condition_X10_advance : GoodIn wsX10_condition (wsV RX10 159 RX10 yX10_advance wsX10_advance) := goodIn_app (goodIn_r _ [11, 12, 13, 4] rfl (by decide +kernel)) ggX10_condition_X10_advance
set_option maxRecDepth 20000 in
theorem ggX10_condition_X10_both : GoodIn wsX10_condition wsX10_both := goodIn_r _ [44, 45, 46, 47, 4, 5, 6, 7, 8, 9, 10, 11, 12, 13, 14, 15, 16, 17, 18, 19, 20, 21, 22, 23, 24, 25, 26, 27, 28, 29, 30, 31, 32, 33, 34, 35, 36, 37, 38, 39, 40, 41, 42, 43, 48, 49, 50, 51, 52, 53, 54, 55, 56, 57, 58, 59, 60, 61, 62, 63, 64, 65, 66, 0, 1, 2, 3, 67, 68, 69, 70, 71, 72, 73, 74, 75, 76, 77, 78, 79, 80, 81, 82, 83, 84, 85, 86, 87, 88, 89, 90, 91, 92, 93, 94, 95, 96, 97, 98, 99, 100, 101, 102, 103, 104, 105, 106, 107, 108, 109, 110, 111, 112, 113, 114, 115, 116, 117, 118, 119, 120, 121, 122, 123, 124, 125, 126, 127, 128, 129, 130, 131, 132, 133, 134, 135, 136, 137, 138, 139, 140, 141, 142, 143, 144, 145, 146, 147, 148, 149, 150] rfl (by decide +kernel)
set_option maxRecDepth 20000 in
theorem gX10_condition_X10_both : GoodIn wsX10_condition (wsV RX10 170 RX10 yX10_both wsX10_both) := goodIn_app (goodIn_r _ [1, 2, 3, 4] rfl (by decide +kernel)) ggX10_condition_X10_both
set_option maxRecDepth 20000 in
theorem ggX10_condition_X10_emit : GoodIn wsX10_condition wsX10_emit := goodIn_r _ [41, 42, 43, 112, 113, 114, 115, 116, 117, 118, 119, 120, 121, 122, 123, 124, 125, 126, 127, 128, 129, 130, 131, 132, 133, 134, 135, 136, 137, 138, 139, 140, 141, 142, 143, 144, 145, 146, 147, 148, 149, 150] rfl (by decide +kernel)
set_option maxRecDepth 20000 in
theorem gX10_condition_X10_emit : GoodIn wsX10_condition (wsV RX10 176 RX10 yX10_emit wsX10_emit) := goodIn_app (goodIn_r _ [38, 39, 40, 4] rfl (by decide +kernel)) ggX10_condition_X10_emit
set_option maxRecDepth 20000 in
theorem ggX10_condition_X10_isKeyword : GoodIn wsX10_condition wsX10_isKeyword := goodIn_r _ [8, 9, 10, 112, 113, 114, 115, 116, 117, 118, 119, 120, 121, 122, 123, 124, 125, 126, 127, 128, 129, 130, 131, 132, 133, 134, 135, 136, 137, 138, 139, 140, 141, 142, 143, 144, 145, 146, 147, 148, 149, 150] rfl (by decide +kernel)
set_option maxRecDepth 20000 in
theorem gX10_condition_X10_isKeyword : GoodIn wsX10_condition (wsV RX10 173 RX10 yX10_isKeyword wsX10_isKeyword) := goodIn_app (goodIn_r _ [5, 6, 7, 4] rfl (by decide +kernel)) ggX10_condition_X10_isKeyword
set_option maxRecDepth 20000 in
theorem ggX10_doneFact_X10_advance : GoodIn wsX10_doneFact wsX10_advance := goodIn_r _ [9, 10, 11, 12, 3, 13, 14, 15, 16, 17, 18, 19, 8, 20, 21, 22, 23, 24, 25, 26, 27, 28, 29, 30, 31, 32, 33, 53, 54, 55, 56, 57, 58, 59, 60, 61, 62, 63, 64, 65, 66, 67, 68, 69, 70, 71, 72, 73, 74, 75, 76, 77, 78, 79, 80, 81, 82, 83, 84, 85, 86, 87, 88, 89, 90, 91] rfl (by decide +kernel)
set_option maxRecDepth 20000 in
theorem gX10_doneFact_X10_advance : GoodIn wsX10_doneFact (wsV RX10 159 RX10 yX10_advance wsX10_advance) := goodIn_app (goodIn_r _ [5, 6, 7, 8] rfl (by decide +kernel)) ggX10_doneFact_X10_advance
set_option maxRecDepth 20000 in
theorem ggX10_doneFact_X10_emit : GoodIn wsX10_doneFact wsX10_emit := goodIn_r _ [50, 51, 52, 53, 54, 55, 56, 57, 58, 59, 60, 61, 62, 63, 64, 65, 66, 67, 68, 69, 70, 71, 72, 73, 74, 75, 76, 77, 78, 79, 80, 81, 82, 83, 84, 85, 86, 87, 88, 89, 90, 91] rfl (by decide +kernel)
set_option maxRecDepth 20000 in
theorem gX10_doneFact_X10_emit : GoodIn wsX10_doneFact (wsV RX10 176 RX10 yX10_emit wsX10_emit) := goodIn_app (goodIn_r _ [47, 48, 49, 8] rfl (by decide +kernel)) ggX10_doneFact_X10_emit
set_option maxRecDepth 20000 in
theorem ggX10_doneFact_X10_fail : GoodIn wsX10_doneFact wsX10_fail := goodIn_r _ [41, 13, 42, 11, 43, 53, 54, 55, 56, 57, 58, 59, 60, 61, 62, 63, 64, 65, 66, 67, 68, 69, 70, 71, 72, 73, 74, 75, 76, 77, 78, 79, 80, 81, 82, 83, 84, 85, 86, 87, 88, 89, 90, 91] rfl (by decide +kernel)
set_option maxRecDepth 20000 in
theorem gX10_doneFact_X10_fail : GoodIn wsX10_doneFact (wsV RX10 149 RX10 yX10_fail wsX10_fail) := goodIn_app (goodIn_r _ [38, 39, 40, 8] rfl (by decide +kernel)) ggX10_doneFact_X10_fail
set_option maxRecDepth 20000 in
theorem ggX10_doneFact_X10_find : GoodIn wsX10_doneFact wsX10_find := goodIn_r _ [46] rfl (by decide +kernel)
set_option maxRecDepth 20000 in
theorem gX10_doneFact_X10_find : GoodIn wsX10_doneFact (va_wsS RX10 197 yX10_find wsX10_find) := goodIn_app (goodIn_r _ [44, 45, 8] rfl (by decide +kernel)) ggX10_doneFact_X10_find
set_option maxRecDepth 20000 in
theorem ggX10_doneFact_X10_isName : GoodIn wsX10_doneFact wsX10_isName := goodIn_r _ [37, 13, 12, 53, 54, 55, 56, 57, 58, 59, 60, 61, 62, 63, 64, 65, 66, 67, 68, 69, 70, 71, 72, 73, 74, 75, 76, 77, 78, 79, 80, 81, 82, 83, 84, 85, 86, 87, 88, 89, 90, 91] rfl (by decide +kernel)
set_option maxRecDepth 20000 in
theorem gX10_doneFact_X10_isName : GoodIn wsX10_doneFact (wsV RX10 194 RX10 yX10_isName wsX10_isName) := goodIn_app (goodIn_r _ [34, 35, 36, 8] rfl (by decide +kernel)) ggX10_doneFact_X10_isName
set_option maxRecDepth 20000 in
theorem ggX10_fact_X10_bracket : GoodIn wsX10_fact wsX10_bracket := goodIn_r _ [98, 99, 100, 101, 102, 7, 103, 14, 15, 16, 17, 1, 18, 10, 19, 29, 30, 31, 32, 33, 2, 34, 35, 36, 37, 38, 39, 40, 41, 42, 9, 43, 44, 45, 46, 47, 48, 49, 50, 51, 52, 53, 104, 105, 106, 4, 5, 6, 8, 90, 91, 92, 93, 94, 95, 96, 97, 61, 62, 63, 64, 65, 66, 107, 108, 109, 110, 0, 3, 11, 12, 13, 20, 21, 22, 23, 24, 25, 26, 27, 28, 54, 55, 56, 57, 58, 59, 60, 67, 68, 69, 70, 71, 72, 73, 74, 75, 76, 77, 78, 79, 80, 81, 82, 83, 84, 85, 86, 87, 88, 89, 111, 112, 113, 114, 115, 116, 117, 118, 119, 120, 121, 122, 123, 124, 125, 126, 127, 128, 129, 130, 131, 132, 133, 134, 135, 136, 137, 138, 139, 140, 141, 142, 143, 144, 145, 146, 147, 148, 149, 150] rfl (by decide +kernel)
set_option maxRecDepth 20000 in
theorem gX10_fact_X10_bracket : GoodIn wsX10_fact (wsV RX10 203 RX10 yX10_bracket wsX10_bracket) := goodIn_app (goodIn_r _ [11, 12, 13, 7] rfl (by decide +kernel)) ggX10_fact_X10_bracket
set_option maxRecDepth 20000 in
theorem ggX10_fact_X10_doneFact : GoodIn wsX10_fact wsX10_doneFact := goodIn_r _ [83, 84, 72, 34, 85, 29, 30, 31, 7, 32, 33, 10, 2, 1, 35, 36, 37, 38, 39, 40, 41, 42, 9, 43, 44, 45, 46, 47, 48, 49, 50, 51, 52, 53, 73, 74, 75, 76, 14, 15, 16, 17, 18, 19, 77, 78, 79, 61, 62, 63, 64, 65, 66, 112, 113, 114, 115, 116, 117, 118, 119, 120, 121, 122, 123, 124, 125, 126, 127, 128, 129, 130, 131, 132, 133, 134, 135, 136, 137, 138, 139, 140, 141, 142, 143, 144, 145, 146, 147, 148, 149, 150] rfl (by decide +kernel)
set_option maxRecDepth 20000 in
theorem gX10_fact_X10_doneFact : GoodIn wsX10_fact (wsV RX10 215 RX10 yX10_doneFact wsX10_doneFact) := goodIn_app (goodIn_r _ [80, 81, 82, 7] rfl (by decide +kernel)) ggX10_fact_X10_doneFact
set_option maxRecDepth 20000 in
theorem ggX10_fact_X10_fail : GoodIn wsX10_fact wsX10_fail := goodIn_r _ [17, 1, 18, 10, 19, 112, 113, 114, 115, 116, 117, 118, 119, 120, 121, 122, 123, 124, 125, 126, 127, 128, 129, 130, 131, 132, 133, 134, 135, 136, 137, 138, 139, 140, 141, 142, 143, 144, 145, 146, 147, 148, 149, 150] rfl (by decide +kernel)
set_option maxRecDepth 20000 in
theorem gX10_fact_X10_fail : GoodIn wsX10_fact (wsV RX10 149 RX10 yX10_fail wsX10_fail) := goodIn_app (goodIn_r _ [14, 15, 16, 7] rfl (by decide +kernel)) ggX10_fact_X10_fail
set_option maxRecDepth 20000 in
theorem ggX10_fact_X10_isSymbol : GoodIn wsX10_fact wsX10_isSymbol := goodIn_r _ [8, 1, 9, 10, 112, 113, 114, 115, 116, 117, 118, 119, 120, 121, 122, 123, 124, 125, 126, 127, 128, 129, 130, 131, 132, 133, 134, 135, 136, 137, 138, 139, 140, 141, 142, 143, 144, 145, 146, 147, 148, 149, 150] rfl (by decide +kernel)
set_option maxRecDepth 20000 in
theorem gX10_fact_X10_isSymbol : GoodIn wsX10_fact (wsV RX10 191 RX10 yX10_isSymbol wsX10_isSymbol) := goodIn_app (goodIn_r _ [4, 5, 6, 7] rfl (by decide +kernel)) ggX10_fact_X10_isSymbol
set_option maxRecDepth 20000 in
theorem ggX10_fact_X10_notFact : GoodIn wsX10_fact wsX10_notFact := goodIn_r _ [111, 99, 100, 101, 102, 7, 103, 14, 15, 16, 17, 1, 18, 10, 19, 29, 30, 31, 32, 33, 2, 34, 35, 36, 37, 38, 39, 40, 41, 42, 9, 43, 44, 45, 46, 47, 48, 49, 50, 51, 52, 53, 91, 92, 93, 61, 62, 63, 64, 65, 66, 90, 94, 95, 96, 97, 98, 104, 105, 106, 4, 5, 6, 8, 107, 108, 109, 110, 0, 3, 11, 12, 13, 20, 21, 22, 23, 24, 25, 26, 27, 28, 54, 55, 56, 57, 58, 59, 60, 67, 68, 69, 70, 71, 72, 73, 74, 75, 76, 77, 78, 79, 80, 81, 82, 83, 84, 85, 86, 87, 88, 89, 112, 113, 114, 115, 116, 117, 118, 119, 120, 121, 122, 123, 124, 125, 126, 127, 128, 129, 130, 131, 132, 133, 134, 135, 136, 137, 138, 139, 140, 141, 142, 143, 144, 145, 146, 147, 148, 149, 150] rfl (by decide +kernel)
set_option maxRecDepth 20000 in
theorem gX10_fact_X10_notFact : GoodIn wsX10_fact (wsV RX10 206 RX10 yX10_notFact wsX10_notFact) := goodIn_app (goodIn_r _ [20, 21, 22, 7] rfl (by decide +kernel)) ggX10_fact_X10_notFact
set_option maxRecDepth 20000 in
theorem ggX10_fact_X10_numberFact : GoodIn wsX10_fact wsX10_numberFact := goodIn_r _ [26, 27, 28, 29, 30, 31, 7, 32, 33, 10, 2, 34, 1, 35, 36, 37, 38, 39, 40, 41, 42, 9, 43, 44, 45, 46, 47, 48, 49, 50, 51, 52, 53, 54, 55, 56, 57, 14, 15, 16, 17, 18, 19, 58, 59, 60, 61, 62, 63, 64, 65, 66, 112, 113, 114, 115, 116, 117, 118, 119, 120, 121, 122, 123, 124, 125, 126, 127, 128, 129, 130, 131, 132, 133, 134, 135, 136, 137, 138, 139, 140, 141, 142, 143, 144, 145, 146, 147, 148, 149, 150] rfl (by decide +kernel)
set_option maxRecDepth 20000 in
theorem gX10_fact_X10_numberFact : GoodIn wsX10_fact (wsV RX10 209 RX10 yX10_numberFact wsX10_numberFact) := goodIn_app (goodIn_r _ [23, 24, 25, 7] rfl (by decide +kernel)) ggX10_fact_X10_numberFact
set_option maxRecDepth 20000 in
theorem ggX10_fact_X10_plainFact : GoodIn wsX10_fact wsX10_plainFact := goodIn_r _ [89, 27, 61, 62, 63, 7, 64, 65, 66, 29, 30, 31, 32, 33, 10, 2, 34, 1, 35, 36, 37, 38, 39, 40, 41, 42, 9, 43, 44, 45, 46, 47, 48, 49, 50, 51, 52, 53, 112, 113, 114, 115, 116, 117, 118, 119, 120, 121, 122, 123, 124, 125, 126, 127, 128, 129, 130, 131, 132, 133, 134, 135, 136, 137, 138, 139, 140, 141, 142, 143, 144, 145, 146, 147, 148, 149, 150] rfl (by decide +kernel)
set_option maxRecDepth 20000 in
theorem gX10_fact_X10_plainFact : GoodIn wsX10_fact (wsV RX10 219 RX10 yX10_plainFact wsX10_plainFact) := goodIn_app (goodIn_r _ [86, 87, 88, 7] rfl (by decide +kernel)) ggX10_fact_X10_plainFact
set_option maxRecDepth 20000 in
theorem ggX10_fact_X10_proofFact : GoodIn wsX10_fact wsX10_proofFact := goodIn_r _ [70, 71, 72, 34, 27, 29, 30, 31, 7, 32, 33, 10, 2, 1, 35, 36, 37, 38, 39, 40, 41, 42, 9, 43, 44, 45, 46, 47, 48, 49, 50, 51, 52, 53, 73, 74, 75, 76, 14, 15, 16, 17, 18, 19, 77, 78, 79, 61, 62, 63, 64, 65, 66, 112, 113, 114, 115, 116, 117, 118, 119, 120, 121, 122, 123, 124, 125, 126, 127, 128, 129, 130, 131, 132, 133, 134, 135, 136, 137, 138, 139, 140, 141, 142, 143, 144, 145, 146, 147, 148, 149, 150] rfl (by decide +kernel)
set_option maxRecDepth 20000 in
theorem gX10_fact_X10_proofFact : GoodIn wsX10_fact (wsV RX10 212 RX10 yX10_proofFact wsX10_proofFact) := goodIn_app (goodIn_r _ [67, 68, 69, 7] rfl (by decide +kernel)) ggX10_fact_X10_proofFact
set_option maxRecDepth 20000 in
theorem ggX10_notFact_X10_emit : GoodIn wsX10_notFact wsX10_emit := goodIn_r _ [48, 49, 50, 112, 113, 114, 115, 116, 117, 118, 119, 120, 121, 122, 123, 124, 125, 126, 127, 128, 129, 130, 131, 132, 133, 134, 135, 136, 137, 138, 139, 140, 141, 142, 143, 144, 145, 146, 147, 148, 149, 150] rfl (by decide +kernel)
set_option maxRecDepth 20000 in
theorem gX10_notFact_X10_emit : GoodIn wsX10_notFact (wsV RX10 176 RX10 yX10_emit wsX10_emit) := goodIn_app (goodIn_r _ [45, 46, 47, 5] rfl (by decide +kernel)) ggX10_notFact_X10_emit
set_option maxRecDepth 20000 in
theorem ggX10_notFact_X10_fact : GoodIn wsX10_notFact wsX10_fact := goodIn_r _ [68, 11, 20, 69, 60, 61, 62, 5, 63, 30, 13, 70, 71, 72, 7, 8, 9, 10, 12, 14, 73, 74, 75, 76, 77, 78, 79, 80, 81, 15, 16, 17, 18, 19, 21, 22, 23, 24, 25, 26, 27, 28, 29, 31, 32, 33, 34, 35, 36, 37, 38, 39, 40, 41, 82, 83, 84, 85, 86, 87, 88, 45, 46, 47, 48, 49, 50, 89, 90, 91, 92, 93, 94, 95, 96, 97, 98, 99, 100, 101, 102, 103, 104, 105, 106, 107, 108, 109, 110, 111, 51, 42, 43, 44, 52, 53, 54, 55, 56, 1, 2, 3, 4, 6, 57, 58, 59, 64, 65, 66, 67, 0, 112, 113, 114, 115, 116, 117, 118, 119, 120, 121, 122, 123, 124, 125, 126, 127, 128, 129, 130, 131, 132, 133, 134, 135, 136, 137, 138, 139, 140, 141, 142, 143, 144, 145, 146, 147, 148, 149, 150] rfl (by decide +kernel)
set_option maxRecDepth 20000 in
theorem gX10_notFact_X10_fact : GoodIn wsX10_notFact (wsV RX10 179 RX10 yX10_fact wsX10_fact) := goodIn_app (goodIn_r _ [42, 43, 44, 5] rfl (by decide +kernel)) ggX10_notFact_X10_fact
set_option maxRecDepth 20000 in
theorem ggX10_notFact_X10_opens : GoodIn wsX10_notFact wsX10_opens := goodIn_r _ [6, 1, 7, 8, 9, 5, 10, 11, 12, 13, 14, 15, 16, 17, 18, 19, 20, 21, 22, 23, 24, 25, 26, 27, 28, 29, 30, 31, 32, 33, 34, 35, 36, 37, 38, 39, 40, 41, 112, 113, 114, 115, 116, 117, 118, 119, 120, 121, 122, 123, 124, 125, 126, 127, 128, 129, 130, 131, 132, 133, 134, 135, 136, 137, 138, 139, 140, 141, 142, 143, 144, 145, 146, 147, 148, 149, 150] rfl (by decide +kernel)
set_option maxRecDepth 20000 in
theorem gX10_notFact_X10_opens : GoodIn wsX10_notFact (wsV RX10 185 RX10 yX10_opens wsX10_opens) := goodIn_app (goodIn_r _ [2, 3, 4, 5] rfl (by decide +kernel)) ggX10_notFact_X10_opens
set_option maxRecDepth 20000 in
theorem ggX10_numberFact_X10_advance : GoodIn wsX10_numberFact wsX10_advance := goodIn_r _ [7, 8, 9, 10, 11, 12, 13, 14, 15, 16, 17, 18, 6, 19, 20, 21, 22, 23, 24, 25, 26, 27, 28, 29, 30, 31, 32, 52, 53, 54, 55, 56, 57, 58, 59, 60, 61, 62, 63, 64, 65, 66, 67, 68, 69, 70, 71, 72, 73, 74, 75, 76, 77, 78, 79, 80, 81, 82, 83, 84, 85, 86, 87, 88, 89, 90] rfl (by decide +kernel)
set_option maxRecDepth 20000 in
theorem gX10_numberFact_X10_advance : GoodIn wsX10_numberFact (wsV RX10 159 RX10 yX10_advance wsX10_advance) := goodIn_app (goodIn_r _ [3, 4, 5, 6] rfl (by decide +kernel)) ggX10_numberFact_X10_advance
set_option maxRecDepth 20000 in
theorem ggX10_numberFact_X10_emit : GoodIn wsX10_numberFact wsX10_emit := goodIn_r _ [49, 50, 51, 52, 53, 54, 55, 56, 57, 58, 59, 60, 61, 62, 63, 64, 65, 66, 67, 68, 69, 70, 71, 72, 73, 74, 75, 76, 77, 78, 79, 80, 81, 82, 83, 84, 85, 86, 87, 88, 89, 90] rfl (by decide +kernel)
set_option maxRecDepth 20000 in
theorem gX10_numberFact_X10_emit : GoodIn wsX10_numberFact (wsV RX10 176 RX10 yX10_emit wsX10_emit) := goodIn_app (goodIn_r _ [46, 47, 48, 6] rfl (by decide +kernel)) ggX10_numberFact_X10_emit
set_option maxRecDepth 20000 in
theorem ggX10_numberFact_X10_number : GoodIn wsX10_numberFact wsX10_number := goodIn_r _ [36, 12, 15, 2, 37, 38, 39, 6, 40, 41, 9, 42, 43, 44, 45, 3, 4, 5, 7, 8, 10, 11, 13, 14, 16, 17, 18, 19, 20, 21, 22, 23, 24, 25, 26, 27, 28, 29, 30, 31, 32, 52, 53, 54, 55, 56, 57, 58, 59, 60, 61, 62, 63, 64, 65, 66, 67, 68, 69, 70, 71, 72, 73, 74, 75, 76, 77, 78, 79, 80, 81, 82, 83, 84, 85, 86, 87, 88, 89, 90] rfl (by decide +kernel)
set_option maxRecDepth 20000 in
theorem gX10_numberFact_X10_number : GoodIn wsX10_numberFact (wsV RX10 163 RX10 yX10_number wsX10_number) := goodIn_app (goodIn_r _ [33, 34, 35, 6] rfl (by decide +kernel)) ggX10_numberFact_X10_number
set_option maxRecDepth 20000 in
theorem ggX10_opens_X10_advance : GoodIn wsX10_opens wsX10_advance := goodIn_r _ [14, 15, 9, 16, 17, 7, 18, 19, 20, 21, 22, 23, 5, 24, 25, 26, 27, 28, 29, 30, 31, 32, 33, 34, 35, 36, 37, 38, 39, 40, 41, 42, 43, 44, 45, 46, 47, 48, 49, 50, 51, 52, 53, 54, 55, 56, 57, 58, 59, 60, 61, 62, 63, 64, 65, 66, 67, 68, 69, 70, 71, 72, 73, 74, 75, 76] rfl (by decide +kernel)
set_option maxRecDepth 20000 in
theorem gX10_opens_X10_advance : GoodIn wsX10_opens (wsV RX10 159 RX10 yX10_advance wsX10_advance) := goodIn_app (goodIn_r _ [11, 12, 13, 5] rfl (by decide +kernel)) ggX10_opens_X10_advance
set_option maxRecDepth 20000 in
theorem ggX10_opens_X10_fail : GoodIn wsX10_opens wsX10_fail := goodIn_r _ [6, 7, 8, 9, 10, 38, 39, 40, 41, 42, 43, 44, 45, 46, 47, 48, 49, 50, 51, 52, 53, 54, 55, 56, 57, 58, 59, 60, 61, 62, 63, 64, 65, 66, 67, 68, 69, 70, 71, 72, 73, 74, 75, 76] rfl (by decide +kernel)
set_option maxRecDepth 20000 in
theorem gX10_opens_X10_fail : GoodIn wsX10_opens (wsV RX10 149 RX10 yX10_fail wsX10_fail) := goodIn_app (goodIn_r _ [2, 3, 4, 5] rfl (by decide +kernel)) ggX10_opens_X10_fail
set_option maxRecDepth 20000 in
theorem ggX10_plainFact_X10_advance : GoodIn wsX10_plainFact wsX10_advance := goodIn_r _ [12, 13, 14, 15, 16, 17, 18, 19, 20, 21, 22, 23, 5, 24, 25, 26, 27, 28, 29, 30, 31, 32, 33, 34, 35, 36, 37, 38, 39, 40, 41, 42, 43, 44, 45, 46, 47, 48, 49, 50, 51, 52, 53, 54, 55, 56, 57, 58, 59, 60, 61, 62, 63, 64, 65, 66, 67, 68, 69, 70, 71, 72, 73, 74, 75, 76] rfl (by decide +kernel)
set_option maxRecDepth 20000 in
theorem gX10_plainFact_X10_advance : GoodIn wsX10_plainFact (wsV RX10 159 RX10 yX10_advance wsX10_advance) := goodIn_app (goodIn_r _ [9, 10, 11, 5] rfl (by decide +kernel)) ggX10_plainFact_X10_advance
set_option maxRecDepth 20000 in
theorem ggX10_plainFact_X10_emit : GoodIn wsX10_plainFact wsX10_emit := goodIn_r _ [6, 7, 8, 38, 39, 40, 41, 42, 43, 44, 45, 46, 47, 48, 49, 50, 51, 52, 53, 54, 55, 56, 57, 58, 59, 60, 61, 62, 63, 64, 65, 66, 67, 68, 69, 70, 71, 72, 73, 74, 75, 76] rfl (by decide +kernel)
set_option maxRecDepth 20000 in
theorem gX10_plainFact_X10_emit : GoodIn wsX10_plainFact (wsV RX10 176 RX10 yX10_emit wsX10_emit) := goodIn_app (goodIn_r _ [2, 3, 4, 5] rfl (by decide +kernel)) ggX10_plainFact_X10_emit
set_option maxRecDepth 20000 in
theorem ggX10_proofFact_X10_advance : GoodIn wsX10_proofFact wsX10_advance := goodIn_r _ [9, 10, 11, 12, 3, 13, 14, 15, 16, 17, 18, 19, 8, 20, 21, 22, 23, 24, 25, 26, 27, 28, 29, 30, 31, 32, 33, 53, 54, 55, 56, 57, 58, 59, 60, 61, 62, 63, 64, 65, 66, 67, 68, 69, 70, 71, 72, 73, 74, 75, 76, 77, 78, 79, 80, 81, 82, 83, 84, 85, 86, 87, 88, 89, 90, 91] rfl (by decide +kernel)
set_option maxRecDepth 20000 in
theorem gX10_proofFact_X10_advance : GoodIn wsX10_proofFact (wsV RX10 159 RX10 yX10_advance wsX10_advance) := goodIn_app (goodIn_r _ [5, 6, 7, 8] rfl (by decide +kernel)) ggX10_proofFact_X10_advance
set_option maxRecDepth 20000 in
theorem ggX10_proofFact_X10_emit : GoodIn wsX10_proofFact wsX10_emit := goodIn_r _ [50, 51, 52, 53, 54, 55, 56, 57, 58, 59, 60, 61, 62, 63, 64, 65, 66, 67, 68, 69, 70, 71, 72, 73, 74, 75, 76, 77, 78, 79, 80, 81, 82, 83, 84, 85, 86, 87, 88, 89, 90, 91] rfl (by decide +kernel)
set_option maxRecDepth 20000 in
theorem gX10_proofFact_X10_emit : GoodIn wsX10_proofFact (wsV RX10 176 RX10 yX10_emit wsX10_emit) := goodIn_app (goodIn_r _ [47, 48, 49, 8] rfl (by decide +kernel)) ggX10_proofFact_X10_emit
set_option maxRecDepth 20000 in
theorem ggX10_proofFact_X10_fail : GoodIn wsX10_proofFact wsX10_fail := goodIn_r _ [41, 13, 42, 11, 43, 53, 54, 55, 56, 57, 58, 59, 60, 61, 62, 63, 64, 65, 66, 67, 68, 69, 70, 71, 72, 73, 74, 75, 76, 77, 78, 79, 80, 81, 82, 83, 84, 85, 86, 87, 88, 89, 90, 91] rfl (by decide +kernel)
set_option maxRecDepth 20000 in
theorem gX10_proofFact_X10_fail : GoodIn wsX10_proofFact (wsV RX10 149 RX10 yX10_fail wsX10_fail) := goodIn_app (goodIn_r _ [38, 39, 40, 8] rfl (by decide +kernel)) ggX10_proofFact_X10_fail
set_option maxRecDepth 20000 in
theorem ggX10_proofFact_X10_find : GoodIn wsX10_proofFact wsX10_find := goodIn_r _ [46] rfl (by decide +kernel)
set_option maxRecDepth 20000 in
theorem gX10_proofFact_X10_find : GoodIn wsX10_proofFact (va_wsS RX10 197 yX10_find wsX10_find) := goodIn_app (goodIn_r _ [44, 45, 8] rfl (by decide +kernel)) ggX10_proofFact_X10_find
set_option maxRecDepth 20000 in
theorem ggX10_proofFact_X10_isName : GoodIn wsX10_proofFact wsX10_isName := goodIn_r _ [37, 13, 12, 53, 54, 55, 56, 57, 58, 59, 60, 61, 62, 63, 64, 65, 66, 67, 68, 69, 70, 71, 72, 73, 74, 75, 76, 77, 78, 79, 80, 81, 82, 83, 84, 85, 86, 87, 88, 89, 90, 91] rfl (by decide +kernel)
set_option maxRecDepth 20000 in
theorem gX10_proofFact_X10_isName : GoodIn wsX10_proofFact (wsV RX10 194 RX10 yX10_isName wsX10_isName) := goodIn_app (goodIn_r _ [34, 35, 36, 8] rfl (by decide +kernel)) ggX10_proofFact_X10_isName
theorem dX10_both_0 : decode cX10_both 0 = .ok (.aload_n 0, 1) := by decide +kernel
theorem dX10_both_1 : decode cX10_both 1 = .ok (.invokevirtual 179, 3) := by decide +kernel
theorem dX10_both_4 : decode cX10_both 4 = .ok (.ifCond .ne 5, 3) := by decide +kernel
theorem dX10_both_7 : decode cX10_both 7 = .ok (.iconst 0, 1) := by decide +kernel
theorem dX10_both_8 : decode cX10_both 8 = .ok (.ireturn, 1) := by decide +kernel
theorem dX10_both_9 : decode cX10_both 9 = .ok (.aload_n 0, 1) := by decide +kernel
theorem dX10_both_10 : decode cX10_both 10 = .ok (.bipush 7, 2) := by decide +kernel
theorem dX10_both_12 : decode cX10_both 12 = .ok (.invokevirtual 173, 3) := by decide +kernel
theorem dX10_both_15 : decode cX10_both 15 = .ok (.ifCond .eq 26, 3) := by decide +kernel
theorem dX10_both_18 : decode cX10_both 18 = .ok (.aload_n 0, 1) := by decide +kernel
theorem dX10_both_19 : decode cX10_both 19 = .ok (.invokevirtual 159, 3) := by decide +kernel
theorem dX10_both_22 : decode cX10_both 22 = .ok (.pop, 1) := by decide +kernel
theorem dX10_both_23 : decode cX10_both 23 = .ok (.aload_n 0, 1) := by decide +kernel
theorem dX10_both_24 : decode cX10_both 24 = .ok (.invokevirtual 179, 3) := by decide +kernel
theorem dX10_both_27 : decode cX10_both 27 = .ok (.ifCond .ne 5, 3) := by decide +kernel
theorem dX10_both_30 : decode cX10_both 30 = .ok (.iconst 0, 1) := by decide +kernel
theorem dX10_both_31 : decode cX10_both 31 = .ok (.ireturn, 1) := by decide +kernel
theorem dX10_both_32 : decode cX10_both 32 = .ok (.aload_n 0, 1) := by decide +kernel
theorem dX10_both_33 : decode cX10_both 33 = .ok (.iconst (-1), 1) := by decide +kernel
theorem dX10_both_34 : decode cX10_both 34 = .ok (.invokevirtual 176, 3) := by decide +kernel
theorem dX10_both_37 : decode cX10_both 37 = .ok (.pop, 1) := by decide +kernel
theorem dX10_both_38 : decode cX10_both 38 = .ok (.goto (-29), 3) := by decide +kernel
theorem dX10_both_41 : decode cX10_both 41 = .ok (.iconst 1, 1) := by decide +kernel
theorem dX10_both_42 : decode cX10_both 42 = .ok (.ireturn, 1) := by decide +kernel
theorem dX10_bracket_0 : decode cX10_bracket 0 = .ok (.aload_n 0, 1) := by decide +kernel
theorem dX10_bracket_1 : decode cX10_bracket 1 = .ok (.invokevirtual 185, 3) := by decide +kernel
theorem dX10_bracket_4 : decode cX10_bracket 4 = .ok (.ifCond .eq 10, 3) := by decide +kernel
theorem dX10_bracket_7 : decode cX10_bracket 7 = .ok (.aload_n 0, 1) := by decide +kernel
theorem dX10_bracket_8 : decode cX10_bracket 8 = .ok (.invokevirtual 188, 3) := by decide +kernel
theorem dX10_bracket_11 : decode cX10_bracket 11 = .ok (.ifCond .ne 5, 3) := by decide +kernel
theorem dX10_bracket_14 : decode cX10_bracket 14 = .ok (.iconst 0, 1) := by decide +kernel
theorem dX10_bracket_15 : decode cX10_bracket 15 = .ok (.ireturn, 1) := by decide +kernel
theorem dX10_bracket_16 : decode cX10_bracket 16 = .ok (.aload_n 0, 1) := by decide +kernel
theorem dX10_bracket_17 : decode cX10_bracket 17 = .ok (.bipush 41, 2) := by decide +kernel
theorem dX10_bracket_19 : decode cX10_bracket 19 = .ok (.invokevirtual 191, 3) := by decide +kernel
theorem dX10_bracket_22 : decode cX10_bracket 22 = .ok (.ifCond .ne 9, 3) := by decide +kernel
theorem dX10_bracket_25 : decode cX10_bracket 25 = .ok (.aload_n 0, 1) := by decide +kernel
theorem dX10_bracket_26 : decode cX10_bracket 26 = .ok (.iconst 2, 1) := by decide +kernel
theorem dX10_bracket_27 : decode cX10_bracket 27 = .ok (.invokevirtual 149, 3) := by decide +kernel
theorem dX10_bracket_30 : decode cX10_bracket 30 = .ok (.ireturn, 1) := by decide +kernel
theorem dX10_bracket_31 : decode cX10_bracket 31 = .ok (.aload_n 0, 1) := by decide +kernel
theorem dX10_bracket_32 : decode cX10_bracket 32 = .ok (.dup, 1) := by decide +kernel
theorem dX10_bracket_33 : decode cX10_bracket 33 = .ok (.getfield 182, 3) := by decide +kernel
theorem dX10_bracket_36 : decode cX10_bracket 36 = .ok (.iconst 1, 1) := by decide +kernel
theorem dX10_bracket_37 : decode cX10_bracket 37 = .ok (.isub, 1) := by decide +kernel
theorem dX10_bracket_38 : decode cX10_bracket 38 = .ok (.putfield 182, 3) := by decide +kernel
theorem dX10_bracket_41 : decode cX10_bracket 41 = .ok (.aload_n 0, 1) := by decide +kernel
theorem dX10_bracket_42 : decode cX10_bracket 42 = .ok (.invokevirtual 159, 3) := by decide +kernel
theorem dX10_bracket_45 : decode cX10_bracket 45 = .ok (.ireturn, 1) := by decide +kernel
theorem dX10_condition_0 : decode cX10_condition 0 = .ok (.aload_n 0, 1) := by decide +kernel
theorem dX10_condition_1 : decode cX10_condition 1 = .ok (.invokevirtual 170, 3) := by decide +kernel
theorem dX10_condition_4 : decode cX10_condition 4 = .ok (.ifCond .ne 5, 3) := by decide +kernel
theorem dX10_condition_7 : decode cX10_condition 7 = .ok (.iconst 0, 1) := by decide +kernel
theorem dX10_condition_8 : decode cX10_condition 8 = .ok (.ireturn, 1) := by decide +kernel
theorem dX10_condition_9 : decode cX10_condition 9 = .ok (.aload_n 0, 1) := by decide +kernel
theorem dX10_condition_10 : decode cX10_condition 10 = .ok (.bipush 6, 2) := by decide +kernel
theorem dX10_condition_12 : decode cX10_condition 12 = .ok (.invokevirtual 173, 3) := by decide +kernel
theorem dX10_condition_15 : decode cX10_condition 15 = .ok (.ifCond .eq 27, 3) := by decide +kernel
theorem dX10_condition_18 : decode cX10_condition 18 = .ok (.aload_n 0, 1) := by decide +kernel
theorem dX10_condition_19 : decode cX10_condition 19 = .ok (.invokevirtual 159, 3) := by decide +kernel
theorem dX10_condition_22 : decode cX10_condition 22 = .ok (.pop, 1) := by decide +kernel
theorem dX10_condition_23 : decode cX10_condition 23 = .ok (.aload_n 0, 1) := by decide +kernel
theorem dX10_condition_24 : decode cX10_condition 24 = .ok (.invokevirtual 170, 3) := by decide +kernel
theorem dX10_condition_27 : decode cX10_condition 27 = .ok (.ifCond .ne 5, 3) := by decide +kernel
theorem dX10_condition_30 : decode cX10_condition 30 = .ok (.iconst 0, 1) := by decide +kernel
theorem dX10_condition_31 : decode cX10_condition 31 = .ok (.ireturn, 1) := by decide +kernel
theorem dX10_condition_32 : decode cX10_condition 32 = .ok (.aload_n 0, 1) := by decide +kernel
theorem dX10_condition_33 : decode cX10_condition 33 = .ok (.bipush (-2), 2) := by decide +kernel
theorem dX10_condition_35 : decode cX10_condition 35 = .ok (.invokevirtual 176, 3) := by decide +kernel
theorem dX10_condition_38 : decode cX10_condition 38 = .ok (.pop, 1) := by decide +kernel
theorem dX10_condition_39 : decode cX10_condition 39 = .ok (.goto (-30), 3) := by decide +kernel
theorem dX10_condition_42 : decode cX10_condition 42 = .ok (.iconst 1, 1) := by decide +kernel
theorem dX10_condition_43 : decode cX10_condition 43 = .ok (.ireturn, 1) := by decide +kernel
theorem dX10_doneFact_0 : decode cX10_doneFact 0 = .ok (.aload_n 0, 1) := by decide +kernel
theorem dX10_doneFact_1 : decode cX10_doneFact 1 = .ok (.invokevirtual 159, 3) := by decide +kernel
theorem dX10_doneFact_4 : decode cX10_doneFact 4 = .ok (.pop, 1) := by decide +kernel
theorem dX10_doneFact_5 : decode cX10_doneFact 5 = .ok (.aload_n 0, 1) := by decide +kernel
theorem dX10_doneFact_6 : decode cX10_doneFact 6 = .ok (.invokevirtual 194, 3) := by decide +kernel
theorem dX10_doneFact_9 : decode cX10_doneFact 9 = .ok (.ifCond .ne 9, 3) := by decide +kernel
theorem dX10_doneFact_12 : decode cX10_doneFact 12 = .ok (.aload_n 0, 1) := by decide +kernel
theorem dX10_doneFact_13 : decode cX10_doneFact 13 = .ok (.iconst 2, 1) := by decide +kernel
theorem dX10_doneFact_14 : decode cX10_doneFact 14 = .ok (.invokevirtual 149, 3) := by decide +kernel
theorem dX10_doneFact_17 : decode cX10_doneFact 17 = .ok (.ireturn, 1) := by decide +kernel
theorem dX10_doneFact_18 : decode cX10_doneFact 18 = .ok (.aload_n 0, 1) := by decide +kernel
theorem dX10_doneFact_19 : decode cX10_doneFact 19 = .ok (.getfield 39, 3) := by decide +kernel
theorem dX10_doneFact_22 : decode cX10_doneFact 22 = .ok (.aload_n 0, 1) := by decide +kernel
theorem dX10_doneFact_23 : decode cX10_doneFact 23 = .ok (.getfield 13, 3) := by decide +kernel
theorem dX10_doneFact_26 : decode cX10_doneFact 26 = .ok (.bipush 13, 2) := by decide +kernel
theorem dX10_doneFact_28 : decode cX10_doneFact 28 = .ok (.iaload, 1) := by decide +kernel
theorem dX10_doneFact_29 : decode cX10_doneFact 29 = .ok (.aload_n 0, 1) := by decide +kernel
theorem dX10_doneFact_30 : decode cX10_doneFact 30 = .ok (.getfield 123, 3) := by decide +kernel
theorem dX10_doneFact_33 : decode cX10_doneFact 33 = .ok (.invokestatic 197, 3) := by decide +kernel
theorem dX10_doneFact_36 : decode cX10_doneFact 36 = .ok (.istore_n 1, 1) := by decide +kernel
theorem dX10_doneFact_37 : decode cX10_doneFact 37 = .ok (.iload_n 1, 1) := by decide +kernel
theorem dX10_doneFact_38 : decode cX10_doneFact 38 = .ok (.iconst (-1), 1) := by decide +kernel
theorem dX10_doneFact_39 : decode cX10_doneFact 39 = .ok (.if_icmp .ne 9, 3) := by decide +kernel
theorem dX10_doneFact_42 : decode cX10_doneFact 42 = .ok (.aload_n 0, 1) := by decide +kernel
theorem dX10_doneFact_43 : decode cX10_doneFact 43 = .ok (.iconst 4, 1) := by decide +kernel
theorem dX10_doneFact_44 : decode cX10_doneFact 44 = .ok (.invokevirtual 149, 3) := by decide +kernel
theorem dX10_doneFact_47 : decode cX10_doneFact 47 = .ok (.ireturn, 1) := by decide +kernel
theorem dX10_doneFact_48 : decode cX10_doneFact 48 = .ok (.aload_n 0, 1) := by decide +kernel
theorem dX10_doneFact_49 : decode cX10_doneFact 49 = .ok (.ldc 202, 2) := by decide +kernel
theorem dX10_doneFact_51 : decode cX10_doneFact 51 = .ok (.iload_n 1, 1) := by decide +kernel
theorem dX10_doneFact_52 : decode cX10_doneFact 52 = .ok (.iadd, 1) := by decide +kernel
theorem dX10_doneFact_53 : decode cX10_doneFact 53 = .ok (.invokevirtual 176, 3) := by decide +kernel
theorem dX10_doneFact_56 : decode cX10_doneFact 56 = .ok (.pop, 1) := by decide +kernel
theorem dX10_doneFact_57 : decode cX10_doneFact 57 = .ok (.aload_n 0, 1) := by decide +kernel
theorem dX10_doneFact_58 : decode cX10_doneFact 58 = .ok (.invokevirtual 159, 3) := by decide +kernel
theorem dX10_doneFact_61 : decode cX10_doneFact 61 = .ok (.ireturn, 1) := by decide +kernel
theorem dX10_fact_0 : decode cX10_fact 0 = .ok (.aload_n 0, 1) := by decide +kernel
theorem dX10_fact_1 : decode cX10_fact 1 = .ok (.bipush 40, 2) := by decide +kernel
theorem dX10_fact_3 : decode cX10_fact 3 = .ok (.invokevirtual 191, 3) := by decide +kernel
theorem dX10_fact_6 : decode cX10_fact 6 = .ok (.ifCond .eq 8, 3) := by decide +kernel
theorem dX10_fact_9 : decode cX10_fact 9 = .ok (.aload_n 0, 1) := by decide +kernel
theorem dX10_fact_10 : decode cX10_fact 10 = .ok (.invokevirtual 203, 3) := by decide +kernel
theorem dX10_fact_13 : decode cX10_fact 13 = .ok (.ireturn, 1) := by decide +kernel
theorem dX10_fact_14 : decode cX10_fact 14 = .ok (.aload_n 0, 1) := by decide +kernel
theorem dX10_fact_15 : decode cX10_fact 15 = .ok (.getfield 126, 3) := by decide +kernel
theorem dX10_fact_18 : decode cX10_fact 18 = .ok (.iconst 2, 1) := by decide +kernel
theorem dX10_fact_19 : decode cX10_fact 19 = .ok (.if_icmp .eq 9, 3) := by decide +kernel
theorem dX10_fact_22 : decode cX10_fact 22 = .ok (.aload_n 0, 1) := by decide +kernel
theorem dX10_fact_23 : decode cX10_fact 23 = .ok (.iconst 2, 1) := by decide +kernel
theorem dX10_fact_24 : decode cX10_fact 24 = .ok (.invokevirtual 149, 3) := by decide +kernel
theorem dX10_fact_27 : decode cX10_fact 27 = .ok (.ireturn, 1) := by decide +kernel
theorem dX10_fact_28 : decode cX10_fact 28 = .ok (.aload_n 0, 1) := by decide +kernel
theorem dX10_fact_29 : decode cX10_fact 29 = .ok (.getfield 120, 3) := by decide +kernel
theorem dX10_fact_32 : decode cX10_fact 32 = .ok (.tableswitch 88 8 14 #[44, 49, 58, 63, 68, 76, 82], 44) := by decide +kernel
theorem dX10_fact_76 : decode cX10_fact 76 = .ok (.aload_n 0, 1) := by decide +kernel
theorem dX10_fact_77 : decode cX10_fact 77 = .ok (.invokevirtual 206, 3) := by decide +kernel
theorem dX10_fact_80 : decode cX10_fact 80 = .ok (.ireturn, 1) := by decide +kernel
theorem dX10_fact_81 : decode cX10_fact 81 = .ok (.aload_n 0, 1) := by decide +kernel
theorem dX10_fact_82 : decode cX10_fact 82 = .ok (.iconst 0, 1) := by decide +kernel
theorem dX10_fact_83 : decode cX10_fact 83 = .ok (.sipush 999, 3) := by decide +kernel
theorem dX10_fact_86 : decode cX10_fact 86 = .ok (.invokevirtual 209, 3) := by decide +kernel
theorem dX10_fact_89 : decode cX10_fact 89 = .ok (.ireturn, 1) := by decide +kernel
theorem dX10_fact_90 : decode cX10_fact 90 = .ok (.aload_n 0, 1) := by decide +kernel
theorem dX10_fact_91 : decode cX10_fact 91 = .ok (.invokevirtual 212, 3) := by decide +kernel
theorem dX10_fact_94 : decode cX10_fact 94 = .ok (.ireturn, 1) := by decide +kernel
theorem dX10_fact_95 : decode cX10_fact 95 = .ok (.aload_n 0, 1) := by decide +kernel
theorem dX10_fact_96 : decode cX10_fact 96 = .ok (.invokevirtual 215, 3) := by decide +kernel
theorem dX10_fact_99 : decode cX10_fact 99 = .ok (.ireturn, 1) := by decide +kernel
theorem dX10_fact_100 : decode cX10_fact 100 = .ok (.aload_n 0, 1) := by decide +kernel
theorem dX10_fact_101 : decode cX10_fact 101 = .ok (.iconst 3, 1) := by decide +kernel
theorem dX10_fact_102 : decode cX10_fact 102 = .ok (.ldc 218, 2) := by decide +kernel
theorem dX10_fact_104 : decode cX10_fact 104 = .ok (.invokevirtual 209, 3) := by decide +kernel
theorem dX10_fact_107 : decode cX10_fact 107 = .ok (.ireturn, 1) := by decide +kernel
theorem dX10_fact_108 : decode cX10_fact 108 = .ok (.aload_n 0, 1) := by decide +kernel
theorem dX10_fact_109 : decode cX10_fact 109 = .ok (.iconst 4, 1) := by decide +kernel
theorem dX10_fact_110 : decode cX10_fact 110 = .ok (.invokevirtual 219, 3) := by decide +kernel
theorem dX10_fact_113 : decode cX10_fact 113 = .ok (.ireturn, 1) := by decide +kernel
theorem dX10_fact_114 : decode cX10_fact 114 = .ok (.aload_n 0, 1) := by decide +kernel
theorem dX10_fact_115 : decode cX10_fact 115 = .ok (.iconst 5, 1) := by decide +kernel
theorem dX10_fact_116 : decode cX10_fact 116 = .ok (.invokevirtual 219, 3) := by decide +kernel
theorem dX10_fact_119 : decode cX10_fact 119 = .ok (.ireturn, 1) := by decide +kernel
theorem dX10_fact_120 : decode cX10_fact 120 = .ok (.aload_n 0, 1) := by decide +kernel
theorem dX10_fact_121 : decode cX10_fact 121 = .ok (.iconst 2, 1) := by decide +kernel
theorem dX10_fact_122 : decode cX10_fact 122 = .ok (.invokevirtual 149, 3) := by decide +kernel
theorem dX10_fact_125 : decode cX10_fact 125 = .ok (.ireturn, 1) := by decide +kernel
theorem dX10_find_0 : decode cX10_find 0 = .ok (.iconst 0, 1) := by decide +kernel
theorem dX10_find_1 : decode cX10_find 1 = .ok (.istore 4, 2) := by decide +kernel
theorem dX10_find_3 : decode cX10_find 3 = .ok (.iload 4, 2) := by decide +kernel
theorem dX10_find_5 : decode cX10_find 5 = .ok (.iload_n 1, 1) := by decide +kernel
theorem dX10_find_6 : decode cX10_find 6 = .ok (.if_icmp .ge 21, 3) := by decide +kernel
theorem dX10_find_9 : decode cX10_find 9 = .ok (.aload_n 0, 1) := by decide +kernel
theorem dX10_find_10 : decode cX10_find 10 = .ok (.iload 4, 2) := by decide +kernel
theorem dX10_find_12 : decode cX10_find 12 = .ok (.laload, 1) := by decide +kernel
theorem dX10_find_13 : decode cX10_find 13 = .ok (.lload_n 2, 1) := by decide +kernel
theorem dX10_find_14 : decode cX10_find 14 = .ok (.lcmp, 1) := by decide +kernel
theorem dX10_find_15 : decode cX10_find 15 = .ok (.ifCond .ne 6, 3) := by decide +kernel
theorem dX10_find_18 : decode cX10_find 18 = .ok (.iload 4, 2) := by decide +kernel
theorem dX10_find_20 : decode cX10_find 20 = .ok (.ireturn, 1) := by decide +kernel
theorem dX10_find_21 : decode cX10_find 21 = .ok (.iinc 4 1, 3) := by decide +kernel
theorem dX10_find_24 : decode cX10_find 24 = .ok (.goto (-21), 3) := by decide +kernel
theorem dX10_find_27 : decode cX10_find 27 = .ok (.iconst (-1), 1) := by decide +kernel
theorem dX10_find_28 : decode cX10_find 28 = .ok (.ireturn, 1) := by decide +kernel
theorem dX10_notFact_0 : decode cX10_notFact 0 = .ok (.aload_n 0, 1) := by decide +kernel
theorem dX10_notFact_1 : decode cX10_notFact 1 = .ok (.invokevirtual 185, 3) := by decide +kernel
theorem dX10_notFact_4 : decode cX10_notFact 4 = .ok (.ifCond .eq 10, 3) := by decide +kernel
theorem dX10_notFact_7 : decode cX10_notFact 7 = .ok (.aload_n 0, 1) := by decide +kernel
theorem dX10_notFact_8 : decode cX10_notFact 8 = .ok (.invokevirtual 179, 3) := by decide +kernel
theorem dX10_notFact_11 : decode cX10_notFact 11 = .ok (.ifCond .ne 5, 3) := by decide +kernel
theorem dX10_notFact_14 : decode cX10_notFact 14 = .ok (.iconst 0, 1) := by decide +kernel
theorem dX10_notFact_15 : decode cX10_notFact 15 = .ok (.ireturn, 1) := by decide +kernel
theorem dX10_notFact_16 : decode cX10_notFact 16 = .ok (.aload_n 0, 1) := by decide +kernel
theorem dX10_notFact_17 : decode cX10_notFact 17 = .ok (.dup, 1) := by decide +kernel
theorem dX10_notFact_18 : decode cX10_notFact 18 = .ok (.getfield 182, 3) := by decide +kernel
theorem dX10_notFact_21 : decode cX10_notFact 21 = .ok (.iconst 1, 1) := by decide +kernel
theorem dX10_notFact_22 : decode cX10_notFact 22 = .ok (.isub, 1) := by decide +kernel
theorem dX10_notFact_23 : decode cX10_notFact 23 = .ok (.putfield 182, 3) := by decide +kernel
theorem dX10_notFact_26 : decode cX10_notFact 26 = .ok (.aload_n 0, 1) := by decide +kernel
theorem dX10_notFact_27 : decode cX10_notFact 27 = .ok (.bipush (-3), 2) := by decide +kernel
theorem dX10_notFact_29 : decode cX10_notFact 29 = .ok (.invokevirtual 176, 3) := by decide +kernel
theorem dX10_notFact_32 : decode cX10_notFact 32 = .ok (.ireturn, 1) := by decide +kernel
theorem dX10_numberFact_0 : decode cX10_numberFact 0 = .ok (.aload_n 0, 1) := by decide +kernel
theorem dX10_numberFact_1 : decode cX10_numberFact 1 = .ok (.invokevirtual 159, 3) := by decide +kernel
theorem dX10_numberFact_4 : decode cX10_numberFact 4 = .ok (.pop, 1) := by decide +kernel
theorem dX10_numberFact_5 : decode cX10_numberFact 5 = .ok (.aload_n 0, 1) := by decide +kernel
theorem dX10_numberFact_6 : decode cX10_numberFact 6 = .ok (.iconst 0, 1) := by decide +kernel
theorem dX10_numberFact_7 : decode cX10_numberFact 7 = .ok (.iload_n 2, 1) := by decide +kernel
theorem dX10_numberFact_8 : decode cX10_numberFact 8 = .ok (.invokevirtual 163, 3) := by decide +kernel
theorem dX10_numberFact_11 : decode cX10_numberFact 11 = .ok (.ifCond .eq 23, 3) := by decide +kernel
theorem dX10_numberFact_14 : decode cX10_numberFact 14 = .ok (.aload_n 0, 1) := by decide +kernel
theorem dX10_numberFact_15 : decode cX10_numberFact 15 = .ok (.ldc 201, 2) := by decide +kernel
theorem dX10_numberFact_17 : decode cX10_numberFact 17 = .ok (.iload_n 1, 1) := by decide +kernel
theorem dX10_numberFact_18 : decode cX10_numberFact 18 = .ok (.imul, 1) := by decide +kernel
theorem dX10_numberFact_19 : decode cX10_numberFact 19 = .ok (.aload_n 0, 1) := by decide +kernel
theorem dX10_numberFact_20 : decode cX10_numberFact 20 = .ok (.getfield 156, 3) := by decide +kernel
theorem dX10_numberFact_23 : decode cX10_numberFact 23 = .ok (.iadd, 1) := by decide +kernel
theorem dX10_numberFact_24 : decode cX10_numberFact 24 = .ok (.invokevirtual 176, 3) := by decide +kernel
theorem dX10_numberFact_27 : decode cX10_numberFact 27 = .ok (.ifCond .eq 7, 3) := by decide +kernel
theorem dX10_numberFact_30 : decode cX10_numberFact 30 = .ok (.iconst 1, 1) := by decide +kernel
theorem dX10_numberFact_31 : decode cX10_numberFact 31 = .ok (.goto 4, 3) := by decide +kernel
theorem dX10_numberFact_34 : decode cX10_numberFact 34 = .ok (.iconst 0, 1) := by decide +kernel
theorem dX10_numberFact_35 : decode cX10_numberFact 35 = .ok (.ireturn, 1) := by decide +kernel
theorem dX10_opens_0 : decode cX10_opens 0 = .ok (.aload_n 0, 1) := by decide +kernel
theorem dX10_opens_1 : decode cX10_opens 1 = .ok (.getfield 182, 3) := by decide +kernel
theorem dX10_opens_4 : decode cX10_opens 4 = .ok (.bipush 8, 2) := by decide +kernel
theorem dX10_opens_6 : decode cX10_opens 6 = .ok (.if_icmp .ne 9, 3) := by decide +kernel
theorem dX10_opens_9 : decode cX10_opens 9 = .ok (.aload_n 0, 1) := by decide +kernel
theorem dX10_opens_10 : decode cX10_opens 10 = .ok (.iconst 5, 1) := by decide +kernel
theorem dX10_opens_11 : decode cX10_opens 11 = .ok (.invokevirtual 149, 3) := by decide +kernel
theorem dX10_opens_14 : decode cX10_opens 14 = .ok (.ireturn, 1) := by decide +kernel
theorem dX10_opens_15 : decode cX10_opens 15 = .ok (.aload_n 0, 1) := by decide +kernel
theorem dX10_opens_16 : decode cX10_opens 16 = .ok (.dup, 1) := by decide +kernel
theorem dX10_opens_17 : decode cX10_opens 17 = .ok (.getfield 182, 3) := by decide +kernel
theorem dX10_opens_20 : decode cX10_opens 20 = .ok (.iconst 1, 1) := by decide +kernel
theorem dX10_opens_21 : decode cX10_opens 21 = .ok (.iadd, 1) := by decide +kernel
theorem dX10_opens_22 : decode cX10_opens 22 = .ok (.putfield 182, 3) := by decide +kernel
theorem dX10_opens_25 : decode cX10_opens 25 = .ok (.aload_n 0, 1) := by decide +kernel
theorem dX10_opens_26 : decode cX10_opens 26 = .ok (.invokevirtual 159, 3) := by decide +kernel
theorem dX10_opens_29 : decode cX10_opens 29 = .ok (.ireturn, 1) := by decide +kernel
theorem dX10_plainFact_0 : decode cX10_plainFact 0 = .ok (.aload_n 0, 1) := by decide +kernel
theorem dX10_plainFact_1 : decode cX10_plainFact 1 = .ok (.ldc 201, 2) := by decide +kernel
theorem dX10_plainFact_3 : decode cX10_plainFact 3 = .ok (.iload_n 1, 1) := by decide +kernel
theorem dX10_plainFact_4 : decode cX10_plainFact 4 = .ok (.imul, 1) := by decide +kernel
theorem dX10_plainFact_5 : decode cX10_plainFact 5 = .ok (.invokevirtual 176, 3) := by decide +kernel
theorem dX10_plainFact_8 : decode cX10_plainFact 8 = .ok (.pop, 1) := by decide +kernel
theorem dX10_plainFact_9 : decode cX10_plainFact 9 = .ok (.aload_n 0, 1) := by decide +kernel
theorem dX10_plainFact_10 : decode cX10_plainFact 10 = .ok (.invokevirtual 159, 3) := by decide +kernel
theorem dX10_plainFact_13 : decode cX10_plainFact 13 = .ok (.ireturn, 1) := by decide +kernel
theorem dX10_proofFact_0 : decode cX10_proofFact 0 = .ok (.aload_n 0, 1) := by decide +kernel
theorem dX10_proofFact_1 : decode cX10_proofFact 1 = .ok (.invokevirtual 159, 3) := by decide +kernel
theorem dX10_proofFact_4 : decode cX10_proofFact 4 = .ok (.pop, 1) := by decide +kernel
theorem dX10_proofFact_5 : decode cX10_proofFact 5 = .ok (.aload_n 0, 1) := by decide +kernel
theorem dX10_proofFact_6 : decode cX10_proofFact 6 = .ok (.invokevirtual 194, 3) := by decide +kernel
theorem dX10_proofFact_9 : decode cX10_proofFact 9 = .ok (.ifCond .ne 9, 3) := by decide +kernel
theorem dX10_proofFact_12 : decode cX10_proofFact 12 = .ok (.aload_n 0, 1) := by decide +kernel
theorem dX10_proofFact_13 : decode cX10_proofFact 13 = .ok (.iconst 2, 1) := by decide +kernel
theorem dX10_proofFact_14 : decode cX10_proofFact 14 = .ok (.invokevirtual 149, 3) := by decide +kernel
theorem dX10_proofFact_17 : decode cX10_proofFact 17 = .ok (.ireturn, 1) := by decide +kernel
theorem dX10_proofFact_18 : decode cX10_proofFact 18 = .ok (.aload_n 0, 1) := by decide +kernel
theorem dX10_proofFact_19 : decode cX10_proofFact 19 = .ok (.getfield 45, 3) := by decide +kernel
theorem dX10_proofFact_22 : decode cX10_proofFact 22 = .ok (.aload_n 0, 1) := by decide +kernel
theorem dX10_proofFact_23 : decode cX10_proofFact 23 = .ok (.getfield 13, 3) := by decide +kernel
theorem dX10_proofFact_26 : decode cX10_proofFact 26 = .ok (.bipush 14, 2) := by decide +kernel
theorem dX10_proofFact_28 : decode cX10_proofFact 28 = .ok (.iaload, 1) := by decide +kernel
theorem dX10_proofFact_29 : decode cX10_proofFact 29 = .ok (.aload_n 0, 1) := by decide +kernel
theorem dX10_proofFact_30 : decode cX10_proofFact 30 = .ok (.getfield 123, 3) := by decide +kernel
theorem dX10_proofFact_33 : decode cX10_proofFact 33 = .ok (.invokestatic 197, 3) := by decide +kernel
theorem dX10_proofFact_36 : decode cX10_proofFact 36 = .ok (.istore_n 1, 1) := by decide +kernel
theorem dX10_proofFact_37 : decode cX10_proofFact 37 = .ok (.iload_n 1, 1) := by decide +kernel
theorem dX10_proofFact_38 : decode cX10_proofFact 38 = .ok (.iconst (-1), 1) := by decide +kernel
theorem dX10_proofFact_39 : decode cX10_proofFact 39 = .ok (.if_icmp .ne 50, 3) := by decide +kernel
theorem dX10_proofFact_42 : decode cX10_proofFact 42 = .ok (.aload_n 0, 1) := by decide +kernel
theorem dX10_proofFact_43 : decode cX10_proofFact 43 = .ok (.getfield 13, 3) := by decide +kernel
theorem dX10_proofFact_46 : decode cX10_proofFact 46 = .ok (.bipush 14, 2) := by decide +kernel
theorem dX10_proofFact_48 : decode cX10_proofFact 48 = .ok (.iaload, 1) := by decide +kernel
theorem dX10_proofFact_49 : decode cX10_proofFact 49 = .ok (.bipush 8, 2) := by decide +kernel
theorem dX10_proofFact_51 : decode cX10_proofFact 51 = .ok (.if_icmp .ne 9, 3) := by decide +kernel
theorem dX10_proofFact_54 : decode cX10_proofFact 54 = .ok (.aload_n 0, 1) := by decide +kernel
theorem dX10_proofFact_55 : decode cX10_proofFact 55 = .ok (.iconst 5, 1) := by decide +kernel
theorem dX10_proofFact_56 : decode cX10_proofFact 56 = .ok (.invokevirtual 149, 3) := by decide +kernel
theorem dX10_proofFact_59 : decode cX10_proofFact 59 = .ok (.ireturn, 1) := by decide +kernel
theorem dX10_proofFact_60 : decode cX10_proofFact 60 = .ok (.aload_n 0, 1) := by decide +kernel
theorem dX10_proofFact_61 : decode cX10_proofFact 61 = .ok (.getfield 13, 3) := by decide +kernel
theorem dX10_proofFact_64 : decode cX10_proofFact 64 = .ok (.bipush 14, 2) := by decide +kernel
theorem dX10_proofFact_66 : decode cX10_proofFact 66 = .ok (.iaload, 1) := by decide +kernel
theorem dX10_proofFact_67 : decode cX10_proofFact 67 = .ok (.istore_n 1, 1) := by decide +kernel
theorem dX10_proofFact_68 : decode cX10_proofFact 68 = .ok (.aload_n 0, 1) := by decide +kernel
theorem dX10_proofFact_69 : decode cX10_proofFact 69 = .ok (.getfield 45, 3) := by decide +kernel
theorem dX10_proofFact_72 : decode cX10_proofFact 72 = .ok (.iload_n 1, 1) := by decide +kernel
theorem dX10_proofFact_73 : decode cX10_proofFact 73 = .ok (.aload_n 0, 1) := by decide +kernel
theorem dX10_proofFact_74 : decode cX10_proofFact 74 = .ok (.getfield 123, 3) := by decide +kernel
theorem dX10_proofFact_77 : decode cX10_proofFact 77 = .ok (.lastore, 1) := by decide +kernel
theorem dX10_proofFact_78 : decode cX10_proofFact 78 = .ok (.aload_n 0, 1) := by decide +kernel
theorem dX10_proofFact_79 : decode cX10_proofFact 79 = .ok (.getfield 13, 3) := by decide +kernel
theorem dX10_proofFact_82 : decode cX10_proofFact 82 = .ok (.bipush 14, 2) := by decide +kernel
theorem dX10_proofFact_84 : decode cX10_proofFact 84 = .ok (.dup2, 1) := by decide +kernel
theorem dX10_proofFact_85 : decode cX10_proofFact 85 = .ok (.iaload, 1) := by decide +kernel
theorem dX10_proofFact_86 : decode cX10_proofFact 86 = .ok (.iconst 1, 1) := by decide +kernel
theorem dX10_proofFact_87 : decode cX10_proofFact 87 = .ok (.iadd, 1) := by decide +kernel
theorem dX10_proofFact_88 : decode cX10_proofFact 88 = .ok (.iastore, 1) := by decide +kernel
theorem dX10_proofFact_89 : decode cX10_proofFact 89 = .ok (.aload_n 0, 1) := by decide +kernel
theorem dX10_proofFact_90 : decode cX10_proofFact 90 = .ok (.ldc 201, 2) := by decide +kernel
theorem dX10_proofFact_92 : decode cX10_proofFact 92 = .ok (.iload_n 1, 1) := by decide +kernel
theorem dX10_proofFact_93 : decode cX10_proofFact 93 = .ok (.iadd, 1) := by decide +kernel
theorem dX10_proofFact_94 : decode cX10_proofFact 94 = .ok (.invokevirtual 176, 3) := by decide +kernel
theorem dX10_proofFact_97 : decode cX10_proofFact 97 = .ok (.pop, 1) := by decide +kernel
theorem dX10_proofFact_98 : decode cX10_proofFact 98 = .ok (.aload_n 0, 1) := by decide +kernel
theorem dX10_proofFact_99 : decode cX10_proofFact 99 = .ok (.invokevirtual 159, 3) := by decide +kernel
theorem dX10_proofFact_102 : decode cX10_proofFact 102 = .ok (.ireturn, 1) := by decide +kernel
