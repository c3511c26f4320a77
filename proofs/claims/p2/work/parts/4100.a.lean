set_option maxRecDepth 20000 in
theorem ggX10_advance_X10_byteAt : GoodIn wsX10_advance wsX10_byteAt := goodIn_r _ [13, 14, 15, 27, 28, 29, 30, 31, 32, 33, 34, 35, 36, 37, 38, 39, 40, 41, 42, 43, 44, 45, 46, 47, 48, 49, 50, 51, 52, 53, 54, 55, 56, 57, 58, 59, 60, 61, 62, 63, 64, 65] rfl (by decide +kernel)
set_option maxRecDepth 20000 in
theorem gX10_advance_X10_byteAt : GoodIn wsX10_advance (wsV RX10 113 RX10 yX10_byteAt wsX10_byteAt) := goodIn_app (goodIn_r _ [9, 10, 11, 12] rfl (by decide +kernel)) ggX10_advance_X10_byteAt
set_option maxRecDepth 20000 in
theorem ggX10_advance_X10_isDigit : GoodIn wsX10_advance wsX10_isDigit := goodIn_r _ [26] rfl (by decide +kernel)
set_option maxRecDepth 20000 in
theorem gX10_advance_X10_isDigit : GoodIn wsX10_advance (va_wsS RX10 137 yX10_isDigit wsX10_isDigit) := goodIn_app (goodIn_r _ [24, 25, 12] rfl (by decide +kernel)) ggX10_advance_X10_isDigit
set_option maxRecDepth 20000 in
theorem ggX10_advance_X10_isLetter : GoodIn wsX10_advance wsX10_isLetter := goodIn_r _ [18] rfl (by decide +kernel)
set_option maxRecDepth 20000 in
theorem gX10_advance_X10_isLetter : GoodIn wsX10_advance (va_wsS RX10 129 yX10_isLetter wsX10_isLetter) := goodIn_app (goodIn_r _ [16, 17, 12] rfl (by decide +kernel)) ggX10_advance_X10_isLetter
set_option maxRecDepth 20000 in
theorem ggX10_advance_X10_keywordOf : GoodIn wsX10_advance wsX10_keywordOf := goodIn_r _ [22, 23, 27, 28, 29, 30, 31, 32, 33, 34, 35, 36, 37, 38, 39, 40, 41, 42, 43, 44, 45, 46, 47, 48, 49, 50, 51, 52, 53, 54, 55, 56, 57, 58, 59, 60, 61, 62, 63, 64, 65] rfl (by decide +kernel)
set_option maxRecDepth 20000 in
theorem gX10_advance_X10_keywordOf : GoodIn wsX10_advance (wsV RX10 133 RX10 yX10_keywordOf wsX10_keywordOf) := goodIn_app (goodIn_r _ [19, 20, 21, 12] rfl (by decide +kernel)) ggX10_advance_X10_keywordOf
set_option maxRecDepth 20000 in
theorem ggX10_both_X10_advance : GoodIn wsX10_both wsX10_advance := goodIn_r _ [14, 15, 16, 10, 17, 9, 18, 19, 20, 21, 22, 23, 4, 24, 25, 26, 27, 28, 29, 30, 31, 32, 33, 34, 35, 36, 37, 112, 113, 114, 115, 116, 117, 118, 119, 120, 121, 122, 123, 124, 125, 126, 127, 128, 129, 130, 131, 132, 133, 134, 135, 136, 137, 138, 139, 140, 141, 142, 143, 144, 145, 146, 147, 148, 149, 150] rfl (by decide +kernel)
set_option maxRecDepth 20000 in
theorem gX10_both_X10_advance : GoodIn wsX10_both (wsV RX10 159 RX10 yX10_advance wsX10_advance) := goodIn_app (goodIn_r _ [11, 12, 13, 4] rfl (by decide +kernel)) ggX10_both_X10_advance
set_option maxRecDepth 20000 in
theorem ggX10_both_X10_emit : GoodIn wsX10_both wsX10_emit := goodIn_r _ [41, 42, 43, 112, 113, 114, 115, 116, 117, 118, 119, 120, 121, 122, 123, 124, 125, 126, 127, 128, 129, 130, 131, 132, 133, 134, 135, 136, 137, 138, 139, 140, 141, 142, 143, 144, 145, 146, 147, 148, 149, 150] rfl (by decide +kernel)
set_option maxRecDepth 20000 in
theorem gX10_both_X10_emit : GoodIn wsX10_both (wsV RX10 176 RX10 yX10_emit wsX10_emit) := goodIn_app (goodIn_r _ [38, 39, 40, 4] rfl (by decide +kernel)) ggX10_both_X10_emit
set_option maxRecDepth 20000 in
theorem ggX10_both_X10_fact : GoodIn wsX10_both wsX10_fact := goodIn_r _ [67, 9, 10, 68, 59, 60, 61, 4, 62, 26, 16, 69, 70, 71, 50, 51, 52, 53, 54, 55, 72, 73, 74, 75, 76, 77, 78, 79, 80, 11, 12, 13, 14, 15, 17, 18, 19, 20, 21, 22, 23, 24, 25, 27, 28, 29, 30, 31, 32, 33, 34, 35, 36, 37, 81, 82, 83, 84, 85, 86, 87, 38, 39, 40, 41, 42, 43, 88, 89, 90, 91, 92, 93, 94, 95, 96, 97, 98, 99, 100, 101, 102, 103, 104, 105, 106, 107, 108, 109, 110, 0, 1, 2, 3, 5, 6, 7, 8, 44, 45, 46, 47, 48, 49, 56, 57, 58, 63, 64, 65, 66, 111, 112, 113, 114, 115, 116, 117, 118, 119, 120, 121, 122, 123, 124, 125, 126, 127, 128, 129, 130, 131, 132, 133, 134, 135, 136, 137, 138, 139, 140, 141, 142, 143, 144, 145, 146, 147, 148, 149, 150] rfl (by decide +kernel)
set_option maxRecDepth 20000 in
theorem gX10_both_X10_fact : GoodIn wsX10_both (wsV RX10 179 RX10 yX10_fact wsX10_fact) := goodIn_app (goodIn_r _ [1, 2, 3, 4] rfl (by decide +kernel)) ggX10_both_X10_fact
set_option maxRecDepth 20000 in
theorem ggX10_both_X10_isKeyword : GoodIn wsX10_both wsX10_isKeyword := goodIn_r _ [8, 9, 10, 112, 113, 114, 115, 116, 117, 118, 119, 120, 121, 122, 123, 124, 125, 126, 127, 128, 129, 130, 131, 132, 133, 134, 135, 136, 137, 138, 139, 140, 141, 142, 143, 144, 145, 146, 147, 148, 149, 150] rfl (by decide +kernel)
set_option maxRecDepth 20000 in
theorem gX10_both_X10_isKeyword : GoodIn wsX10_both (wsV RX10 173 RX10 yX10_isKeyword wsX10_isKeyword) := goodIn_app (goodIn_r _ [5, 6, 7, 4] rfl (by decide +kernel)) ggX10_both_X10_isKeyword
set_option maxRecDepth 20000 in
theorem ggX10_bracket_X10_opens : GoodIn wsX10_bracket wsX10_opens := goodIn_r _ [6, 1, 7, 8, 9, 5, 10, 11, 12, 13, 14, 15, 16, 17, 18, 19, 20, 21, 22, 23, 24, 25, 26, 27, 28, 29, 30, 31, 32, 33, 34, 35, 36, 37, 38, 39, 40, 41, 112, 113, 114, 115, 116, 117, 118, 119, 120, 121, 122, 123, 124, 125, 126, 127, 128, 129, 130, 131, 132, 133, 134, 135, 136, 137, 138, 139, 140, 141, 142, 143, 144, 145, 146, 147, 148, 149, 150] rfl (by decide +kernel)
set_option maxRecDepth 20000 in
theorem gX10_bracket_X10_opens : GoodIn wsX10_bracket (wsV RX10 185 RX10 yX10_opens wsX10_opens) := goodIn_app (goodIn_r _ [2, 3, 4, 5] rfl (by decide +kernel)) ggX10_bracket_X10_opens
set_option maxRecDepth 20000 in
theorem ggX10_condition_X10_advance : GoodIn wsX10_condition wsX10_advance := goodIn_r _ [14, 15, 16, 10, 17, 9, 18, 19, 20, 21, 22, 23, 4, 24, 25, 26, 27, 28, 29, 30, 31, 32, 33, 34, 35, 36, 37, 112, 113, 114, 115, 116, 117, 118, 119, 120, 121, 122, 123, 124, 125, 126, 127, 128, 129, 130, 131, 132, 133, 134, 135, 136, 137, 138, 139, 140, 141, 142, 143, 144, 145, 146, 147, 148, 149, 150] rfl (by decide +kernel)
set_option maxRecDepth 20000 in
theorem gX10_condition_X10_advance : GoodIn wsX10_condition (wsV RX10 159 RX10 yX10_advance wsX10_advance) := goodIn_app (goodIn_r _ [11, 12, 13, 4] rfl (by decide +kernel)) ggX10_condition_X10_advance
set_option maxRecDepth 20000 in
theorem ggX10_condition_X10_both : GoodIn wsX10_condition wsX10_both := goodIn_r _ [44, 45, 46, 47, 4, 5, 6, 7, 8, 9, 10, 11, 12, 13, 14, 15, 16, 17, 18, 19, 20, 21, 22, 23, 24, 25, 26, 27, 28, 29, 30, 31, 32, 33, 34, 35, 36, 37, 38, 39, 40, 41, 42, 43, 48, 49, 50, 51, 52, 53, 54, 55, 56, 57, 58, 59, 60, 61, 62, 63, 64, 65, 66, 0, 1, 2, 3, 67, 68, 69, 70, 71, 72, 73, 74, 75, 76, 77, 78, 79, 80, 81, 82, 83, 84, 85, 86, 87, 88, 89, 90, 91, 92, 93, 94, 95, 96, 97, 98, 99, 100, 101, 102, 103, 104, 105, 106, 107, 108, 109, 110, 111, 112, 113, 114, 115, 116, 117, 118, 119, 120, 121, 122, 123, 124, 125, 126, 127, 128, 129, 130, 131, 132, 133, 134, 135, 136, 137, 138, 139, 140, 141, 142, 143, 144, 145, 146, 147, 148, 149, 150] rfl (by decide +kernel)
set_option maxRecDepth 20000 in
theorem gX10_condition_X10_both : GoodIn wsX10_condition (wsV RX10 170 RX10 yX10_both wsX10_both) := goodIn_app (goodIn_r _ [1, 2, 3, 4] rfl (by decide +kernel)) ggX10_condition_X10_both
set_option maxRecDepth 20000 in
theorem ggX10_condition_X10_emit : GoodIn wsX10_condition wsX10_emit := goodIn_r _ [41, 42, 43, 112, 113, 114, 115, 116, 117, 118, 119, 120, 121, 122, 123, 124, 125, 126, 127, 128, 129, 130, 131, 132, 133, 134, 135, 136, 137, 138, 139, 140, 141, 142, 143, 144, 145, 146, 147, 148, 149, 150] rfl (by decide +kernel)
set_option maxRecDepth 20000 in
theorem gX10_condition_X10_emit : GoodIn wsX10_condition (wsV RX10 176 RX10 yX10_emit wsX10_emit) := goodIn_app (goodIn_r _ [38, 39, 40, 4] rfl (by decide +kernel)) ggX10_condition_X10_emit
set_option maxRecDepth 20000 in
theorem ggX10_condition_X10_isKeyword : GoodIn wsX10_condition wsX10_isKeyword := goodIn_r _ [8, 9, 10, 112, 113, 114, 115, 116, 117, 118, 119, 120, 121, 122, 123, 124, 125, 126, 127, 128, 129, 130, 131, 132, 133, 134, 135, 136, 137, 138, 139, 140, 141, 142, 143, 144, 145, 146, 147, 148, 149, 150] rfl (by decide +kernel)
set_option maxRecDepth 20000 in
theorem gX10_condition_X10_isKeyword : GoodIn wsX10_condition (wsV RX10 173 RX10 yX10_isKeyword wsX10_isKeyword) := goodIn_app (goodIn_r _ [5, 6, 7, 4] rfl (by decide +kernel)) ggX10_condition_X10_isKeyword
set_option maxRecDepth 20000 in
theorem ggX10_doneFact_X10_advance : GoodIn wsX10_doneFact wsX10_advance := goodIn_r _ [9, 10, 11, 12, 3, 13, 14, 15, 16, 17, 18, 19, 8, 20, 21, 22, 23, 24, 25, 26, 27, 28, 29, 30, 31, 32, 33, 53, 54, 55, 56, 57, 58, 59, 60, 61, 62, 63, 64, 65, 66, 67, 68, 69, 70, 71, 72, 73, 74, 75, 76, 77, 78, 79, 80, 81, 82, 83, 84, 85, 86, 87, 88, 89, 90, 91] rfl (by decide +kernel)
set_option maxRecDepth 20000 in
theorem gX10_doneFact_X10_advance : GoodIn wsX10_doneFact (wsV RX10 159 RX10 yX10_advance wsX10_advance) := goodIn_app (goodIn_r _ [5, 6, 7, 8] rfl (by decide +kernel)) ggX10_doneFact_X10_advance
set_option maxRecDepth 20000 in
theorem ggX10_doneFact_X10_emit : GoodIn wsX10_doneFact wsX10_emit := goodIn_r _ [50, 51, 52, 53, 54, 55, 56, 57, 58, 59, 60, 61, 62, 63, 64, 65, 66, 67, 68, 69, 70, 71, 72, 73, 74, 75, 76, 77, 78, 79, 80, 81, 82, 83, 84, 85, 86, 87, 88, 89, 90, 91] rfl (by decide +kernel)
set_option maxRecDepth 20000 in
theorem gX10_doneFact_X10_emit : GoodIn wsX10_doneFact (wsV RX10 176 RX10 yX10_emit wsX10_emit) := goodIn_app (goodIn_r _ [47, 48, 49, 8] rfl (by decide +kernel)) ggX10_doneFact_X10_emit
set_option maxRecDepth 20000 in
theorem ggX10_doneFact_X10_fail : GoodIn wsX10_doneFact wsX10_fail := goodIn_r _ [41, 13, 42, 11, 43, 53, 54, 55, 56, 57, 58, 59, 60, 61, 62, 63, 64, 65, 66, 67, 68, 69, 70, 71, 72, 73, 74, 75, 76, 77, 78, 79, 80, 81, 82, 83, 84, 85, 86, 87, 88, 89, 90, 91] rfl (by decide +kernel)
set_option maxRecDepth 20000 in
theorem gX10_doneFact_X10_fail : GoodIn wsX10_doneFact (wsV RX10 149 RX10 yX10_fail wsX10_fail) := goodIn_app (goodIn_r _ [38, 39, 40, 8] rfl (by decide +kernel)) ggX10_doneFact_X10_fail
set_option maxRecDepth 20000 in
theorem ggX10_doneFact_X10_find : GoodIn wsX10_doneFact wsX10_find := goodIn_r _ [46] rfl (by decide +kernel)
set_option maxRecDepth 20000 in
theorem gX10_doneFact_X10_find : GoodIn wsX10_doneFact (va_wsS RX10 197 yX10_find wsX10_find) := goodIn_app (goodIn_r _ [44, 45, 8] rfl (by decide +kernel)) ggX10_doneFact_X10_find
set_option maxRecDepth 20000 in
theorem ggX10_doneFact_X10_isName : GoodIn wsX10_doneFact wsX10_isName := goodIn_r _ [37, 13, 12, 53, 54, 55, 56, 57, 58, 59, 60, 61, 62, 63, 64, 65, 66, 67, 68, 69, 70, 71, 72, 73, 74, 75, 76, 77, 78, 79, 80, 81, 82, 83, 84, 85, 86, 87, 88, 89, 90, 91] rfl (by decide +kernel)
set_option maxRecDepth 20000 in
theorem gX10_doneFact_X10_isName : GoodIn wsX10_doneFact (wsV RX10 194 RX10 yX10_isName wsX10_isName) := goodIn_app (goodIn_r _ [34, 35, 36, 8] rfl (by decide +kernel)) ggX10_doneFact_X10_isName
set_option maxRecDepth 20000 in
theorem ggX10_fact_X10_bracket : GoodIn wsX10_fact wsX10_bracket := goodIn_r _ [98, 99, 100, 101, 102, 7, 103, 14, 15, 16, 17, 1, 18, 10, 19, 29, 30, 31, 32, 33, 2, 34, 35, 36, 37, 38, 39, 40, 41, 42, 9, 43, 44, 45, 46, 47, 48, 49, 50, 51, 52, 53, 104, 105, 106, 4, 5, 6, 8, 90, 91, 92, 93, 94, 95, 96, 97, 61, 62, 63, 64, 65, 66, 107, 108, 109, 110, 0, 3, 11, 12, 13, 20, 21, 22, 23, 24, 25, 26, 27, 28, 54, 55, 56, 57, 58, 59, 60, 67, 68, 69, 70, 71, 72, 73, 74, 75, 76, 77, 78, 79, 80, 81, 82, 83, 84, 85, 86, 87, 88, 89, 111, 112, 113, 114, 115, 116, 117, 118, 119, 120, 121, 122, 123, 124, 125, 126, 127, 128, 129, 130, 131, 132, 133, 134, 135, 136, 137, 138, 139, 140, 141, 142, 143, 144, 145, 146, 147, 148, 149, 150] rfl (by decide +kernel)
set_option maxRecDepth 20000 in
theorem gX10_fact_X10_bracket : GoodIn wsX10_fact (wsV RX10 203 RX10 yX10_bracket wsX10_bracket) := goodIn_app (goodIn_r _ [11, 12, 13, 7] rfl (by decide +kernel)) ggX10_fact_X10_bracket
set_option maxRecDepth 20000 in
theorem ggX10_fact_X10_doneFact : GoodIn wsX10_fact wsX10_doneFact := goodIn_r _ [83, 84, 72, 34, 85, 29, 30, 31, 7, 32, 33, 10, 2, 1, 35, 36, 37, 38, 39, 40, 41, 42, 9, 43, 44, 45, 46, 47, 48, 49, 50, 51, 52, 53, 73, 74, 75, 76, 14, 15, 16, 17, 18, 19, 77, 78, 79, 61, 62, 63, 64, 65, 66, 112, 113, 114, 115, 116, 117, 118, 119, 120, 121, 122, 123, 124, 125, 126, 127, 128, 129, 130, 131, 132, 133, 134, 135, 136, 137, 138, 139, 140, 141, 142, 143, 144, 145, 146, 147, 148, 149, 150] rfl (by decide +kernel)
set_option maxRecDepth 20000 in
theorem gX10_fact_X10_doneFact : GoodIn wsX10_fact (wsV RX10 215 RX10 yX10_doneFact wsX10_doneFact) := goodIn_app (goodIn_r _ [80, 81, 82, 7] rfl (by decide +kernel)) ggX10_fact_X10_doneFact
set_option maxRecDepth 20000 in
theorem ggX10_fact_X10_fail : GoodIn wsX10_fact wsX10_fail := goodIn_r _ [17, 1, 18, 10, 19, 112, 113, 114, 115, 116, 117, 118, 119, 120, 121, 122, 123, 124, 125, 126, 127, 128, 129, 130, 131, 132, 133, 134, 135, 136, 137, 138, 139, 140, 141, 142, 143, 144, 145, 146, 147, 148, 149, 150] rfl (by decide +kernel)
set_option maxRecDepth 20000 in
theorem gX10_fact_X10_fail : GoodIn wsX10_fact (wsV RX10 149 RX10 yX10_fail wsX10_fail) := goodIn_app (goodIn_r _ [14, 15, 16, 7] rfl (by decide +kernel)) ggX10_fact_X10_fail
set_option maxRecDepth 20000 in
theorem ggX10_fact_X10_isSymbol : GoodIn wsX10_fact wsX10_isSymbol := goodIn_r _ [8, 1, 9, 10, 112, 113, 114, 115, 116, 117, 118, 119, 120, 121, 122, 123, 124, 125, 126, 127, 128, 129, 130, 131, 132, 133, 134, 135, 136, 137, 138, 139, 140, 141, 142, 143, 144, 145, 146, 147, 148, 149, 150] rfl (by decide +kernel)
set_option maxRecDepth 20000 in
theorem gX10_fact_X10_isSymbol : GoodIn wsX10_fact (wsV RX10 191 RX10 yX10_isSymbol wsX10_isSymbol) := goodIn_app (goodIn_r _ [4, 5, 6, 7] rfl (by decide +kernel)) ggX10_fact_X10_isSymbol
set_option maxRecDepth 20000 in
theorem ggX10_fact_X10_notFact : GoodIn wsX10_fact wsX10_notFact := goodIn_r _ [111, 99, 100, 101, 102, 7, 103, 14, 15, 16, 17, 1, 18, 10, 19, 29, 30, 31, 32, 33, 2, 34, 35, 36, 37, 38, 39, 40, 41, 42, 9, 43, 44, 45, 46, 47, 48, 49, 50, 51, 52, 53, 91, 92, 93, 61, 62, 63, 64, 65, 66, 90, 94, 95, 96, 97, 98, 104, 105, 106, 4, 5, 6, 8, 107, 108, 109, 110, 0, 3, 11, 12, 13, 20, 21, 22, 23, 24, 25, 26, 27, 28, 54, 55, 56, 57, 58, 59, 60, 67, 68, 69, 70, 71, 72, 73, 74, 75, 76, 77, 78, 79, 80, 81, 82, 83, 84, 85, 86, 87, 88, 89, 112, 113, 114, 115, 116, 117, 118, 119, 120, 121, 122, 123, 124, 125, 126, 127, 128, 129, 130, 131, 132, 133, 134, 135, 136, 137, 138, 139, 140, 141, 142, 143, 144, 145, 146, 147, 148, 149, 150] rfl (by decide +kernel)
set_option maxRecDepth 20000 in
theorem gX10_fact_X10_notFact : GoodIn wsX10_fact (wsV RX10 206 RX10 yX10_notFact wsX10_notFact) := goodIn_app (goodIn_r _ [20, 21, 22, 7] rfl (by decide +kernel)) ggX10_fact_X10_notFact
set_option maxRecDepth 20000 in
theorem ggX10_fact_X10_numberFact : GoodIn wsX10_fact wsX10_numberFact := goodIn_r _ [26, 27, 28, 29, 30, 31, 7, 32, 33, 10, 2, 34, 1, 35, 36, 37, 38, 39, 40, 41, 42, 9, 43, 44, 45, 46, 47, 48, 49, 50, 51, 52, 53, 54, 55, 56, 57, 14, 15, 16, 17, 18, 19, 58, 59, 60, 61, 62, 63, 64, 65, 66, 112, 113, 114, 115, 116, 117, 118, 119, 120, 121, 122, 123, 124, 125, 126, 127, 128, 129, 130, 131, 132, 133, 134, 135, 136, 137, 138, 139, 140, 141, 142, 143, 144, 145, 146, 147, 148, 149, 150] rfl (by decide +kernel)
set_option maxRecDepth 20000 in
theorem gX10_fact_X10_numberFact : GoodIn wsX10_fact (wsV RX10 209 RX10 yX10_numberFact wsX10_numberFact) := goodIn_app (goodIn_r _ [23, 24, 25, 7] rfl (by decide +kernel)) ggX10_fact_X10_numberFact
set_option maxRecDepth 20000 in
theorem ggX10_fact_X10_plainFact : GoodIn wsX10_fact wsX10_plainFact := goodIn_r _ [89, 27, 61, 62, 63, 7, 64, 65, 66, 29, 30, 31, 32, 33, 10, 2, 34, 1, 35, 36, 37, 38, 39, 40, 41, 42, 9, 43, 44, 45, 46, 47, 48, 49, 50, 51, 52, 53, 112, 113, 114, 115, 116, 117, 118, 119, 120, 121, 122, 123, 124, 125, 126, 127, 128, 129, 130, 131, 132, 133, 134, 135, 136, 137, 138, 139, 140, 141, 142, 143, 144, 145, 146, 147, 148, 149, 150] rfl (by decide +kernel)
set_option maxRecDepth 20000 in
theorem gX10_fact_X10_plainFact : GoodIn wsX10_fact (wsV RX10 219 RX10 yX10_plainFact wsX10_plainFact) := goodIn_app (goodIn_r _ [86, 87, 88, 7] rfl (by decide +kernel)) ggX10_fact_X10_plainFact
set_option maxRecDepth 20000 in
theorem ggX10_fact_X10_proofFact : GoodIn wsX10_fact wsX10_proofFact := goodIn_r _ [70, 71, 72, 34, 27, 29, 30, 31, 7, 32, 33, 10, 2, 1, 35, 36, 37, 38, 39, 40, 41, 42, 9, 43, 44, 45, 46, 47, 48, 49, 50, 51, 52, 53, 73, 74, 75, 76, 14, 15, 16, 17, 18, 19, 77, 78, 79, 61, 62, 63, 64, 65, 66, 112, 113, 114, 115, 116, 117, 118, 119, 120, 121, 122, 123, 124, 125, 126, 127, 128, 129, 130, 131, 132, 133, 134, 135, 136, 137, 138, 139, 140, 141, 142, 143, 144, 145, 146, 147, 148, 149, 150] rfl (by decide +kernel)
set_option maxRecDepth 20000 in
theorem gX10_fact_X10_proofFact : GoodIn wsX10_fact (wsV RX10 212 RX10 yX10_proofFact wsX10_proofFact) := goodIn_app (goodIn_r _ [67, 68, 69, 7] rfl (by decide +kernel)) ggX10_fact_X10_proofFact
set_option maxRecDepth 20000 in
theorem ggX10_notFact_X10_opens : GoodIn wsX10_notFact wsX10_opens := goodIn_r _ [6, 1, 7, 8, 9, 5, 10, 11, 12, 13, 14, 15, 16, 17, 18, 19, 20, 21, 22, 23, 24, 25, 26, 27, 28, 29, 30, 31, 32, 33, 34, 35, 36, 37, 38, 39, 40, 41, 112, 113, 114, 115, 116, 117, 118, 119, 120, 121, 122, 123, 124, 125, 126, 127, 128, 129, 130, 131, 132, 133, 134, 135, 136, 137, 138, 139, 140, 141, 142, 143, 144, 145, 146, 147, 148, 149, 150] rfl (by decide +kernel)
set_option maxRecDepth 20000 in
theorem gX10_notFact_X10_opens : GoodIn wsX10_notFact (wsV RX10 185 RX10 yX10_opens wsX10_opens) := goodIn_app (goodIn_r _ [2, 3, 4, 5] rfl (by decide +kernel)) ggX10_notFact_X10_opens
set_option maxRecDepth 20000 in
theorem ggX10_numberFact_X10_advance : GoodIn wsX10_numberFact wsX10_advance := goodIn_r _ [7, 8, 9, 10, 11, 12, 13, 14, 15, 16, 17, 18, 6, 19, 20, 21, 22, 23, 24, 25, 26, 27, 28, 29, 30, 31, 32, 52, 53, 54, 55, 56, 57, 58, 59, 60, 61, 62, 63, 64, 65, 66, 67, 68, 69, 70, 71, 72, 73, 74, 75, 76, 77, 78, 79, 80, 81, 82, 83, 84, 85, 86, 87, 88, 89, 90] rfl (by decide +kernel)
set_option maxRecDepth 20000 in
theorem gX10_numberFact_X10_advance : GoodIn wsX10_numberFact (wsV RX10 159 RX10 yX10_advance wsX10_advance) := goodIn_app (goodIn_r _ [3, 4, 5, 6] rfl (by decide +kernel)) ggX10_numberFact_X10_advance
set_option maxRecDepth 20000 in
theorem ggX10_numberFact_X10_emit : GoodIn wsX10_numberFact wsX10_emit := goodIn_r _ [49, 50, 51, 52, 53, 54, 55, 56, 57, 58, 59, 60, 61, 62, 63, 64, 65, 66, 67, 68, 69, 70, 71, 72, 73, 74, 75, 76, 77, 78, 79, 80, 81, 82, 83, 84, 85, 86, 87, 88, 89, 90] rfl (by decide +kernel)
set_option maxRecDepth 20000 in
theorem gX10_numberFact_X10_emit : GoodIn wsX10_numberFact (wsV RX10 176 RX10 yX10_emit wsX10_emit) := goodIn_app (goodIn_r _ [46, 47, 48, 6] rfl (by decide +kernel)) ggX10_numberFact_X10_emit
set_option maxRecDepth 20000 in
theorem ggX10_numberFact_X10_number : GoodIn wsX10_numberFact wsX10_number := goodIn_r _ [36, 12, 15, 2, 37, 38, 39, 6, 40, 41, 9, 42, 43, 44, 45, 3, 4, 5, 7, 8, 10, 11, 13, 14, 16, 17, 18, 19, 20, 21, 22, 23, 24, 25, 26, 27, 28, 29, 30, 31, 32, 52, 53, 54, 55, 56, 57, 58, 59, 60, 61, 62, 63, 64, 65, 66, 67, 68, 69, 70, 71, 72, 73, 74, 75, 76, 77, 78, 79, 80, 81, 82, 83, 84, 85, 86, 87, 88, 89, 90] rfl (by decide +kernel)
set_option maxRecDepth 20000 in
theorem gX10_numberFact_X10_number : GoodIn wsX10_numberFact (wsV RX10 163 RX10 yX10_number wsX10_number) := goodIn_app (goodIn_r _ [33, 34, 35, 6] rfl (by decide +kernel)) ggX10_numberFact_X10_number
set_option maxRecDepth 20000 in
theorem ggX10_numberTo_X10_number : GoodIn wsX10_numberTo wsX10_number := goodIn_r _ [7, 8, 9, 2, 10, 11, 12, 6, 13, 14, 15, 16, 17, 18, 19, 20, 21, 22, 23, 24, 25, 26, 27, 28, 29, 30, 31, 32, 33, 34, 35, 36, 37, 38, 39, 40, 41, 42, 43, 44, 45, 46, 47, 48, 49, 50, 51, 52, 53, 54, 55, 56, 57, 58, 59, 60, 61, 62, 63, 64, 65, 66, 67, 68, 69, 70, 71, 72, 73, 74, 75, 76, 77, 78, 79, 80, 81, 82, 83, 84] rfl (by decide +kernel)
set_option maxRecDepth 20000 in
theorem gX10_numberTo_X10_number : GoodIn wsX10_numberTo (wsV RX10 163 RX10 yX10_number wsX10_number) := goodIn_app (goodIn_r _ [3, 4, 5, 6] rfl (by decide +kernel)) ggX10_numberTo_X10_number
set_option maxRecDepth 20000 in
theorem ggX10_number_X10_advance : GoodIn wsX10_number wsX10_advance := goodIn_r _ [18, 19, 10, 20, 21, 1, 22, 23, 2, 24, 25, 26, 7, 27, 28, 29, 30, 31, 32, 33, 34, 35, 36, 37, 38, 39, 40, 41, 42, 43, 44, 45, 46, 47, 48, 49, 50, 51, 52, 53, 54, 55, 56, 57, 58, 59, 60, 61, 62, 63, 64, 65, 66, 67, 68, 69, 70, 71, 72, 73, 74, 75, 76, 77, 78, 79] rfl (by decide +kernel)
set_option maxRecDepth 20000 in
theorem gX10_number_X10_advance : GoodIn wsX10_number (wsV RX10 159 RX10 yX10_advance wsX10_advance) := goodIn_app (goodIn_r _ [15, 16, 17, 7] rfl (by decide +kernel)) ggX10_number_X10_advance
set_option maxRecDepth 20000 in
theorem ggX10_number_X10_between : GoodIn wsX10_number wsX10_between := goodIn_r _ [14] rfl (by decide +kernel)
set_option maxRecDepth 20000 in
theorem gX10_number_X10_between : GoodIn wsX10_number (va_wsS RX10 152 yX10_between wsX10_between) := goodIn_app (goodIn_r _ [12, 13, 7] rfl (by decide +kernel)) ggX10_number_X10_between
set_option maxRecDepth 20000 in
theorem ggX10_number_X10_fail : GoodIn wsX10_number wsX10_fail := goodIn_r _ [8, 1, 9, 10, 11, 41, 42, 43, 44, 45, 46, 47, 48, 49, 50, 51, 52, 53, 54, 55, 56, 57, 58, 59, 60, 61, 62, 63, 64, 65, 66, 67, 68, 69, 70, 71, 72, 73, 74, 75, 76, 77, 78, 79] rfl (by decide +kernel)
set_option maxRecDepth 20000 in
theorem gX10_number_X10_fail : GoodIn wsX10_number (wsV RX10 149 RX10 yX10_fail wsX10_fail) := goodIn_app (goodIn_r _ [4, 5, 6, 7] rfl (by decide +kernel)) ggX10_number_X10_fail
set_option maxRecDepth 20000 in
theorem ggX10_opens_X10_advance : GoodIn wsX10_opens wsX10_advance := goodIn_r _ [14, 15, 9, 16, 17, 7, 18, 19, 20, 21, 22, 23, 5, 24, 25, 26, 27, 28, 29, 30, 31, 32, 33, 34, 35, 36, 37, 38, 39, 40, 41, 42, 43, 44, 45, 46, 47, 48, 49, 50, 51, 52, 53, 54, 55, 56, 57, 58, 59, 60, 61, 62, 63, 64, 65, 66, 67, 68, 69, 70, 71, 72, 73, 74, 75, 76] rfl (by decide +kernel)
set_option maxRecDepth 20000 in
theorem gX10_opens_X10_advance : GoodIn wsX10_opens (wsV RX10 159 RX10 yX10_advance wsX10_advance) := goodIn_app (goodIn_r _ [11, 12, 13, 5] rfl (by decide +kernel)) ggX10_opens_X10_advance
set_option maxRecDepth 20000 in
theorem ggX10_opens_X10_fail : GoodIn wsX10_opens wsX10_fail := goodIn_r _ [6, 7, 8, 9, 10, 38, 39, 40, 41, 42, 43, 44, 45, 46, 47, 48, 49, 50, 51, 52, 53, 54, 55, 56, 57, 58, 59, 60, 61, 62, 63, 64, 65, 66, 67, 68, 69, 70, 71, 72, 73, 74, 75, 76] rfl (by decide +kernel)
set_option maxRecDepth 20000 in
theorem gX10_opens_X10_fail : GoodIn wsX10_opens (wsV RX10 149 RX10 yX10_fail wsX10_fail) := goodIn_app (goodIn_r _ [2, 3, 4, 5] rfl (by decide +kernel)) ggX10_opens_X10_fail
set_option maxRecDepth 20000 in
theorem ggX10_plainFact_X10_advance : GoodIn wsX10_plainFact wsX10_advance := goodIn_r _ [12, 13, 14, 15, 16, 17, 18, 19, 20, 21, 22, 23, 5, 24, 25, 26, 27, 28, 29, 30, 31, 32, 33, 34, 35, 36, 37, 38, 39, 40, 41, 42, 43, 44, 45, 46, 47, 48, 49, 50, 51, 52, 53, 54, 55, 56, 57, 58, 59, 60, 61, 62, 63, 64, 65, 66, 67, 68, 69, 70, 71, 72, 73, 74, 75, 76] rfl (by decide +kernel)
set_option maxRecDepth 20000 in
theorem gX10_plainFact_X10_advance : GoodIn wsX10_plainFact (wsV RX10 159 RX10 yX10_advance wsX10_advance) := goodIn_app (goodIn_r _ [9, 10, 11, 5] rfl (by decide +kernel)) ggX10_plainFact_X10_advance
set_option maxRecDepth 20000 in
theorem ggX10_plainFact_X10_emit : GoodIn wsX10_plainFact wsX10_emit := goodIn_r _ [6, 7, 8, 38, 39, 40, 41, 42, 43, 44, 45, 46, 47, 48, 49, 50, 51, 52, 53, 54, 55, 56, 57, 58, 59, 60, 61, 62, 63, 64, 65, 66, 67, 68, 69, 70, 71, 72, 73, 74, 75, 76] rfl (by decide +kernel)
set_option maxRecDepth 20000 in
theorem gX10_plainFact_X10_emit : GoodIn wsX10_plainFact (wsV RX10 176 RX10 yX10_emit wsX10_emit) := goodIn_app (goodIn_r _ [2, 3, 4, 5] rfl (by decide +kernel)) ggX10_plainFact_X10_emit
set_option maxRecDepth 20000 in
theorem ggX10_proofFact_X10_advance : GoodIn wsX10_proofFact wsX10_advance := goodIn_r _ [9, 10, 11, 12, 3, 13, 14, 15, 16, 17, 18, 19, 8, 20, 21, 22, 23, 24, 25, 26, 27, 28, 29, 30, 31, 32, 33, 53, 54, 55, 56, 57, 58, 59, 60, 61, 62, 63, 64, 65, 66, 67, 68, 69, 70, 71, 72, 73, 74, 75, 76, 77, 78, 79, 80, 81, 82, 83, 84, 85, 86, 87, 88, 89, 90, 91] rfl (by decide +kernel)
set_option maxRecDepth 20000 in
theorem gX10_proofFact_X10_advance : GoodIn wsX10_proofFact (wsV RX10 159 RX10 yX10_advance wsX10_advance) := goodIn_app (goodIn_r _ [5, 6, 7, 8] rfl (by decide +kernel)) ggX10_proofFact_X10_advance
set_option maxRecDepth 20000 in
theorem ggX10_proofFact_X10_emit : GoodIn wsX10_proofFact wsX10_emit := goodIn_r _ [50, 51, 52, 53, 54, 55, 56, 57, 58, 59, 60, 61, 62, 63, 64, 65, 66, 67, 68, 69, 70, 71, 72, 73, 74, 75, 76, 77, 78, 79, 80, 81, 82, 83, 84, 85, 86, 87, 88, 89, 90, 91] rfl (by decide +kernel)
set_option maxRecDepth 20000 in
theorem gX10_proofFact_X10_emit : GoodIn wsX10_proofFact (wsV RX10 176 RX10 yX10_emit wsX10_emit) := goodIn_app (goodIn_r _ [47, 48, 49, 8] rfl (by decide +kernel)) ggX10_proofFact_X10_emit
set_option maxRecDepth 20000 in
theorem ggX10_proofFact_X10_fail : GoodIn wsX10_proofFact wsX10_fail := goodIn_r _ [41, 13, 42, 11, 43, 53, 54, 55, 56, 57, 58, 59, 60, 61, 62, 63, 64, 65, 66, 67, 68, 69, 70, 71, 72, 73, 74, 75, 76, 77, 78, 79, 80, 81, 82, 83, 84, 85, 86, 87, 88, 89, 90, 91] rfl (by decide +kernel)
set_option maxRecDepth 20000 in
theorem gX10_proofFact_X10_fail : GoodIn wsX10_proofFact (wsV RX10 149 RX10 yX10_fail wsX10_fail) := goodIn_app (goodIn_r _ [38, 39, 40, 8] rfl (by decide +kernel)) ggX10_proofFact_X10_fail
set_option maxRecDepth 20000 in
theorem ggX10_proofFact_X10_find : GoodIn wsX10_proofFact wsX10_find := goodIn_r _ [46] rfl (by decide +kernel)
set_option maxRecDepth 20000 in
theorem gX10_proofFact_X10_find : GoodIn wsX10_proofFact (va_wsS RX10 197 yX10_find wsX10_find) := goodIn_app (goodIn_r _ [44, 45, 8] rfl (by decide +kernel)) ggX10_proofFact_X10_find
set_option maxRecDepth 20000 in
theorem ggX10_proofFact_X10_isName : GoodIn wsX10_proofFact wsX10_isName := goodIn_r _ [37, 13, 12, 53, 54, 55, 56, 57, 58, 59, 60, 61, 62, 63, 64, 65, 66, 67, 68, 69, 70, 71, 72, 73, 74, 75, 76, 77, 78, 79, 80, 81, 82, 83, 84, 85, 86, 87, 88, 89, 90, 91] rfl (by decide +kernel)
set_option maxRecDepth 20000 in
theorem gX10_proofFact_X10_isName : GoodIn wsX10_proofFact (wsV RX10 194 RX10 yX10_isName wsX10_isName) := goodIn_app (goodIn_r _ [34, 35, 36, 8] rfl (by decide +kernel)) ggX10_proofFact_X10_isName
theorem dX10_advance_0 : decode cX10_advance 0 = .ok (.aload_n 0, 1) := by decide +kernel
theorem dX10_advance_1 : decode cX10_advance 1 = .ok (.aload_n 0, 1) := by decide +kernel
theorem dX10_advance_2 : decode cX10_advance 2 = .ok (.getfield 110, 3) := by decide +kernel
theorem dX10_advance_5 : decode cX10_advance 5 = .ok (.invokevirtual 113, 3) := by decide +kernel
theorem dX10_advance_8 : decode cX10_advance 8 = .ok (.bipush 32, 2) := by decide +kernel
theorem dX10_advance_10 : decode cX10_advance 10 = .ok (.if_icmp .eq 16, 3) := by decide +kernel
theorem dX10_advance_13 : decode cX10_advance 13 = .ok (.aload_n 0, 1) := by decide +kernel
theorem dX10_advance_14 : decode cX10_advance 14 = .ok (.aload_n 0, 1) := by decide +kernel
theorem dX10_advance_15 : decode cX10_advance 15 = .ok (.getfield 110, 3) := by decide +kernel
theorem dX10_advance_18 : decode cX10_advance 18 = .ok (.invokevirtual 113, 3) := by decide +kernel
theorem dX10_advance_21 : decode cX10_advance 21 = .ok (.bipush 10, 2) := by decide +kernel
theorem dX10_advance_23 : decode cX10_advance 23 = .ok (.if_icmp .ne 16, 3) := by decide +kernel
theorem dX10_advance_26 : decode cX10_advance 26 = .ok (.aload_n 0, 1) := by decide +kernel
theorem dX10_advance_27 : decode cX10_advance 27 = .ok (.dup, 1) := by decide +kernel
theorem dX10_advance_28 : decode cX10_advance 28 = .ok (.getfield 110, 3) := by decide +kernel
theorem dX10_advance_31 : decode cX10_advance 31 = .ok (.iconst 1, 1) := by decide +kernel
theorem dX10_advance_32 : decode cX10_advance 32 = .ok (.iadd, 1) := by decide +kernel
theorem dX10_advance_33 : decode cX10_advance 33 = .ok (.putfield 110, 3) := by decide +kernel
theorem dX10_advance_36 : decode cX10_advance 36 = .ok (.goto (-36), 3) := by decide +kernel
theorem dX10_advance_39 : decode cX10_advance 39 = .ok (.aload_n 0, 1) := by decide +kernel
theorem dX10_advance_40 : decode cX10_advance 40 = .ok (.aload_n 0, 1) := by decide +kernel
theorem dX10_advance_41 : decode cX10_advance 41 = .ok (.getfield 110, 3) := by decide +kernel
theorem dX10_advance_44 : decode cX10_advance 44 = .ok (.putfield 117, 3) := by decide +kernel
theorem dX10_advance_47 : decode cX10_advance 47 = .ok (.aload_n 0, 1) := by decide +kernel
theorem dX10_advance_48 : decode cX10_advance 48 = .ok (.iconst (-1), 1) := by decide +kernel
theorem dX10_advance_49 : decode cX10_advance 49 = .ok (.putfield 120, 3) := by decide +kernel
theorem dX10_advance_52 : decode cX10_advance 52 = .ok (.aload_n 0, 1) := by decide +kernel
theorem dX10_advance_53 : decode cX10_advance 53 = .ok (.lconst 0, 1) := by decide +kernel
theorem dX10_advance_54 : decode cX10_advance 54 = .ok (.putfield 123, 3) := by decide +kernel
theorem dX10_advance_57 : decode cX10_advance 57 = .ok (.aload_n 0, 1) := by decide +kernel
theorem dX10_advance_58 : decode cX10_advance 58 = .ok (.aload_n 0, 1) := by decide +kernel
theorem dX10_advance_59 : decode cX10_advance 59 = .ok (.getfield 110, 3) := by decide +kernel
theorem dX10_advance_62 : decode cX10_advance 62 = .ok (.invokevirtual 113, 3) := by decide +kernel
theorem dX10_advance_65 : decode cX10_advance 65 = .ok (.istore_n 1, 1) := by decide +kernel
theorem dX10_advance_66 : decode cX10_advance 66 = .ok (.iload_n 1, 1) := by decide +kernel
theorem dX10_advance_67 : decode cX10_advance 67 = .ok (.iconst (-1), 1) := by decide +kernel
theorem dX10_advance_68 : decode cX10_advance 68 = .ok (.if_icmp .ne 11, 3) := by decide +kernel
theorem dX10_advance_71 : decode cX10_advance 71 = .ok (.aload_n 0, 1) := by decide +kernel
theorem dX10_advance_72 : decode cX10_advance 72 = .ok (.iconst 0, 1) := by decide +kernel
theorem dX10_advance_73 : decode cX10_advance 73 = .ok (.putfield 126, 3) := by decide +kernel
theorem dX10_advance_76 : decode cX10_advance 76 = .ok (.goto 278, 3) := by decide +kernel
theorem dX10_advance_79 : decode cX10_advance 79 = .ok (.iload_n 1, 1) := by decide +kernel
theorem dX10_advance_80 : decode cX10_advance 80 = .ok (.invokestatic 129, 3) := by decide +kernel
theorem dX10_advance_83 : decode cX10_advance 83 = .ok (.ifCond .eq 127, 3) := by decide +kernel
theorem dX10_advance_86 : decode cX10_advance 86 = .ok (.aload_n 0, 1) := by decide +kernel
theorem dX10_advance_87 : decode cX10_advance 87 = .ok (.aload_n 0, 1) := by decide +kernel
theorem dX10_advance_88 : decode cX10_advance 88 = .ok (.getfield 110, 3) := by decide +kernel
theorem dX10_advance_91 : decode cX10_advance 91 = .ok (.invokevirtual 113, 3) := by decide +kernel
theorem dX10_advance_94 : decode cX10_advance 94 = .ok (.invokestatic 129, 3) := by decide +kernel
theorem dX10_advance_97 : decode cX10_advance 97 = .ok (.ifCond .eq 63, 3) := by decide +kernel
theorem dX10_advance_100 : decode cX10_advance 100 = .ok (.aload_n 0, 1) := by decide +kernel
theorem dX10_advance_101 : decode cX10_advance 101 = .ok (.aload_n 0, 1) := by decide +kernel
theorem dX10_advance_102 : decode cX10_advance 102 = .ok (.getfield 110, 3) := by decide +kernel
theorem dX10_advance_105 : decode cX10_advance 105 = .ok (.aload_n 0, 1) := by decide +kernel
theorem dX10_advance_106 : decode cX10_advance 106 = .ok (.getfield 117, 3) := by decide +kernel
theorem dX10_advance_109 : decode cX10_advance 109 = .ok (.isub, 1) := by decide +kernel
theorem dX10_advance_110 : decode cX10_advance 110 = .ok (.bipush 9, 2) := by decide +kernel
theorem dX10_advance_112 : decode cX10_advance 112 = .ok (.if_icmp .ge 28, 3) := by decide +kernel
theorem dX10_advance_115 : decode cX10_advance 115 = .ok (.ldc2_w 103, 3) := by decide +kernel
theorem dX10_advance_118 : decode cX10_advance 118 = .ok (.aload_n 0, 1) := by decide +kernel
theorem dX10_advance_119 : decode cX10_advance 119 = .ok (.getfield 123, 3) := by decide +kernel
theorem dX10_advance_122 : decode cX10_advance 122 = .ok (.lmul, 1) := by decide +kernel
theorem dX10_advance_123 : decode cX10_advance 123 = .ok (.aload_n 0, 1) := by decide +kernel
theorem dX10_advance_124 : decode cX10_advance 124 = .ok (.aload_n 0, 1) := by decide +kernel
theorem dX10_advance_125 : decode cX10_advance 125 = .ok (.getfield 110, 3) := by decide +kernel
theorem dX10_advance_128 : decode cX10_advance 128 = .ok (.invokevirtual 113, 3) := by decide +kernel
theorem dX10_advance_131 : decode cX10_advance 131 = .ok (.i2l, 1) := by decide +kernel
theorem dX10_advance_132 : decode cX10_advance 132 = .ok (.ladd, 1) := by decide +kernel
theorem dX10_advance_133 : decode cX10_advance 133 = .ok (.ldc2_w 105, 3) := by decide +kernel
theorem dX10_advance_136 : decode cX10_advance 136 = .ok (.lsub, 1) := by decide +kernel
theorem dX10_advance_137 : decode cX10_advance 137 = .ok (.goto 7, 3) := by decide +kernel
theorem dX10_advance_140 : decode cX10_advance 140 = .ok (.aload_n 0, 1) := by decide +kernel
theorem dX10_advance_141 : decode cX10_advance 141 = .ok (.getfield 123, 3) := by decide +kernel
theorem dX10_advance_144 : decode cX10_advance 144 = .ok (.putfield 123, 3) := by decide +kernel
theorem dX10_advance_147 : decode cX10_advance 147 = .ok (.aload_n 0, 1) := by decide +kernel
theorem dX10_advance_148 : decode cX10_advance 148 = .ok (.dup, 1) := by decide +kernel
theorem dX10_advance_149 : decode cX10_advance 149 = .ok (.getfield 110, 3) := by decide +kernel
theorem dX10_advance_152 : decode cX10_advance 152 = .ok (.iconst 1, 1) := by decide +kernel
theorem dX10_advance_153 : decode cX10_advance 153 = .ok (.iadd, 1) := by decide +kernel
theorem dX10_advance_154 : decode cX10_advance 154 = .ok (.putfield 110, 3) := by decide +kernel
theorem dX10_advance_157 : decode cX10_advance 157 = .ok (.goto (-71), 3) := by decide +kernel
theorem dX10_advance_160 : decode cX10_advance 160 = .ok (.aload_n 0, 1) := by decide +kernel
theorem dX10_advance_161 : decode cX10_advance 161 = .ok (.aload_n 0, 1) := by decide +kernel
theorem dX10_advance_162 : decode cX10_advance 162 = .ok (.getfield 110, 3) := by decide +kernel
theorem dX10_advance_165 : decode cX10_advance 165 = .ok (.aload_n 0, 1) := by decide +kernel
theorem dX10_advance_166 : decode cX10_advance 166 = .ok (.getfield 117, 3) := by decide +kernel
theorem dX10_advance_169 : decode cX10_advance 169 = .ok (.isub, 1) := by decide +kernel
theorem dX10_advance_170 : decode cX10_advance 170 = .ok (.bipush 9, 2) := by decide +kernel
theorem dX10_advance_172 : decode cX10_advance 172 = .ok (.if_icmp .le 7, 3) := by decide +kernel
theorem dX10_advance_175 : decode cX10_advance 175 = .ok (.iconst 1, 1) := by decide +kernel
theorem dX10_advance_176 : decode cX10_advance 176 = .ok (.goto 4, 3) := by decide +kernel
theorem dX10_advance_179 : decode cX10_advance 179 = .ok (.iconst 2, 1) := by decide +kernel
theorem dX10_advance_180 : decode cX10_advance 180 = .ok (.putfield 126, 3) := by decide +kernel
theorem dX10_advance_183 : decode cX10_advance 183 = .ok (.aload_n 0, 1) := by decide +kernel
theorem dX10_advance_184 : decode cX10_advance 184 = .ok (.aload_n 0, 1) := by decide +kernel
theorem dX10_advance_185 : decode cX10_advance 185 = .ok (.getfield 126, 3) := by decide +kernel
theorem dX10_advance_188 : decode cX10_advance 188 = .ok (.iconst 2, 1) := by decide +kernel
theorem dX10_advance_189 : decode cX10_advance 189 = .ok (.if_icmp .ne 14, 3) := by decide +kernel
theorem dX10_advance_192 : decode cX10_advance 192 = .ok (.aload_n 0, 1) := by decide +kernel
theorem dX10_advance_193 : decode cX10_advance 193 = .ok (.aload_n 0, 1) := by decide +kernel
theorem dX10_advance_194 : decode cX10_advance 194 = .ok (.getfield 123, 3) := by decide +kernel
theorem dX10_advance_197 : decode cX10_advance 197 = .ok (.invokevirtual 133, 3) := by decide +kernel
theorem dX10_advance_200 : decode cX10_advance 200 = .ok (.goto 4, 3) := by decide +kernel
theorem dX10_advance_203 : decode cX10_advance 203 = .ok (.iconst (-1), 1) := by decide +kernel
theorem dX10_advance_204 : decode cX10_advance 204 = .ok (.putfield 120, 3) := by decide +kernel
theorem dX10_advance_207 : decode cX10_advance 207 = .ok (.goto 147, 3) := by decide +kernel
theorem dX10_advance_210 : decode cX10_advance 210 = .ok (.iload_n 1, 1) := by decide +kernel
theorem dX10_advance_211 : decode cX10_advance 211 = .ok (.invokestatic 137, 3) := by decide +kernel
theorem dX10_advance_214 : decode cX10_advance 214 = .ok (.ifCond .eq 103, 3) := by decide +kernel
theorem dX10_advance_217 : decode cX10_advance 217 = .ok (.aload_n 0, 1) := by decide +kernel
theorem dX10_advance_218 : decode cX10_advance 218 = .ok (.iconst 0, 1) := by decide +kernel
theorem dX10_advance_219 : decode cX10_advance 219 = .ok (.putfield 140, 3) := by decide +kernel
theorem dX10_advance_222 : decode cX10_advance 222 = .ok (.aload_n 0, 1) := by decide +kernel
theorem dX10_advance_223 : decode cX10_advance 223 = .ok (.aload_n 0, 1) := by decide +kernel
theorem dX10_advance_224 : decode cX10_advance 224 = .ok (.getfield 110, 3) := by decide +kernel
theorem dX10_advance_227 : decode cX10_advance 227 = .ok (.invokevirtual 113, 3) := by decide +kernel
theorem dX10_advance_230 : decode cX10_advance 230 = .ok (.invokestatic 137, 3) := by decide +kernel
theorem dX10_advance_233 : decode cX10_advance 233 = .ok (.ifCond .eq 59, 3) := by decide +kernel
theorem dX10_advance_236 : decode cX10_advance 236 = .ok (.aload_n 0, 1) := by decide +kernel
theorem dX10_advance_237 : decode cX10_advance 237 = .ok (.aload_n 0, 1) := by decide +kernel
theorem dX10_advance_238 : decode cX10_advance 238 = .ok (.getfield 110, 3) := by decide +kernel
theorem dX10_advance_241 : decode cX10_advance 241 = .ok (.aload_n 0, 1) := by decide +kernel
theorem dX10_advance_242 : decode cX10_advance 242 = .ok (.getfield 117, 3) := by decide +kernel
theorem dX10_advance_245 : decode cX10_advance 245 = .ok (.isub, 1) := by decide +kernel
theorem dX10_advance_246 : decode cX10_advance 246 = .ok (.iconst 5, 1) := by decide +kernel
theorem dX10_advance_247 : decode cX10_advance 247 = .ok (.if_icmp .ge 25, 3) := by decide +kernel
theorem dX10_advance_250 : decode cX10_advance 250 = .ok (.bipush 10, 2) := by decide +kernel
theorem dX10_advance_252 : decode cX10_advance 252 = .ok (.aload_n 0, 1) := by decide +kernel
theorem dX10_advance_253 : decode cX10_advance 253 = .ok (.getfield 140, 3) := by decide +kernel
theorem dX10_advance_256 : decode cX10_advance 256 = .ok (.imul, 1) := by decide +kernel
theorem dX10_advance_257 : decode cX10_advance 257 = .ok (.aload_n 0, 1) := by decide +kernel
theorem dX10_advance_258 : decode cX10_advance 258 = .ok (.aload_n 0, 1) := by decide +kernel
theorem dX10_advance_259 : decode cX10_advance 259 = .ok (.getfield 110, 3) := by decide +kernel
theorem dX10_advance_262 : decode cX10_advance 262 = .ok (.invokevirtual 113, 3) := by decide +kernel
theorem dX10_advance_265 : decode cX10_advance 265 = .ok (.iadd, 1) := by decide +kernel
theorem dX10_advance_266 : decode cX10_advance 266 = .ok (.bipush 48, 2) := by decide +kernel
theorem dX10_advance_268 : decode cX10_advance 268 = .ok (.isub, 1) := by decide +kernel
theorem dX10_advance_269 : decode cX10_advance 269 = .ok (.goto 7, 3) := by decide +kernel
theorem dX10_advance_272 : decode cX10_advance 272 = .ok (.aload_n 0, 1) := by decide +kernel
theorem dX10_advance_273 : decode cX10_advance 273 = .ok (.getfield 140, 3) := by decide +kernel
theorem dX10_advance_276 : decode cX10_advance 276 = .ok (.putfield 140, 3) := by decide +kernel
theorem dX10_advance_279 : decode cX10_advance 279 = .ok (.aload_n 0, 1) := by decide +kernel
theorem dX10_advance_280 : decode cX10_advance 280 = .ok (.dup, 1) := by decide +kernel
theorem dX10_advance_281 : decode cX10_advance 281 = .ok (.getfield 110, 3) := by decide +kernel
theorem dX10_advance_284 : decode cX10_advance 284 = .ok (.iconst 1, 1) := by decide +kernel
theorem dX10_advance_285 : decode cX10_advance 285 = .ok (.iadd, 1) := by decide +kernel
theorem dX10_advance_286 : decode cX10_advance 286 = .ok (.putfield 110, 3) := by decide +kernel
theorem dX10_advance_289 : decode cX10_advance 289 = .ok (.goto (-67), 3) := by decide +kernel
theorem dX10_advance_292 : decode cX10_advance 292 = .ok (.aload_n 0, 1) := by decide +kernel
theorem dX10_advance_293 : decode cX10_advance 293 = .ok (.aload_n 0, 1) := by decide +kernel
theorem dX10_advance_294 : decode cX10_advance 294 = .ok (.getfield 110, 3) := by decide +kernel
theorem dX10_advance_297 : decode cX10_advance 297 = .ok (.aload_n 0, 1) := by decide +kernel
theorem dX10_advance_298 : decode cX10_advance 298 = .ok (.getfield 117, 3) := by decide +kernel
theorem dX10_advance_301 : decode cX10_advance 301 = .ok (.isub, 1) := by decide +kernel
theorem dX10_advance_302 : decode cX10_advance 302 = .ok (.iconst 5, 1) := by decide +kernel
theorem dX10_advance_303 : decode cX10_advance 303 = .ok (.if_icmp .le 7, 3) := by decide +kernel
theorem dX10_advance_306 : decode cX10_advance 306 = .ok (.iconst 1, 1) := by decide +kernel
theorem dX10_advance_307 : decode cX10_advance 307 = .ok (.goto 4, 3) := by decide +kernel
theorem dX10_advance_310 : decode cX10_advance 310 = .ok (.iconst 3, 1) := by decide +kernel
theorem dX10_advance_311 : decode cX10_advance 311 = .ok (.putfield 126, 3) := by decide +kernel
theorem dX10_advance_314 : decode cX10_advance 314 = .ok (.goto 40, 3) := by decide +kernel
theorem dX10_advance_317 : decode cX10_advance 317 = .ok (.aload_n 0, 1) := by decide +kernel
theorem dX10_advance_318 : decode cX10_advance 318 = .ok (.dup, 1) := by decide +kernel
theorem dX10_advance_319 : decode cX10_advance 319 = .ok (.getfield 110, 3) := by decide +kernel
theorem dX10_advance_322 : decode cX10_advance 322 = .ok (.iconst 1, 1) := by decide +kernel
theorem dX10_advance_323 : decode cX10_advance 323 = .ok (.iadd, 1) := by decide +kernel
theorem dX10_advance_324 : decode cX10_advance 324 = .ok (.putfield 110, 3) := by decide +kernel
theorem dX10_advance_327 : decode cX10_advance 327 = .ok (.aload_n 0, 1) := by decide +kernel
theorem dX10_advance_328 : decode cX10_advance 328 = .ok (.iload_n 1, 1) := by decide +kernel
theorem dX10_advance_329 : decode cX10_advance 329 = .ok (.bipush 59, 2) := by decide +kernel
theorem dX10_advance_331 : decode cX10_advance 331 = .ok (.if_icmp .eq 15, 3) := by decide +kernel
theorem dX10_advance_334 : decode cX10_advance 334 = .ok (.iload_n 1, 1) := by decide +kernel
theorem dX10_advance_335 : decode cX10_advance 335 = .ok (.bipush 40, 2) := by decide +kernel
theorem dX10_advance_337 : decode cX10_advance 337 = .ok (.if_icmp .eq 9, 3) := by decide +kernel
theorem dX10_advance_340 : decode cX10_advance 340 = .ok (.iload_n 1, 1) := by decide +kernel
theorem dX10_advance_341 : decode cX10_advance 341 = .ok (.bipush 41, 2) := by decide +kernel
theorem dX10_advance_343 : decode cX10_advance 343 = .ok (.if_icmp .ne 7, 3) := by decide +kernel
theorem dX10_advance_346 : decode cX10_advance 346 = .ok (.iconst 4, 1) := by decide +kernel
theorem dX10_advance_347 : decode cX10_advance 347 = .ok (.goto 4, 3) := by decide +kernel
theorem dX10_advance_350 : decode cX10_advance 350 = .ok (.iconst 1, 1) := by decide +kernel
theorem dX10_advance_351 : decode cX10_advance 351 = .ok (.putfield 126, 3) := by decide +kernel
theorem dX10_advance_354 : decode cX10_advance 354 = .ok (.iconst 1, 1) := by decide +kernel
theorem dX10_advance_355 : decode cX10_advance 355 = .ok (.ireturn, 1) := by decide +kernel
theorem dX10_both_0 : decode cX10_both 0 = .ok (.aload_n 0, 1) := by decide +kernel
theorem dX10_both_1 : decode cX10_both 1 = .ok (.invokevirtual 179, 3) := by decide +kernel
theorem dX10_both_4 : decode cX10_both 4 = .ok (.ifCond .ne 5, 3) := by decide +kernel
theorem dX10_both_7 : decode cX10_both 7 = .ok (.iconst 0, 1) := by decide +kernel
theorem dX10_both_8 : decode cX10_both 8 = .ok (.ireturn, 1) := by decide +kernel
theorem dX10_both_9 : decode cX10_both 9 = .ok (.aload_n 0, 1) := by decide +kernel
theorem dX10_both_10 : decode cX10_both 10 = .ok (.bipush 7, 2) := by decide +kernel
theorem dX10_both_12 : decode cX10_both 12 = .ok (.invokevirtual 173, 3) := by decide +kernel
theorem dX10_both_15 : decode cX10_both 15 = .ok (.ifCond .eq 26, 3) := by decide +kernel
theorem dX10_both_18 : decode cX10_both 18 = .ok (.aload_n 0, 1) := by decide +kernel
theorem dX10_both_19 : decode cX10_both 19 = .ok (.invokevirtual 159, 3) := by decide +kernel
theorem dX10_both_22 : decode cX10_both 22 = .ok (.pop, 1) := by decide +kernel
theorem dX10_both_23 : decode cX10_both 23 = .ok (.aload_n 0, 1) := by decide +kernel
theorem dX10_both_24 : decode cX10_both 24 = .ok (.invokevirtual 179, 3) := by decide +kernel
theorem dX10_both_27 : decode cX10_both 27 = .ok (.ifCond .ne 5, 3) := by decide +kernel
theorem dX10_both_30 : decode cX10_both 30 = .ok (.iconst 0, 1) := by decide +kernel
theorem dX10_both_31 : decode cX10_both 31 = .ok (.ireturn, 1) := by decide +kernel
theorem dX10_both_32 : decode cX10_both 32 = .ok (.aload_n 0, 1) := by decide +kernel
theorem dX10_both_33 : decode cX10_both 33 = .ok (.iconst (-1), 1) := by decide +kernel
theorem dX10_both_34 : decode cX10_both 34 = .ok (.invokevirtual 176, 3) := by decide +kernel
theorem dX10_both_37 : decode cX10_both 37 = .ok (.pop, 1) := by decide +kernel
theorem dX10_both_38 : decode cX10_both 38 = .ok (.goto (-29), 3) := by decide +kernel
theorem dX10_both_41 : decode cX10_both 41 = .ok (.iconst 1, 1) := by decide +kernel
theorem dX10_both_42 : decode cX10_both 42 = .ok (.ireturn, 1) := by decide +kernel
theorem dX10_bracket_0 : decode cX10_bracket 0 = .ok (.aload_n 0, 1) := by decide +kernel
theorem dX10_bracket_1 : decode cX10_bracket 1 = .ok (.invokevirtual 185, 3) := by decide +kernel
theorem dX10_bracket_4 : decode cX10_bracket 4 = .ok (.ifCond .eq 10, 3) := by decide +kernel
theorem dX10_bracket_7 : decode cX10_bracket 7 = .ok (.aload_n 0, 1) := by decide +kernel
theorem dX10_bracket_8 : decode cX10_bracket 8 = .ok (.invokevirtual 188, 3) := by decide +kernel
theorem dX10_bracket_11 : decode cX10_bracket 11 = .ok (.ifCond .ne 5, 3) := by decide +kernel
theorem dX10_bracket_14 : decode cX10_bracket 14 = .ok (.iconst 0, 1) := by decide +kernel
theorem dX10_bracket_15 : decode cX10_bracket 15 = .ok (.ireturn, 1) := by decide +kernel
theorem dX10_bracket_16 : decode cX10_bracket 16 = .ok (.aload_n 0, 1) := by decide +kernel
theorem dX10_bracket_17 : decode cX10_bracket 17 = .ok (.bipush 41, 2) := by decide +kernel
theorem dX10_bracket_19 : decode cX10_bracket 19 = .ok (.invokevirtual 191, 3) := by decide +kernel
theorem dX10_bracket_22 : decode cX10_bracket 22 = .ok (.ifCond .ne 9, 3) := by decide +kernel
theorem dX10_bracket_25 : decode cX10_bracket 25 = .ok (.aload_n 0, 1) := by decide +kernel
theorem dX10_bracket_26 : decode cX10_bracket 26 = .ok (.iconst 2, 1) := by decide +kernel
theorem dX10_bracket_27 : decode cX10_bracket 27 = .ok (.invokevirtual 149, 3) := by decide +kernel
theorem dX10_bracket_30 : decode cX10_bracket 30 = .ok (.ireturn, 1) := by decide +kernel
theorem dX10_bracket_31 : decode cX10_bracket 31 = .ok (.aload_n 0, 1) := by decide +kernel
theorem dX10_bracket_32 : decode cX10_bracket 32 = .ok (.dup, 1) := by decide +kernel
theorem dX10_bracket_33 : decode cX10_bracket 33 = .ok (.getfield 182, 3) := by decide +kernel
theorem dX10_bracket_36 : decode cX10_bracket 36 = .ok (.iconst 1, 1) := by decide +kernel
theorem dX10_bracket_37 : decode cX10_bracket 37 = .ok (.isub, 1) := by decide +kernel
theorem dX10_bracket_38 : decode cX10_bracket 38 = .ok (.putfield 182, 3) := by decide +kernel
theorem dX10_bracket_41 : decode cX10_bracket 41 = .ok (.aload_n 0, 1) := by decide +kernel
theorem dX10_bracket_42 : decode cX10_bracket 42 = .ok (.invokevirtual 159, 3) := by decide +kernel
theorem dX10_bracket_45 : decode cX10_bracket 45 = .ok (.ireturn, 1) := by decide +kernel
theorem dX10_byteAt_0 : decode cX10_byteAt 0 = .ok (.iload_n 1, 1) := by decide +kernel
theorem dX10_byteAt_1 : decode cX10_byteAt 1 = .ok (.aload_n 0, 1) := by decide +kernel
theorem dX10_byteAt_2 : decode cX10_byteAt 2 = .ok (.getfield 107, 3) := by decide +kernel
theorem dX10_byteAt_5 : decode cX10_byteAt 5 = .ok (.if_icmp .ge 12, 3) := by decide +kernel
theorem dX10_byteAt_8 : decode cX10_byteAt 8 = .ok (.aload_n 0, 1) := by decide +kernel
theorem dX10_byteAt_9 : decode cX10_byteAt 9 = .ok (.getfield 26, 3) := by decide +kernel
theorem dX10_byteAt_12 : decode cX10_byteAt 12 = .ok (.iload_n 1, 1) := by decide +kernel
theorem dX10_byteAt_13 : decode cX10_byteAt 13 = .ok (.iaload, 1) := by decide +kernel
theorem dX10_byteAt_14 : decode cX10_byteAt 14 = .ok (.goto 4, 3) := by decide +kernel
theorem dX10_byteAt_17 : decode cX10_byteAt 17 = .ok (.iconst (-1), 1) := by decide +kernel
theorem dX10_byteAt_18 : decode cX10_byteAt 18 = .ok (.ireturn, 1) := by decide +kernel
theorem dX10_condition_0 : decode cX10_condition 0 = .ok (.aload_n 0, 1) := by decide +kernel
theorem dX10_condition_1 : decode cX10_condition 1 = .ok (.invokevirtual 170, 3) := by decide +kernel
theorem dX10_condition_4 : decode cX10_condition 4 = .ok (.ifCond .ne 5, 3) := by decide +kernel
theorem dX10_condition_7 : decode cX10_condition 7 = .ok (.iconst 0, 1) := by decide +kernel
theorem dX10_condition_8 : decode cX10_condition 8 = .ok (.ireturn, 1) := by decide +kernel
theorem dX10_condition_9 : decode cX10_condition 9 = .ok (.aload_n 0, 1) := by decide +kernel
theorem dX10_condition_10 : decode cX10_condition 10 = .ok (.bipush 6, 2) := by decide +kernel
theorem dX10_condition_12 : decode cX10_condition 12 = .ok (.invokevirtual 173, 3) := by decide +kernel
theorem dX10_condition_15 : decode cX10_condition 15 = .ok (.ifCond .eq 27, 3) := by decide +kernel
theorem dX10_condition_18 : decode cX10_condition 18 = .ok (.aload_n 0, 1) := by decide +kernel
theorem dX10_condition_19 : decode cX10_condition 19 = .ok (.invokevirtual 159, 3) := by decide +kernel
theorem dX10_condition_22 : decode cX10_condition 22 = .ok (.pop, 1) := by decide +kernel
theorem dX10_condition_23 : decode cX10_condition 23 = .ok (.aload_n 0, 1) := by decide +kernel
theorem dX10_condition_24 : decode cX10_condition 24 = .ok (.invokevirtual 170, 3) := by decide +kernel
theorem dX10_condition_27 : decode cX10_condition 27 = .ok (.ifCond .ne 5, 3) := by decide +kernel
theorem dX10_condition_30 : decode cX10_condition 30 = .ok (.iconst 0, 1) := by decide +kernel
theorem dX10_condition_31 : decode cX10_condition 31 = .ok (.ireturn, 1) := by decide +kernel
theorem dX10_condition_32 : decode cX10_condition 32 = .ok (.aload_n 0, 1) := by decide +kernel
theorem dX10_condition_33 : decode cX10_condition 33 = .ok (.bipush (-2), 2) := by decide +kernel
theorem dX10_condition_35 : decode cX10_condition 35 = .ok (.invokevirtual 176, 3) := by decide +kernel
theorem dX10_condition_38 : decode cX10_condition 38 = .ok (.pop, 1) := by decide +kernel
theorem dX10_condition_39 : decode cX10_condition 39 = .ok (.goto (-30), 3) := by decide +kernel
theorem dX10_condition_42 : decode cX10_condition 42 = .ok (.iconst 1, 1) := by decide +kernel
theorem dX10_condition_43 : decode cX10_condition 43 = .ok (.ireturn, 1) := by decide +kernel
theorem dX10_doneFact_0 : decode cX10_doneFact 0 = .ok (.aload_n 0, 1) := by decide +kernel
theorem dX10_doneFact_1 : decode cX10_doneFact 1 = .ok (.invokevirtual 159, 3) := by decide +kernel
theorem dX10_doneFact_4 : decode cX10_doneFact 4 = .ok (.pop, 1) := by decide +kernel
theorem dX10_doneFact_5 : decode cX10_doneFact 5 = .ok (.aload_n 0, 1) := by decide +kernel
theorem dX10_doneFact_6 : decode cX10_doneFact 6 = .ok (.invokevirtual 194, 3) := by decide +kernel
theorem dX10_doneFact_9 : decode cX10_doneFact 9 = .ok (.ifCond .ne 9, 3) := by decide +kernel
theorem dX10_doneFact_12 : decode cX10_doneFact 12 = .ok (.aload_n 0, 1) := by decide +kernel
theorem dX10_doneFact_13 : decode cX10_doneFact 13 = .ok (.iconst 2, 1) := by decide +kernel
theorem dX10_doneFact_14 : decode cX10_doneFact 14 = .ok (.invokevirtual 149, 3) := by decide +kernel
theorem dX10_doneFact_17 : decode cX10_doneFact 17 = .ok (.ireturn, 1) := by decide +kernel
theorem dX10_doneFact_18 : decode cX10_doneFact 18 = .ok (.aload_n 0, 1) := by decide +kernel
theorem dX10_doneFact_19 : decode cX10_doneFact 19 = .ok (.getfield 39, 3) := by decide +kernel
theorem dX10_doneFact_22 : decode cX10_doneFact 22 = .ok (.aload_n 0, 1) := by decide +kernel
theorem dX10_doneFact_23 : decode cX10_doneFact 23 = .ok (.getfield 13, 3) := by decide +kernel
theorem dX10_doneFact_26 : decode cX10_doneFact 26 = .ok (.bipush 13, 2) := by decide +kernel
theorem dX10_doneFact_28 : decode cX10_doneFact 28 = .ok (.iaload, 1) := by decide +kernel
theorem dX10_doneFact_29 : decode cX10_doneFact 29 = .ok (.aload_n 0, 1) := by decide +kernel
theorem dX10_doneFact_30 : decode cX10_doneFact 30 = .ok (.getfield 123, 3) := by decide +kernel
theorem dX10_doneFact_33 : decode cX10_doneFact 33 = .ok (.invokestatic 197, 3) := by decide +kernel
theorem dX10_doneFact_36 : decode cX10_doneFact 36 = .ok (.istore_n 1, 1) := by decide +kernel
theorem dX10_doneFact_37 : decode cX10_doneFact 37 = .ok (.iload_n 1, 1) := by decide +kernel
theorem dX10_doneFact_38 : decode cX10_doneFact 38 = .ok (.iconst (-1), 1) := by decide +kernel
theorem dX10_doneFact_39 : decode cX10_doneFact 39 = .ok (.if_icmp .ne 9, 3) := by decide +kernel
theorem dX10_doneFact_42 : decode cX10_doneFact 42 = .ok (.aload_n 0, 1) := by decide +kernel
theorem dX10_doneFact_43 : decode cX10_doneFact 43 = .ok (.iconst 4, 1) := by decide +kernel
theorem dX10_doneFact_44 : decode cX10_doneFact 44 = .ok (.invokevirtual 149, 3) := by decide +kernel
theorem dX10_doneFact_47 : decode cX10_doneFact 47 = .ok (.ireturn, 1) := by decide +kernel
theorem dX10_doneFact_48 : decode cX10_doneFact 48 = .ok (.aload_n 0, 1) := by decide +kernel
theorem dX10_doneFact_49 : decode cX10_doneFact 49 = .ok (.ldc 202, 2) := by decide +kernel
theorem dX10_doneFact_51 : decode cX10_doneFact 51 = .ok (.iload_n 1, 1) := by decide +kernel
theorem dX10_doneFact_52 : decode cX10_doneFact 52 = .ok (.iadd, 1) := by decide +kernel
theorem dX10_doneFact_53 : decode cX10_doneFact 53 = .ok (.invokevirtual 176, 3) := by decide +kernel
theorem dX10_doneFact_56 : decode cX10_doneFact 56 = .ok (.pop, 1) := by decide +kernel
theorem dX10_doneFact_57 : decode cX10_doneFact 57 = .ok (.aload_n 0, 1) := by decide +kernel
theorem dX10_doneFact_58 : decode cX10_doneFact 58 = .ok (.invokevirtual 159, 3) := by decide +kernel
theorem dX10_doneFact_61 : decode cX10_doneFact 61 = .ok (.ireturn, 1) := by decide +kernel
theorem dX10_emit_0 : decode cX10_emit 0 = .ok (.aload_n 0, 1) := by decide +kernel
theorem dX10_emit_1 : decode cX10_emit 1 = .ok (.getfield 51, 3) := by decide +kernel
theorem dX10_emit_4 : decode cX10_emit 4 = .ok (.aload_n 0, 1) := by decide +kernel
theorem dX10_emit_5 : decode cX10_emit 5 = .ok (.getfield 167, 3) := by decide +kernel
theorem dX10_emit_8 : decode cX10_emit 8 = .ok (.iload_n 1, 1) := by decide +kernel
theorem dX10_emit_9 : decode cX10_emit 9 = .ok (.iastore, 1) := by decide +kernel
theorem dX10_emit_10 : decode cX10_emit 10 = .ok (.aload_n 0, 1) := by decide +kernel
theorem dX10_emit_11 : decode cX10_emit 11 = .ok (.dup, 1) := by decide +kernel
theorem dX10_emit_12 : decode cX10_emit 12 = .ok (.getfield 167, 3) := by decide +kernel
theorem dX10_emit_15 : decode cX10_emit 15 = .ok (.iconst 1, 1) := by decide +kernel
theorem dX10_emit_16 : decode cX10_emit 16 = .ok (.iadd, 1) := by decide +kernel
theorem dX10_emit_17 : decode cX10_emit 17 = .ok (.putfield 167, 3) := by decide +kernel
theorem dX10_emit_20 : decode cX10_emit 20 = .ok (.iconst 1, 1) := by decide +kernel
theorem dX10_emit_21 : decode cX10_emit 21 = .ok (.ireturn, 1) := by decide +kernel
theorem dX10_fact_0 : decode cX10_fact 0 = .ok (.aload_n 0, 1) := by decide +kernel
theorem dX10_fact_1 : decode cX10_fact 1 = .ok (.bipush 40, 2) := by decide +kernel
theorem dX10_fact_3 : decode cX10_fact 3 = .ok (.invokevirtual 191, 3) := by decide +kernel
theorem dX10_fact_6 : decode cX10_fact 6 = .ok (.ifCond .eq 8, 3) := by decide +kernel
theorem dX10_fact_9 : decode cX10_fact 9 = .ok (.aload_n 0, 1) := by decide +kernel
theorem dX10_fact_10 : decode cX10_fact 10 = .ok (.invokevirtual 203, 3) := by decide +kernel
theorem dX10_fact_13 : decode cX10_fact 13 = .ok (.ireturn, 1) := by decide +kernel
theorem dX10_fact_14 : decode cX10_fact 14 = .ok (.aload_n 0, 1) := by decide +kernel
theorem dX10_fact_15 : decode cX10_fact 15 = .ok (.getfield 126, 3) := by decide +kernel
theorem dX10_fact_18 : decode cX10_fact 18 = .ok (.iconst 2, 1) := by decide +kernel
theorem dX10_fact_19 : decode cX10_fact 19 = .ok (.if_icmp .eq 9, 3) := by decide +kernel
theorem dX10_fact_22 : decode cX10_fact 22 = .ok (.aload_n 0, 1) := by decide +kernel
theorem dX10_fact_23 : decode cX10_fact 23 = .ok (.iconst 2, 1) := by decide +kernel
theorem dX10_fact_24 : decode cX10_fact 24 = .ok (.invokevirtual 149, 3) := by decide +kernel
theorem dX10_fact_27 : decode cX10_fact 27 = .ok (.ireturn, 1) := by decide +kernel
theorem dX10_fact_28 : decode cX10_fact 28 = .ok (.aload_n 0, 1) := by decide +kernel
theorem dX10_fact_29 : decode cX10_fact 29 = .ok (.getfield 120, 3) := by decide +kernel
theorem dX10_fact_32 : decode cX10_fact 32 = .ok (.tableswitch 88 8 14 #[44, 49, 58, 63, 68, 76, 82], 44) := by decide +kernel
theorem dX10_fact_76 : decode cX10_fact 76 = .ok (.aload_n 0, 1) := by decide +kernel
theorem dX10_fact_77 : decode cX10_fact 77 = .ok (.invokevirtual 206, 3) := by decide +kernel
theorem dX10_fact_80 : decode cX10_fact 80 = .ok (.ireturn, 1) := by decide +kernel
theorem dX10_fact_81 : decode cX10_fact 81 = .ok (.aload_n 0, 1) := by decide +kernel
theorem dX10_fact_82 : decode cX10_fact 82 = .ok (.iconst 0, 1) := by decide +kernel
theorem dX10_fact_83 : decode cX10_fact 83 = .ok (.sipush 999, 3) := by decide +kernel
theorem dX10_fact_86 : decode cX10_fact 86 = .ok (.invokevirtual 209, 3) := by decide +kernel
theorem dX10_fact_89 : decode cX10_fact 89 = .ok (.ireturn, 1) := by decide +kernel
theorem dX10_fact_90 : decode cX10_fact 90 = .ok (.aload_n 0, 1) := by decide +kernel
theorem dX10_fact_91 : decode cX10_fact 91 = .ok (.invokevirtual 212, 3) := by decide +kernel
theorem dX10_fact_94 : decode cX10_fact 94 = .ok (.ireturn, 1) := by decide +kernel
theorem dX10_fact_95 : decode cX10_fact 95 = .ok (.aload_n 0, 1) := by decide +kernel
theorem dX10_fact_96 : decode cX10_fact 96 = .ok (.invokevirtual 215, 3) := by decide +kernel
theorem dX10_fact_99 : decode cX10_fact 99 = .ok (.ireturn, 1) := by decide +kernel
theorem dX10_fact_100 : decode cX10_fact 100 = .ok (.aload_n 0, 1) := by decide +kernel
theorem dX10_fact_101 : decode cX10_fact 101 = .ok (.iconst 3, 1) := by decide +kernel
theorem dX10_fact_102 : decode cX10_fact 102 = .ok (.ldc 218, 2) := by decide +kernel
theorem dX10_fact_104 : decode cX10_fact 104 = .ok (.invokevirtual 209, 3) := by decide +kernel
theorem dX10_fact_107 : decode cX10_fact 107 = .ok (.ireturn, 1) := by decide +kernel
theorem dX10_fact_108 : decode cX10_fact 108 = .ok (.aload_n 0, 1) := by decide +kernel
theorem dX10_fact_109 : decode cX10_fact 109 = .ok (.iconst 4, 1) := by decide +kernel
theorem dX10_fact_110 : decode cX10_fact 110 = .ok (.invokevirtual 219, 3) := by decide +kernel
theorem dX10_fact_113 : decode cX10_fact 113 = .ok (.ireturn, 1) := by decide +kernel
theorem dX10_fact_114 : decode cX10_fact 114 = .ok (.aload_n 0, 1) := by decide +kernel
theorem dX10_fact_115 : decode cX10_fact 115 = .ok (.iconst 5, 1) := by decide +kernel
theorem dX10_fact_116 : decode cX10_fact 116 = .ok (.invokevirtual 219, 3) := by decide +kernel
theorem dX10_fact_119 : decode cX10_fact 119 = .ok (.ireturn, 1) := by decide +kernel
theorem dX10_fact_120 : decode cX10_fact 120 = .ok (.aload_n 0, 1) := by decide +kernel
theorem dX10_fact_121 : decode cX10_fact 121 = .ok (.iconst 2, 1) := by decide +kernel
theorem dX10_fact_122 : decode cX10_fact 122 = .ok (.invokevirtual 149, 3) := by decide +kernel
theorem dX10_fact_125 : decode cX10_fact 125 = .ok (.ireturn, 1) := by decide +kernel
theorem dX10_fail_0 : decode cX10_fail 0 = .ok (.aload_n 0, 1) := by decide +kernel
theorem dX10_fail_1 : decode cX10_fail 1 = .ok (.aload_n 0, 1) := by decide +kernel
theorem dX10_fail_2 : decode cX10_fail 2 = .ok (.getfield 126, 3) := by decide +kernel
theorem dX10_fail_5 : decode cX10_fail 5 = .ok (.iconst 1, 1) := by decide +kernel
theorem dX10_fail_6 : decode cX10_fail 6 = .ok (.if_icmp .ne 7, 3) := by decide +kernel
theorem dX10_fail_9 : decode cX10_fail 9 = .ok (.iconst 1, 1) := by decide +kernel
theorem dX10_fail_10 : decode cX10_fail 10 = .ok (.goto 4, 3) := by decide +kernel
theorem dX10_fail_13 : decode cX10_fail 13 = .ok (.iload_n 1, 1) := by decide +kernel
theorem dX10_fail_14 : decode cX10_fail 14 = .ok (.putfield 143, 3) := by decide +kernel
theorem dX10_fail_17 : decode cX10_fail 17 = .ok (.aload_n 0, 1) := by decide +kernel
theorem dX10_fail_18 : decode cX10_fail 18 = .ok (.aload_n 0, 1) := by decide +kernel
theorem dX10_fail_19 : decode cX10_fail 19 = .ok (.getfield 117, 3) := by decide +kernel
theorem dX10_fail_22 : decode cX10_fail 22 = .ok (.putfield 146, 3) := by decide +kernel
theorem dX10_fail_25 : decode cX10_fail 25 = .ok (.iconst 0, 1) := by decide +kernel
theorem dX10_fail_26 : decode cX10_fail 26 = .ok (.ireturn, 1) := by decide +kernel
theorem dX10_find_0 : decode cX10_find 0 = .ok (.iconst 0, 1) := by decide +kernel
theorem dX10_find_1 : decode cX10_find 1 = .ok (.istore 4, 2) := by decide +kernel
theorem dX10_find_3 : decode cX10_find 3 = .ok (.iload 4, 2) := by decide +kernel
theorem dX10_find_5 : decode cX10_find 5 = .ok (.iload_n 1, 1) := by decide +kernel
theorem dX10_find_6 : decode cX10_find 6 = .ok (.if_icmp .ge 21, 3) := by decide +kernel
theorem dX10_find_9 : decode cX10_find 9 = .ok (.aload_n 0, 1) := by decide +kernel
theorem dX10_find_10 : decode cX10_find 10 = .ok (.iload 4, 2) := by decide +kernel
theorem dX10_find_12 : decode cX10_find 12 = .ok (.laload, 1) := by decide +kernel
theorem dX10_find_13 : decode cX10_find 13 = .ok (.lload_n 2, 1) := by decide +kernel
theorem dX10_find_14 : decode cX10_find 14 = .ok (.lcmp, 1) := by decide +kernel
theorem dX10_find_15 : decode cX10_find 15 = .ok (.ifCond .ne 6, 3) := by decide +kernel
theorem dX10_find_18 : decode cX10_find 18 = .ok (.iload 4, 2) := by decide +kernel
theorem dX10_find_20 : decode cX10_find 20 = .ok (.ireturn, 1) := by decide +kernel
theorem dX10_find_21 : decode cX10_find 21 = .ok (.iinc 4 1, 3) := by decide +kernel
theorem dX10_find_24 : decode cX10_find 24 = .ok (.goto (-21), 3) := by decide +kernel
theorem dX10_find_27 : decode cX10_find 27 = .ok (.iconst (-1), 1) := by decide +kernel
theorem dX10_find_28 : decode cX10_find 28 = .ok (.ireturn, 1) := by decide +kernel
theorem dX10_isDigit_0 : decode cX10_isDigit 0 = .ok (.iload_n 0, 1) := by decide +kernel
theorem dX10_isDigit_1 : decode cX10_isDigit 1 = .ok (.bipush 48, 2) := by decide +kernel
theorem dX10_isDigit_3 : decode cX10_isDigit 3 = .ok (.if_icmp .lt 13, 3) := by decide +kernel
theorem dX10_isDigit_6 : decode cX10_isDigit 6 = .ok (.iload_n 0, 1) := by decide +kernel
theorem dX10_isDigit_7 : decode cX10_isDigit 7 = .ok (.bipush 57, 2) := by decide +kernel
theorem dX10_isDigit_9 : decode cX10_isDigit 9 = .ok (.if_icmp .gt 7, 3) := by decide +kernel
theorem dX10_isDigit_12 : decode cX10_isDigit 12 = .ok (.iconst 1, 1) := by decide +kernel
theorem dX10_isDigit_13 : decode cX10_isDigit 13 = .ok (.goto 4, 3) := by decide +kernel
theorem dX10_isDigit_16 : decode cX10_isDigit 16 = .ok (.iconst 0, 1) := by decide +kernel
theorem dX10_isDigit_17 : decode cX10_isDigit 17 = .ok (.ireturn, 1) := by decide +kernel
theorem dX10_isKeyword_0 : decode cX10_isKeyword 0 = .ok (.aload_n 0, 1) := by decide +kernel
theorem dX10_isKeyword_1 : decode cX10_isKeyword 1 = .ok (.getfield 126, 3) := by decide +kernel
theorem dX10_isKeyword_4 : decode cX10_isKeyword 4 = .ok (.iconst 2, 1) := by decide +kernel
theorem dX10_isKeyword_5 : decode cX10_isKeyword 5 = .ok (.if_icmp .ne 15, 3) := by decide +kernel
theorem dX10_isKeyword_8 : decode cX10_isKeyword 8 = .ok (.aload_n 0, 1) := by decide +kernel
theorem dX10_isKeyword_9 : decode cX10_isKeyword 9 = .ok (.getfield 120, 3) := by decide +kernel
theorem dX10_isKeyword_12 : decode cX10_isKeyword 12 = .ok (.iload_n 1, 1) := by decide +kernel
theorem dX10_isKeyword_13 : decode cX10_isKeyword 13 = .ok (.if_icmp .ne 7, 3) := by decide +kernel
theorem dX10_isKeyword_16 : decode cX10_isKeyword 16 = .ok (.iconst 1, 1) := by decide +kernel
theorem dX10_isKeyword_17 : decode cX10_isKeyword 17 = .ok (.goto 4, 3) := by decide +kernel
theorem dX10_isKeyword_20 : decode cX10_isKeyword 20 = .ok (.iconst 0, 1) := by decide +kernel
theorem dX10_isKeyword_21 : decode cX10_isKeyword 21 = .ok (.ireturn, 1) := by decide +kernel
theorem dX10_isLetter_0 : decode cX10_isLetter 0 = .ok (.iload_n 0, 1) := by decide +kernel
theorem dX10_isLetter_1 : decode cX10_isLetter 1 = .ok (.bipush 97, 2) := by decide +kernel
theorem dX10_isLetter_3 : decode cX10_isLetter 3 = .ok (.if_icmp .lt 13, 3) := by decide +kernel
theorem dX10_isLetter_6 : decode cX10_isLetter 6 = .ok (.iload_n 0, 1) := by decide +kernel
theorem dX10_isLetter_7 : decode cX10_isLetter 7 = .ok (.bipush 122, 2) := by decide +kernel
theorem dX10_isLetter_9 : decode cX10_isLetter 9 = .ok (.if_icmp .gt 7, 3) := by decide +kernel
theorem dX10_isLetter_12 : decode cX10_isLetter 12 = .ok (.iconst 1, 1) := by decide +kernel
theorem dX10_isLetter_13 : decode cX10_isLetter 13 = .ok (.goto 4, 3) := by decide +kernel
theorem dX10_isLetter_16 : decode cX10_isLetter 16 = .ok (.iconst 0, 1) := by decide +kernel
theorem dX10_isLetter_17 : decode cX10_isLetter 17 = .ok (.ireturn, 1) := by decide +kernel
theorem dX10_isName_0 : decode cX10_isName 0 = .ok (.aload_n 0, 1) := by decide +kernel
theorem dX10_isName_1 : decode cX10_isName 1 = .ok (.getfield 126, 3) := by decide +kernel
theorem dX10_isName_4 : decode cX10_isName 4 = .ok (.iconst 2, 1) := by decide +kernel
theorem dX10_isName_5 : decode cX10_isName 5 = .ok (.if_icmp .ne 15, 3) := by decide +kernel
theorem dX10_isName_8 : decode cX10_isName 8 = .ok (.aload_n 0, 1) := by decide +kernel
theorem dX10_isName_9 : decode cX10_isName 9 = .ok (.getfield 120, 3) := by decide +kernel
theorem dX10_isName_12 : decode cX10_isName 12 = .ok (.iconst (-1), 1) := by decide +kernel
theorem dX10_isName_13 : decode cX10_isName 13 = .ok (.if_icmp .ne 7, 3) := by decide +kernel
theorem dX10_isName_16 : decode cX10_isName 16 = .ok (.iconst 1, 1) := by decide +kernel
theorem dX10_isName_17 : decode cX10_isName 17 = .ok (.goto 4, 3) := by decide +kernel
theorem dX10_isName_20 : decode cX10_isName 20 = .ok (.iconst 0, 1) := by decide +kernel
theorem dX10_isName_21 : decode cX10_isName 21 = .ok (.ireturn, 1) := by decide +kernel
theorem dX10_isSymbol_0 : decode cX10_isSymbol 0 = .ok (.aload_n 0, 1) := by decide +kernel
theorem dX10_isSymbol_1 : decode cX10_isSymbol 1 = .ok (.getfield 126, 3) := by decide +kernel
theorem dX10_isSymbol_4 : decode cX10_isSymbol 4 = .ok (.iconst 4, 1) := by decide +kernel
theorem dX10_isSymbol_5 : decode cX10_isSymbol 5 = .ok (.if_icmp .ne 20, 3) := by decide +kernel
theorem dX10_isSymbol_8 : decode cX10_isSymbol 8 = .ok (.aload_n 0, 1) := by decide +kernel
theorem dX10_isSymbol_9 : decode cX10_isSymbol 9 = .ok (.getfield 26, 3) := by decide +kernel
theorem dX10_isSymbol_12 : decode cX10_isSymbol 12 = .ok (.aload_n 0, 1) := by decide +kernel
theorem dX10_isSymbol_13 : decode cX10_isSymbol 13 = .ok (.getfield 117, 3) := by decide +kernel
theorem dX10_isSymbol_16 : decode cX10_isSymbol 16 = .ok (.iaload, 1) := by decide +kernel
theorem dX10_isSymbol_17 : decode cX10_isSymbol 17 = .ok (.iload_n 1, 1) := by decide +kernel
theorem dX10_isSymbol_18 : decode cX10_isSymbol 18 = .ok (.if_icmp .ne 7, 3) := by decide +kernel
theorem dX10_isSymbol_21 : decode cX10_isSymbol 21 = .ok (.iconst 1, 1) := by decide +kernel
theorem dX10_isSymbol_22 : decode cX10_isSymbol 22 = .ok (.goto 4, 3) := by decide +kernel
theorem dX10_isSymbol_25 : decode cX10_isSymbol 25 = .ok (.iconst 0, 1) := by decide +kernel
theorem dX10_isSymbol_26 : decode cX10_isSymbol 26 = .ok (.ireturn, 1) := by decide +kernel
theorem dX10_keywordOf_0 : decode cX10_keywordOf 0 = .ok (.iconst 0, 1) := by decide +kernel
theorem dX10_keywordOf_1 : decode cX10_keywordOf 1 = .ok (.istore_n 3, 1) := by decide +kernel
theorem dX10_keywordOf_2 : decode cX10_keywordOf 2 = .ok (.iload_n 3, 1) := by decide +kernel
theorem dX10_keywordOf_3 : decode cX10_keywordOf 3 = .ok (.bipush 15, 2) := by decide +kernel
theorem dX10_keywordOf_5 : decode cX10_keywordOf 5 = .ok (.if_icmp .ge 22, 3) := by decide +kernel
theorem dX10_keywordOf_8 : decode cX10_keywordOf 8 = .ok (.aload_n 0, 1) := by decide +kernel
theorem dX10_keywordOf_9 : decode cX10_keywordOf 9 = .ok (.getfield 33, 3) := by decide +kernel
theorem dX10_keywordOf_12 : decode cX10_keywordOf 12 = .ok (.iload_n 3, 1) := by decide +kernel
theorem dX10_keywordOf_13 : decode cX10_keywordOf 13 = .ok (.laload, 1) := by decide +kernel
theorem dX10_keywordOf_14 : decode cX10_keywordOf 14 = .ok (.lload_n 1, 1) := by decide +kernel
theorem dX10_keywordOf_15 : decode cX10_keywordOf 15 = .ok (.lcmp, 1) := by decide +kernel
theorem dX10_keywordOf_16 : decode cX10_keywordOf 16 = .ok (.ifCond .ne 5, 3) := by decide +kernel
theorem dX10_keywordOf_19 : decode cX10_keywordOf 19 = .ok (.iload_n 3, 1) := by decide +kernel
theorem dX10_keywordOf_20 : decode cX10_keywordOf 20 = .ok (.ireturn, 1) := by decide +kernel
theorem dX10_keywordOf_21 : decode cX10_keywordOf 21 = .ok (.iinc 3 1, 3) := by decide +kernel
theorem dX10_keywordOf_24 : decode cX10_keywordOf 24 = .ok (.goto (-22), 3) := by decide +kernel
theorem dX10_keywordOf_27 : decode cX10_keywordOf 27 = .ok (.iconst (-1), 1) := by decide +kernel
theorem dX10_keywordOf_28 : decode cX10_keywordOf 28 = .ok (.ireturn, 1) := by decide +kernel
theorem dX10_notFact_0 : decode cX10_notFact 0 = .ok (.aload_n 0, 1) := by decide +kernel
theorem dX10_notFact_1 : decode cX10_notFact 1 = .ok (.invokevirtual 185, 3) := by decide +kernel
theorem dX10_notFact_4 : decode cX10_notFact 4 = .ok (.ifCond .eq 10, 3) := by decide +kernel
theorem dX10_notFact_7 : decode cX10_notFact 7 = .ok (.aload_n 0, 1) := by decide +kernel
theorem dX10_notFact_8 : decode cX10_notFact 8 = .ok (.invokevirtual 179, 3) := by decide +kernel
theorem dX10_notFact_11 : decode cX10_notFact 11 = .ok (.ifCond .ne 5, 3) := by decide +kernel
theorem dX10_notFact_14 : decode cX10_notFact 14 = .ok (.iconst 0, 1) := by decide +kernel
theorem dX10_notFact_15 : decode cX10_notFact 15 = .ok (.ireturn, 1) := by decide +kernel
theorem dX10_notFact_16 : decode cX10_notFact 16 = .ok (.aload_n 0, 1) := by decide +kernel
theorem dX10_notFact_17 : decode cX10_notFact 17 = .ok (.dup, 1) := by decide +kernel
theorem dX10_notFact_18 : decode cX10_notFact 18 = .ok (.getfield 182, 3) := by decide +kernel
theorem dX10_notFact_21 : decode cX10_notFact 21 = .ok (.iconst 1, 1) := by decide +kernel
theorem dX10_notFact_22 : decode cX10_notFact 22 = .ok (.isub, 1) := by decide +kernel
theorem dX10_notFact_23 : decode cX10_notFact 23 = .ok (.putfield 182, 3) := by decide +kernel
theorem dX10_notFact_26 : decode cX10_notFact 26 = .ok (.aload_n 0, 1) := by decide +kernel
theorem dX10_notFact_27 : decode cX10_notFact 27 = .ok (.bipush (-3), 2) := by decide +kernel
theorem dX10_notFact_29 : decode cX10_notFact 29 = .ok (.invokevirtual 176, 3) := by decide +kernel
theorem dX10_notFact_32 : decode cX10_notFact 32 = .ok (.ireturn, 1) := by decide +kernel
theorem dX10_number_0 : decode cX10_number 0 = .ok (.aload_n 0, 1) := by decide +kernel
theorem dX10_number_1 : decode cX10_number 1 = .ok (.getfield 126, 3) := by decide +kernel
theorem dX10_number_4 : decode cX10_number 4 = .ok (.iconst 3, 1) := by decide +kernel
theorem dX10_number_5 : decode cX10_number 5 = .ok (.if_icmp .eq 9, 3) := by decide +kernel
theorem dX10_number_8 : decode cX10_number 8 = .ok (.aload_n 0, 1) := by decide +kernel
theorem dX10_number_9 : decode cX10_number 9 = .ok (.iconst 2, 1) := by decide +kernel
theorem dX10_number_10 : decode cX10_number 10 = .ok (.invokevirtual 149, 3) := by decide +kernel
theorem dX10_number_13 : decode cX10_number 13 = .ok (.ireturn, 1) := by decide +kernel
theorem dX10_number_14 : decode cX10_number 14 = .ok (.aload_n 0, 1) := by decide +kernel
theorem dX10_number_15 : decode cX10_number 15 = .ok (.getfield 140, 3) := by decide +kernel
theorem dX10_number_18 : decode cX10_number 18 = .ok (.i2l, 1) := by decide +kernel
theorem dX10_number_19 : decode cX10_number 19 = .ok (.iload_n 1, 1) := by decide +kernel
theorem dX10_number_20 : decode cX10_number 20 = .ok (.i2l, 1) := by decide +kernel
theorem dX10_number_21 : decode cX10_number 21 = .ok (.iload_n 2, 1) := by decide +kernel
theorem dX10_number_22 : decode cX10_number 22 = .ok (.i2l, 1) := by decide +kernel
theorem dX10_number_23 : decode cX10_number 23 = .ok (.invokestatic 152, 3) := by decide +kernel
theorem dX10_number_26 : decode cX10_number 26 = .ok (.ifCond .ne 9, 3) := by decide +kernel
theorem dX10_number_29 : decode cX10_number 29 = .ok (.aload_n 0, 1) := by decide +kernel
theorem dX10_number_30 : decode cX10_number 30 = .ok (.iconst 3, 1) := by decide +kernel
theorem dX10_number_31 : decode cX10_number 31 = .ok (.invokevirtual 149, 3) := by decide +kernel
theorem dX10_number_34 : decode cX10_number 34 = .ok (.ireturn, 1) := by decide +kernel
theorem dX10_number_35 : decode cX10_number 35 = .ok (.aload_n 0, 1) := by decide +kernel
theorem dX10_number_36 : decode cX10_number 36 = .ok (.aload_n 0, 1) := by decide +kernel
theorem dX10_number_37 : decode cX10_number 37 = .ok (.getfield 140, 3) := by decide +kernel
theorem dX10_number_40 : decode cX10_number 40 = .ok (.putfield 156, 3) := by decide +kernel
theorem dX10_number_43 : decode cX10_number 43 = .ok (.aload_n 0, 1) := by decide +kernel
theorem dX10_number_44 : decode cX10_number 44 = .ok (.invokevirtual 159, 3) := by decide +kernel
theorem dX10_number_47 : decode cX10_number 47 = .ok (.ireturn, 1) := by decide +kernel
theorem dX10_numberFact_0 : decode cX10_numberFact 0 = .ok (.aload_n 0, 1) := by decide +kernel
theorem dX10_numberFact_1 : decode cX10_numberFact 1 = .ok (.invokevirtual 159, 3) := by decide +kernel
theorem dX10_numberFact_4 : decode cX10_numberFact 4 = .ok (.pop, 1) := by decide +kernel
theorem dX10_numberFact_5 : decode cX10_numberFact 5 = .ok (.aload_n 0, 1) := by decide +kernel
theorem dX10_numberFact_6 : decode cX10_numberFact 6 = .ok (.iconst 0, 1) := by decide +kernel
theorem dX10_numberFact_7 : decode cX10_numberFact 7 = .ok (.iload_n 2, 1) := by decide +kernel
theorem dX10_numberFact_8 : decode cX10_numberFact 8 = .ok (.invokevirtual 163, 3) := by decide +kernel
theorem dX10_numberFact_11 : decode cX10_numberFact 11 = .ok (.ifCond .eq 23, 3) := by decide +kernel
theorem dX10_numberFact_14 : decode cX10_numberFact 14 = .ok (.aload_n 0, 1) := by decide +kernel
theorem dX10_numberFact_15 : decode cX10_numberFact 15 = .ok (.ldc 201, 2) := by decide +kernel
theorem dX10_numberFact_17 : decode cX10_numberFact 17 = .ok (.iload_n 1, 1) := by decide +kernel
theorem dX10_numberFact_18 : decode cX10_numberFact 18 = .ok (.imul, 1) := by decide +kernel
theorem dX10_numberFact_19 : decode cX10_numberFact 19 = .ok (.aload_n 0, 1) := by decide +kernel
theorem dX10_numberFact_20 : decode cX10_numberFact 20 = .ok (.getfield 156, 3) := by decide +kernel
theorem dX10_numberFact_23 : decode cX10_numberFact 23 = .ok (.iadd, 1) := by decide +kernel
theorem dX10_numberFact_24 : decode cX10_numberFact 24 = .ok (.invokevirtual 176, 3) := by decide +kernel
theorem dX10_numberFact_27 : decode cX10_numberFact 27 = .ok (.ifCond .eq 7, 3) := by decide +kernel
theorem dX10_numberFact_30 : decode cX10_numberFact 30 = .ok (.iconst 1, 1) := by decide +kernel
theorem dX10_numberFact_31 : decode cX10_numberFact 31 = .ok (.goto 4, 3) := by decide +kernel
theorem dX10_numberFact_34 : decode cX10_numberFact 34 = .ok (.iconst 0, 1) := by decide +kernel
theorem dX10_numberFact_35 : decode cX10_numberFact 35 = .ok (.ireturn, 1) := by decide +kernel
theorem dX10_numberTo_0 : decode cX10_numberTo 0 = .ok (.aload_n 0, 1) := by decide +kernel
theorem dX10_numberTo_1 : decode cX10_numberTo 1 = .ok (.iload_n 2, 1) := by decide +kernel
theorem dX10_numberTo_2 : decode cX10_numberTo 2 = .ok (.iload_n 3, 1) := by decide +kernel
theorem dX10_numberTo_3 : decode cX10_numberTo 3 = .ok (.invokevirtual 163, 3) := by decide +kernel
theorem dX10_numberTo_6 : decode cX10_numberTo 6 = .ok (.ifCond .ne 5, 3) := by decide +kernel
theorem dX10_numberTo_9 : decode cX10_numberTo 9 = .ok (.iconst 0, 1) := by decide +kernel
theorem dX10_numberTo_10 : decode cX10_numberTo 10 = .ok (.ireturn, 1) := by decide +kernel
theorem dX10_numberTo_11 : decode cX10_numberTo 11 = .ok (.aload_n 0, 1) := by decide +kernel
theorem dX10_numberTo_12 : decode cX10_numberTo 12 = .ok (.getfield 13, 3) := by decide +kernel
theorem dX10_numberTo_15 : decode cX10_numberTo 15 = .ok (.iload_n 1, 1) := by decide +kernel
theorem dX10_numberTo_16 : decode cX10_numberTo 16 = .ok (.aload_n 0, 1) := by decide +kernel
theorem dX10_numberTo_17 : decode cX10_numberTo 17 = .ok (.getfield 156, 3) := by decide +kernel
theorem dX10_numberTo_20 : decode cX10_numberTo 20 = .ok (.iastore, 1) := by decide +kernel
theorem dX10_numberTo_21 : decode cX10_numberTo 21 = .ok (.iconst 1, 1) := by decide +kernel
theorem dX10_numberTo_22 : decode cX10_numberTo 22 = .ok (.ireturn, 1) := by decide +kernel
theorem dX10_opens_0 : decode cX10_opens 0 = .ok (.aload_n 0, 1) := by decide +kernel
theorem dX10_opens_1 : decode cX10_opens 1 = .ok (.getfield 182, 3) := by decide +kernel
theorem dX10_opens_4 : decode cX10_opens 4 = .ok (.bipush 8, 2) := by decide +kernel
theorem dX10_opens_6 : decode cX10_opens 6 = .ok (.if_icmp .ne 9, 3) := by decide +kernel
theorem dX10_opens_9 : decode cX10_opens 9 = .ok (.aload_n 0, 1) := by decide +kernel
theorem dX10_opens_10 : decode cX10_opens 10 = .ok (.iconst 5, 1) := by decide +kernel
theorem dX10_opens_11 : decode cX10_opens 11 = .ok (.invokevirtual 149, 3) := by decide +kernel
theorem dX10_opens_14 : decode cX10_opens 14 = .ok (.ireturn, 1) := by decide +kernel
theorem dX10_opens_15 : decode cX10_opens 15 = .ok (.aload_n 0, 1) := by decide +kernel
theorem dX10_opens_16 : decode cX10_opens 16 = .ok (.dup, 1) := by decide +kernel
theorem dX10_opens_17 : decode cX10_opens 17 = .ok (.getfield 182, 3) := by decide +kernel
theorem dX10_opens_20 : decode cX10_opens 20 = .ok (.iconst 1, 1) := by decide +kernel
theorem dX10_opens_21 : decode cX10_opens 21 = .ok (.iadd, 1) := by decide +kernel
theorem dX10_opens_22 : decode cX10_opens 22 = .ok (.putfield 182, 3) := by decide +kernel
theorem dX10_opens_25 : decode cX10_opens 25 = .ok (.aload_n 0, 1) := by decide +kernel
theorem dX10_opens_26 : decode cX10_opens 26 = .ok (.invokevirtual 159, 3) := by decide +kernel
theorem dX10_opens_29 : decode cX10_opens 29 = .ok (.ireturn, 1) := by decide +kernel
theorem dX10_plainFact_0 : decode cX10_plainFact 0 = .ok (.aload_n 0, 1) := by decide +kernel
theorem dX10_plainFact_1 : decode cX10_plainFact 1 = .ok (.ldc 201, 2) := by decide +kernel
theorem dX10_plainFact_3 : decode cX10_plainFact 3 = .ok (.iload_n 1, 1) := by decide +kernel
theorem dX10_plainFact_4 : decode cX10_plainFact 4 = .ok (.imul, 1) := by decide +kernel
theorem dX10_plainFact_5 : decode cX10_plainFact 5 = .ok (.invokevirtual 176, 3) := by decide +kernel
theorem dX10_plainFact_8 : decode cX10_plainFact 8 = .ok (.pop, 1) := by decide +kernel
theorem dX10_plainFact_9 : decode cX10_plainFact 9 = .ok (.aload_n 0, 1) := by decide +kernel
theorem dX10_plainFact_10 : decode cX10_plainFact 10 = .ok (.invokevirtual 159, 3) := by decide +kernel
theorem dX10_plainFact_13 : decode cX10_plainFact 13 = .ok (.ireturn, 1) := by decide +kernel
theorem dX10_proofFact_0 : decode cX10_proofFact 0 = .ok (.aload_n 0, 1) := by decide +kernel
theorem dX10_proofFact_1 : decode cX10_proofFact 1 = .ok (.invokevirtual 159, 3) := by decide +kernel
theorem dX10_proofFact_4 : decode cX10_proofFact 4 = .ok (.pop, 1) := by decide +kernel
theorem dX10_proofFact_5 : decode cX10_proofFact 5 = .ok (.aload_n 0, 1) := by decide +kernel
theorem dX10_proofFact_6 : decode cX10_proofFact 6 = .ok (.invokevirtual 194, 3) := by decide +kernel
theorem dX10_proofFact_9 : decode cX10_proofFact 9 = .ok (.ifCond .ne 9, 3) := by decide +kernel
theorem dX10_proofFact_12 : decode cX10_proofFact 12 = .ok (.aload_n 0, 1) := by decide +kernel
theorem dX10_proofFact_13 : decode cX10_proofFact 13 = .ok (.iconst 2, 1) := by decide +kernel
theorem dX10_proofFact_14 : decode cX10_proofFact 14 = .ok (.invokevirtual 149, 3) := by decide +kernel
theorem dX10_proofFact_17 : decode cX10_proofFact 17 = .ok (.ireturn, 1) := by decide +kernel
theorem dX10_proofFact_18 : decode cX10_proofFact 18 = .ok (.aload_n 0, 1) := by decide +kernel
theorem dX10_proofFact_19 : decode cX10_proofFact 19 = .ok (.getfield 45, 3) := by decide +kernel
theorem dX10_proofFact_22 : decode cX10_proofFact 22 = .ok (.aload_n 0, 1) := by decide +kernel
theorem dX10_proofFact_23 : decode cX10_proofFact 23 = .ok (.getfield 13, 3) := by decide +kernel
theorem dX10_proofFact_26 : decode cX10_proofFact 26 = .ok (.bipush 14, 2) := by decide +kernel
theorem dX10_proofFact_28 : decode cX10_proofFact 28 = .ok (.iaload, 1) := by decide +kernel
theorem dX10_proofFact_29 : decode cX10_proofFact 29 = .ok (.aload_n 0, 1) := by decide +kernel
theorem dX10_proofFact_30 : decode cX10_proofFact 30 = .ok (.getfield 123, 3) := by decide +kernel
theorem dX10_proofFact_33 : decode cX10_proofFact 33 = .ok (.invokestatic 197, 3) := by decide +kernel
theorem dX10_proofFact_36 : decode cX10_proofFact 36 = .ok (.istore_n 1, 1) := by decide +kernel
theorem dX10_proofFact_37 : decode cX10_proofFact 37 = .ok (.iload_n 1, 1) := by decide +kernel
theorem dX10_proofFact_38 : decode cX10_proofFact 38 = .ok (.iconst (-1), 1) := by decide +kernel
theorem dX10_proofFact_39 : decode cX10_proofFact 39 = .ok (.if_icmp .ne 50, 3) := by decide +kernel
theorem dX10_proofFact_42 : decode cX10_proofFact 42 = .ok (.aload_n 0, 1) := by decide +kernel
theorem dX10_proofFact_43 : decode cX10_proofFact 43 = .ok (.getfield 13, 3) := by decide +kernel
theorem dX10_proofFact_46 : decode cX10_proofFact 46 = .ok (.bipush 14, 2) := by decide +kernel
theorem dX10_proofFact_48 : decode cX10_proofFact 48 = .ok (.iaload, 1) := by decide +kernel
theorem dX10_proofFact_49 : decode cX10_proofFact 49 = .ok (.bipush 8, 2) := by decide +kernel
theorem dX10_proofFact_51 : decode cX10_proofFact 51 = .ok (.if_icmp .ne 9, 3) := by decide +kernel
theorem dX10_proofFact_54 : decode cX10_proofFact 54 = .ok (.aload_n 0, 1) := by decide +kernel
theorem dX10_proofFact_55 : decode cX10_proofFact 55 = .ok (.iconst 5, 1) := by decide +kernel
theorem dX10_proofFact_56 : decode cX10_proofFact 56 = .ok (.invokevirtual 149, 3) := by decide +kernel
theorem dX10_proofFact_59 : decode cX10_proofFact 59 = .ok (.ireturn, 1) := by decide +kernel
theorem dX10_proofFact_60 : decode cX10_proofFact 60 = .ok (.aload_n 0, 1) := by decide +kernel
theorem dX10_proofFact_61 : decode cX10_proofFact 61 = .ok (.getfield 13, 3) := by decide +kernel
theorem dX10_proofFact_64 : decode cX10_proofFact 64 = .ok (.bipush 14, 2) := by decide +kernel
theorem dX10_proofFact_66 : decode cX10_proofFact 66 = .ok (.iaload, 1) := by decide +kernel
theorem dX10_proofFact_67 : decode cX10_proofFact 67 = .ok (.istore_n 1, 1) := by decide +kernel
theorem dX10_proofFact_68 : decode cX10_proofFact 68 = .ok (.aload_n 0, 1) := by decide +kernel
theorem dX10_proofFact_69 : decode cX10_proofFact 69 = .ok (.getfield 45, 3) := by decide +kernel
theorem dX10_proofFact_72 : decode cX10_proofFact 72 = .ok (.iload_n 1, 1) := by decide +kernel
theorem dX10_proofFact_73 : decode cX10_proofFact 73 = .ok (.aload_n 0, 1) := by decide +kernel
theorem dX10_proofFact_74 : decode cX10_proofFact 74 = .ok (.getfield 123, 3) := by decide +kernel
theorem dX10_proofFact_77 : decode cX10_proofFact 77 = .ok (.lastore, 1) := by decide +kernel
theorem dX10_proofFact_78 : decode cX10_proofFact 78 = .ok (.aload_n 0, 1) := by decide +kernel
theorem dX10_proofFact_79 : decode cX10_proofFact 79 = .ok (.getfield 13, 3) := by decide +kernel
theorem dX10_proofFact_82 : decode cX10_proofFact 82 = .ok (.bipush 14, 2) := by decide +kernel
theorem dX10_proofFact_84 : decode cX10_proofFact 84 = .ok (.dup2, 1) := by decide +kernel
theorem dX10_proofFact_85 : decode cX10_proofFact 85 = .ok (.iaload, 1) := by decide +kernel
theorem dX10_proofFact_86 : decode cX10_proofFact 86 = .ok (.iconst 1, 1) := by decide +kernel
theorem dX10_proofFact_87 : decode cX10_proofFact 87 = .ok (.iadd, 1) := by decide +kernel
theorem dX10_proofFact_88 : decode cX10_proofFact 88 = .ok (.iastore, 1) := by decide +kernel
theorem dX10_proofFact_89 : decode cX10_proofFact 89 = .ok (.aload_n 0, 1) := by decide +kernel
theorem dX10_proofFact_90 : decode cX10_proofFact 90 = .ok (.ldc 201, 2) := by decide +kernel
theorem dX10_proofFact_92 : decode cX10_proofFact 92 = .ok (.iload_n 1, 1) := by decide +kernel
theorem dX10_proofFact_93 : decode cX10_proofFact 93 = .ok (.iadd, 1) := by decide +kernel
theorem dX10_proofFact_94 : decode cX10_proofFact 94 = .ok (.invokevirtual 176, 3) := by decide +kernel
theorem dX10_proofFact_97 : decode cX10_proofFact 97 = .ok (.pop, 1) := by decide +kernel
theorem dX10_proofFact_98 : decode cX10_proofFact 98 = .ok (.aload_n 0, 1) := by decide +kernel
theorem dX10_proofFact_99 : decode cX10_proofFact 99 = .ok (.invokevirtual 159, 3) := by decide +kernel
theorem dX10_proofFact_102 : decode cX10_proofFact 102 = .ok (.ireturn, 1) := by decide +kernel
