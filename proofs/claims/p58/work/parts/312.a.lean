set_option maxRecDepth 20000 in
theorem ggX10_closed_X10_advance : GoodIn wsX10_closed wsX10_advance := goodIn_r _ [12, 13, 8, 14, 15, 6, 16, 17, 18, 19, 20, 21, 4, 22, 23, 7, 24, 25, 26, 27, 28, 29, 30, 31, 32, 33, 34, 41, 42, 43, 44, 45, 46, 47, 48, 49, 50, 51, 52, 53, 54, 55, 56, 57, 58, 59, 60, 61, 62, 63, 64, 65, 66, 67, 68, 69, 70, 71, 72, 73, 74, 75, 76, 77, 78, 79] rfl (by decide +kernel)
set_option maxRecDepth 20000 in
theorem gX10_closed_X10_advance : GoodIn wsX10_closed (wsV RX10 159 RX10 yX10_advance wsX10_advance) := goodIn_app (goodIn_r _ [9, 10, 11, 4] rfl (by decide +kernel)) ggX10_closed_X10_advance
set_option maxRecDepth 20000 in
theorem ggX10_closed_X10_fail : GoodIn wsX10_closed wsX10_fail := goodIn_r _ [38, 6, 39, 8, 40, 41, 42, 43, 44, 45, 46, 47, 48, 49, 50, 51, 52, 53, 54, 55, 56, 57, 58, 59, 60, 61, 62, 63, 64, 65, 66, 67, 68, 69, 70, 71, 72, 73, 74, 75, 76, 77, 78, 79] rfl (by decide +kernel)
set_option maxRecDepth 20000 in
theorem gX10_closed_X10_fail : GoodIn wsX10_closed (wsV RX10 149 RX10 yX10_fail wsX10_fail) := goodIn_app (goodIn_r _ [35, 36, 37, 4] rfl (by decide +kernel)) ggX10_closed_X10_fail
set_option maxRecDepth 20000 in
theorem ggX10_closed_X10_isSymbol : GoodIn wsX10_closed wsX10_isSymbol := goodIn_r _ [5, 6, 7, 8, 41, 42, 43, 44, 45, 46, 47, 48, 49, 50, 51, 52, 53, 54, 55, 56, 57, 58, 59, 60, 61, 62, 63, 64, 65, 66, 67, 68, 69, 70, 71, 72, 73, 74, 75, 76, 77, 78, 79] rfl (by decide +kernel)
set_option maxRecDepth 20000 in
theorem gX10_closed_X10_isSymbol : GoodIn wsX10_closed (wsV RX10 191 RX10 yX10_isSymbol wsX10_isSymbol) := goodIn_app (goodIn_r _ [1, 2, 3, 4] rfl (by decide +kernel)) ggX10_closed_X10_isSymbol
set_option maxRecDepth 20000 in
theorem ggX10_depositStatement_X10_advance : GoodIn wsX10_depositStatement wsX10_advance := goodIn_r _ [17, 18, 12, 19, 20, 10, 21, 22, 23, 24, 25, 26, 8, 27, 28, 29, 30, 31, 32, 33, 34, 35, 36, 37, 38, 39, 40, 51, 52, 53, 54, 55, 56, 57, 58, 59, 60, 61, 62, 63, 64, 65, 66, 67, 68, 69, 70, 71, 72, 73, 74, 75, 76, 77, 78, 79, 80, 81, 82, 83, 84, 85, 86, 87, 88, 89] rfl (by decide +kernel)
set_option maxRecDepth 20000 in
theorem gX10_depositStatement_X10_advance : GoodIn wsX10_depositStatement (wsV RX10 159 RX10 yX10_advance wsX10_advance) := goodIn_app (goodIn_r _ [14, 15, 16, 8] rfl (by decide +kernel)) ggX10_depositStatement_X10_advance
set_option maxRecDepth 20000 in
theorem ggX10_depositStatement_X10_enter : GoodIn wsX10_depositStatement wsX10_enter := goodIn_r _ [50] rfl (by decide +kernel)
set_option maxRecDepth 20000 in
theorem gX10_depositStatement_X10_enter : GoodIn wsX10_depositStatement (va_wsS RX10 229 yX10_enter wsX10_enter) := goodIn_app (goodIn_r _ [48, 49, 8] rfl (by decide +kernel)) ggX10_depositStatement_X10_enter
set_option maxRecDepth 20000 in
theorem ggX10_depositStatement_X10_fail : GoodIn wsX10_depositStatement wsX10_fail := goodIn_r _ [9, 10, 11, 12, 13, 51, 52, 53, 54, 55, 56, 57, 58, 59, 60, 61, 62, 63, 64, 65, 66, 67, 68, 69, 70, 71, 72, 73, 74, 75, 76, 77, 78, 79, 80, 81, 82, 83, 84, 85, 86, 87, 88, 89] rfl (by decide +kernel)
set_option maxRecDepth 20000 in
theorem gX10_depositStatement_X10_fail : GoodIn wsX10_depositStatement (wsV RX10 149 RX10 yX10_fail wsX10_fail) := goodIn_app (goodIn_r _ [5, 6, 7, 8] rfl (by decide +kernel)) ggX10_depositStatement_X10_fail
set_option maxRecDepth 20000 in
theorem ggX10_depositStatement_X10_number : GoodIn wsX10_depositStatement wsX10_number := goodIn_r _ [44, 10, 23, 4, 5, 6, 7, 8, 9, 11, 12, 13, 45, 46, 47, 14, 15, 16, 17, 18, 19, 20, 21, 22, 24, 25, 26, 27, 28, 29, 30, 31, 32, 33, 34, 35, 36, 37, 38, 39, 40, 51, 52, 53, 54, 55, 56, 57, 58, 59, 60, 61, 62, 63, 64, 65, 66, 67, 68, 69, 70, 71, 72, 73, 74, 75, 76, 77, 78, 79, 80, 81, 82, 83, 84, 85, 86, 87, 88, 89] rfl (by decide +kernel)
set_option maxRecDepth 20000 in
theorem gX10_depositStatement_X10_number : GoodIn wsX10_depositStatement (wsV RX10 163 RX10 yX10_number wsX10_number) := goodIn_app (goodIn_r _ [41, 42, 43, 8] rfl (by decide +kernel)) ggX10_depositStatement_X10_number
set_option maxRecDepth 20000 in
theorem ggX10_load_X10_closed : GoodIn wsX10_load wsX10_closed := goodIn_r _ [153, 119, 120, 121, 17, 122, 11, 36, 26, 22, 23, 24, 25, 4, 27, 28, 29, 30, 31, 32, 33, 34, 35, 3, 37, 38, 39, 40, 41, 42, 43, 44, 45, 46, 47, 52, 53, 54, 55, 5, 6, 167, 168, 169, 170, 171, 172, 173, 174, 175, 176, 177, 178, 179, 180, 181, 182, 183, 184, 185, 186, 187, 188, 189, 190, 191, 192, 193, 194, 195, 196, 197, 198, 199, 200, 201, 202, 203, 204, 205] rfl (by decide +kernel)
set_option maxRecDepth 20000 in
theorem gX10_load_X10_closed : GoodIn wsX10_load (wsV RX10 252 RX10 yX10_closed wsX10_closed) := goodIn_app (goodIn_r _ [150, 151, 152, 17] rfl (by decide +kernel)) ggX10_load_X10_closed
set_option maxRecDepth 20000 in
theorem ggX10_load_X10_statement : GoodIn wsX10_load wsX10_statement := goodIn_r _ [51, 11, 27, 52, 53, 54, 17, 55, 5, 26, 6, 56, 57, 58, 59, 31, 22, 23, 24, 25, 4, 28, 29, 30, 32, 33, 34, 35, 3, 36, 37, 38, 39, 40, 41, 42, 43, 44, 45, 46, 47, 60, 61, 62, 63, 10, 64, 65, 66, 67, 68, 15, 16, 18, 69, 70, 71, 72, 73, 74, 75, 76, 8, 77, 78, 79, 80, 81, 82, 83, 84, 85, 86, 9, 87, 88, 89, 90, 91, 92, 93, 94, 95, 96, 97, 98, 99, 100, 101, 102, 103, 104, 105, 106, 107, 108, 109, 110, 111, 112, 113, 114, 7, 115, 116, 117, 118, 119, 120, 121, 122, 123, 124, 125, 126, 127, 128, 129, 130, 131, 132, 133, 134, 135, 136, 137, 138, 139, 140, 141, 142, 143, 144, 145, 146, 147, 148, 149, 167, 168, 169, 170, 171, 172, 173, 174, 175, 176, 177, 178, 179, 180, 181, 182, 183, 184, 185, 186, 187, 188, 189, 190, 191, 192, 193, 194, 195, 196, 197, 198, 199, 200, 201, 202, 203, 204, 205] rfl (by decide +kernel)
set_option maxRecDepth 20000 in
theorem gX10_load_X10_statement : GoodIn wsX10_load (wsV RX10 249 RX10 yX10_statement wsX10_statement) := goodIn_app (goodIn_r _ [48, 49, 50, 17] rfl (by decide +kernel)) ggX10_load_X10_statement
set_option maxRecDepth 20000 in
theorem ggX10_milestoneStatement_X10_advance : GoodIn wsX10_milestoneStatement wsX10_advance := goodIn_r _ [19, 20, 14, 21, 3, 12, 22, 23, 24, 25, 26, 27, 10, 28, 29, 30, 31, 32, 33, 34, 35, 36, 37, 38, 39, 40, 41, 118, 119, 120, 121, 122, 123, 124, 125, 126, 127, 128, 129, 130, 131, 132, 133, 134, 135, 136, 137, 138, 139, 140, 141, 142, 143, 144, 145, 146, 147, 148, 149, 150, 151, 152, 153, 154, 155, 156] rfl (by decide +kernel)
set_option maxRecDepth 20000 in
theorem gX10_milestoneStatement_X10_advance : GoodIn wsX10_milestoneStatement (wsV RX10 159 RX10 yX10_advance wsX10_advance) := goodIn_app (goodIn_r _ [16, 17, 18, 10] rfl (by decide +kernel)) ggX10_milestoneStatement_X10_advance
set_option maxRecDepth 20000 in
theorem ggX10_milestoneStatement_X10_condition : GoodIn wsX10_milestoneStatement wsX10_condition := goodIn_r _ [68, 69, 70, 71, 10, 61, 62, 63, 64, 12, 21, 16, 17, 18, 19, 20, 14, 3, 22, 23, 24, 25, 26, 27, 28, 29, 30, 31, 32, 33, 34, 35, 36, 37, 38, 39, 40, 41, 72, 73, 74, 75, 76, 6, 77, 78, 79, 80, 81, 82, 83, 84, 85, 86, 7, 8, 9, 11, 13, 15, 65, 66, 67, 87, 88, 89, 90, 91, 4, 92, 93, 94, 95, 96, 97, 98, 99, 100, 101, 102, 53, 54, 55, 56, 57, 58, 59, 60, 103, 104, 105, 106, 107, 1, 42, 43, 44, 45, 46, 47, 48, 108, 109, 110, 111, 2, 112, 113, 114, 115, 116, 117, 118, 119, 120, 121, 122, 123, 124, 125, 126, 127, 128, 129, 130, 131, 132, 133, 134, 135, 136, 137, 138, 139, 140, 141, 142, 143, 144, 145, 146, 147, 148, 149, 150, 151, 152, 153, 154, 155, 156] rfl (by decide +kernel)
set_option maxRecDepth 20000 in
theorem gX10_milestoneStatement_X10_condition : GoodIn wsX10_milestoneStatement (wsV RX10 188 RX10 yX10_condition wsX10_condition) := goodIn_app (goodIn_r _ [65, 66, 67, 10] rfl (by decide +kernel)) ggX10_milestoneStatement_X10_condition
set_option maxRecDepth 20000 in
theorem ggX10_milestoneStatement_X10_fail : GoodIn wsX10_milestoneStatement wsX10_fail := goodIn_r _ [11, 12, 13, 14, 15, 118, 119, 120, 121, 122, 123, 124, 125, 126, 127, 128, 129, 130, 131, 132, 133, 134, 135, 136, 137, 138, 139, 140, 141, 142, 143, 144, 145, 146, 147, 148, 149, 150, 151, 152, 153, 154, 155, 156] rfl (by decide +kernel)
set_option maxRecDepth 20000 in
theorem gX10_milestoneStatement_X10_fail : GoodIn wsX10_milestoneStatement (wsV RX10 149 RX10 yX10_fail wsX10_fail) := goodIn_app (goodIn_r _ [7, 8, 9, 10] rfl (by decide +kernel)) ggX10_milestoneStatement_X10_fail
set_option maxRecDepth 20000 in
theorem ggX10_milestoneStatement_X10_find : GoodIn wsX10_milestoneStatement wsX10_find := goodIn_r _ [48] rfl (by decide +kernel)
set_option maxRecDepth 20000 in
theorem gX10_milestoneStatement_X10_find : GoodIn wsX10_milestoneStatement (va_wsS RX10 197 yX10_find wsX10_find) := goodIn_app (goodIn_r _ [46, 47, 10] rfl (by decide +kernel)) ggX10_milestoneStatement_X10_find
set_option maxRecDepth 20000 in
theorem ggX10_milestoneStatement_X10_isKeyword : GoodIn wsX10_milestoneStatement wsX10_isKeyword := goodIn_r _ [64, 12, 21, 118, 119, 120, 121, 122, 123, 124, 125, 126, 127, 128, 129, 130, 131, 132, 133, 134, 135, 136, 137, 138, 139, 140, 141, 142, 143, 144, 145, 146, 147, 148, 149, 150, 151, 152, 153, 154, 155, 156] rfl (by decide +kernel)
set_option maxRecDepth 20000 in
theorem gX10_milestoneStatement_X10_isKeyword : GoodIn wsX10_milestoneStatement (wsV RX10 173 RX10 yX10_isKeyword wsX10_isKeyword) := goodIn_app (goodIn_r _ [61, 62, 63, 10] rfl (by decide +kernel)) ggX10_milestoneStatement_X10_isKeyword
set_option maxRecDepth 20000 in
theorem ggX10_milestoneStatement_X10_isName : GoodIn wsX10_milestoneStatement wsX10_isName := goodIn_r _ [45, 12, 21, 118, 119, 120, 121, 122, 123, 124, 125, 126, 127, 128, 129, 130, 131, 132, 133, 134, 135, 136, 137, 138, 139, 140, 141, 142, 143, 144, 145, 146, 147, 148, 149, 150, 151, 152, 153, 154, 155, 156] rfl (by decide +kernel)
set_option maxRecDepth 20000 in
theorem gX10_milestoneStatement_X10_isName : GoodIn wsX10_milestoneStatement (wsV RX10 194 RX10 yX10_isName wsX10_isName) := goodIn_app (goodIn_r _ [42, 43, 44, 10] rfl (by decide +kernel)) ggX10_milestoneStatement_X10_isName
set_option maxRecDepth 20000 in
theorem ggX10_milestoneStatement_X10_numberTo : GoodIn wsX10_milestoneStatement wsX10_numberTo := goodIn_r _ [52, 1, 53, 54, 55, 56, 10, 57, 12, 24, 7, 8, 9, 11, 13, 14, 15, 58, 59, 60, 16, 17, 18, 19, 20, 21, 3, 22, 23, 25, 26, 27, 28, 29, 30, 31, 32, 33, 34, 35, 36, 37, 38, 39, 40, 41, 118, 119, 120, 121, 122, 123, 124, 125, 126, 127, 128, 129, 130, 131, 132, 133, 134, 135, 136, 137, 138, 139, 140, 141, 142, 143, 144, 145, 146, 147, 148, 149, 150, 151, 152, 153, 154, 155, 156] rfl (by decide +kernel)
set_option maxRecDepth 20000 in
theorem gX10_milestoneStatement_X10_numberTo : GoodIn wsX10_milestoneStatement (wsV RX10 222 RX10 yX10_numberTo wsX10_numberTo) := goodIn_app (goodIn_r _ [49, 50, 51, 10] rfl (by decide +kernel)) ggX10_milestoneStatement_X10_numberTo
set_option maxRecDepth 20000 in
theorem ggX10_setting_X10_advance : GoodIn wsX10_setting wsX10_advance := goodIn_r _ [5, 6, 7, 8, 9, 10, 11, 12, 13, 14, 15, 16, 4, 17, 18, 19, 20, 21, 22, 23, 24, 25, 26, 27, 28, 29, 30, 50, 51, 52, 53, 54, 55, 56, 57, 58, 59, 60, 61, 62, 63, 64, 65, 66, 67, 68, 69, 70, 71, 72, 73, 74, 75, 76, 77, 78, 79, 80, 81, 82, 83, 84, 85, 86, 87, 88] rfl (by decide +kernel)
set_option maxRecDepth 20000 in
theorem gX10_setting_X10_advance : GoodIn wsX10_setting (wsV RX10 159 RX10 yX10_advance wsX10_advance) := goodIn_app (goodIn_r _ [1, 2, 3, 4] rfl (by decide +kernel)) ggX10_setting_X10_advance
set_option maxRecDepth 20000 in
theorem ggX10_setting_X10_numberTo : GoodIn wsX10_setting wsX10_numberTo := goodIn_r _ [34, 35, 36, 37, 38, 39, 4, 40, 10, 13, 41, 42, 43, 44, 45, 7, 46, 47, 48, 49, 1, 2, 3, 5, 6, 8, 9, 11, 12, 14, 15, 16, 17, 18, 19, 20, 21, 22, 23, 24, 25, 26, 27, 28, 29, 30, 50, 51, 52, 53, 54, 55, 56, 57, 58, 59, 60, 61, 62, 63, 64, 65, 66, 67, 68, 69, 70, 71, 72, 73, 74, 75, 76, 77, 78, 79, 80, 81, 82, 83, 84, 85, 86, 87, 88] rfl (by decide +kernel)
set_option maxRecDepth 20000 in
theorem gX10_setting_X10_numberTo : GoodIn wsX10_setting (wsV RX10 222 RX10 yX10_numberTo wsX10_numberTo) := goodIn_app (goodIn_r _ [31, 32, 33, 4] rfl (by decide +kernel)) ggX10_setting_X10_numberTo
set_option maxRecDepth 20000 in
theorem ggX10_statement_X10_depositStatement : GoodIn wsX10_statement wsX10_depositStatement := goodIn_r _ [61, 62, 63, 45, 46, 3, 4, 5, 6, 7, 1, 8, 9, 10, 16, 17, 18, 19, 20, 2, 21, 22, 23, 15, 24, 25, 26, 27, 28, 29, 30, 31, 32, 33, 34, 35, 36, 37, 38, 39, 40, 47, 48, 49, 50, 51, 52, 53, 64, 65, 66, 138, 139, 140, 141, 142, 143, 144, 145, 146, 147, 148, 149, 150, 151, 152, 153, 154, 155, 156, 157, 158, 159, 160, 161, 162, 163, 164, 165, 166, 167, 168, 169, 170, 171, 172, 173, 174, 175, 176] rfl (by decide +kernel)
set_option maxRecDepth 20000 in
theorem gX10_statement_X10_depositStatement : GoodIn wsX10_statement (wsV RX10 239 RX10 yX10_depositStatement wsX10_depositStatement) := goodIn_app (goodIn_r _ [58, 59, 60, 6] rfl (by decide +kernel)) ggX10_statement_X10_depositStatement
set_option maxRecDepth 20000 in
theorem ggX10_statement_X10_fail : GoodIn wsX10_statement wsX10_fail := goodIn_r _ [7, 1, 8, 9, 10, 138, 139, 140, 141, 142, 143, 144, 145, 146, 147, 148, 149, 150, 151, 152, 153, 154, 155, 156, 157, 158, 159, 160, 161, 162, 163, 164, 165, 166, 167, 168, 169, 170, 171, 172, 173, 174, 175, 176] rfl (by decide +kernel)
set_option maxRecDepth 20000 in
theorem gX10_statement_X10_fail : GoodIn wsX10_statement (wsV RX10 149 RX10 yX10_fail wsX10_fail) := goodIn_app (goodIn_r _ [3, 4, 5, 6] rfl (by decide +kernel)) ggX10_statement_X10_fail
set_option maxRecDepth 20000 in
theorem ggX10_statement_X10_milestoneStatement : GoodIn wsX10_statement wsX10_milestoneStatement := goodIn_r _ [70, 45, 71, 21, 63, 72, 73, 3, 4, 5, 6, 7, 1, 8, 9, 10, 16, 17, 18, 19, 20, 2, 22, 23, 15, 24, 25, 26, 27, 28, 29, 30, 31, 32, 33, 34, 35, 36, 37, 38, 39, 40, 74, 75, 76, 77, 78, 79, 80, 41, 42, 43, 44, 46, 47, 48, 49, 50, 51, 52, 53, 81, 82, 83, 84, 85, 86, 87, 88, 89, 90, 91, 92, 93, 94, 95, 96, 97, 98, 99, 100, 101, 102, 103, 104, 105, 106, 107, 108, 109, 110, 111, 112, 113, 114, 115, 116, 117, 118, 119, 120, 121, 122, 123, 124, 125, 126, 127, 128, 129, 130, 131, 132, 133, 134, 135, 136, 137, 138, 139, 140, 141, 142, 143, 144, 145, 146, 147, 148, 149, 150, 151, 152, 153, 154, 155, 156, 157, 158, 159, 160, 161, 162, 163, 164, 165, 166, 167, 168, 169, 170, 171, 172, 173, 174, 175, 176] rfl (by decide +kernel)
set_option maxRecDepth 20000 in
theorem gX10_statement_X10_milestoneStatement : GoodIn wsX10_statement (wsV RX10 242 RX10 yX10_milestoneStatement wsX10_milestoneStatement) := goodIn_app (goodIn_r _ [67, 68, 69, 6] rfl (by decide +kernel)) ggX10_statement_X10_milestoneStatement
set_option maxRecDepth 20000 in
theorem ggX10_statement_X10_rate : GoodIn wsX10_statement wsX10_rate := goodIn_r _ [14, 1, 15, 16, 17, 18, 6, 19, 20, 9, 2, 21, 22, 23, 24, 25, 26, 27, 28, 29, 30, 31, 32, 33, 34, 35, 36, 37, 38, 39, 40, 41, 42, 43, 44, 45, 46, 47, 48, 49, 50, 3, 4, 5, 7, 8, 10, 51, 52, 53, 138, 139, 140, 141, 142, 143, 144, 145, 146, 147, 148, 149, 150, 151, 152, 153, 154, 155, 156, 157, 158, 159, 160, 161, 162, 163, 164, 165, 166, 167, 168, 169, 170, 171, 172, 173, 174, 175, 176] rfl (by decide +kernel)
set_option maxRecDepth 20000 in
theorem gX10_statement_X10_rate : GoodIn wsX10_statement (wsV RX10 233 RX10 yX10_rate wsX10_rate) := goodIn_app (goodIn_r _ [11, 12, 13, 6] rfl (by decide +kernel)) ggX10_statement_X10_rate
set_option maxRecDepth 20000 in
theorem ggX10_statement_X10_setting : GoodIn wsX10_statement wsX10_setting := goodIn_r _ [57, 16, 17, 18, 6, 19, 20, 9, 2, 21, 1, 22, 23, 15, 24, 25, 26, 27, 28, 29, 30, 31, 32, 33, 34, 35, 36, 37, 38, 39, 40, 41, 42, 43, 44, 45, 46, 47, 48, 49, 50, 3, 4, 5, 7, 8, 10, 51, 52, 53, 138, 139, 140, 141, 142, 143, 144, 145, 146, 147, 148, 149, 150, 151, 152, 153, 154, 155, 156, 157, 158, 159, 160, 161, 162, 163, 164, 165, 166, 167, 168, 169, 170, 171, 172, 173, 174, 175, 176] rfl (by decide +kernel)
set_option maxRecDepth 20000 in
theorem gX10_statement_X10_setting : GoodIn wsX10_statement (wsV RX10 236 RX10 yX10_setting wsX10_setting) := goodIn_app (goodIn_r _ [54, 55, 56, 6] rfl (by decide +kernel)) ggX10_statement_X10_setting
theorem dX10_closed_0 : decode cX10_closed 0 = .ok (.aload_n 0, 1) := by decide +kernel
theorem dX10_closed_1 : decode cX10_closed 1 = .ok (.bipush 59, 2) := by decide +kernel
theorem dX10_closed_3 : decode cX10_closed 3 = .ok (.invokevirtual 191, 3) := by decide +kernel
theorem dX10_closed_6 : decode cX10_closed 6 = .ok (.ifCond .eq 10, 3) := by decide +kernel
theorem dX10_closed_9 : decode cX10_closed 9 = .ok (.aload_n 0, 1) := by decide +kernel
theorem dX10_closed_10 : decode cX10_closed 10 = .ok (.invokevirtual 159, 3) := by decide +kernel
theorem dX10_closed_13 : decode cX10_closed 13 = .ok (.goto 8, 3) := by decide +kernel
theorem dX10_closed_16 : decode cX10_closed 16 = .ok (.aload_n 0, 1) := by decide +kernel
theorem dX10_closed_17 : decode cX10_closed 17 = .ok (.iconst 2, 1) := by decide +kernel
theorem dX10_closed_18 : decode cX10_closed 18 = .ok (.invokevirtual 149, 3) := by decide +kernel
theorem dX10_closed_21 : decode cX10_closed 21 = .ok (.ireturn, 1) := by decide +kernel
theorem dX10_depositStatement_0 : decode cX10_depositStatement 0 = .ok (.aload_n 0, 1) := by decide +kernel
theorem dX10_depositStatement_1 : decode cX10_depositStatement 1 = .ok (.getfield 226, 3) := by decide +kernel
theorem dX10_depositStatement_4 : decode cX10_depositStatement 4 = .ok (.bipush 6, 2) := by decide +kernel
theorem dX10_depositStatement_6 : decode cX10_depositStatement 6 = .ok (.if_icmp .ne 9, 3) := by decide +kernel
theorem dX10_depositStatement_9 : decode cX10_depositStatement 9 = .ok (.aload_n 0, 1) := by decide +kernel
theorem dX10_depositStatement_10 : decode cX10_depositStatement 10 = .ok (.iconst 5, 1) := by decide +kernel
theorem dX10_depositStatement_11 : decode cX10_depositStatement 11 = .ok (.invokevirtual 149, 3) := by decide +kernel
theorem dX10_depositStatement_14 : decode cX10_depositStatement 14 = .ok (.ireturn, 1) := by decide +kernel
theorem dX10_depositStatement_15 : decode cX10_depositStatement 15 = .ok (.aload_n 0, 1) := by decide +kernel
theorem dX10_depositStatement_16 : decode cX10_depositStatement 16 = .ok (.invokevirtual 159, 3) := by decide +kernel
theorem dX10_depositStatement_19 : decode cX10_depositStatement 19 = .ok (.pop, 1) := by decide +kernel
theorem dX10_depositStatement_20 : decode cX10_depositStatement 20 = .ok (.aload_n 0, 1) := by decide +kernel
theorem dX10_depositStatement_21 : decode cX10_depositStatement 21 = .ok (.iconst 1, 1) := by decide +kernel
theorem dX10_depositStatement_22 : decode cX10_depositStatement 22 = .ok (.ldc 218, 2) := by decide +kernel
theorem dX10_depositStatement_24 : decode cX10_depositStatement 24 = .ok (.invokevirtual 163, 3) := by decide +kernel
theorem dX10_depositStatement_27 : decode cX10_depositStatement 27 = .ok (.ifCond .ne 5, 3) := by decide +kernel
theorem dX10_depositStatement_30 : decode cX10_depositStatement 30 = .ok (.iconst 0, 1) := by decide +kernel
theorem dX10_depositStatement_31 : decode cX10_depositStatement 31 = .ok (.ireturn, 1) := by decide +kernel
theorem dX10_depositStatement_32 : decode cX10_depositStatement 32 = .ok (.aload_n 0, 1) := by decide +kernel
theorem dX10_depositStatement_33 : decode cX10_depositStatement 33 = .ok (.dup, 1) := by decide +kernel
theorem dX10_depositStatement_34 : decode cX10_depositStatement 34 = .ok (.getfield 226, 3) := by decide +kernel
theorem dX10_depositStatement_37 : decode cX10_depositStatement 37 = .ok (.iconst 1, 1) := by decide +kernel
theorem dX10_depositStatement_38 : decode cX10_depositStatement 38 = .ok (.iadd, 1) := by decide +kernel
theorem dX10_depositStatement_39 : decode cX10_depositStatement 39 = .ok (.putfield 226, 3) := by decide +kernel
theorem dX10_depositStatement_42 : decode cX10_depositStatement 42 = .ok (.aload_n 0, 1) := by decide +kernel
theorem dX10_depositStatement_43 : decode cX10_depositStatement 43 = .ok (.getfield 13, 3) := by decide +kernel
theorem dX10_depositStatement_46 : decode cX10_depositStatement 46 = .ok (.iconst 5, 1) := by decide +kernel
theorem dX10_depositStatement_47 : decode cX10_depositStatement 47 = .ok (.dup2, 1) := by decide +kernel
theorem dX10_depositStatement_48 : decode cX10_depositStatement 48 = .ok (.iaload, 1) := by decide +kernel
theorem dX10_depositStatement_49 : decode cX10_depositStatement 49 = .ok (.aload_n 0, 1) := by decide +kernel
theorem dX10_depositStatement_50 : decode cX10_depositStatement 50 = .ok (.getfield 156, 3) := by decide +kernel
theorem dX10_depositStatement_53 : decode cX10_depositStatement 53 = .ok (.iadd, 1) := by decide +kernel
theorem dX10_depositStatement_54 : decode cX10_depositStatement 54 = .ok (.iastore, 1) := by decide +kernel
theorem dX10_depositStatement_55 : decode cX10_depositStatement 55 = .ok (.aload_n 0, 1) := by decide +kernel
theorem dX10_depositStatement_56 : decode cX10_depositStatement 56 = .ok (.getfield 13, 3) := by decide +kernel
theorem dX10_depositStatement_59 : decode cX10_depositStatement 59 = .ok (.bipush 6, 2) := by decide +kernel
theorem dX10_depositStatement_61 : decode cX10_depositStatement 61 = .ok (.dup2, 1) := by decide +kernel
theorem dX10_depositStatement_62 : decode cX10_depositStatement 62 = .ok (.iaload, 1) := by decide +kernel
theorem dX10_depositStatement_63 : decode cX10_depositStatement 63 = .ok (.aload_n 0, 1) := by decide +kernel
theorem dX10_depositStatement_64 : decode cX10_depositStatement 64 = .ok (.getfield 156, 3) := by decide +kernel
theorem dX10_depositStatement_67 : decode cX10_depositStatement 67 = .ok (.iadd, 1) := by decide +kernel
theorem dX10_depositStatement_68 : decode cX10_depositStatement 68 = .ok (.iastore, 1) := by decide +kernel
theorem dX10_depositStatement_69 : decode cX10_depositStatement 69 = .ok (.aload_n 0, 1) := by decide +kernel
theorem dX10_depositStatement_70 : decode cX10_depositStatement 70 = .ok (.getfield 13, 3) := by decide +kernel
theorem dX10_depositStatement_73 : decode cX10_depositStatement 73 = .ok (.iconst 0, 1) := by decide +kernel
theorem dX10_depositStatement_74 : decode cX10_depositStatement 74 = .ok (.aload_n 0, 1) := by decide +kernel
theorem dX10_depositStatement_75 : decode cX10_depositStatement 75 = .ok (.getfield 156, 3) := by decide +kernel
theorem dX10_depositStatement_78 : decode cX10_depositStatement 78 = .ok (.iconst (-1), 1) := by decide +kernel
theorem dX10_depositStatement_79 : decode cX10_depositStatement 79 = .ok (.invokestatic 229, 3) := by decide +kernel
theorem dX10_depositStatement_82 : decode cX10_depositStatement 82 = .ok (.iconst 1, 1) := by decide +kernel
theorem dX10_depositStatement_83 : decode cX10_depositStatement 83 = .ok (.ireturn, 1) := by decide +kernel
theorem dX10_milestoneStatement_0 : decode cX10_milestoneStatement 0 = .ok (.aload_n 0, 1) := by decide +kernel
theorem dX10_milestoneStatement_1 : decode cX10_milestoneStatement 1 = .ok (.getfield 13, 3) := by decide +kernel
theorem dX10_milestoneStatement_4 : decode cX10_milestoneStatement 4 = .ok (.bipush 13, 2) := by decide +kernel
theorem dX10_milestoneStatement_6 : decode cX10_milestoneStatement 6 = .ok (.iaload, 1) := by decide +kernel
theorem dX10_milestoneStatement_7 : decode cX10_milestoneStatement 7 = .ok (.istore_n 1, 1) := by decide +kernel
theorem dX10_milestoneStatement_8 : decode cX10_milestoneStatement 8 = .ok (.iload_n 1, 1) := by decide +kernel
theorem dX10_milestoneStatement_9 : decode cX10_milestoneStatement 9 = .ok (.bipush 10, 2) := by decide +kernel
theorem dX10_milestoneStatement_11 : decode cX10_milestoneStatement 11 = .ok (.if_icmp .ne 9, 3) := by decide +kernel
theorem dX10_milestoneStatement_14 : decode cX10_milestoneStatement 14 = .ok (.aload_n 0, 1) := by decide +kernel
theorem dX10_milestoneStatement_15 : decode cX10_milestoneStatement 15 = .ok (.iconst 5, 1) := by decide +kernel
theorem dX10_milestoneStatement_16 : decode cX10_milestoneStatement 16 = .ok (.invokevirtual 149, 3) := by decide +kernel
theorem dX10_milestoneStatement_19 : decode cX10_milestoneStatement 19 = .ok (.ireturn, 1) := by decide +kernel
theorem dX10_milestoneStatement_20 : decode cX10_milestoneStatement 20 = .ok (.aload_n 0, 1) := by decide +kernel
theorem dX10_milestoneStatement_21 : decode cX10_milestoneStatement 21 = .ok (.invokevirtual 159, 3) := by decide +kernel
theorem dX10_milestoneStatement_24 : decode cX10_milestoneStatement 24 = .ok (.pop, 1) := by decide +kernel
theorem dX10_milestoneStatement_25 : decode cX10_milestoneStatement 25 = .ok (.aload_n 0, 1) := by decide +kernel
theorem dX10_milestoneStatement_26 : decode cX10_milestoneStatement 26 = .ok (.invokevirtual 194, 3) := by decide +kernel
theorem dX10_milestoneStatement_29 : decode cX10_milestoneStatement 29 = .ok (.ifCond .ne 9, 3) := by decide +kernel
theorem dX10_milestoneStatement_32 : decode cX10_milestoneStatement 32 = .ok (.aload_n 0, 1) := by decide +kernel
theorem dX10_milestoneStatement_33 : decode cX10_milestoneStatement 33 = .ok (.iconst 2, 1) := by decide +kernel
theorem dX10_milestoneStatement_34 : decode cX10_milestoneStatement 34 = .ok (.invokevirtual 149, 3) := by decide +kernel
theorem dX10_milestoneStatement_37 : decode cX10_milestoneStatement 37 = .ok (.ireturn, 1) := by decide +kernel
theorem dX10_milestoneStatement_38 : decode cX10_milestoneStatement 38 = .ok (.aload_n 0, 1) := by decide +kernel
theorem dX10_milestoneStatement_39 : decode cX10_milestoneStatement 39 = .ok (.getfield 39, 3) := by decide +kernel
theorem dX10_milestoneStatement_42 : decode cX10_milestoneStatement 42 = .ok (.iload_n 1, 1) := by decide +kernel
theorem dX10_milestoneStatement_43 : decode cX10_milestoneStatement 43 = .ok (.aload_n 0, 1) := by decide +kernel
theorem dX10_milestoneStatement_44 : decode cX10_milestoneStatement 44 = .ok (.getfield 123, 3) := by decide +kernel
theorem dX10_milestoneStatement_47 : decode cX10_milestoneStatement 47 = .ok (.invokestatic 197, 3) := by decide +kernel
theorem dX10_milestoneStatement_50 : decode cX10_milestoneStatement 50 = .ok (.iconst (-1), 1) := by decide +kernel
theorem dX10_milestoneStatement_51 : decode cX10_milestoneStatement 51 = .ok (.if_icmp .eq 9, 3) := by decide +kernel
theorem dX10_milestoneStatement_54 : decode cX10_milestoneStatement 54 = .ok (.aload_n 0, 1) := by decide +kernel
theorem dX10_milestoneStatement_55 : decode cX10_milestoneStatement 55 = .ok (.iconst 4, 1) := by decide +kernel
theorem dX10_milestoneStatement_56 : decode cX10_milestoneStatement 56 = .ok (.invokevirtual 149, 3) := by decide +kernel
theorem dX10_milestoneStatement_59 : decode cX10_milestoneStatement 59 = .ok (.ireturn, 1) := by decide +kernel
theorem dX10_milestoneStatement_60 : decode cX10_milestoneStatement 60 = .ok (.aload_n 0, 1) := by decide +kernel
theorem dX10_milestoneStatement_61 : decode cX10_milestoneStatement 61 = .ok (.getfield 123, 3) := by decide +kernel
theorem dX10_milestoneStatement_64 : decode cX10_milestoneStatement 64 = .ok (.lstore_n 2, 1) := by decide +kernel
theorem dX10_milestoneStatement_65 : decode cX10_milestoneStatement 65 = .ok (.aload_n 0, 1) := by decide +kernel
theorem dX10_milestoneStatement_66 : decode cX10_milestoneStatement 66 = .ok (.invokevirtual 159, 3) := by decide +kernel
theorem dX10_milestoneStatement_69 : decode cX10_milestoneStatement 69 = .ok (.pop, 1) := by decide +kernel
theorem dX10_milestoneStatement_70 : decode cX10_milestoneStatement 70 = .ok (.bipush 16, 2) := by decide +kernel
theorem dX10_milestoneStatement_72 : decode cX10_milestoneStatement 72 = .ok (.bipush 7, 2) := by decide +kernel
theorem dX10_milestoneStatement_74 : decode cX10_milestoneStatement 74 = .ok (.iload_n 1, 1) := by decide +kernel
theorem dX10_milestoneStatement_75 : decode cX10_milestoneStatement 75 = .ok (.imul, 1) := by decide +kernel
theorem dX10_milestoneStatement_76 : decode cX10_milestoneStatement 76 = .ok (.iadd, 1) := by decide +kernel
theorem dX10_milestoneStatement_77 : decode cX10_milestoneStatement 77 = .ok (.istore 4, 2) := by decide +kernel
theorem dX10_milestoneStatement_79 : decode cX10_milestoneStatement 79 = .ok (.aload_n 0, 1) := by decide +kernel
theorem dX10_milestoneStatement_80 : decode cX10_milestoneStatement 80 = .ok (.iload 4, 2) := by decide +kernel
theorem dX10_milestoneStatement_82 : decode cX10_milestoneStatement 82 = .ok (.iconst 0, 1) := by decide +kernel
theorem dX10_milestoneStatement_83 : decode cX10_milestoneStatement 83 = .ok (.iadd, 1) := by decide +kernel
theorem dX10_milestoneStatement_84 : decode cX10_milestoneStatement 84 = .ok (.iconst 1, 1) := by decide +kernel
theorem dX10_milestoneStatement_85 : decode cX10_milestoneStatement 85 = .ok (.ldc 218, 2) := by decide +kernel
theorem dX10_milestoneStatement_87 : decode cX10_milestoneStatement 87 = .ok (.invokevirtual 222, 3) := by decide +kernel
theorem dX10_milestoneStatement_90 : decode cX10_milestoneStatement 90 = .ok (.ifCond .eq 18, 3) := by decide +kernel
theorem dX10_milestoneStatement_93 : decode cX10_milestoneStatement 93 = .ok (.aload_n 0, 1) := by decide +kernel
theorem dX10_milestoneStatement_94 : decode cX10_milestoneStatement 94 = .ok (.iload 4, 2) := by decide +kernel
theorem dX10_milestoneStatement_96 : decode cX10_milestoneStatement 96 = .ok (.bipush 6, 2) := by decide +kernel
theorem dX10_milestoneStatement_98 : decode cX10_milestoneStatement 98 = .ok (.iadd, 1) := by decide +kernel
theorem dX10_milestoneStatement_99 : decode cX10_milestoneStatement 99 = .ok (.iconst 0, 1) := by decide +kernel
theorem dX10_milestoneStatement_100 : decode cX10_milestoneStatement 100 = .ok (.bipush 99, 2) := by decide +kernel
theorem dX10_milestoneStatement_102 : decode cX10_milestoneStatement 102 = .ok (.invokevirtual 222, 3) := by decide +kernel
theorem dX10_milestoneStatement_105 : decode cX10_milestoneStatement 105 = .ok (.ifCond .ne 5, 3) := by decide +kernel
theorem dX10_milestoneStatement_108 : decode cX10_milestoneStatement 108 = .ok (.iconst 0, 1) := by decide +kernel
theorem dX10_milestoneStatement_109 : decode cX10_milestoneStatement 109 = .ok (.ireturn, 1) := by decide +kernel
theorem dX10_milestoneStatement_110 : decode cX10_milestoneStatement 110 = .ok (.aload_n 0, 1) := by decide +kernel
theorem dX10_milestoneStatement_111 : decode cX10_milestoneStatement 111 = .ok (.iconst 5, 1) := by decide +kernel
theorem dX10_milestoneStatement_112 : decode cX10_milestoneStatement 112 = .ok (.invokevirtual 173, 3) := by decide +kernel
theorem dX10_milestoneStatement_115 : decode cX10_milestoneStatement 115 = .ok (.ifCond .ne 9, 3) := by decide +kernel
theorem dX10_milestoneStatement_118 : decode cX10_milestoneStatement 118 = .ok (.aload_n 0, 1) := by decide +kernel
theorem dX10_milestoneStatement_119 : decode cX10_milestoneStatement 119 = .ok (.iconst 2, 1) := by decide +kernel
theorem dX10_milestoneStatement_120 : decode cX10_milestoneStatement 120 = .ok (.invokevirtual 149, 3) := by decide +kernel
theorem dX10_milestoneStatement_123 : decode cX10_milestoneStatement 123 = .ok (.ireturn, 1) := by decide +kernel
theorem dX10_milestoneStatement_124 : decode cX10_milestoneStatement 124 = .ok (.aload_n 0, 1) := by decide +kernel
theorem dX10_milestoneStatement_125 : decode cX10_milestoneStatement 125 = .ok (.invokevirtual 159, 3) := by decide +kernel
theorem dX10_milestoneStatement_128 : decode cX10_milestoneStatement 128 = .ok (.pop, 1) := by decide +kernel
theorem dX10_milestoneStatement_129 : decode cX10_milestoneStatement 129 = .ok (.aload_n 0, 1) := by decide +kernel
theorem dX10_milestoneStatement_130 : decode cX10_milestoneStatement 130 = .ok (.getfield 57, 3) := by decide +kernel
theorem dX10_milestoneStatement_133 : decode cX10_milestoneStatement 133 = .ok (.iload_n 1, 1) := by decide +kernel
theorem dX10_milestoneStatement_134 : decode cX10_milestoneStatement 134 = .ok (.aload_n 0, 1) := by decide +kernel
theorem dX10_milestoneStatement_135 : decode cX10_milestoneStatement 135 = .ok (.getfield 167, 3) := by decide +kernel
theorem dX10_milestoneStatement_138 : decode cX10_milestoneStatement 138 = .ok (.iastore, 1) := by decide +kernel
theorem dX10_milestoneStatement_139 : decode cX10_milestoneStatement 139 = .ok (.aload_n 0, 1) := by decide +kernel
theorem dX10_milestoneStatement_140 : decode cX10_milestoneStatement 140 = .ok (.invokevirtual 188, 3) := by decide +kernel
theorem dX10_milestoneStatement_143 : decode cX10_milestoneStatement 143 = .ok (.ifCond .ne 5, 3) := by decide +kernel
theorem dX10_milestoneStatement_146 : decode cX10_milestoneStatement 146 = .ok (.iconst 0, 1) := by decide +kernel
theorem dX10_milestoneStatement_147 : decode cX10_milestoneStatement 147 = .ok (.ireturn, 1) := by decide +kernel
theorem dX10_milestoneStatement_148 : decode cX10_milestoneStatement 148 = .ok (.aload_n 0, 1) := by decide +kernel
theorem dX10_milestoneStatement_149 : decode cX10_milestoneStatement 149 = .ok (.getfield 57, 3) := by decide +kernel
theorem dX10_milestoneStatement_152 : decode cX10_milestoneStatement 152 = .ok (.iload_n 1, 1) := by decide +kernel
theorem dX10_milestoneStatement_153 : decode cX10_milestoneStatement 153 = .ok (.iconst 1, 1) := by decide +kernel
theorem dX10_milestoneStatement_154 : decode cX10_milestoneStatement 154 = .ok (.iadd, 1) := by decide +kernel
theorem dX10_milestoneStatement_155 : decode cX10_milestoneStatement 155 = .ok (.aload_n 0, 1) := by decide +kernel
theorem dX10_milestoneStatement_156 : decode cX10_milestoneStatement 156 = .ok (.getfield 167, 3) := by decide +kernel
theorem dX10_milestoneStatement_159 : decode cX10_milestoneStatement 159 = .ok (.iastore, 1) := by decide +kernel
theorem dX10_milestoneStatement_160 : decode cX10_milestoneStatement 160 = .ok (.aload_n 0, 1) := by decide +kernel
theorem dX10_milestoneStatement_161 : decode cX10_milestoneStatement 161 = .ok (.getfield 39, 3) := by decide +kernel
theorem dX10_milestoneStatement_164 : decode cX10_milestoneStatement 164 = .ok (.iload_n 1, 1) := by decide +kernel
theorem dX10_milestoneStatement_165 : decode cX10_milestoneStatement 165 = .ok (.lload_n 2, 1) := by decide +kernel
theorem dX10_milestoneStatement_166 : decode cX10_milestoneStatement 166 = .ok (.lastore, 1) := by decide +kernel
theorem dX10_milestoneStatement_167 : decode cX10_milestoneStatement 167 = .ok (.aload_n 0, 1) := by decide +kernel
theorem dX10_milestoneStatement_168 : decode cX10_milestoneStatement 168 = .ok (.getfield 13, 3) := by decide +kernel
theorem dX10_milestoneStatement_171 : decode cX10_milestoneStatement 171 = .ok (.iload 4, 2) := by decide +kernel
theorem dX10_milestoneStatement_173 : decode cX10_milestoneStatement 173 = .ok (.iconst 4, 1) := by decide +kernel
theorem dX10_milestoneStatement_174 : decode cX10_milestoneStatement 174 = .ok (.iadd, 1) := by decide +kernel
theorem dX10_milestoneStatement_175 : decode cX10_milestoneStatement 175 = .ok (.iconst (-1), 1) := by decide +kernel
theorem dX10_milestoneStatement_176 : decode cX10_milestoneStatement 176 = .ok (.iastore, 1) := by decide +kernel
theorem dX10_milestoneStatement_177 : decode cX10_milestoneStatement 177 = .ok (.aload_n 0, 1) := by decide +kernel
theorem dX10_milestoneStatement_178 : decode cX10_milestoneStatement 178 = .ok (.getfield 13, 3) := by decide +kernel
theorem dX10_milestoneStatement_181 : decode cX10_milestoneStatement 181 = .ok (.bipush 13, 2) := by decide +kernel
theorem dX10_milestoneStatement_183 : decode cX10_milestoneStatement 183 = .ok (.dup2, 1) := by decide +kernel
theorem dX10_milestoneStatement_184 : decode cX10_milestoneStatement 184 = .ok (.iaload, 1) := by decide +kernel
theorem dX10_milestoneStatement_185 : decode cX10_milestoneStatement 185 = .ok (.iconst 1, 1) := by decide +kernel
theorem dX10_milestoneStatement_186 : decode cX10_milestoneStatement 186 = .ok (.iadd, 1) := by decide +kernel
theorem dX10_milestoneStatement_187 : decode cX10_milestoneStatement 187 = .ok (.iastore, 1) := by decide +kernel
theorem dX10_milestoneStatement_188 : decode cX10_milestoneStatement 188 = .ok (.iconst 1, 1) := by decide +kernel
theorem dX10_milestoneStatement_189 : decode cX10_milestoneStatement 189 = .ok (.ireturn, 1) := by decide +kernel
theorem dX10_setting_0 : decode cX10_setting 0 = .ok (.aload_n 0, 1) := by decide +kernel
theorem dX10_setting_1 : decode cX10_setting 1 = .ok (.invokevirtual 159, 3) := by decide +kernel
theorem dX10_setting_4 : decode cX10_setting 4 = .ok (.pop, 1) := by decide +kernel
theorem dX10_setting_5 : decode cX10_setting 5 = .ok (.aload_n 0, 1) := by decide +kernel
theorem dX10_setting_6 : decode cX10_setting 6 = .ok (.iload_n 1, 1) := by decide +kernel
theorem dX10_setting_7 : decode cX10_setting 7 = .ok (.iconst 0, 1) := by decide +kernel
theorem dX10_setting_8 : decode cX10_setting 8 = .ok (.iload_n 2, 1) := by decide +kernel
theorem dX10_setting_9 : decode cX10_setting 9 = .ok (.invokevirtual 222, 3) := by decide +kernel
theorem dX10_setting_12 : decode cX10_setting 12 = .ok (.ireturn, 1) := by decide +kernel
theorem dX10_statement_0 : decode cX10_statement 0 = .ok (.aload_n 0, 1) := by decide +kernel
theorem dX10_statement_1 : decode cX10_statement 1 = .ok (.getfield 126, 3) := by decide +kernel
theorem dX10_statement_4 : decode cX10_statement 4 = .ok (.iconst 2, 1) := by decide +kernel
theorem dX10_statement_5 : decode cX10_statement 5 = .ok (.if_icmp .eq 9, 3) := by decide +kernel
theorem dX10_statement_8 : decode cX10_statement 8 = .ok (.aload_n 0, 1) := by decide +kernel
theorem dX10_statement_9 : decode cX10_statement 9 = .ok (.iconst 2, 1) := by decide +kernel
theorem dX10_statement_10 : decode cX10_statement 10 = .ok (.invokevirtual 149, 3) := by decide +kernel
theorem dX10_statement_13 : decode cX10_statement 13 = .ok (.ireturn, 1) := by decide +kernel
theorem dX10_statement_14 : decode cX10_statement 14 = .ok (.aload_n 0, 1) := by decide +kernel
theorem dX10_statement_15 : decode cX10_statement 15 = .ok (.getfield 120, 3) := by decide +kernel
theorem dX10_statement_18 : decode cX10_statement 18 = .ok (.tableswitch 66 0 4 #[34, 39, 48, 56, 61], 34) := by decide +kernel
theorem dX10_statement_52 : decode cX10_statement 52 = .ok (.aload_n 0, 1) := by decide +kernel
theorem dX10_statement_53 : decode cX10_statement 53 = .ok (.invokevirtual 233, 3) := by decide +kernel
theorem dX10_statement_56 : decode cX10_statement 56 = .ok (.ireturn, 1) := by decide +kernel
theorem dX10_statement_57 : decode cX10_statement 57 = .ok (.aload_n 0, 1) := by decide +kernel
theorem dX10_statement_58 : decode cX10_statement 58 = .ok (.iconst 2, 1) := by decide +kernel
theorem dX10_statement_59 : decode cX10_statement 59 = .ok (.sipush 2000, 3) := by decide +kernel
theorem dX10_statement_62 : decode cX10_statement 62 = .ok (.invokevirtual 236, 3) := by decide +kernel
theorem dX10_statement_65 : decode cX10_statement 65 = .ok (.ireturn, 1) := by decide +kernel
theorem dX10_statement_66 : decode cX10_statement 66 = .ok (.aload_n 0, 1) := by decide +kernel
theorem dX10_statement_67 : decode cX10_statement 67 = .ok (.iconst 3, 1) := by decide +kernel
theorem dX10_statement_68 : decode cX10_statement 68 = .ok (.bipush 60, 2) := by decide +kernel
theorem dX10_statement_70 : decode cX10_statement 70 = .ok (.invokevirtual 236, 3) := by decide +kernel
theorem dX10_statement_73 : decode cX10_statement 73 = .ok (.ireturn, 1) := by decide +kernel
theorem dX10_statement_74 : decode cX10_statement 74 = .ok (.aload_n 0, 1) := by decide +kernel
theorem dX10_statement_75 : decode cX10_statement 75 = .ok (.invokevirtual 239, 3) := by decide +kernel
theorem dX10_statement_78 : decode cX10_statement 78 = .ok (.ireturn, 1) := by decide +kernel
theorem dX10_statement_79 : decode cX10_statement 79 = .ok (.aload_n 0, 1) := by decide +kernel
theorem dX10_statement_80 : decode cX10_statement 80 = .ok (.invokevirtual 242, 3) := by decide +kernel
theorem dX10_statement_83 : decode cX10_statement 83 = .ok (.ireturn, 1) := by decide +kernel
theorem dX10_statement_84 : decode cX10_statement 84 = .ok (.aload_n 0, 1) := by decide +kernel
theorem dX10_statement_85 : decode cX10_statement 85 = .ok (.iconst 2, 1) := by decide +kernel
theorem dX10_statement_86 : decode cX10_statement 86 = .ok (.invokevirtual 149, 3) := by decide +kernel
theorem dX10_statement_89 : decode cX10_statement 89 = .ok (.ireturn, 1) := by decide +kernel
