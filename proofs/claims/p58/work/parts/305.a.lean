set_option maxRecDepth 20000 in
theorem ggX10_advance_X10_isDigit : GoodIn wsX10_advance wsX10_isDigit := goodIn_r _ [26] rfl (by decide +kernel)
set_option maxRecDepth 20000 in
theorem gX10_advance_X10_isDigit : GoodIn wsX10_advance (va_wsS RX10 137 yX10_isDigit wsX10_isDigit) := goodIn_app (goodIn_r _ [24, 25, 12] rfl (by decide +kernel)) ggX10_advance_X10_isDigit
set_option maxRecDepth 20000 in
theorem ggX10_advance_X10_isLetter : GoodIn wsX10_advance wsX10_isLetter := goodIn_r _ [18] rfl (by decide +kernel)
set_option maxRecDepth 20000 in
theorem gX10_advance_X10_isLetter : GoodIn wsX10_advance (va_wsS RX10 129 yX10_isLetter wsX10_isLetter) := goodIn_app (goodIn_r _ [16, 17, 12] rfl (by decide +kernel)) ggX10_advance_X10_isLetter
set_option maxRecDepth 20000 in
theorem ggX10_advance_X10_keywordOf : GoodIn wsX10_advance wsX10_keywordOf := goodIn_r _ [22, 23, 27, 28, 29, 30, 31, 32, 33, 34, 35, 36, 37, 38, 39, 40, 41, 42, 43, 44, 45, 46, 47, 48, 49, 50, 51, 52, 53, 54, 55, 56, 57, 58, 59, 60, 61, 62, 63, 64, 65] rfl (by decide +kernel)
set_option maxRecDepth 20000 in
theorem gX10_advance_X10_keywordOf : GoodIn wsX10_advance (wsV RX10 133 RX10 yX10_keywordOf wsX10_keywordOf) := goodIn_app (goodIn_r _ [19, 20, 21, 12] rfl (by decide +kernel)) ggX10_advance_X10_keywordOf
set_option maxRecDepth 20000 in
theorem ggX10_numberTo_X10_number : GoodIn wsX10_numberTo wsX10_number := goodIn_r _ [7, 8, 9, 2, 10, 11, 12, 6, 13, 14, 15, 16, 17, 18, 19, 20, 21, 22, 23, 24, 25, 26, 27, 28, 29, 30, 31, 32, 33, 34, 35, 36, 37, 38, 39, 40, 41, 42, 43, 44, 45, 46, 47, 48, 49, 50, 51, 52, 53, 54, 55, 56, 57, 58, 59, 60, 61, 62, 63, 64, 65, 66, 67, 68, 69, 70, 71, 72, 73, 74, 75, 76, 77, 78, 79, 80, 81, 82, 83, 84] rfl (by decide +kernel)
set_option maxRecDepth 20000 in
theorem gX10_numberTo_X10_number : GoodIn wsX10_numberTo (wsV RX10 163 RX10 yX10_number wsX10_number) := goodIn_app (goodIn_r _ [3, 4, 5, 6] rfl (by decide +kernel)) ggX10_numberTo_X10_number
set_option maxRecDepth 20000 in
theorem ggX10_number_X10_advance : GoodIn wsX10_number wsX10_advance := goodIn_r _ [18, 19, 10, 20, 21, 1, 22, 23, 2, 24, 25, 26, 7, 27, 28, 29, 30, 31, 32, 33, 34, 35, 36, 37, 38, 39, 40, 41, 42, 43, 44, 45, 46, 47, 48, 49, 50, 51, 52, 53, 54, 55, 56, 57, 58, 59, 60, 61, 62, 63, 64, 65, 66, 67, 68, 69, 70, 71, 72, 73, 74, 75, 76, 77, 78, 79] rfl (by decide +kernel)
set_option maxRecDepth 20000 in
theorem gX10_number_X10_advance : GoodIn wsX10_number (wsV RX10 159 RX10 yX10_advance wsX10_advance) := goodIn_app (goodIn_r _ [15, 16, 17, 7] rfl (by decide +kernel)) ggX10_number_X10_advance
set_option maxRecDepth 20000 in
theorem ggX10_number_X10_between : GoodIn wsX10_number wsX10_between := goodIn_r _ [14] rfl (by decide +kernel)
set_option maxRecDepth 20000 in
theorem gX10_number_X10_between : GoodIn wsX10_number (va_wsS RX10 152 yX10_between wsX10_between) := goodIn_app (goodIn_r _ [12, 13, 7] rfl (by decide +kernel)) ggX10_number_X10_between
set_option maxRecDepth 20000 in
theorem ggX10_number_X10_fail : GoodIn wsX10_number wsX10_fail := goodIn_r _ [8, 1, 9, 10, 11, 41, 42, 43, 44, 45, 46, 47, 48, 49, 50, 51, 52, 53, 54, 55, 56, 57, 58, 59, 60, 61, 62, 63, 64, 65, 66, 67, 68, 69, 70, 71, 72, 73, 74, 75, 76, 77, 78, 79] rfl (by decide +kernel)
set_option maxRecDepth 20000 in
theorem gX10_number_X10_fail : GoodIn wsX10_number (wsV RX10 149 RX10 yX10_fail wsX10_fail) := goodIn_app (goodIn_r _ [4, 5, 6, 7] rfl (by decide +kernel)) ggX10_number_X10_fail
set_option maxRecDepth 20000 in
theorem ggX10_proofCharacter_X10_between : GoodIn wsX10_proofCharacter wsX10_between := goodIn_r _ [11] rfl (by decide +kernel)
set_option maxRecDepth 20000 in
theorem gX10_proofCharacter_X10_between : GoodIn wsX10_proofCharacter (va_wsS RX10 152 yX10_between wsX10_between) := goodIn_app (goodIn_r _ [9, 10, 6] rfl (by decide +kernel)) ggX10_proofCharacter_X10_between
set_option maxRecDepth 20000 in
theorem ggX10_proofCharacter_X10_letterOf : GoodIn wsX10_proofCharacter wsX10_letterOf := goodIn_r _ [18, 15, 12, 13, 6, 14] rfl (by decide +kernel)
set_option maxRecDepth 20000 in
theorem gX10_proofCharacter_X10_letterOf : GoodIn wsX10_proofCharacter (va_wsS RX10 354 yX10_letterOf wsX10_letterOf) := goodIn_app (goodIn_r _ [16, 17, 6] rfl (by decide +kernel)) ggX10_proofCharacter_X10_letterOf
set_option maxRecDepth 20000 in
theorem ggX10_proofCharacter_X10_lettersOf : GoodIn wsX10_proofCharacter wsX10_lettersOf := goodIn_r _ [14, 15] rfl (by decide +kernel)
set_option maxRecDepth 20000 in
theorem gX10_proofCharacter_X10_lettersOf : GoodIn wsX10_proofCharacter (va_wsS RX10 351 yX10_lettersOf wsX10_lettersOf) := goodIn_app (goodIn_r _ [12, 13, 6] rfl (by decide +kernel)) ggX10_proofCharacter_X10_lettersOf
set_option maxRecDepth 20000 in
theorem ggX10_write_X10_letterOf : GoodIn wsX10_write wsX10_letterOf := goodIn_r _ [23, 20, 17, 18, 6, 19] rfl (by decide +kernel)
set_option maxRecDepth 20000 in
theorem gX10_write_X10_letterOf : GoodIn wsX10_write (va_wsS RX10 354 yX10_letterOf wsX10_letterOf) := goodIn_app (goodIn_r _ [21, 22, 6] rfl (by decide +kernel)) ggX10_write_X10_letterOf
set_option maxRecDepth 20000 in
theorem ggX10_write_X10_lettersOf : GoodIn wsX10_write wsX10_lettersOf := goodIn_r _ [19, 20] rfl (by decide +kernel)
set_option maxRecDepth 20000 in
theorem gX10_write_X10_lettersOf : GoodIn wsX10_write (va_wsS RX10 351 yX10_lettersOf wsX10_lettersOf) := goodIn_app (goodIn_r _ [17, 18, 6] rfl (by decide +kernel)) ggX10_write_X10_lettersOf
set_option maxRecDepth 20000 in
theorem ggX10_write_X10_of : GoodIn wsX10_write wsX10_of := goodIn_r _ [32, 8, 93, 94, 95, 96, 97, 98, 99, 100, 101, 102, 103, 104, 105, 106, 107, 108, 109, 110, 111, 112, 113, 114, 115, 116, 117, 118, 119, 120, 121, 122, 123, 124, 125, 126, 127, 128, 129, 130, 131] rfl (by decide +kernel)
set_option maxRecDepth 20000 in
theorem gX10_write_X10_of : GoodIn wsX10_write (wsV RX10 261 RX10 yX10_of wsX10_of) := goodIn_app (goodIn_r _ [29, 30, 31, 6] rfl (by decide +kernel)) ggX10_write_X10_of
set_option maxRecDepth 20000 in
theorem ggX10_write_X10_put : GoodIn wsX10_write wsX10_put := goodIn_r _ [27, 28, 1, 93, 94, 95, 96, 97, 98, 99, 100, 101, 102, 103, 104, 105, 106, 107, 108, 109, 110, 111, 112, 113, 114, 115, 116, 117, 118, 119, 120, 121, 122, 123, 124, 125, 126, 127, 128, 129, 130, 131] rfl (by decide +kernel)
set_option maxRecDepth 20000 in
theorem gX10_write_X10_put : GoodIn wsX10_write (wsV RX10 417 RX10 yX10_put wsX10_put) := goodIn_app (goodIn_r _ [24, 25, 26, 6] rfl (by decide +kernel)) ggX10_write_X10_put
set_option maxRecDepth 20000 in
theorem ggX10_write_X10_putNumber : GoodIn wsX10_write wsX10_putNumber := goodIn_r _ [92, 24, 25, 26, 6, 27, 28, 1, 93, 94, 95, 96, 97, 98, 99, 100, 101, 102, 103, 104, 105, 106, 107, 108, 109, 110, 111, 112, 113, 114, 115, 116, 117, 118, 119, 120, 121, 122, 123, 124, 125, 126, 127, 128, 129, 130, 131] rfl (by decide +kernel)
set_option maxRecDepth 20000 in
theorem gX10_write_X10_putNumber : GoodIn wsX10_write (wsV RX10 439 RX10 yX10_putNumber wsX10_putNumber) := goodIn_app (goodIn_r _ [89, 90, 91, 6] rfl (by decide +kernel)) ggX10_write_X10_putNumber
set_option maxRecDepth 20000 in
theorem ggX10_write_X10_putText : GoodIn wsX10_write wsX10_putText := goodIn_r _ [39, 40, 41, 42, 43, 44, 45, 46, 47, 48, 49, 50, 51, 52, 53, 54, 55, 56, 57, 58, 59, 60, 61, 62, 63, 64, 65, 66, 67, 68, 69, 70, 71, 72, 73, 74, 75, 76, 77, 78, 79, 80, 81, 82, 83, 84, 85, 86, 87, 88, 24, 25, 26, 6, 27, 28, 1, 132, 133, 134, 135, 93, 94, 95, 96, 97, 98, 99, 100, 101, 102, 103, 104, 105, 106, 107, 108, 109, 110, 111, 112, 113, 114, 115, 116, 117, 118, 119, 120, 121, 122, 123, 124, 125, 126, 127, 128, 129, 130, 131] rfl (by decide +kernel)
set_option maxRecDepth 20000 in
theorem gX10_write_X10_putText : GoodIn wsX10_write (wsV RX10 435 RX10 yX10_putText wsX10_putText) := goodIn_app (goodIn_r _ [36, 37, 38, 6] rfl (by decide +kernel)) ggX10_write_X10_putText
set_option maxRecDepth 20000 in
theorem ggX10_write_X10_stateWord : GoodIn wsX10_write wsX10_stateWord := goodIn_r _ [35] rfl (by decide +kernel)
set_option maxRecDepth 20000 in
theorem gX10_write_X10_stateWord : GoodIn wsX10_write (va_wsS RX10 431 yX10_stateWord wsX10_stateWord) := goodIn_app (goodIn_r _ [33, 34, 6] rfl (by decide +kernel)) ggX10_write_X10_stateWord
theorem dX10_emit_0 : decode cX10_emit 0 = .ok (.aload_n 0, 1) := by decide +kernel
theorem dX10_emit_1 : decode cX10_emit 1 = .ok (.getfield 51, 3) := by decide +kernel
theorem dX10_emit_4 : decode cX10_emit 4 = .ok (.aload_n 0, 1) := by decide +kernel
theorem dX10_emit_5 : decode cX10_emit 5 = .ok (.getfield 167, 3) := by decide +kernel
theorem dX10_emit_8 : decode cX10_emit 8 = .ok (.iload_n 1, 1) := by decide +kernel
theorem dX10_emit_9 : decode cX10_emit 9 = .ok (.iastore, 1) := by decide +kernel
theorem dX10_emit_10 : decode cX10_emit 10 = .ok (.aload_n 0, 1) := by decide +kernel
theorem dX10_emit_11 : decode cX10_emit 11 = .ok (.dup, 1) := by decide +kernel
theorem dX10_emit_12 : decode cX10_emit 12 = .ok (.getfield 167, 3) := by decide +kernel
theorem dX10_emit_15 : decode cX10_emit 15 = .ok (.iconst 1, 1) := by decide +kernel
theorem dX10_emit_16 : decode cX10_emit 16 = .ok (.iadd, 1) := by decide +kernel
theorem dX10_emit_17 : decode cX10_emit 17 = .ok (.putfield 167, 3) := by decide +kernel
theorem dX10_emit_20 : decode cX10_emit 20 = .ok (.iconst 1, 1) := by decide +kernel
theorem dX10_emit_21 : decode cX10_emit 21 = .ok (.ireturn, 1) := by decide +kernel
theorem dX10_fail_0 : decode cX10_fail 0 = .ok (.aload_n 0, 1) := by decide +kernel
theorem dX10_fail_1 : decode cX10_fail 1 = .ok (.aload_n 0, 1) := by decide +kernel
theorem dX10_fail_2 : decode cX10_fail 2 = .ok (.getfield 126, 3) := by decide +kernel
theorem dX10_fail_5 : decode cX10_fail 5 = .ok (.iconst 1, 1) := by decide +kernel
theorem dX10_fail_6 : decode cX10_fail 6 = .ok (.if_icmp .ne 7, 3) := by decide +kernel
theorem dX10_fail_9 : decode cX10_fail 9 = .ok (.iconst 1, 1) := by decide +kernel
theorem dX10_fail_10 : decode cX10_fail 10 = .ok (.goto 4, 3) := by decide +kernel
theorem dX10_fail_13 : decode cX10_fail 13 = .ok (.iload_n 1, 1) := by decide +kernel
theorem dX10_fail_14 : decode cX10_fail 14 = .ok (.putfield 143, 3) := by decide +kernel
theorem dX10_fail_17 : decode cX10_fail 17 = .ok (.aload_n 0, 1) := by decide +kernel
theorem dX10_fail_18 : decode cX10_fail 18 = .ok (.aload_n 0, 1) := by decide +kernel
theorem dX10_fail_19 : decode cX10_fail 19 = .ok (.getfield 117, 3) := by decide +kernel
theorem dX10_fail_22 : decode cX10_fail 22 = .ok (.putfield 146, 3) := by decide +kernel
theorem dX10_fail_25 : decode cX10_fail 25 = .ok (.iconst 0, 1) := by decide +kernel
theorem dX10_fail_26 : decode cX10_fail 26 = .ok (.ireturn, 1) := by decide +kernel
theorem dX10_isDigit_0 : decode cX10_isDigit 0 = .ok (.iload_n 0, 1) := by decide +kernel
theorem dX10_isDigit_1 : decode cX10_isDigit 1 = .ok (.bipush 48, 2) := by decide +kernel
theorem dX10_isDigit_3 : decode cX10_isDigit 3 = .ok (.if_icmp .lt 13, 3) := by decide +kernel
theorem dX10_isDigit_6 : decode cX10_isDigit 6 = .ok (.iload_n 0, 1) := by decide +kernel
theorem dX10_isDigit_7 : decode cX10_isDigit 7 = .ok (.bipush 57, 2) := by decide +kernel
theorem dX10_isDigit_9 : decode cX10_isDigit 9 = .ok (.if_icmp .gt 7, 3) := by decide +kernel
theorem dX10_isDigit_12 : decode cX10_isDigit 12 = .ok (.iconst 1, 1) := by decide +kernel
theorem dX10_isDigit_13 : decode cX10_isDigit 13 = .ok (.goto 4, 3) := by decide +kernel
theorem dX10_isDigit_16 : decode cX10_isDigit 16 = .ok (.iconst 0, 1) := by decide +kernel
theorem dX10_isDigit_17 : decode cX10_isDigit 17 = .ok (.ireturn, 1) := by decide +kernel
theorem dX10_isKeyword_0 : decode cX10_isKeyword 0 = .ok (.aload_n 0, 1) := by decide +kernel
theorem dX10_isKeyword_1 : decode cX10_isKeyword 1 = .ok (.getfield 126, 3) := by decide +kernel
theorem dX10_isKeyword_4 : decode cX10_isKeyword 4 = .ok (.iconst 2, 1) := by decide +kernel
theorem dX10_isKeyword_5 : decode cX10_isKeyword 5 = .ok (.if_icmp .ne 15, 3) := by decide +kernel
theorem dX10_isKeyword_8 : decode cX10_isKeyword 8 = .ok (.aload_n 0, 1) := by decide +kernel
theorem dX10_isKeyword_9 : decode cX10_isKeyword 9 = .ok (.getfield 120, 3) := by decide +kernel
theorem dX10_isKeyword_12 : decode cX10_isKeyword 12 = .ok (.iload_n 1, 1) := by decide +kernel
theorem dX10_isKeyword_13 : decode cX10_isKeyword 13 = .ok (.if_icmp .ne 7, 3) := by decide +kernel
theorem dX10_isKeyword_16 : decode cX10_isKeyword 16 = .ok (.iconst 1, 1) := by decide +kernel
theorem dX10_isKeyword_17 : decode cX10_isKeyword 17 = .ok (.goto 4, 3) := by decide +kernel
theorem dX10_isKeyword_20 : decode cX10_isKeyword 20 = .ok (.iconst 0, 1) := by decide +kernel
theorem dX10_isKeyword_21 : decode cX10_isKeyword 21 = .ok (.ireturn, 1) := by decide +kernel
theorem dX10_isLetter_0 : decode cX10_isLetter 0 = .ok (.iload_n 0, 1) := by decide +kernel
theorem dX10_isLetter_1 : decode cX10_isLetter 1 = .ok (.bipush 97, 2) := by decide +kernel
theorem dX10_isLetter_3 : decode cX10_isLetter 3 = .ok (.if_icmp .lt 13, 3) := by decide +kernel
theorem dX10_isLetter_6 : decode cX10_isLetter 6 = .ok (.iload_n 0, 1) := by decide +kernel
theorem dX10_isLetter_7 : decode cX10_isLetter 7 = .ok (.bipush 122, 2) := by decide +kernel
theorem dX10_isLetter_9 : decode cX10_isLetter 9 = .ok (.if_icmp .gt 7, 3) := by decide +kernel
theorem dX10_isLetter_12 : decode cX10_isLetter 12 = .ok (.iconst 1, 1) := by decide +kernel
theorem dX10_isLetter_13 : decode cX10_isLetter 13 = .ok (.goto 4, 3) := by decide +kernel
theorem dX10_isLetter_16 : decode cX10_isLetter 16 = .ok (.iconst 0, 1) := by decide +kernel
theorem dX10_isLetter_17 : decode cX10_isLetter 17 = .ok (.ireturn, 1) := by decide +kernel
theorem dX10_isName_0 : decode cX10_isName 0 = .ok (.aload_n 0, 1) := by decide +kernel
theorem dX10_isName_1 : decode cX10_isName 1 = .ok (.getfield 126, 3) := by decide +kernel
theorem dX10_isName_4 : decode cX10_isName 4 = .ok (.iconst 2, 1) := by decide +kernel
theorem dX10_isName_5 : decode cX10_isName 5 = .ok (.if_icmp .ne 15, 3) := by decide +kernel
theorem dX10_isName_8 : decode cX10_isName 8 = .ok (.aload_n 0, 1) := by decide +kernel
theorem dX10_isName_9 : decode cX10_isName 9 = .ok (.getfield 120, 3) := by decide +kernel
theorem dX10_isName_12 : decode cX10_isName 12 = .ok (.iconst (-1), 1) := by decide +kernel
theorem dX10_isName_13 : decode cX10_isName 13 = .ok (.if_icmp .ne 7, 3) := by decide +kernel
theorem dX10_isName_16 : decode cX10_isName 16 = .ok (.iconst 1, 1) := by decide +kernel
theorem dX10_isName_17 : decode cX10_isName 17 = .ok (.goto 4, 3) := by decide +kernel
theorem dX10_isName_20 : decode cX10_isName 20 = .ok (.iconst 0, 1) := by decide +kernel
theorem dX10_isName_21 : decode cX10_isName 21 = .ok (.ireturn, 1) := by decide +kernel
theorem dX10_isSymbol_0 : decode cX10_isSymbol 0 = .ok (.aload_n 0, 1) := by decide +kernel
theorem dX10_isSymbol_1 : decode cX10_isSymbol 1 = .ok (.getfield 126, 3) := by decide +kernel
theorem dX10_isSymbol_4 : decode cX10_isSymbol 4 = .ok (.iconst 4, 1) := by decide +kernel
theorem dX10_isSymbol_5 : decode cX10_isSymbol 5 = .ok (.if_icmp .ne 20, 3) := by decide +kernel
theorem dX10_isSymbol_8 : decode cX10_isSymbol 8 = .ok (.aload_n 0, 1) := by decide +kernel
theorem dX10_isSymbol_9 : decode cX10_isSymbol 9 = .ok (.getfield 26, 3) := by decide +kernel
theorem dX10_isSymbol_12 : decode cX10_isSymbol 12 = .ok (.aload_n 0, 1) := by decide +kernel
theorem dX10_isSymbol_13 : decode cX10_isSymbol 13 = .ok (.getfield 117, 3) := by decide +kernel
theorem dX10_isSymbol_16 : decode cX10_isSymbol 16 = .ok (.iaload, 1) := by decide +kernel
theorem dX10_isSymbol_17 : decode cX10_isSymbol 17 = .ok (.iload_n 1, 1) := by decide +kernel
theorem dX10_isSymbol_18 : decode cX10_isSymbol 18 = .ok (.if_icmp .ne 7, 3) := by decide +kernel
theorem dX10_isSymbol_21 : decode cX10_isSymbol 21 = .ok (.iconst 1, 1) := by decide +kernel
theorem dX10_isSymbol_22 : decode cX10_isSymbol 22 = .ok (.goto 4, 3) := by decide +kernel
theorem dX10_isSymbol_25 : decode cX10_isSymbol 25 = .ok (.iconst 0, 1) := by decide +kernel
theorem dX10_isSymbol_26 : decode cX10_isSymbol 26 = .ok (.ireturn, 1) := by decide +kernel
theorem dX10_keywordOf_0 : decode cX10_keywordOf 0 = .ok (.iconst 0, 1) := by decide +kernel
theorem dX10_keywordOf_1 : decode cX10_keywordOf 1 = .ok (.istore_n 3, 1) := by decide +kernel
theorem dX10_keywordOf_2 : decode cX10_keywordOf 2 = .ok (.iload_n 3, 1) := by decide +kernel
theorem dX10_keywordOf_3 : decode cX10_keywordOf 3 = .ok (.bipush 15, 2) := by decide +kernel
theorem dX10_keywordOf_5 : decode cX10_keywordOf 5 = .ok (.if_icmp .ge 22, 3) := by decide +kernel
theorem dX10_keywordOf_8 : decode cX10_keywordOf 8 = .ok (.aload_n 0, 1) := by decide +kernel
theorem dX10_keywordOf_9 : decode cX10_keywordOf 9 = .ok (.getfield 33, 3) := by decide +kernel
theorem dX10_keywordOf_12 : decode cX10_keywordOf 12 = .ok (.iload_n 3, 1) := by decide +kernel
theorem dX10_keywordOf_13 : decode cX10_keywordOf 13 = .ok (.laload, 1) := by decide +kernel
theorem dX10_keywordOf_14 : decode cX10_keywordOf 14 = .ok (.lload_n 1, 1) := by decide +kernel
theorem dX10_keywordOf_15 : decode cX10_keywordOf 15 = .ok (.lcmp, 1) := by decide +kernel
theorem dX10_keywordOf_16 : decode cX10_keywordOf 16 = .ok (.ifCond .ne 5, 3) := by decide +kernel
theorem dX10_keywordOf_19 : decode cX10_keywordOf 19 = .ok (.iload_n 3, 1) := by decide +kernel
theorem dX10_keywordOf_20 : decode cX10_keywordOf 20 = .ok (.ireturn, 1) := by decide +kernel
theorem dX10_keywordOf_21 : decode cX10_keywordOf 21 = .ok (.iinc 3 1, 3) := by decide +kernel
theorem dX10_keywordOf_24 : decode cX10_keywordOf 24 = .ok (.goto (-22), 3) := by decide +kernel
theorem dX10_keywordOf_27 : decode cX10_keywordOf 27 = .ok (.iconst (-1), 1) := by decide +kernel
theorem dX10_keywordOf_28 : decode cX10_keywordOf 28 = .ok (.ireturn, 1) := by decide +kernel
theorem dX10_number_0 : decode cX10_number 0 = .ok (.aload_n 0, 1) := by decide +kernel
theorem dX10_number_1 : decode cX10_number 1 = .ok (.getfield 126, 3) := by decide +kernel
theorem dX10_number_4 : decode cX10_number 4 = .ok (.iconst 3, 1) := by decide +kernel
theorem dX10_number_5 : decode cX10_number 5 = .ok (.if_icmp .eq 9, 3) := by decide +kernel
theorem dX10_number_8 : decode cX10_number 8 = .ok (.aload_n 0, 1) := by decide +kernel
theorem dX10_number_9 : decode cX10_number 9 = .ok (.iconst 2, 1) := by decide +kernel
theorem dX10_number_10 : decode cX10_number 10 = .ok (.invokevirtual 149, 3) := by decide +kernel
theorem dX10_number_13 : decode cX10_number 13 = .ok (.ireturn, 1) := by decide +kernel
theorem dX10_number_14 : decode cX10_number 14 = .ok (.aload_n 0, 1) := by decide +kernel
theorem dX10_number_15 : decode cX10_number 15 = .ok (.getfield 140, 3) := by decide +kernel
theorem dX10_number_18 : decode cX10_number 18 = .ok (.i2l, 1) := by decide +kernel
theorem dX10_number_19 : decode cX10_number 19 = .ok (.iload_n 1, 1) := by decide +kernel
theorem dX10_number_20 : decode cX10_number 20 = .ok (.i2l, 1) := by decide +kernel
theorem dX10_number_21 : decode cX10_number 21 = .ok (.iload_n 2, 1) := by decide +kernel
theorem dX10_number_22 : decode cX10_number 22 = .ok (.i2l, 1) := by decide +kernel
theorem dX10_number_23 : decode cX10_number 23 = .ok (.invokestatic 152, 3) := by decide +kernel
theorem dX10_number_26 : decode cX10_number 26 = .ok (.ifCond .ne 9, 3) := by decide +kernel
theorem dX10_number_29 : decode cX10_number 29 = .ok (.aload_n 0, 1) := by decide +kernel
theorem dX10_number_30 : decode cX10_number 30 = .ok (.iconst 3, 1) := by decide +kernel
theorem dX10_number_31 : decode cX10_number 31 = .ok (.invokevirtual 149, 3) := by decide +kernel
theorem dX10_number_34 : decode cX10_number 34 = .ok (.ireturn, 1) := by decide +kernel
theorem dX10_number_35 : decode cX10_number 35 = .ok (.aload_n 0, 1) := by decide +kernel
theorem dX10_number_36 : decode cX10_number 36 = .ok (.aload_n 0, 1) := by decide +kernel
theorem dX10_number_37 : decode cX10_number 37 = .ok (.getfield 140, 3) := by decide +kernel
theorem dX10_number_40 : decode cX10_number 40 = .ok (.putfield 156, 3) := by decide +kernel
theorem dX10_number_43 : decode cX10_number 43 = .ok (.aload_n 0, 1) := by decide +kernel
theorem dX10_number_44 : decode cX10_number 44 = .ok (.invokevirtual 159, 3) := by decide +kernel
theorem dX10_number_47 : decode cX10_number 47 = .ok (.ireturn, 1) := by decide +kernel
theorem dX10_numberTo_0 : decode cX10_numberTo 0 = .ok (.aload_n 0, 1) := by decide +kernel
theorem dX10_numberTo_1 : decode cX10_numberTo 1 = .ok (.iload_n 2, 1) := by decide +kernel
theorem dX10_numberTo_2 : decode cX10_numberTo 2 = .ok (.iload_n 3, 1) := by decide +kernel
theorem dX10_numberTo_3 : decode cX10_numberTo 3 = .ok (.invokevirtual 163, 3) := by decide +kernel
theorem dX10_numberTo_6 : decode cX10_numberTo 6 = .ok (.ifCond .ne 5, 3) := by decide +kernel
theorem dX10_numberTo_9 : decode cX10_numberTo 9 = .ok (.iconst 0, 1) := by decide +kernel
theorem dX10_numberTo_10 : decode cX10_numberTo 10 = .ok (.ireturn, 1) := by decide +kernel
theorem dX10_numberTo_11 : decode cX10_numberTo 11 = .ok (.aload_n 0, 1) := by decide +kernel
theorem dX10_numberTo_12 : decode cX10_numberTo 12 = .ok (.getfield 13, 3) := by decide +kernel
theorem dX10_numberTo_15 : decode cX10_numberTo 15 = .ok (.iload_n 1, 1) := by decide +kernel
theorem dX10_numberTo_16 : decode cX10_numberTo 16 = .ok (.aload_n 0, 1) := by decide +kernel
theorem dX10_numberTo_17 : decode cX10_numberTo 17 = .ok (.getfield 156, 3) := by decide +kernel
theorem dX10_numberTo_20 : decode cX10_numberTo 20 = .ok (.iastore, 1) := by decide +kernel
theorem dX10_numberTo_21 : decode cX10_numberTo 21 = .ok (.iconst 1, 1) := by decide +kernel
theorem dX10_numberTo_22 : decode cX10_numberTo 22 = .ok (.ireturn, 1) := by decide +kernel
