set_option maxRecDepth 20000 in
theorem ggX10_proofCharacter_X10_between : GoodIn wsX10_proofCharacter wsX10_between := goodIn_r _ [11] rfl (by decide +kernel)
set_option maxRecDepth 20000 in
theorem gX10_proofCharacter_X10_between : GoodIn wsX10_proofCharacter (va_wsS RX10 152 yX10_between wsX10_between) := goodIn_app (goodIn_r _ [9, 10, 6] rfl (by decide +kernel)) ggX10_proofCharacter_X10_between
set_option maxRecDepth 20000 in
theorem ggX10_proofCharacter_X10_letterOf : GoodIn wsX10_proofCharacter wsX10_letterOf := goodIn_r _ [18, 15, 12, 13, 6, 14] rfl (by decide +kernel)
set_option maxRecDepth 20000 in
theorem gX10_proofCharacter_X10_letterOf : GoodIn wsX10_proofCharacter (va_wsS RX10 354 yX10_letterOf wsX10_letterOf) := goodIn_app (goodIn_r _ [16, 17, 6] rfl (by decide +kernel)) ggX10_proofCharacter_X10_letterOf
set_option maxRecDepth 20000 in
theorem ggX10_proofCharacter_X10_lettersOf : GoodIn wsX10_proofCharacter wsX10_lettersOf := goodIn_r _ [14, 15] rfl (by decide +kernel)
set_option maxRecDepth 20000 in
theorem gX10_proofCharacter_X10_lettersOf : GoodIn wsX10_proofCharacter (va_wsS RX10 351 yX10_lettersOf wsX10_lettersOf) := goodIn_app (goodIn_r _ [12, 13, 6] rfl (by decide +kernel)) ggX10_proofCharacter_X10_lettersOf
set_option maxRecDepth 20000 in
theorem ggX10_putText_J0_charAt_5068e : GoodIn wsX10_putText wsJ0_charAt_5068e := goodIn_r _ [16, 6, 17, 18, 19, 4, 20, 11, 12, 21, 22, 23, 24, 25, 26, 27, 28, 29, 30, 31, 32, 33, 34, 35, 36, 37, 38, 39, 40, 41, 42, 43, 44, 45, 46, 47, 48, 49, 57, 58, 59, 60] rfl (by decide +kernel)
set_option maxRecDepth 20000 in
theorem gX10_putText_J0_charAt_5068e : GoodIn wsX10_putText (wsV RX10 97 RJ0 yJ0_charAt_5068e wsJ0_charAt_5068e) := goodIn_app (goodIn_r _ [13, 14, 15, 4] rfl (by decide +kernel)) ggX10_putText_J0_charAt_5068e
set_option maxRecDepth 20000 in
theorem ggX10_putText_J0_length_8abf5 : GoodIn wsX10_putText wsJ0_length_8abf5 := goodIn_r _ [5, 6, 7, 8, 9, 4, 10, 11, 12, 57, 58, 59, 60] rfl (by decide +kernel)
set_option maxRecDepth 20000 in
theorem gX10_putText_J0_length_8abf5 : GoodIn wsX10_putText (wsV RX10 415 RJ0 yJ0_length_8abf5 wsJ0_length_8abf5) := goodIn_app (goodIn_r _ [1, 2, 3, 4] rfl (by decide +kernel)) ggX10_putText_J0_length_8abf5
set_option maxRecDepth 20000 in
theorem ggX10_putText_X10_put : GoodIn wsX10_putText wsX10_put := goodIn_r _ [54, 55, 56, 61, 62, 63, 64, 65, 66, 67, 68, 69, 70, 71, 72, 73, 74, 75, 76, 77, 78, 79, 80, 81, 82, 83, 84, 85, 86, 87, 88, 89, 90, 91, 92, 93, 94, 95, 96, 97, 98, 99] rfl (by decide +kernel)
set_option maxRecDepth 20000 in
theorem gX10_putText_X10_put : GoodIn wsX10_putText (wsV RX10 417 RX10 yX10_put wsX10_put) := goodIn_app (goodIn_r _ [50, 51, 52, 53] rfl (by decide +kernel)) ggX10_putText_X10_put
set_option maxRecDepth 20000 in
theorem ggX10_write_X10_letterOf : GoodIn wsX10_write wsX10_letterOf := goodIn_r _ [23, 20, 17, 18, 6, 19] rfl (by decide +kernel)
set_option maxRecDepth 20000 in
theorem gX10_write_X10_letterOf : GoodIn wsX10_write (va_wsS RX10 354 yX10_letterOf wsX10_letterOf) := goodIn_app (goodIn_r _ [21, 22, 6] rfl (by decide +kernel)) ggX10_write_X10_letterOf
set_option maxRecDepth 20000 in
theorem ggX10_write_X10_lettersOf : GoodIn wsX10_write wsX10_lettersOf := goodIn_r _ [19, 20] rfl (by decide +kernel)
set_option maxRecDepth 20000 in
theorem gX10_write_X10_lettersOf : GoodIn wsX10_write (va_wsS RX10 351 yX10_lettersOf wsX10_lettersOf) := goodIn_app (goodIn_r _ [17, 18, 6] rfl (by decide +kernel)) ggX10_write_X10_lettersOf
set_option maxRecDepth 20000 in
theorem ggX10_write_X10_of : GoodIn wsX10_write wsX10_of := goodIn_r _ [32, 8, 93, 94, 95, 96, 97, 98, 99, 100, 101, 102, 103, 104, 105, 106, 107, 108, 109, 110, 111, 112, 113, 114, 115, 116, 117, 118, 119, 120, 121, 122, 123, 124, 125, 126, 127, 128, 129, 130, 131] rfl (by decide +kernel)
set_option maxRecDepth 20000 in
theorem gX10_write_X10_of : GoodIn wsX10_write (wsV RX10 261 RX10 yX10_of wsX10_of) := goodIn_app (goodIn_r _ [29, 30, 31, 6] rfl (by decide +kernel)) ggX10_write_X10_of
set_option maxRecDepth 20000 in
theorem ggX10_write_X10_put : GoodIn wsX10_write wsX10_put := goodIn_r _ [27, 28, 1, 93, 94, 95, 96, 97, 98, 99, 100, 101, 102, 103, 104, 105, 106, 107, 108, 109, 110, 111, 112, 113, 114, 115, 116, 117, 118, 119, 120, 121, 122, 123, 124, 125, 126, 127, 128, 129, 130, 131] rfl (by decide +kernel)
set_option maxRecDepth 20000 in
theorem gX10_write_X10_put : GoodIn wsX10_write (wsV RX10 417 RX10 yX10_put wsX10_put) := goodIn_app (goodIn_r _ [24, 25, 26, 6] rfl (by decide +kernel)) ggX10_write_X10_put
set_option maxRecDepth 20000 in
theorem ggX10_write_X10_putNumber : GoodIn wsX10_write wsX10_putNumber := goodIn_r _ [92, 24, 25, 26, 6, 27, 28, 1, 93, 94, 95, 96, 97, 98, 99, 100, 101, 102, 103, 104, 105, 106, 107, 108, 109, 110, 111, 112, 113, 114, 115, 116, 117, 118, 119, 120, 121, 122, 123, 124, 125, 126, 127, 128, 129, 130, 131] rfl (by decide +kernel)
set_option maxRecDepth 20000 in
theorem gX10_write_X10_putNumber : GoodIn wsX10_write (wsV RX10 439 RX10 yX10_putNumber wsX10_putNumber) := goodIn_app (goodIn_r _ [89, 90, 91, 6] rfl (by decide +kernel)) ggX10_write_X10_putNumber
set_option maxRecDepth 20000 in
theorem ggX10_write_X10_putText : GoodIn wsX10_write wsX10_putText := goodIn_r _ [39, 40, 41, 42, 43, 44, 45, 46, 47, 48, 49, 50, 51, 52, 53, 54, 55, 56, 57, 58, 59, 60, 61, 62, 63, 64, 65, 66, 67, 68, 69, 70, 71, 72, 73, 74, 75, 76, 77, 78, 79, 80, 81, 82, 83, 84, 85, 86, 87, 88, 24, 25, 26, 6, 27, 28, 1, 132, 133, 134, 135, 93, 94, 95, 96, 97, 98, 99, 100, 101, 102, 103, 104, 105, 106, 107, 108, 109, 110, 111, 112, 113, 114, 115, 116, 117, 118, 119, 120, 121, 122, 123, 124, 125, 126, 127, 128, 129, 130, 131] rfl (by decide +kernel)
set_option maxRecDepth 20000 in
theorem gX10_write_X10_putText : GoodIn wsX10_write (wsV RX10 435 RX10 yX10_putText wsX10_putText) := goodIn_app (goodIn_r _ [36, 37, 38, 6] rfl (by decide +kernel)) ggX10_write_X10_putText
set_option maxRecDepth 20000 in
theorem ggX10_write_X10_stateWord : GoodIn wsX10_write wsX10_stateWord := goodIn_r _ [35] rfl (by decide +kernel)
set_option maxRecDepth 20000 in
theorem gX10_write_X10_stateWord : GoodIn wsX10_write (va_wsS RX10 431 yX10_stateWord wsX10_stateWord) := goodIn_app (goodIn_r _ [33, 34, 6] rfl (by decide +kernel)) ggX10_write_X10_stateWord
theorem dX10_putText_0 : decode cX10_putText 0 = .ok (.iconst 0, 1) := by decide +kernel
theorem dX10_putText_1 : decode cX10_putText 1 = .ok (.istore_n 2, 1) := by decide +kernel
theorem dX10_putText_2 : decode cX10_putText 2 = .ok (.iload_n 2, 1) := by decide +kernel
theorem dX10_putText_3 : decode cX10_putText 3 = .ok (.aload_n 1, 1) := by decide +kernel
theorem dX10_putText_4 : decode cX10_putText 4 = .ok (.invokevirtual 415, 3) := by decide +kernel
theorem dX10_putText_7 : decode cX10_putText 7 = .ok (.if_icmp .ge 18, 3) := by decide +kernel
theorem dX10_putText_10 : decode cX10_putText 10 = .ok (.aload_n 0, 1) := by decide +kernel
theorem dX10_putText_11 : decode cX10_putText 11 = .ok (.aload_n 1, 1) := by decide +kernel
theorem dX10_putText_12 : decode cX10_putText 12 = .ok (.iload_n 2, 1) := by decide +kernel
theorem dX10_putText_13 : decode cX10_putText 13 = .ok (.invokevirtual 97, 3) := by decide +kernel
theorem dX10_putText_16 : decode cX10_putText 16 = .ok (.invokevirtual 417, 3) := by decide +kernel
theorem dX10_putText_19 : decode cX10_putText 19 = .ok (.iinc 2 1, 3) := by decide +kernel
theorem dX10_putText_22 : decode cX10_putText 22 = .ok (.goto (-20), 3) := by decide +kernel
theorem dX10_putText_25 : decode cX10_putText 25 = .ok (.return_, 1) := by decide +kernel
theorem dX10_stateWord_0 : decode cX10_stateWord 0 = .ok (.iload_n 0, 1) := by decide +kernel
theorem dX10_stateWord_1 : decode cX10_stateWord 1 = .ok (.tableswitch 55 0 4 #[35, 39, 43, 47, 51], 35) := by decide +kernel
theorem dX10_stateWord_36 : decode cX10_stateWord 36 = .ok (.ldc_w 420, 3) := by decide +kernel
theorem dX10_stateWord_39 : decode cX10_stateWord 39 = .ok (.areturn, 1) := by decide +kernel
theorem dX10_stateWord_40 : decode cX10_stateWord 40 = .ok (.ldc_w 421, 3) := by decide +kernel
theorem dX10_stateWord_43 : decode cX10_stateWord 43 = .ok (.areturn, 1) := by decide +kernel
theorem dX10_stateWord_44 : decode cX10_stateWord 44 = .ok (.ldc_w 423, 3) := by decide +kernel
theorem dX10_stateWord_47 : decode cX10_stateWord 47 = .ok (.areturn, 1) := by decide +kernel
theorem dX10_stateWord_48 : decode cX10_stateWord 48 = .ok (.ldc_w 425, 3) := by decide +kernel
theorem dX10_stateWord_51 : decode cX10_stateWord 51 = .ok (.areturn, 1) := by decide +kernel
theorem dX10_stateWord_52 : decode cX10_stateWord 52 = .ok (.ldc_w 427, 3) := by decide +kernel
theorem dX10_stateWord_55 : decode cX10_stateWord 55 = .ok (.areturn, 1) := by decide +kernel
theorem dX10_stateWord_56 : decode cX10_stateWord 56 = .ok (.ldc_w 429, 3) := by decide +kernel
theorem dX10_stateWord_59 : decode cX10_stateWord 59 = .ok (.areturn, 1) := by decide +kernel
