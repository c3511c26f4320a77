set_option maxRecDepth 20000 in
theorem ggJ4_charAt_5068e_J5_charAt_5068e : GoodIn wsJ4_charAt_5068e wsJ5_charAt_5068e := goodIn_r _ [6, 7, 8, 9, 10, 11, 12, 13, 14, 15, 16, 17, 18, 19, 20, 21, 22, 23, 24, 25, 26, 27, 28, 29, 30, 31, 32, 33, 34, 35, 36] rfl (by decide +kernel)
set_option maxRecDepth 20000 in
theorem gJ4_charAt_5068e_J5_charAt_5068e_s329 : GoodIn wsJ4_charAt_5068e (va_wsSU RJ4 329 yJ5_charAt_5068e wsJ5_charAt_5068e) := goodIn_app (goodIn_of _ (by decide +kernel)) ggJ4_charAt_5068e_J5_charAt_5068e
set_option maxRecDepth 20000 in
theorem ggX10_proofCharacter_X10_between : GoodIn wsX10_proofCharacter wsX10_between := goodIn_r _ [11] rfl (by decide +kernel)
set_option maxRecDepth 20000 in
theorem gX10_proofCharacter_X10_between : GoodIn wsX10_proofCharacter (va_wsS RX10 152 yX10_between wsX10_between) := goodIn_app (goodIn_r _ [9, 10, 6] rfl (by decide +kernel)) ggX10_proofCharacter_X10_between
set_option maxRecDepth 20000 in
theorem ggX10_proofCharacter_X10_letterOf : GoodIn wsX10_proofCharacter wsX10_letterOf := goodIn_r _ [18, 15, 12, 13, 6, 14] rfl (by decide +kernel)
set_option maxRecDepth 20000 in
theorem gX10_proofCharacter_X10_letterOf : GoodIn wsX10_proofCharacter (va_wsS RX10 354 yX10_letterOf wsX10_letterOf) := goodIn_app (goodIn_r _ [16, 17, 6] rfl (by decide +kernel)) ggX10_proofCharacter_X10_letterOf
set_option maxRecDepth 20000 in
theorem ggX10_proofCharacter_X10_lettersOf : GoodIn wsX10_proofCharacter wsX10_lettersOf := goodIn_r _ [14, 15] rfl (by decide +kernel)
set_option maxRecDepth 20000 in
theorem gX10_proofCharacter_X10_lettersOf : GoodIn wsX10_proofCharacter (va_wsS RX10 351 yX10_lettersOf wsX10_lettersOf) := goodIn_app (goodIn_r _ [12, 13, 6] rfl (by decide +kernel)) ggX10_proofCharacter_X10_lettersOf
set_option maxRecDepth 20000 in
theorem ggX8_appendTo_J4_append_cf468 : GoodIn wsX8_appendTo wsJ4_append_cf468 := goodIn_r _ [14, 15, 16, 17, 18, 19, 20, 21, 22, 23, 24, 25, 26, 27, 28, 29, 30, 31, 32, 33, 34, 35, 36, 37, 38, 39, 40, 41, 42, 43, 44, 45, 46, 47, 48, 49, 50, 51, 52, 53, 54, 55, 56, 57, 58, 59, 60, 61, 62, 63, 64, 65, 66, 67, 68, 69, 70, 71, 72, 73, 74, 75, 76, 77, 78, 79, 80, 81, 82, 83, 84, 85, 86, 87, 88, 89, 90, 91, 92, 93, 94, 95, 96, 97, 98, 99, 100, 101, 102, 103, 104, 105, 106, 107, 108, 109, 110, 111, 112, 113, 114, 115, 116, 117, 118, 119, 120, 121, 122, 123, 124, 125, 126, 127, 128, 129, 130] rfl (by decide +kernel)
set_option maxRecDepth 20000 in
theorem gX8_appendTo_J4_append_cf468 : GoodIn wsX8_appendTo (wsV RX8 35 RJ4 yJ4_append_cf468 wsJ4_append_cf468) := goodIn_app (goodIn_r _ [10, 11, 12, 13] rfl (by decide +kernel)) ggX8_appendTo_J4_append_cf468
set_option maxRecDepth 20000 in
theorem ggX8_appendTo_X8_letterAt : GoodIn wsX8_appendTo wsX8_letterAt := goodIn_r _ [7, 8, 9, 1, 2, 3, 4] rfl (by decide +kernel)
set_option maxRecDepth 20000 in
theorem gX8_appendTo_X8_letterAt : GoodIn wsX8_appendTo (va_wsS RX8 31 yX8_letterAt wsX8_letterAt) := goodIn_app (goodIn_r _ [5, 6, 3] rfl (by decide +kernel)) ggX8_appendTo_X8_letterAt
set_option maxRecDepth 20000 in
theorem ggX8_appendTo_X8_letterCount : GoodIn wsX8_appendTo wsX8_letterCount := goodIn_r _ [4] rfl (by decide +kernel)
set_option maxRecDepth 20000 in
theorem gX8_appendTo_X8_letterCount : GoodIn wsX8_appendTo (va_wsS RX8 23 yX8_letterCount wsX8_letterCount) := goodIn_app (goodIn_r _ [1, 2, 3] rfl (by decide +kernel)) ggX8_appendTo_X8_letterCount
set_option maxRecDepth 20000 in
theorem ggX8_letterAt_X8_letterCount : GoodIn wsX8_letterAt wsX8_letterCount := goodIn_r _ [6] rfl (by decide +kernel)
set_option maxRecDepth 20000 in
theorem gX8_letterAt_X8_letterCount : GoodIn wsX8_letterAt (va_wsS RX8 23 yX8_letterCount wsX8_letterCount) := goodIn_app (goodIn_r _ [3, 4, 5] rfl (by decide +kernel)) ggX8_letterAt_X8_letterCount
set_option maxRecDepth 20000 in
theorem ggX9_proofCharacter_X8_letterAt : GoodIn wsX9_proofCharacter wsX8_letterAt := goodIn_r _ [18, 19, 20, 21, 13, 14, 15] rfl (by decide +kernel)
set_option maxRecDepth 20000 in
theorem gX9_proofCharacter_X8_letterAt : GoodIn wsX9_proofCharacter (va_wsS RX9 200 yX8_letterAt wsX8_letterAt) := goodIn_app (goodIn_r _ [16, 17, 14] rfl (by decide +kernel)) ggX9_proofCharacter_X8_letterAt
set_option maxRecDepth 20000 in
theorem ggX9_proofCharacter_X8_letterCount : GoodIn wsX9_proofCharacter wsX8_letterCount := goodIn_r _ [15] rfl (by decide +kernel)
set_option maxRecDepth 20000 in
theorem gX9_proofCharacter_X8_letterCount : GoodIn wsX9_proofCharacter (va_wsS RX9 190 yX8_letterCount wsX8_letterCount) := goodIn_app (goodIn_r _ [12, 13, 14] rfl (by decide +kernel)) ggX9_proofCharacter_X8_letterCount
set_option maxRecDepth 20000 in
theorem ggX9_proofCharacter_X9_needIndex : GoodIn wsX9_proofCharacter wsX9_needIndex := goodIn_ca (goodIn_r _ [9, 10, 11] rfl (by decide +kernel)) (goodIn_sub (fun _ h => List.mem_cons_of_mem _ (List.mem_append_right _ h)) (by decide +kernel))
set_option maxRecDepth 20000 in
theorem gX9_proofCharacter_X9_needIndex : GoodIn wsX9_proofCharacter (va_wsS RX9 196 yX9_needIndex wsX9_needIndex) := goodIn_app (goodIn_r _ [7, 8, 5] rfl (by decide +kernel)) ggX9_proofCharacter_X9_needIndex
set_option maxRecDepth 20000 in
theorem ggX9_write_J4_append_15ec4 : GoodIn wsX9_write wsJ4_append_15ec4 := goodIn_r _ [181, 182, 183, 21, 184, 23, 185, 28, 186, 187, 188, 189, 190, 29, 31, 32, 33, 34, 35, 36, 37, 38, 39, 40, 41, 42, 43, 44, 45, 46, 47, 48, 49, 50, 51, 52, 53, 54, 55, 56, 57, 58, 59, 60, 61, 62, 63, 64, 65, 66, 67, 68, 69, 70, 71, 72, 73, 74, 75, 76, 77, 78, 191, 192, 96, 193, 158, 194, 195, 196, 143, 144, 145, 197, 198, 148, 199, 150, 200, 201, 153, 202, 155, 156, 157, 159, 160, 203, 204, 205, 206, 207, 208, 209, 210, 211, 212, 213, 214, 215, 216, 217, 218, 219, 220, 221, 222, 223, 224, 122, 123, 124, 125, 126, 127, 128, 129, 130, 131, 132, 133, 134, 135, 81, 136, 137, 138, 139, 140, 141, 142, 146, 147, 149, 151, 152, 154, 225, 226, 227, 228, 229, 230, 316, 317, 318, 319, 326, 327, 328, 329] rfl (by decide +kernel)
set_option maxRecDepth 20000 in
theorem gX9_write_J4_append_15ec4 : GoodIn wsX9_write (wsV RX9 330 RJ4 yJ4_append_15ec4 wsJ4_append_15ec4) := goodIn_app (goodIn_r _ [178, 179, 180, 17] rfl (by decide +kernel)) ggX9_write_J4_append_15ec4
set_option maxRecDepth 20000 in
theorem ggX9_write_J4_append_bf812 : GoodIn wsX9_write wsJ4_append_bf812 := goodIn_r _ [234, 235, 236, 21, 237, 23, 238, 28, 29, 239, 240, 241, 242, 31, 32, 33, 34, 35, 36, 37, 38, 39, 40, 41, 42, 43, 44, 45, 46, 47, 48, 49, 50, 51, 52, 53, 54, 55, 56, 57, 58, 59, 60, 61, 62, 63, 64, 65, 66, 67, 68, 69, 70, 71, 72, 73, 74, 75, 76, 77, 78, 243, 244, 245, 246, 247, 248, 249, 96, 250, 158, 194, 195, 196, 143, 144, 145, 197, 198, 148, 199, 150, 200, 201, 153, 202, 251, 252, 253, 254, 255, 155, 156, 157, 159, 160, 316, 317, 318, 319] rfl (by decide +kernel)
set_option maxRecDepth 20000 in
theorem gX9_write_J4_append_bf812 : GoodIn wsX9_write (wsV RX9 333 RJ4 yJ4_append_bf812 wsJ4_append_bf812) := goodIn_app (goodIn_r _ [231, 232, 233, 17] rfl (by decide +kernel)) ggX9_write_J4_append_bf812
set_option maxRecDepth 20000 in
theorem ggX9_write_J4_append_cf468 : GoodIn wsX9_write wsJ4_append_cf468 := goodIn_r _ [114, 115, 116, 21, 117, 23, 118, 28, 29, 31, 32, 33, 34, 35, 36, 37, 38, 39, 40, 41, 42, 43, 44, 45, 46, 47, 48, 49, 50, 51, 52, 53, 54, 55, 56, 57, 58, 59, 60, 61, 62, 63, 64, 65, 66, 67, 68, 69, 70, 71, 72, 73, 74, 75, 76, 77, 78, 119, 120, 81, 121, 122, 123, 124, 125, 126, 127, 128, 96, 129, 130, 131, 132, 133, 134, 135, 136, 137, 138, 139, 140, 141, 142, 143, 144, 145, 146, 147, 148, 149, 150, 151, 152, 153, 154, 155, 156, 157, 158, 159, 160, 161, 162, 163, 164, 165, 166, 167, 168, 169, 170, 171, 172, 316, 317, 318, 319] rfl (by decide +kernel)
set_option maxRecDepth 20000 in
theorem gX9_write_J4_append_cf468 : GoodIn wsX9_write (wsV RX9 322 RJ4 yJ4_append_cf468 wsJ4_append_cf468) := goodIn_app (goodIn_r _ [173, 112, 113, 17] rfl (by decide +kernel)) ggX9_write_J4_append_cf468
set_option maxRecDepth 20000 in
theorem ggX9_write_J4_length_8abf5 : GoodIn wsX9_write wsJ4_length_8abf5 := goodIn_r _ [259, 260, 261, 21, 262, 23, 263, 28, 316, 317, 318, 319] rfl (by decide +kernel)
set_option maxRecDepth 20000 in
theorem gX9_write_J4_length_8abf5 : GoodIn wsX9_write (wsV RX9 340 RJ4 yJ4_length_8abf5 wsJ4_length_8abf5) := goodIn_app (goodIn_r _ [256, 257, 258, 17] rfl (by decide +kernel)) ggX9_write_J4_length_8abf5
set_option maxRecDepth 20000 in
theorem ggX9_write_J4_setLength_d00df : GoodIn wsX9_write wsJ4_setLength_d00df := goodIn_r _ [18, 19, 20, 21, 22, 23, 24, 25, 26, 27, 28, 29, 30, 31, 32, 33, 34, 35, 36, 37, 38, 39, 40, 41, 42, 43, 44, 45, 46, 47, 48, 49, 50, 51, 52, 53, 54, 55, 56, 57, 58, 59, 60, 61, 62, 63, 64, 65, 66, 67, 68, 69, 70, 71, 72, 73, 74, 75, 76, 77, 78, 79, 80, 81, 82, 83, 84, 85, 86, 87, 88, 89, 90, 17, 91, 92, 93, 94, 95, 96, 97, 98, 310, 311, 312, 313, 314, 315, 316, 317, 318, 319, 320, 321, 322, 323, 324, 325] rfl (by decide +kernel)
set_option maxRecDepth 20000 in
theorem gX9_write_J4_setLength_d00df : GoodIn wsX9_write (wsV RX9 312 RJ4 yJ4_setLength_d00df wsJ4_setLength_d00df) := goodIn_app (goodIn_r _ [14, 15, 16, 17] rfl (by decide +kernel)) ggX9_write_J4_setLength_d00df
set_option maxRecDepth 20000 in
theorem ggX9_write_X6_spelling : GoodIn wsX9_write wsX6_spelling := goodIn_r _ [177] rfl (by decide +kernel)
set_option maxRecDepth 20000 in
theorem gX9_write_X6_spelling : GoodIn wsX9_write (va_wsS RX9 326 yX6_spelling wsX6_spelling) := goodIn_app (goodIn_r _ [174, 175, 176] rfl (by decide +kernel)) ggX9_write_X6_spelling
set_option maxRecDepth 20000 in
theorem ggX9_write_X8_appendTo : GoodIn wsX9_write wsX8_appendTo := goodIn_r _ [102, 103, 104, 101, 105, 106, 107, 108, 109, 110, 111, 112, 113, 17, 114, 115, 116, 21, 117, 23, 118, 28, 29, 31, 32, 33, 34, 35, 36, 37, 38, 39, 40, 41, 42, 43, 44, 45, 46, 47, 48, 49, 50, 51, 52, 53, 54, 55, 56, 57, 58, 59, 60, 61, 62, 63, 64, 65, 66, 67, 68, 69, 70, 71, 72, 73, 74, 75, 76, 77, 78, 119, 120, 81, 121, 122, 123, 124, 125, 126, 127, 128, 96, 129, 130, 131, 132, 133, 134, 135, 136, 137, 138, 139, 140, 141, 142, 143, 144, 145, 146, 147, 148, 149, 150, 151, 152, 153, 154, 155, 156, 157, 158, 159, 160, 161, 162, 163, 164, 165, 166, 167, 168, 169, 170, 171, 172, 316, 317, 318, 319] rfl (by decide +kernel)
set_option maxRecDepth 20000 in
theorem gX9_write_X8_appendTo : GoodIn wsX9_write (va_wsS RX9 318 yX8_appendTo wsX8_appendTo) := goodIn_app (goodIn_r _ [99, 100, 101] rfl (by decide +kernel)) ggX9_write_X8_appendTo
set_option maxRecDepth 20000 in
theorem ggX9_written_J4_charAt_5068e : GoodIn wsX9_written wsJ4_charAt_5068e := goodIn_r _ [23, 24, 25, 9, 26, 11, 27, 28, 29, 13, 30, 31, 32, 33, 34, 35, 36, 37, 38, 39, 40, 41, 42, 43, 44, 45, 46, 47, 48, 49, 50, 51, 52, 62, 63, 64, 65] rfl (by decide +kernel)
set_option maxRecDepth 20000 in
theorem gX9_written_J4_charAt_5068e : GoodIn wsX9_written (wsV RX9 343 RJ4 yJ4_charAt_5068e wsJ4_charAt_5068e) := goodIn_app (goodIn_r _ [20, 21, 22, 5] rfl (by decide +kernel)) ggX9_written_J4_charAt_5068e
theorem dJ4_charAt_5068e_0 : decode cJ4_charAt_5068e 0 = .ok (.aload_n 0, 1) := by decide +kernel
theorem dJ4_charAt_5068e_1 : decode cJ4_charAt_5068e 1 = .ok (.iload_n 1, 1) := by decide +kernel
theorem dJ4_charAt_5068e_2 : decode cJ4_charAt_5068e 2 = .ok (.invokespecial 329, 3) := by decide +kernel
theorem dJ4_charAt_5068e_5 : decode cJ4_charAt_5068e 5 = .ok (.ireturn, 1) := by decide +kernel
theorem dX6_spelling_0 : decode cX6_spelling 0 = .ok (.iload_n 0, 1) := by decide +kernel
theorem dX6_spelling_1 : decode cX6_spelling 1 = .ok (.tableswitch 50 0 4 #[35, 38, 41, 44, 47], 35) := by decide +kernel
theorem dX6_spelling_36 : decode cX6_spelling 36 = .ok (.ldc 7, 2) := by decide +kernel
theorem dX6_spelling_38 : decode cX6_spelling 38 = .ok (.areturn, 1) := by decide +kernel
theorem dX6_spelling_39 : decode cX6_spelling 39 = .ok (.ldc 9, 2) := by decide +kernel
theorem dX6_spelling_41 : decode cX6_spelling 41 = .ok (.areturn, 1) := by decide +kernel
theorem dX6_spelling_42 : decode cX6_spelling 42 = .ok (.ldc 11, 2) := by decide +kernel
theorem dX6_spelling_44 : decode cX6_spelling 44 = .ok (.areturn, 1) := by decide +kernel
theorem dX6_spelling_45 : decode cX6_spelling 45 = .ok (.ldc 13, 2) := by decide +kernel
theorem dX6_spelling_47 : decode cX6_spelling 47 = .ok (.areturn, 1) := by decide +kernel
theorem dX6_spelling_48 : decode cX6_spelling 48 = .ok (.ldc 15, 2) := by decide +kernel
theorem dX6_spelling_50 : decode cX6_spelling 50 = .ok (.areturn, 1) := by decide +kernel
theorem dX6_spelling_51 : decode cX6_spelling 51 = .ok (.ldc 17, 2) := by decide +kernel
theorem dX6_spelling_53 : decode cX6_spelling 53 = .ok (.areturn, 1) := by decide +kernel
theorem dX8_appendTo_0 : decode cX8_appendTo 0 = .ok (.lload_n 1, 1) := by decide +kernel
theorem dX8_appendTo_1 : decode cX8_appendTo 1 = .ok (.invokestatic 23, 3) := by decide +kernel
theorem dX8_appendTo_4 : decode cX8_appendTo 4 = .ok (.istore_n 3, 1) := by decide +kernel
theorem dX8_appendTo_5 : decode cX8_appendTo 5 = .ok (.iconst 0, 1) := by decide +kernel
theorem dX8_appendTo_6 : decode cX8_appendTo 6 = .ok (.istore 4, 2) := by decide +kernel
theorem dX8_appendTo_8 : decode cX8_appendTo 8 = .ok (.iload 4, 2) := by decide +kernel
theorem dX8_appendTo_10 : decode cX8_appendTo 10 = .ok (.iload_n 3, 1) := by decide +kernel
theorem dX8_appendTo_11 : decode cX8_appendTo 11 = .ok (.if_icmp .ge 20, 3) := by decide +kernel
theorem dX8_appendTo_14 : decode cX8_appendTo 14 = .ok (.aload_n 0, 1) := by decide +kernel
theorem dX8_appendTo_15 : decode cX8_appendTo 15 = .ok (.lload_n 1, 1) := by decide +kernel
theorem dX8_appendTo_16 : decode cX8_appendTo 16 = .ok (.iload 4, 2) := by decide +kernel
theorem dX8_appendTo_18 : decode cX8_appendTo 18 = .ok (.invokestatic 31, 3) := by decide +kernel
theorem dX8_appendTo_21 : decode cX8_appendTo 21 = .ok (.invokevirtual 35, 3) := by decide +kernel
theorem dX8_appendTo_24 : decode cX8_appendTo 24 = .ok (.pop, 1) := by decide +kernel
theorem dX8_appendTo_25 : decode cX8_appendTo 25 = .ok (.iinc 4 1, 3) := by decide +kernel
theorem dX8_appendTo_28 : decode cX8_appendTo 28 = .ok (.goto (-20), 3) := by decide +kernel
theorem dX8_appendTo_31 : decode cX8_appendTo 31 = .ok (.return_, 1) := by decide +kernel
theorem dX8_letterAt_0 : decode cX8_letterAt 0 = .ok (.iconst 5, 1) := by decide +kernel
theorem dX8_letterAt_1 : decode cX8_letterAt 1 = .ok (.lload_n 0, 1) := by decide +kernel
theorem dX8_letterAt_2 : decode cX8_letterAt 2 = .ok (.invokestatic 23, 3) := by decide +kernel
theorem dX8_letterAt_5 : decode cX8_letterAt 5 = .ok (.iconst 1, 1) := by decide +kernel
theorem dX8_letterAt_6 : decode cX8_letterAt 6 = .ok (.isub, 1) := by decide +kernel
theorem dX8_letterAt_7 : decode cX8_letterAt 7 = .ok (.iload_n 2, 1) := by decide +kernel
theorem dX8_letterAt_8 : decode cX8_letterAt 8 = .ok (.isub, 1) := by decide +kernel
theorem dX8_letterAt_9 : decode cX8_letterAt 9 = .ok (.imul, 1) := by decide +kernel
theorem dX8_letterAt_10 : decode cX8_letterAt 10 = .ok (.istore_n 3, 1) := by decide +kernel
theorem dX8_letterAt_11 : decode cX8_letterAt 11 = .ok (.ldc2_w 27, 3) := by decide +kernel
theorem dX8_letterAt_14 : decode cX8_letterAt 14 = .ok (.lload_n 0, 1) := by decide +kernel
theorem dX8_letterAt_15 : decode cX8_letterAt 15 = .ok (.iload_n 3, 1) := by decide +kernel
theorem dX8_letterAt_16 : decode cX8_letterAt 16 = .ok (.lushr, 1) := by decide +kernel
theorem dX8_letterAt_17 : decode cX8_letterAt 17 = .ok (.ldc2_w 29, 3) := by decide +kernel
theorem dX8_letterAt_20 : decode cX8_letterAt 20 = .ok (.land, 1) := by decide +kernel
theorem dX8_letterAt_21 : decode cX8_letterAt 21 = .ok (.ladd, 1) := by decide +kernel
theorem dX8_letterAt_22 : decode cX8_letterAt 22 = .ok (.l2i, 1) := by decide +kernel
theorem dX8_letterAt_23 : decode cX8_letterAt 23 = .ok (.i2c, 1) := by decide +kernel
theorem dX8_letterAt_24 : decode cX8_letterAt 24 = .ok (.ireturn, 1) := by decide +kernel
