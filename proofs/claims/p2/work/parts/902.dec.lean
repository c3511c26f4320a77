set_option maxRecDepth 20000 in
theorem ggJ0_getBytes_840e7_J0_coder_7d493 : GoodIn wsJ0_getBytes_840e7 wsJ0_coder_7d493 := goodIn_r _ [10, 11, 12, 41, 42, 43, 44] rfl (by decide +kernel)
set_option maxRecDepth 20000 in
theorem gJ0_getBytes_840e7_J0_coder_7d493 : GoodIn wsJ0_getBytes_840e7 (wsV RJ0 335 RJ0 yJ0_coder_7d493 wsJ0_coder_7d493) := goodIn_app (goodIn_r _ [6, 7, 8, 9] rfl (by decide +kernel)) ggJ0_getBytes_840e7_J0_coder_7d493
set_option maxRecDepth 20000 in
theorem ggJ4_append_15ec4_J5_append_cf1ce : GoodIn wsJ4_append_15ec4 wsJ5_append_cf1ce := goodIn_r _ [6, 7, 8, 9, 10, 11, 5, 12, 13, 14, 15, 16, 17, 18, 19, 20, 21, 22, 23, 24, 25, 26, 27, 28, 29, 30, 31, 32, 33, 34, 35, 36, 37, 38, 39, 40, 41, 42, 43, 44, 45, 46, 47, 48, 49, 50, 51, 52, 53, 54, 55, 56, 57, 58, 59, 60, 61, 62, 63, 64, 65, 66, 67, 68, 69, 70, 71, 72, 73, 74, 75, 76, 77, 78, 79, 80, 81, 82, 83, 84, 85, 86, 87, 88, 89, 90, 91, 92, 93, 94, 95, 96, 97, 98, 99, 100, 101, 102, 103, 104, 105, 106, 107, 108, 109, 110, 111, 112, 113, 114, 115, 116, 117, 118, 119, 120, 121, 122, 123, 124, 125, 126, 127, 128, 129, 130, 131, 132, 133, 134, 135, 136, 137, 138, 139, 140, 141, 142, 143, 144, 145, 146, 147, 148, 149, 150] rfl (by decide +kernel)
set_option maxRecDepth 20000 in
theorem gJ4_append_15ec4_J5_append_cf1ce_s29 : GoodIn wsJ4_append_15ec4 (va_wsSU RJ4 29 yJ5_append_cf1ce wsJ5_append_cf1ce) := goodIn_app (goodIn_of _ (by decide +kernel)) ggJ4_append_15ec4_J5_append_cf1ce
set_option maxRecDepth 20000 in
theorem ggJ4_append_bf812_J5_append_c97b9 : GoodIn wsJ4_append_bf812 wsJ5_append_c97b9 := goodIn_r _ [6, 7, 8, 9, 10, 11, 12, 13, 14, 15, 16, 5, 17, 18, 19, 20, 21, 22, 23, 24, 25, 26, 27, 28, 29, 30, 31, 32, 33, 34, 35, 36, 37, 38, 39, 40, 41, 42, 43, 44, 45, 46, 47, 48, 49, 50, 51, 52, 53, 54, 55, 56, 57, 58, 59, 60, 61, 62, 63, 64, 65, 66, 67, 68, 69, 70, 71, 72, 73, 74, 75, 76, 77, 78, 79, 80, 81, 82, 83, 84, 85, 86, 87, 88, 89, 90, 91, 92, 93, 94, 95, 96, 97, 98, 99] rfl (by decide +kernel)
set_option maxRecDepth 20000 in
theorem gJ4_append_bf812_J5_append_c97b9_s53 : GoodIn wsJ4_append_bf812 (va_wsSU RJ4 53 yJ5_append_c97b9 wsJ5_append_c97b9) := goodIn_app (goodIn_of _ (by decide +kernel)) ggJ4_append_bf812_J5_append_c97b9
set_option maxRecDepth 20000 in
theorem ggJ4_append_cf468_J5_append_3fe6f : GoodIn wsJ4_append_cf468 wsJ5_append_3fe6f := goodIn_r _ [6, 7, 8, 9, 10, 11, 12, 5, 13, 14, 15, 16, 17, 18, 19, 20, 21, 22, 23, 24, 25, 26, 27, 28, 29, 30, 31, 32, 33, 34, 35, 36, 37, 38, 39, 40, 41, 42, 43, 44, 45, 46, 47, 48, 49, 50, 51, 52, 53, 54, 55, 56, 57, 58, 59, 60, 61, 62, 63, 64, 65, 66, 67, 68, 69, 70, 71, 72, 73, 74, 75, 76, 77, 78, 79, 80, 81, 82, 83, 84, 85, 86, 87, 88, 89, 90, 91, 92, 93, 94, 95, 96, 97, 98, 99, 100, 101, 102, 103, 104, 105, 106, 107, 108, 109, 110, 111, 112, 113, 114, 115, 116] rfl (by decide +kernel)
set_option maxRecDepth 20000 in
theorem gJ4_append_cf468_J5_append_3fe6f_s50 : GoodIn wsJ4_append_cf468 (va_wsSU RJ4 50 yJ5_append_3fe6f wsJ5_append_3fe6f) := goodIn_app (goodIn_of _ (by decide +kernel)) ggJ4_append_cf468_J5_append_3fe6f
set_option maxRecDepth 20000 in
theorem ggJ4_charAt_5068e_J5_charAt_5068e : GoodIn wsJ4_charAt_5068e wsJ5_charAt_5068e := goodIn_r _ [6, 7, 8, 9, 10, 11, 12, 13, 14, 15, 16, 17, 18, 19, 20, 21, 22, 23, 24, 25, 26, 27, 28, 29, 30, 31, 32, 33, 34, 35, 36] rfl (by decide +kernel)
set_option maxRecDepth 20000 in
theorem gJ4_charAt_5068e_J5_charAt_5068e_s329 : GoodIn wsJ4_charAt_5068e (va_wsSU RJ4 329 yJ5_charAt_5068e wsJ5_charAt_5068e) := goodIn_app (goodIn_of _ (by decide +kernel)) ggJ4_charAt_5068e_J5_charAt_5068e
set_option maxRecDepth 20000 in
theorem ggJ4_length_8abf5_J5_length_8abf5 : GoodIn wsJ4_length_8abf5 wsJ5_length_8abf5 := goodIn_r _ [6, 7, 8, 9, 10, 11] rfl (by decide +kernel)
set_option maxRecDepth 20000 in
theorem gJ4_length_8abf5_J5_length_8abf5_s343 : GoodIn wsJ4_length_8abf5 (va_wsSU RJ4 343 yJ5_length_8abf5 wsJ5_length_8abf5) := goodIn_app (goodIn_of _ (by decide +kernel)) ggJ4_length_8abf5_J5_length_8abf5
set_option maxRecDepth 20000 in
theorem ggJ4_setLength_d00df_J5_setLength_d00df : GoodIn wsJ4_setLength_d00df wsJ5_setLength_d00df := goodIn_r _ [6, 7, 8, 9, 10, 11, 12, 13, 14, 15, 16, 5, 17, 18, 19, 20, 21, 22, 23, 24, 25, 26, 27, 28, 29, 30, 31, 32, 33, 34, 35, 36, 37, 38, 39, 40, 41, 42, 43, 44, 45, 46, 47, 48, 49, 50, 51, 52, 53, 54, 55, 56, 57, 58, 59, 60, 61, 62, 63, 64, 65, 66, 67, 68, 69, 70, 71, 72, 73, 74, 75, 76, 77, 78, 79, 80, 81, 82, 83, 84, 85, 86, 87, 88, 89, 90, 91, 92, 93, 94, 95, 96, 97] rfl (by decide +kernel)
set_option maxRecDepth 20000 in
theorem gJ4_setLength_d00df_J5_setLength_d00df_s333 : GoodIn wsJ4_setLength_d00df (va_wsSU RJ4 333 yJ5_setLength_d00df wsJ5_setLength_d00df) := goodIn_app (goodIn_of _ (by decide +kernel)) ggJ4_setLength_d00df_J5_setLength_d00df
set_option maxRecDepth 20000 in
theorem ggJ5_append_3fe6f_J1_canEncode_fc78d : GoodIn wsJ5_append_3fe6f wsJ1_canEncode_fc78d := goodIn_r _ [55] rfl (by decide +kernel)
set_option maxRecDepth 20000 in
theorem gJ5_append_3fe6f_J1_canEncode_fc78d : GoodIn wsJ5_append_3fe6f (va_wsS RJ5 191 yJ1_canEncode_fc78d wsJ1_canEncode_fc78d) := goodIn_app (goodIn_r _ [52, 53, 54] rfl (by decide +kernel)) ggJ5_append_3fe6f_J1_canEncode_fc78d
set_option maxRecDepth 20000 in
theorem ggJ5_append_3fe6f_J5_ensureCapacityInternal_d00df : GoodIn wsJ5_append_3fe6f wsJ5_ensureCapacityInternal_d00df := goodIn_r _ [8, 2, 9, 10, 11, 12, 13, 7, 14, 15, 16, 17, 18, 19, 20, 21, 22, 23, 24, 25, 26, 27, 28, 29, 30, 31, 32, 33, 34, 35, 36, 37, 38, 39, 40, 41, 42, 43, 44, 45, 108, 109, 110, 111] rfl (by decide +kernel)
set_option maxRecDepth 20000 in
theorem gJ5_append_3fe6f_J5_ensureCapacityInternal_d00df_u100J4 : GoodIn wsJ5_append_3fe6f (va_wsU RJ5 100 RJ4 "java/lang/AbstractStringBuilder" ⟨"java/lang/AbstractStringBuilder", "ensureCapacityInternal", "(I)V"⟩ yJ5_ensureCapacityInternal_d00df wsJ5_ensureCapacityInternal_d00df) := goodIn_app (goodIn_of _ (by decide +kernel)) ggJ5_append_3fe6f_J5_ensureCapacityInternal_d00df
set_option maxRecDepth 20000 in
theorem ggJ5_append_3fe6f_J5_isLatin1_aae02 : GoodIn wsJ5_append_3fe6f wsJ5_isLatin1_aae02 := goodIn_r _ [50, 51, 9, 108, 109, 110, 111] rfl (by decide +kernel)
set_option maxRecDepth 20000 in
theorem gJ5_append_3fe6f_J5_isLatin1_aae02_u83J4 : GoodIn wsJ5_append_3fe6f (va_wsU RJ5 83 RJ4 "java/lang/AbstractStringBuilder" ⟨"java/lang/AbstractStringBuilder", "isLatin1", "()Z"⟩ yJ5_isLatin1_aae02 wsJ5_isLatin1_aae02) := goodIn_app (goodIn_of _ (by decide +kernel)) ggJ5_append_3fe6f_J5_isLatin1_aae02
set_option maxRecDepth 20000 in
theorem ggJ5_append_c97b9_J5_ensureCapacityInternal_d00df : GoodIn wsJ5_append_c97b9 wsJ5_ensureCapacityInternal_d00df := goodIn_r _ [12, 2, 13, 14, 15, 16, 17, 11, 18, 19, 20, 21, 22, 23, 24, 25, 26, 27, 28, 29, 30, 31, 32, 33, 34, 35, 36, 37, 38, 39, 40, 41, 42, 43, 44, 45, 46, 47, 48, 49, 91, 92, 93, 94] rfl (by decide +kernel)
set_option maxRecDepth 20000 in
theorem gJ5_append_c97b9_J5_ensureCapacityInternal_d00df_u100J4 : GoodIn wsJ5_append_c97b9 (va_wsU RJ5 100 RJ4 "java/lang/AbstractStringBuilder" ⟨"java/lang/AbstractStringBuilder", "ensureCapacityInternal", "(I)V"⟩ yJ5_ensureCapacityInternal_d00df wsJ5_ensureCapacityInternal_d00df) := goodIn_app (goodIn_of _ (by decide +kernel)) ggJ5_append_c97b9_J5_ensureCapacityInternal_d00df
set_option maxRecDepth 20000 in
theorem ggJ5_append_c97b9_J5_isLatin1_aae02 : GoodIn wsJ5_append_c97b9 wsJ5_isLatin1_aae02 := goodIn_r _ [54, 55, 13, 91, 92, 93, 94] rfl (by decide +kernel)
set_option maxRecDepth 20000 in
theorem gJ5_append_c97b9_J5_isLatin1_aae02_u83J4 : GoodIn wsJ5_append_c97b9 (va_wsU RJ5 83 RJ4 "java/lang/AbstractStringBuilder" ⟨"java/lang/AbstractStringBuilder", "isLatin1", "()Z"⟩ yJ5_isLatin1_aae02 wsJ5_isLatin1_aae02) := goodIn_app (goodIn_of _ (by decide +kernel)) ggJ5_append_c97b9_J5_isLatin1_aae02
set_option maxRecDepth 20000 in
theorem ggJ5_append_c97b9_J6_getChars_ba4f3 : GoodIn wsJ5_append_c97b9 wsJ6_getChars_ba4f3 := goodIn_r _ [58, 59, 60] rfl (by decide +kernel)
set_option maxRecDepth 20000 in
theorem gJ5_append_c97b9_J6_getChars_ba4f3 : GoodIn wsJ5_append_c97b9 (va_wsS RJ5 248 yJ6_getChars_ba4f3 wsJ6_getChars_ba4f3) := goodIn_app (goodIn_r _ [56, 57, 5] rfl (by decide +kernel)) ggJ5_append_c97b9_J6_getChars_ba4f3
set_option maxRecDepth 20000 in
theorem ggJ5_append_c97b9_J6_stringSize_0f7a4 : GoodIn wsJ5_append_c97b9 wsJ6_stringSize_0f7a4 := goodIn_r _ [6] rfl (by decide +kernel)
set_option maxRecDepth 20000 in
theorem gJ5_append_c97b9_J6_stringSize_0f7a4 : GoodIn wsJ5_append_c97b9 (va_wsS RJ5 245 yJ6_stringSize_0f7a4 wsJ6_stringSize_0f7a4) := goodIn_app (goodIn_r _ [3, 4, 5] rfl (by decide +kernel)) ggJ5_append_c97b9_J6_stringSize_0f7a4
set_option maxRecDepth 20000 in
theorem ggJ5_append_cf1ce_J0_length_8abf5 : GoodIn wsJ5_append_cf1ce wsJ0_length_8abf5 := goodIn_r _ [85, 86, 87, 88, 89, 70, 90, 91, 92, 142, 143, 144, 145] rfl (by decide +kernel)
set_option maxRecDepth 20000 in
theorem gJ5_append_cf1ce_J0_length_8abf5 : GoodIn wsJ5_append_cf1ce (wsV RJ5 32 RJ0 yJ0_length_8abf5 wsJ0_length_8abf5) := goodIn_app (goodIn_r _ [82, 83, 84, 70] rfl (by decide +kernel)) ggJ5_append_cf1ce_J0_length_8abf5
set_option maxRecDepth 20000 in
theorem ggJ5_append_cf1ce_J5_ensureCapacityInternal_d00df : GoodIn wsJ5_append_cf1ce wsJ5_ensureCapacityInternal_d00df := goodIn_r _ [13, 8, 14, 15, 16, 17, 18, 6, 19, 20, 21, 22, 23, 24, 25, 26, 27, 28, 29, 30, 31, 32, 33, 34, 35, 36, 37, 38, 39, 40, 41, 42, 43, 44, 45, 46, 47, 48, 49, 50, 138, 139, 140, 141] rfl (by decide +kernel)
set_option maxRecDepth 20000 in
theorem gJ5_append_cf1ce_J5_ensureCapacityInternal_d00df_u100J4 : GoodIn wsJ5_append_cf1ce (va_wsU RJ5 100 RJ4 "java/lang/AbstractStringBuilder" ⟨"java/lang/AbstractStringBuilder", "ensureCapacityInternal", "(I)V"⟩ yJ5_ensureCapacityInternal_d00df wsJ5_ensureCapacityInternal_d00df) := goodIn_app (goodIn_of _ (by decide +kernel)) ggJ5_append_cf1ce_J5_ensureCapacityInternal_d00df
set_option maxRecDepth 20000 in
theorem ggJ5_append_cf1ce_J5_putStringAt_47b60 : GoodIn wsJ5_append_cf1ce wsJ5_putStringAt_47b60 := goodIn_r _ [97, 8, 14, 98, 99, 100, 101, 6, 102, 56, 103, 88, 89, 70, 90, 91, 92, 104, 105, 106, 107, 108, 1, 51, 52, 53, 54, 55, 109, 110, 59, 111, 43, 112, 113, 114, 115, 116, 117, 118, 119, 120, 121, 122, 123, 124, 125, 65, 66, 67, 126, 127, 128, 72, 129, 130, 75, 131, 77, 78, 79, 61, 80, 81, 132, 133, 134, 135, 86, 136, 48, 49, 50, 87, 137, 138, 139, 140, 141, 142, 143, 144, 145] rfl (by decide +kernel)
set_option maxRecDepth 20000 in
theorem gJ5_append_cf1ce_J5_putStringAt_47b60_u208J4 : GoodIn wsJ5_append_cf1ce (va_wsU RJ5 208 RJ4 "java/lang/AbstractStringBuilder" ⟨"java/lang/AbstractStringBuilder", "putStringAt", "(ILjava/lang/String;)V"⟩ yJ5_putStringAt_47b60 wsJ5_putStringAt_47b60) := goodIn_app (goodIn_of _ (by decide +kernel)) ggJ5_append_cf1ce_J5_putStringAt_47b60
set_option maxRecDepth 20000 in
theorem ggJ5_charAt_5068e_J0_checkIndex_df160 : GoodIn wsJ5_charAt_5068e wsJ0_checkIndex_df160 := goodIn_r _ [11, 12, 13, 14, 15, 16] rfl (by decide +kernel)
set_option maxRecDepth 20000 in
theorem gJ5_charAt_5068e_J0_checkIndex_df160 : GoodIn wsJ5_charAt_5068e (va_wsS RJ5 144 yJ0_checkIndex_df160 wsJ0_checkIndex_df160) := goodIn_app (goodIn_r _ [8, 9, 10] rfl (by decide +kernel)) ggJ5_charAt_5068e_J0_checkIndex_df160
set_option maxRecDepth 20000 in
theorem ggJ5_ensureCapacityInternal_d00df_J5_newCapacity_0f7a4 : GoodIn wsJ5_ensureCapacityInternal_d00df wsJ5_newCapacity_0f7a4 := goodIn_r _ [8, 1, 2, 9, 10, 11, 12, 13, 14, 15, 16, 17, 18, 19, 20, 21, 40, 41, 42, 43] rfl (by decide +kernel)
set_option maxRecDepth 20000 in
theorem gJ5_ensureCapacityInternal_d00df_J5_newCapacity_0f7a4_u104J4 : GoodIn wsJ5_ensureCapacityInternal_d00df (va_wsU RJ5 104 RJ4 "java/lang/AbstractStringBuilder" ⟨"java/lang/AbstractStringBuilder", "newCapacity", "(I)I"⟩ yJ5_newCapacity_0f7a4 wsJ5_newCapacity_0f7a4) := goodIn_app (goodIn_of _ (by decide +kernel)) ggJ5_ensureCapacityInternal_d00df_J5_newCapacity_0f7a4
set_option maxRecDepth 20000 in
theorem ggJ5_ensureCapacityInternal_d00df_J7_copyOf_9075b : GoodIn wsJ5_ensureCapacityInternal_d00df wsJ7_copyOf_9075b := goodIn_r _ [25, 26, 27, 28, 29, 30, 31, 32, 33, 34, 16, 35, 36, 37, 38, 39] rfl (by decide +kernel)
set_option maxRecDepth 20000 in
theorem gJ5_ensureCapacityInternal_d00df_J7_copyOf_9075b : GoodIn wsJ5_ensureCapacityInternal_d00df (va_wsS RJ5 108 yJ7_copyOf_9075b wsJ7_copyOf_9075b) := goodIn_app (goodIn_r _ [22, 23, 24] rfl (by decide +kernel)) ggJ5_ensureCapacityInternal_d00df_J7_copyOf_9075b
set_option maxRecDepth 20000 in
theorem ggJ5_inflateIfNeededFor_a7421_J0_coder_7d493 : GoodIn wsJ5_inflateIfNeededFor_a7421 wsJ0_coder_7d493 := goodIn_r _ [7, 8, 9, 63, 64, 65, 66] rfl (by decide +kernel)
set_option maxRecDepth 20000 in
theorem gJ5_inflateIfNeededFor_a7421_J0_coder_7d493 : GoodIn wsJ5_inflateIfNeededFor_a7421 (wsV RJ5 40 RJ0 yJ0_coder_7d493 wsJ0_coder_7d493) := goodIn_app (goodIn_r _ [3, 4, 5, 6] rfl (by decide +kernel)) ggJ5_inflateIfNeededFor_a7421_J0_coder_7d493
set_option maxRecDepth 20000 in
theorem ggJ5_newCapacity_0f7a4_J8_newLength_cabcc : GoodIn wsJ5_newCapacity_0f7a4 wsJ8_newLength_cabcc := goodIn_r _ [7, 8, 9, 10, 11, 12, 13, 14, 6, 15] rfl (by decide +kernel)
set_option maxRecDepth 20000 in
theorem gJ5_newCapacity_0f7a4_J8_newLength_cabcc : GoodIn wsJ5_newCapacity_0f7a4 (va_wsS RJ5 114 yJ8_newLength_cabcc wsJ8_newLength_cabcc) := goodIn_app (goodIn_r _ [4, 5, 6] rfl (by decide +kernel)) ggJ5_newCapacity_0f7a4_J8_newLength_cabcc
set_option maxRecDepth 20000 in
theorem ggJ5_putStringAt_47b60_J0_getBytes_840e7 : GoodIn wsJ5_putStringAt_47b60 wsJ0_getBytes_840e7 := goodIn_r _ [67, 68, 69, 70, 71, 72, 73, 11, 12, 13, 14, 15, 16, 74, 38, 39, 40, 41, 42, 30, 43, 44, 45, 46, 47, 48, 49, 50, 51, 52, 53, 54, 55, 56, 57, 58, 59, 60, 61, 62, 63, 79, 80, 81, 82] rfl (by decide +kernel)
set_option maxRecDepth 20000 in
theorem gJ5_putStringAt_47b60_J0_getBytes_840e7 : GoodIn wsJ5_putStringAt_47b60 (wsV RJ5 399 RJ0 yJ0_getBytes_840e7 wsJ0_getBytes_840e7) := goodIn_app (goodIn_r _ [64, 65, 66, 13] rfl (by decide +kernel)) ggJ5_putStringAt_47b60_J0_getBytes_840e7
set_option maxRecDepth 20000 in
theorem ggJ5_putStringAt_47b60_J5_inflateIfNeededFor_a7421 : GoodIn wsJ5_putStringAt_47b60 wsJ5_inflateIfNeededFor_a7421 := goodIn_r _ [8, 9, 2, 10, 11, 12, 13, 14, 15, 16, 17, 18, 19, 20, 7, 21, 1, 22, 23, 24, 25, 26, 27, 28, 29, 30, 31, 32, 33, 34, 35, 36, 37, 38, 39, 40, 41, 42, 43, 44, 45, 46, 47, 48, 49, 50, 51, 52, 53, 54, 55, 56, 57, 58, 59, 60, 61, 62, 63, 75, 76, 77, 78, 79, 80, 81, 82] rfl (by decide +kernel)
set_option maxRecDepth 20000 in
theorem gJ5_putStringAt_47b60_J5_inflateIfNeededFor_a7421_u397J4 : GoodIn wsJ5_putStringAt_47b60 (va_wsU RJ5 397 RJ4 "java/lang/AbstractStringBuilder" ⟨"java/lang/AbstractStringBuilder", "inflateIfNeededFor", "(Ljava/lang/String;)V"⟩ yJ5_inflateIfNeededFor_a7421 wsJ5_inflateIfNeededFor_a7421) := goodIn_app (goodIn_of _ (by decide +kernel)) ggJ5_putStringAt_47b60_J5_inflateIfNeededFor_a7421
set_option maxRecDepth 20000 in
theorem ggJ5_setLength_d00df_J5_ensureCapacityInternal_d00df : GoodIn wsJ5_setLength_d00df wsJ5_ensureCapacityInternal_d00df := goodIn_r _ [12, 5, 13, 14, 15, 16, 17, 11, 18, 19, 20, 21, 22, 23, 24, 25, 26, 27, 28, 29, 30, 31, 32, 33, 34, 35, 36, 37, 38, 39, 40, 41, 42, 43, 44, 45, 46, 47, 48, 49, 83, 84, 85, 86] rfl (by decide +kernel)
set_option maxRecDepth 20000 in
theorem gJ5_setLength_d00df_J5_ensureCapacityInternal_d00df_u100J4 : GoodIn wsJ5_setLength_d00df (va_wsU RJ5 100 RJ4 "java/lang/AbstractStringBuilder" ⟨"java/lang/AbstractStringBuilder", "ensureCapacityInternal", "(I)V"⟩ yJ5_ensureCapacityInternal_d00df wsJ5_ensureCapacityInternal_d00df) := goodIn_app (goodIn_of _ (by decide +kernel)) ggJ5_setLength_d00df_J5_ensureCapacityInternal_d00df
set_option maxRecDepth 20000 in
theorem ggX10_advance_X10_byteAt : GoodIn wsX10_advance wsX10_byteAt := goodIn_r _ [13, 14, 15, 27, 28, 29, 30, 31, 32, 33, 34, 35, 36, 37, 38, 39, 40, 41, 42, 43, 44, 45, 46, 47, 48, 49, 50, 51, 52, 53, 54, 55, 56, 57, 58, 59, 60, 61, 62, 63, 64, 65] rfl (by decide +kernel)
set_option maxRecDepth 20000 in
theorem gX10_advance_X10_byteAt : GoodIn wsX10_advance (wsV RX10 113 RX10 yX10_byteAt wsX10_byteAt) := goodIn_app (goodIn_r _ [9, 10, 11, 12] rfl (by decide +kernel)) ggX10_advance_X10_byteAt
set_option maxRecDepth 20000 in
theorem ggX10_advance_X10_isDigit : GoodIn wsX10_advance wsX10_isDigit := goodIn_r _ [26] rfl (by decide +kernel)
set_option maxRecDepth 20000 in
theorem gX10_advance_X10_isDigit : GoodIn wsX10_advance (va_wsS RX10 137 yX10_isDigit wsX10_isDigit) := goodIn_app (goodIn_r _ [24, 25, 12] rfl (by decide +kernel)) ggX10_advance_X10_isDigit
set_option maxRecDepth 20000 in
theorem ggX10_advance_X10_isLetter : GoodIn wsX10_advance wsX10_isLetter := goodIn_r _ [18] rfl (by decide +kernel)
set_option maxRecDepth 20000 in
theorem gX10_advance_X10_isLetter : GoodIn wsX10_advance (va_wsS RX10 129 yX10_isLetter wsX10_isLetter) := goodIn_app (goodIn_r _ [16, 17, 12] rfl (by decide +kernel)) ggX10_advance_X10_isLetter
set_option maxRecDepth 20000 in
theorem ggX10_advance_X10_keywordOf : GoodIn wsX10_advance wsX10_keywordOf := goodIn_r _ [22, 23, 27, 28, 29, 30, 31, 32, 33, 34, 35, 36, 37, 38, 39, 40, 41, 42, 43, 44, 45, 46, 47, 48, 49, 50, 51, 52, 53, 54, 55, 56, 57, 58, 59, 60, 61, 62, 63, 64, 65] rfl (by decide +kernel)
set_option maxRecDepth 20000 in
theorem gX10_advance_X10_keywordOf : GoodIn wsX10_advance (wsV RX10 133 RX10 yX10_keywordOf wsX10_keywordOf) := goodIn_app (goodIn_r _ [19, 20, 21, 12] rfl (by decide +kernel)) ggX10_advance_X10_keywordOf
set_option maxRecDepth 20000 in
theorem ggX10_both_X10_advance : GoodIn wsX10_both wsX10_advance := goodIn_r _ [14, 15, 16, 10, 17, 9, 18, 19, 20, 21, 22, 23, 4, 24, 25, 26, 27, 28, 29, 30, 31, 32, 33, 34, 35, 36, 37, 112, 113, 114, 115, 116, 117, 118, 119, 120, 121, 122, 123, 124, 125, 126, 127, 128, 129, 130, 131, 132, 133, 134, 135, 136, 137, 138, 139, 140, 141, 142, 143, 144, 145, 146, 147, 148, 149, 150] rfl (by decide +kernel)
set_option maxRecDepth 20000 in
theorem gX10_both_X10_advance : GoodIn wsX10_both (wsV RX10 159 RX10 yX10_advance wsX10_advance) := goodIn_app (goodIn_r _ [11, 12, 13, 4] rfl (by decide +kernel)) ggX10_both_X10_advance
set_option maxRecDepth 20000 in
theorem ggX10_both_X10_emit : GoodIn wsX10_both wsX10_emit := goodIn_r _ [41, 42, 43, 112, 113, 114, 115, 116, 117, 118, 119, 120, 121, 122, 123, 124, 125, 126, 127, 128, 129, 130, 131, 132, 133, 134, 135, 136, 137, 138, 139, 140, 141, 142, 143, 144, 145, 146, 147, 148, 149, 150] rfl (by decide +kernel)
set_option maxRecDepth 20000 in
theorem gX10_both_X10_emit : GoodIn wsX10_both (wsV RX10 176 RX10 yX10_emit wsX10_emit) := goodIn_app (goodIn_r _ [38, 39, 40, 4] rfl (by decide +kernel)) ggX10_both_X10_emit
set_option maxRecDepth 20000 in
theorem ggX10_both_X10_fact : GoodIn wsX10_both wsX10_fact := goodIn_r _ [67, 9, 10, 68, 59, 60, 61, 4, 62, 26, 16, 69, 70, 71, 50, 51, 52, 53, 54, 55, 72, 73, 74, 75, 76, 77, 78, 79, 80, 11, 12, 13, 14, 15, 17, 18, 19, 20, 21, 22, 23, 24, 25, 27, 28, 29, 30, 31, 32, 33, 34, 35, 36, 37, 81, 82, 83, 84, 85, 86, 87, 38, 39, 40, 41, 42, 43, 88, 89, 90, 91, 92, 93, 94, 95, 96, 97, 98, 99, 100, 101, 102, 103, 104, 105, 106, 107, 108, 109, 110, 0, 1, 2, 3, 5, 6, 7, 8, 44, 45, 46, 47, 48, 49, 56, 57, 58, 63, 64, 65, 66, 111, 112, 113, 114, 115, 116, 117, 118, 119, 120, 121, 122, 123, 124, 125, 126, 127, 128, 129, 130, 131, 132, 133, 134, 135, 136, 137, 138, 139, 140, 141, 142, 143, 144, 145, 146, 147, 148, 149, 150] rfl (by decide +kernel)
set_option maxRecDepth 20000 in
theorem gX10_both_X10_fact : GoodIn wsX10_both (wsV RX10 179 RX10 yX10_fact wsX10_fact) := goodIn_app (goodIn_r _ [1, 2, 3, 4] rfl (by decide +kernel)) ggX10_both_X10_fact
set_option maxRecDepth 20000 in
theorem ggX10_both_X10_isKeyword : GoodIn wsX10_both wsX10_isKeyword := goodIn_r _ [8, 9, 10, 112, 113, 114, 115, 116, 117, 118, 119, 120, 121, 122, 123, 124, 125, 126, 127, 128, 129, 130, 131, 132, 133, 134, 135, 136, 137, 138, 139, 140, 141, 142, 143, 144, 145, 146, 147, 148, 149, 150] rfl (by decide +kernel)
set_option maxRecDepth 20000 in
theorem gX10_both_X10_isKeyword : GoodIn wsX10_both (wsV RX10 173 RX10 yX10_isKeyword wsX10_isKeyword) := goodIn_app (goodIn_r _ [5, 6, 7, 4] rfl (by decide +kernel)) ggX10_both_X10_isKeyword
set_option maxRecDepth 20000 in
theorem ggX10_bracket_X10_advance : GoodIn wsX10_bracket wsX10_advance := goodIn_r _ [18, 19, 13, 20, 21, 11, 22, 23, 24, 25, 26, 27, 5, 28, 29, 30, 31, 32, 33, 34, 35, 36, 37, 38, 39, 40, 41, 112, 113, 114, 115, 116, 117, 118, 119, 120, 121, 122, 123, 124, 125, 126, 127, 128, 129, 130, 131, 132, 133, 134, 135, 136, 137, 138, 139, 140, 141, 142, 143, 144, 145, 146, 147, 148, 149, 150] rfl (by decide +kernel)
set_option maxRecDepth 20000 in
theorem gX10_bracket_X10_advance : GoodIn wsX10_bracket (wsV RX10 159 RX10 yX10_advance wsX10_advance) := goodIn_app (goodIn_r _ [15, 16, 17, 5] rfl (by decide +kernel)) ggX10_bracket_X10_advance
set_option maxRecDepth 20000 in
theorem ggX10_bracket_X10_condition : GoodIn wsX10_bracket wsX10_condition := goodIn_r _ [63, 64, 65, 66, 5, 53, 54, 55, 56, 11, 20, 15, 16, 17, 18, 19, 13, 21, 22, 23, 24, 25, 26, 27, 28, 29, 30, 31, 32, 33, 34, 35, 36, 37, 38, 39, 40, 41, 57, 58, 59, 60, 61, 62, 49, 50, 51, 52, 0, 1, 2, 3, 4, 6, 7, 8, 9, 10, 12, 14, 42, 43, 44, 45, 46, 47, 48, 67, 68, 69, 70, 71, 72, 73, 74, 75, 76, 77, 78, 79, 80, 81, 82, 83, 84, 85, 86, 87, 88, 89, 90, 91, 92, 93, 94, 95, 96, 97, 98, 99, 100, 101, 102, 103, 104, 105, 106, 107, 108, 109, 110, 111, 112, 113, 114, 115, 116, 117, 118, 119, 120, 121, 122, 123, 124, 125, 126, 127, 128, 129, 130, 131, 132, 133, 134, 135, 136, 137, 138, 139, 140, 141, 142, 143, 144, 145, 146, 147, 148, 149, 150] rfl (by decide +kernel)
set_option maxRecDepth 20000 in
theorem gX10_bracket_X10_condition : GoodIn wsX10_bracket (wsV RX10 188 RX10 yX10_condition wsX10_condition) := goodIn_app (goodIn_r _ [42, 43, 44, 5] rfl (by decide +kernel)) ggX10_bracket_X10_condition
set_option maxRecDepth 20000 in
theorem ggX10_bracket_X10_fail : GoodIn wsX10_bracket wsX10_fail := goodIn_r _ [10, 11, 12, 13, 14, 112, 113, 114, 115, 116, 117, 118, 119, 120, 121, 122, 123, 124, 125, 126, 127, 128, 129, 130, 131, 132, 133, 134, 135, 136, 137, 138, 139, 140, 141, 142, 143, 144, 145, 146, 147, 148, 149, 150] rfl (by decide +kernel)
set_option maxRecDepth 20000 in
theorem gX10_bracket_X10_fail : GoodIn wsX10_bracket (wsV RX10 149 RX10 yX10_fail wsX10_fail) := goodIn_app (goodIn_r _ [7, 8, 9, 5] rfl (by decide +kernel)) ggX10_bracket_X10_fail
set_option maxRecDepth 20000 in
theorem ggX10_bracket_X10_isSymbol : GoodIn wsX10_bracket wsX10_isSymbol := goodIn_r _ [48, 11, 30, 13, 112, 113, 114, 115, 116, 117, 118, 119, 120, 121, 122, 123, 124, 125, 126, 127, 128, 129, 130, 131, 132, 133, 134, 135, 136, 137, 138, 139, 140, 141, 142, 143, 144, 145, 146, 147, 148, 149, 150] rfl (by decide +kernel)
set_option maxRecDepth 20000 in
theorem gX10_bracket_X10_isSymbol : GoodIn wsX10_bracket (wsV RX10 191 RX10 yX10_isSymbol wsX10_isSymbol) := goodIn_app (goodIn_r _ [45, 46, 47, 5] rfl (by decide +kernel)) ggX10_bracket_X10_isSymbol
set_option maxRecDepth 20000 in
theorem ggX10_bracket_X10_opens : GoodIn wsX10_bracket wsX10_opens := goodIn_r _ [6, 1, 7, 8, 9, 5, 10, 11, 12, 13, 14, 15, 16, 17, 18, 19, 20, 21, 22, 23, 24, 25, 26, 27, 28, 29, 30, 31, 32, 33, 34, 35, 36, 37, 38, 39, 40, 41, 112, 113, 114, 115, 116, 117, 118, 119, 120, 121, 122, 123, 124, 125, 126, 127, 128, 129, 130, 131, 132, 133, 134, 135, 136, 137, 138, 139, 140, 141, 142, 143, 144, 145, 146, 147, 148, 149, 150] rfl (by decide +kernel)
set_option maxRecDepth 20000 in
theorem gX10_bracket_X10_opens : GoodIn wsX10_bracket (wsV RX10 185 RX10 yX10_opens wsX10_opens) := goodIn_app (goodIn_r _ [2, 3, 4, 5] rfl (by decide +kernel)) ggX10_bracket_X10_opens
set_option maxRecDepth 20000 in
theorem ggX10_closed_X10_advance : GoodIn wsX10_closed wsX10_advance := goodIn_r _ [12, 13, 8, 14, 15, 6, 16, 17, 18, 19, 20, 21, 4, 22, 23, 7, 24, 25, 26, 27, 28, 29, 30, 31, 32, 33, 34, 41, 42, 43, 44, 45, 46, 47, 48, 49, 50, 51, 52, 53, 54, 55, 56, 57, 58, 59, 60, 61, 62, 63, 64, 65, 66, 67, 68, 69, 70, 71, 72, 73, 74, 75, 76, 77, 78, 79] rfl (by decide +kernel)
set_option maxRecDepth 20000 in
theorem gX10_closed_X10_advance : GoodIn wsX10_closed (wsV RX10 159 RX10 yX10_advance wsX10_advance) := goodIn_app (goodIn_r _ [9, 10, 11, 4] rfl (by decide +kernel)) ggX10_closed_X10_advance
set_option maxRecDepth 20000 in
theorem ggX10_closed_X10_fail : GoodIn wsX10_closed wsX10_fail := goodIn_r _ [38, 6, 39, 8, 40, 41, 42, 43, 44, 45, 46, 47, 48, 49, 50, 51, 52, 53, 54, 55, 56, 57, 58, 59, 60, 61, 62, 63, 64, 65, 66, 67, 68, 69, 70, 71, 72, 73, 74, 75, 76, 77, 78, 79] rfl (by decide +kernel)
set_option maxRecDepth 20000 in
theorem gX10_closed_X10_fail : GoodIn wsX10_closed (wsV RX10 149 RX10 yX10_fail wsX10_fail) := goodIn_app (goodIn_r _ [35, 36, 37, 4] rfl (by decide +kernel)) ggX10_closed_X10_fail
set_option maxRecDepth 20000 in
theorem ggX10_closed_X10_isSymbol : GoodIn wsX10_closed wsX10_isSymbol := goodIn_r _ [5, 6, 7, 8, 41, 42, 43, 44, 45, 46, 47, 48, 49, 50, 51, 52, 53, 54, 55, 56, 57, 58, 59, 60, 61, 62, 63, 64, 65, 66, 67, 68, 69, 70, 71, 72, 73, 74, 75, 76, 77, 78, 79] rfl (by decide +kernel)
set_option maxRecDepth 20000 in
theorem gX10_closed_X10_isSymbol : GoodIn wsX10_closed (wsV RX10 191 RX10 yX10_isSymbol wsX10_isSymbol) := goodIn_app (goodIn_r _ [1, 2, 3, 4] rfl (by decide +kernel)) ggX10_closed_X10_isSymbol
set_option maxRecDepth 20000 in
theorem ggX10_condition_X10_advance : GoodIn wsX10_condition wsX10_advance := goodIn_r _ [14, 15, 16, 10, 17, 9, 18, 19, 20, 21, 22, 23, 4, 24, 25, 26, 27, 28, 29, 30, 31, 32, 33, 34, 35, 36, 37, 112, 113, 114, 115, 116, 117, 118, 119, 120, 121, 122, 123, 124, 125, 126, 127, 128, 129, 130, 131, 132, 133, 134, 135, 136, 137, 138, 139, 140, 141, 142, 143, 144, 145, 146, 147, 148, 149, 150] rfl (by decide +kernel)
set_option maxRecDepth 20000 in
theorem gX10_condition_X10_advance : GoodIn wsX10_condition (wsV RX10 159 RX10 yX10_advance wsX10_advance) := goodIn_app (goodIn_r _ [11, 12, 13, 4] rfl (by decide +kernel)) ggX10_condition_X10_advance
set_option maxRecDepth 20000 in
theorem ggX10_condition_X10_both : GoodIn wsX10_condition wsX10_both := goodIn_r _ [44, 45, 46, 47, 4, 5, 6, 7, 8, 9, 10, 11, 12, 13, 14, 15, 16, 17, 18, 19, 20, 21, 22, 23, 24, 25, 26, 27, 28, 29, 30, 31, 32, 33, 34, 35, 36, 37, 38, 39, 40, 41, 42, 43, 48, 49, 50, 51, 52, 53, 54, 55, 56, 57, 58, 59, 60, 61, 62, 63, 64, 65, 66, 0, 1, 2, 3, 67, 68, 69, 70, 71, 72, 73, 74, 75, 76, 77, 78, 79, 80, 81, 82, 83, 84, 85, 86, 87, 88, 89, 90, 91, 92, 93, 94, 95, 96, 97, 98, 99, 100, 101, 102, 103, 104, 105, 106, 107, 108, 109, 110, 111, 112, 113, 114, 115, 116, 117, 118, 119, 120, 121, 122, 123, 124, 125, 126, 127, 128, 129, 130, 131, 132, 133, 134, 135, 136, 137, 138, 139, 140, 141, 142, 143, 144, 145, 146, 147, 148, 149, 150] rfl (by decide +kernel)
set_option maxRecDepth 20000 in
theorem gX10_condition_X10_both : GoodIn wsX10_condition (wsV RX10 170 RX10 yX10_both wsX10_both) := goodIn_app (goodIn_r _ [1, 2, 3, 4] rfl (by decide +kernel)) ggX10_condition_X10_both
set_option maxRecDepth 20000 in
theorem ggX10_condition_X10_emit : GoodIn wsX10_condition wsX10_emit := goodIn_r _ [41, 42, 43, 112, 113, 114, 115, 116, 117, 118, 119, 120, 121, 122, 123, 124, 125, 126, 127, 128, 129, 130, 131, 132, 133, 134, 135, 136, 137, 138, 139, 140, 141, 142, 143, 144, 145, 146, 147, 148, 149, 150] rfl (by decide +kernel)
set_option maxRecDepth 20000 in
theorem gX10_condition_X10_emit : GoodIn wsX10_condition (wsV RX10 176 RX10 yX10_emit wsX10_emit) := goodIn_app (goodIn_r _ [38, 39, 40, 4] rfl (by decide +kernel)) ggX10_condition_X10_emit
set_option maxRecDepth 20000 in
theorem ggX10_condition_X10_isKeyword : GoodIn wsX10_condition wsX10_isKeyword := goodIn_r _ [8, 9, 10, 112, 113, 114, 115, 116, 117, 118, 119, 120, 121, 122, 123, 124, 125, 126, 127, 128, 129, 130, 131, 132, 133, 134, 135, 136, 137, 138, 139, 140, 141, 142, 143, 144, 145, 146, 147, 148, 149, 150] rfl (by decide +kernel)
set_option maxRecDepth 20000 in
theorem gX10_condition_X10_isKeyword : GoodIn wsX10_condition (wsV RX10 173 RX10 yX10_isKeyword wsX10_isKeyword) := goodIn_app (goodIn_r _ [5, 6, 7, 4] rfl (by decide +kernel)) ggX10_condition_X10_isKeyword
set_option maxRecDepth 20000 in
theorem ggX10_depositStatement_X10_advance : GoodIn wsX10_depositStatement wsX10_advance := goodIn_r _ [17, 18, 12, 19, 20, 10, 21, 22, 23, 24, 25, 26, 8, 27, 28, 29, 30, 31, 32, 33, 34, 35, 36, 37, 38, 39, 40, 51, 52, 53, 54, 55, 56, 57, 58, 59, 60, 61, 62, 63, 64, 65, 66, 67, 68, 69, 70, 71, 72, 73, 74, 75, 76, 77, 78, 79, 80, 81, 82, 83, 84, 85, 86, 87, 88, 89] rfl (by decide +kernel)
set_option maxRecDepth 20000 in
theorem gX10_depositStatement_X10_advance : GoodIn wsX10_depositStatement (wsV RX10 159 RX10 yX10_advance wsX10_advance) := goodIn_app (goodIn_r _ [14, 15, 16, 8] rfl (by decide +kernel)) ggX10_depositStatement_X10_advance
set_option maxRecDepth 20000 in
theorem ggX10_depositStatement_X10_enter : GoodIn wsX10_depositStatement wsX10_enter := goodIn_r _ [50] rfl (by decide +kernel)
set_option maxRecDepth 20000 in
theorem gX10_depositStatement_X10_enter : GoodIn wsX10_depositStatement (va_wsS RX10 229 yX10_enter wsX10_enter) := goodIn_app (goodIn_r _ [48, 49, 8] rfl (by decide +kernel)) ggX10_depositStatement_X10_enter
set_option maxRecDepth 20000 in
theorem ggX10_depositStatement_X10_fail : GoodIn wsX10_depositStatement wsX10_fail := goodIn_r _ [9, 10, 11, 12, 13, 51, 52, 53, 54, 55, 56, 57, 58, 59, 60, 61, 62, 63, 64, 65, 66, 67, 68, 69, 70, 71, 72, 73, 74, 75, 76, 77, 78, 79, 80, 81, 82, 83, 84, 85, 86, 87, 88, 89] rfl (by decide +kernel)
set_option maxRecDepth 20000 in
theorem gX10_depositStatement_X10_fail : GoodIn wsX10_depositStatement (wsV RX10 149 RX10 yX10_fail wsX10_fail) := goodIn_app (goodIn_r _ [5, 6, 7, 8] rfl (by decide +kernel)) ggX10_depositStatement_X10_fail
set_option maxRecDepth 20000 in
theorem ggX10_depositStatement_X10_number : GoodIn wsX10_depositStatement wsX10_number := goodIn_r _ [44, 10, 23, 4, 5, 6, 7, 8, 9, 11, 12, 13, 45, 46, 47, 14, 15, 16, 17, 18, 19, 20, 21, 22, 24, 25, 26, 27, 28, 29, 30, 31, 32, 33, 34, 35, 36, 37, 38, 39, 40, 51, 52, 53, 54, 55, 56, 57, 58, 59, 60, 61, 62, 63, 64, 65, 66, 67, 68, 69, 70, 71, 72, 73, 74, 75, 76, 77, 78, 79, 80, 81, 82, 83, 84, 85, 86, 87, 88, 89] rfl (by decide +kernel)
set_option maxRecDepth 20000 in
theorem gX10_depositStatement_X10_number : GoodIn wsX10_depositStatement (wsV RX10 163 RX10 yX10_number wsX10_number) := goodIn_app (goodIn_r _ [41, 42, 43, 8] rfl (by decide +kernel)) ggX10_depositStatement_X10_number
set_option maxRecDepth 20000 in
theorem ggX10_doneFact_X10_advance : GoodIn wsX10_doneFact wsX10_advance := goodIn_r _ [9, 10, 11, 12, 3, 13, 14, 15, 16, 17, 18, 19, 8, 20, 21, 22, 23, 24, 25, 26, 27, 28, 29, 30, 31, 32, 33, 53, 54, 55, 56, 57, 58, 59, 60, 61, 62, 63, 64, 65, 66, 67, 68, 69, 70, 71, 72, 73, 74, 75, 76, 77, 78, 79, 80, 81, 82, 83, 84, 85, 86, 87, 88, 89, 90, 91] rfl (by decide +kernel)
set_option maxRecDepth 20000 in
theorem gX10_doneFact_X10_advance : GoodIn wsX10_doneFact (wsV RX10 159 RX10 yX10_advance wsX10_advance) := goodIn_app (goodIn_r _ [5, 6, 7, 8] rfl (by decide +kernel)) ggX10_doneFact_X10_advance
set_option maxRecDepth 20000 in
theorem ggX10_doneFact_X10_emit : GoodIn wsX10_doneFact wsX10_emit := goodIn_r _ [50, 51, 52, 53, 54, 55, 56, 57, 58, 59, 60, 61, 62, 63, 64, 65, 66, 67, 68, 69, 70, 71, 72, 73, 74, 75, 76, 77, 78, 79, 80, 81, 82, 83, 84, 85, 86, 87, 88, 89, 90, 91] rfl (by decide +kernel)
set_option maxRecDepth 20000 in
theorem gX10_doneFact_X10_emit : GoodIn wsX10_doneFact (wsV RX10 176 RX10 yX10_emit wsX10_emit) := goodIn_app (goodIn_r _ [47, 48, 49, 8] rfl (by decide +kernel)) ggX10_doneFact_X10_emit
set_option maxRecDepth 20000 in
theorem ggX10_doneFact_X10_fail : GoodIn wsX10_doneFact wsX10_fail := goodIn_r _ [41, 13, 42, 11, 43, 53, 54, 55, 56, 57, 58, 59, 60, 61, 62, 63, 64, 65, 66, 67, 68, 69, 70, 71, 72, 73, 74, 75, 76, 77, 78, 79, 80, 81, 82, 83, 84, 85, 86, 87, 88, 89, 90, 91] rfl (by decide +kernel)
set_option maxRecDepth 20000 in
theorem gX10_doneFact_X10_fail : GoodIn wsX10_doneFact (wsV RX10 149 RX10 yX10_fail wsX10_fail) := goodIn_app (goodIn_r _ [38, 39, 40, 8] rfl (by decide +kernel)) ggX10_doneFact_X10_fail
set_option maxRecDepth 20000 in
theorem ggX10_doneFact_X10_find : GoodIn wsX10_doneFact wsX10_find := goodIn_r _ [46] rfl (by decide +kernel)
set_option maxRecDepth 20000 in
theorem gX10_doneFact_X10_find : GoodIn wsX10_doneFact (va_wsS RX10 197 yX10_find wsX10_find) := goodIn_app (goodIn_r _ [44, 45, 8] rfl (by decide +kernel)) ggX10_doneFact_X10_find
set_option maxRecDepth 20000 in
theorem ggX10_doneFact_X10_isName : GoodIn wsX10_doneFact wsX10_isName := goodIn_r _ [37, 13, 12, 53, 54, 55, 56, 57, 58, 59, 60, 61, 62, 63, 64, 65, 66, 67, 68, 69, 70, 71, 72, 73, 74, 75, 76, 77, 78, 79, 80, 81, 82, 83, 84, 85, 86, 87, 88, 89, 90, 91] rfl (by decide +kernel)
set_option maxRecDepth 20000 in
theorem gX10_doneFact_X10_isName : GoodIn wsX10_doneFact (wsV RX10 194 RX10 yX10_isName wsX10_isName) := goodIn_app (goodIn_r _ [34, 35, 36, 8] rfl (by decide +kernel)) ggX10_doneFact_X10_isName
set_option maxRecDepth 20000 in
theorem ggX10_fact_X10_bracket : GoodIn wsX10_fact wsX10_bracket := goodIn_r _ [98, 99, 100, 101, 102, 7, 103, 14, 15, 16, 17, 1, 18, 10, 19, 29, 30, 31, 32, 33, 2, 34, 35, 36, 37, 38, 39, 40, 41, 42, 9, 43, 44, 45, 46, 47, 48, 49, 50, 51, 52, 53, 104, 105, 106, 4, 5, 6, 8, 90, 91, 92, 93, 94, 95, 96, 97, 61, 62, 63, 64, 65, 66, 107, 108, 109, 110, 0, 3, 11, 12, 13, 20, 21, 22, 23, 24, 25, 26, 27, 28, 54, 55, 56, 57, 58, 59, 60, 67, 68, 69, 70, 71, 72, 73, 74, 75, 76, 77, 78, 79, 80, 81, 82, 83, 84, 85, 86, 87, 88, 89, 111, 112, 113, 114, 115, 116, 117, 118, 119, 120, 121, 122, 123, 124, 125, 126, 127, 128, 129, 130, 131, 132, 133, 134, 135, 136, 137, 138, 139, 140, 141, 142, 143, 144, 145, 146, 147, 148, 149, 150] rfl (by decide +kernel)
set_option maxRecDepth 20000 in
theorem gX10_fact_X10_bracket : GoodIn wsX10_fact (wsV RX10 203 RX10 yX10_bracket wsX10_bracket) := goodIn_app (goodIn_r _ [11, 12, 13, 7] rfl (by decide +kernel)) ggX10_fact_X10_bracket
set_option maxRecDepth 20000 in
theorem ggX10_fact_X10_doneFact : GoodIn wsX10_fact wsX10_doneFact := goodIn_r _ [83, 84, 72, 34, 85, 29, 30, 31, 7, 32, 33, 10, 2, 1, 35, 36, 37, 38, 39, 40, 41, 42, 9, 43, 44, 45, 46, 47, 48, 49, 50, 51, 52, 53, 73, 74, 75, 76, 14, 15, 16, 17, 18, 19, 77, 78, 79, 61, 62, 63, 64, 65, 66, 112, 113, 114, 115, 116, 117, 118, 119, 120, 121, 122, 123, 124, 125, 126, 127, 128, 129, 130, 131, 132, 133, 134, 135, 136, 137, 138, 139, 140, 141, 142, 143, 144, 145, 146, 147, 148, 149, 150] rfl (by decide +kernel)
set_option maxRecDepth 20000 in
theorem gX10_fact_X10_doneFact : GoodIn wsX10_fact (wsV RX10 215 RX10 yX10_doneFact wsX10_doneFact) := goodIn_app (goodIn_r _ [80, 81, 82, 7] rfl (by decide +kernel)) ggX10_fact_X10_doneFact
set_option maxRecDepth 20000 in
theorem ggX10_fact_X10_fail : GoodIn wsX10_fact wsX10_fail := goodIn_r _ [17, 1, 18, 10, 19, 112, 113, 114, 115, 116, 117, 118, 119, 120, 121, 122, 123, 124, 125, 126, 127, 128, 129, 130, 131, 132, 133, 134, 135, 136, 137, 138, 139, 140, 141, 142, 143, 144, 145, 146, 147, 148, 149, 150] rfl (by decide +kernel)
set_option maxRecDepth 20000 in
theorem gX10_fact_X10_fail : GoodIn wsX10_fact (wsV RX10 149 RX10 yX10_fail wsX10_fail) := goodIn_app (goodIn_r _ [14, 15, 16, 7] rfl (by decide +kernel)) ggX10_fact_X10_fail
set_option maxRecDepth 20000 in
theorem ggX10_fact_X10_isSymbol : GoodIn wsX10_fact wsX10_isSymbol := goodIn_r _ [8, 1, 9, 10, 112, 113, 114, 115, 116, 117, 118, 119, 120, 121, 122, 123, 124, 125, 126, 127, 128, 129, 130, 131, 132, 133, 134, 135, 136, 137, 138, 139, 140, 141, 142, 143, 144, 145, 146, 147, 148, 149, 150] rfl (by decide +kernel)
set_option maxRecDepth 20000 in
theorem gX10_fact_X10_isSymbol : GoodIn wsX10_fact (wsV RX10 191 RX10 yX10_isSymbol wsX10_isSymbol) := goodIn_app (goodIn_r _ [4, 5, 6, 7] rfl (by decide +kernel)) ggX10_fact_X10_isSymbol
set_option maxRecDepth 20000 in
theorem ggX10_fact_X10_notFact : GoodIn wsX10_fact wsX10_notFact := goodIn_r _ [111, 99, 100, 101, 102, 7, 103, 14, 15, 16, 17, 1, 18, 10, 19, 29, 30, 31, 32, 33, 2, 34, 35, 36, 37, 38, 39, 40, 41, 42, 9, 43, 44, 45, 46, 47, 48, 49, 50, 51, 52, 53, 91, 92, 93, 61, 62, 63, 64, 65, 66, 90, 94, 95, 96, 97, 98, 104, 105, 106, 4, 5, 6, 8, 107, 108, 109, 110, 0, 3, 11, 12, 13, 20, 21, 22, 23, 24, 25, 26, 27, 28, 54, 55, 56, 57, 58, 59, 60, 67, 68, 69, 70, 71, 72, 73, 74, 75, 76, 77, 78, 79, 80, 81, 82, 83, 84, 85, 86, 87, 88, 89, 112, 113, 114, 115, 116, 117, 118, 119, 120, 121, 122, 123, 124, 125, 126, 127, 128, 129, 130, 131, 132, 133, 134, 135, 136, 137, 138, 139, 140, 141, 142, 143, 144, 145, 146, 147, 148, 149, 150] rfl (by decide +kernel)
set_option maxRecDepth 20000 in
theorem gX10_fact_X10_notFact : GoodIn wsX10_fact (wsV RX10 206 RX10 yX10_notFact wsX10_notFact) := goodIn_app (goodIn_r _ [20, 21, 22, 7] rfl (by decide +kernel)) ggX10_fact_X10_notFact
set_option maxRecDepth 20000 in
theorem ggX10_fact_X10_numberFact : GoodIn wsX10_fact wsX10_numberFact := goodIn_r _ [26, 27, 28, 29, 30, 31, 7, 32, 33, 10, 2, 34, 1, 35, 36, 37, 38, 39, 40, 41, 42, 9, 43, 44, 45, 46, 47, 48, 49, 50, 51, 52, 53, 54, 55, 56, 57, 14, 15, 16, 17, 18, 19, 58, 59, 60, 61, 62, 63, 64, 65, 66, 112, 113, 114, 115, 116, 117, 118, 119, 120, 121, 122, 123, 124, 125, 126, 127, 128, 129, 130, 131, 132, 133, 134, 135, 136, 137, 138, 139, 140, 141, 142, 143, 144, 145, 146, 147, 148, 149, 150] rfl (by decide +kernel)
set_option maxRecDepth 20000 in
theorem gX10_fact_X10_numberFact : GoodIn wsX10_fact (wsV RX10 209 RX10 yX10_numberFact wsX10_numberFact) := goodIn_app (goodIn_r _ [23, 24, 25, 7] rfl (by decide +kernel)) ggX10_fact_X10_numberFact
set_option maxRecDepth 20000 in
theorem ggX10_fact_X10_plainFact : GoodIn wsX10_fact wsX10_plainFact := goodIn_r _ [89, 27, 61, 62, 63, 7, 64, 65, 66, 29, 30, 31, 32, 33, 10, 2, 34, 1, 35, 36, 37, 38, 39, 40, 41, 42, 9, 43, 44, 45, 46, 47, 48, 49, 50, 51, 52, 53, 112, 113, 114, 115, 116, 117, 118, 119, 120, 121, 122, 123, 124, 125, 126, 127, 128, 129, 130, 131, 132, 133, 134, 135, 136, 137, 138, 139, 140, 141, 142, 143, 144, 145, 146, 147, 148, 149, 150] rfl (by decide +kernel)
set_option maxRecDepth 20000 in
theorem gX10_fact_X10_plainFact : GoodIn wsX10_fact (wsV RX10 219 RX10 yX10_plainFact wsX10_plainFact) := goodIn_app (goodIn_r _ [86, 87, 88, 7] rfl (by decide +kernel)) ggX10_fact_X10_plainFact
set_option maxRecDepth 20000 in
theorem ggX10_fact_X10_proofFact : GoodIn wsX10_fact wsX10_proofFact := goodIn_r _ [70, 71, 72, 34, 27, 29, 30, 31, 7, 32, 33, 10, 2, 1, 35, 36, 37, 38, 39, 40, 41, 42, 9, 43, 44, 45, 46, 47, 48, 49, 50, 51, 52, 53, 73, 74, 75, 76, 14, 15, 16, 17, 18, 19, 77, 78, 79, 61, 62, 63, 64, 65, 66, 112, 113, 114, 115, 116, 117, 118, 119, 120, 121, 122, 123, 124, 125, 126, 127, 128, 129, 130, 131, 132, 133, 134, 135, 136, 137, 138, 139, 140, 141, 142, 143, 144, 145, 146, 147, 148, 149, 150] rfl (by decide +kernel)
set_option maxRecDepth 20000 in
theorem gX10_fact_X10_proofFact : GoodIn wsX10_fact (wsV RX10 212 RX10 yX10_proofFact wsX10_proofFact) := goodIn_app (goodIn_r _ [67, 68, 69, 7] rfl (by decide +kernel)) ggX10_fact_X10_proofFact
set_option maxRecDepth 20000 in
theorem ggX10_load_X10_advance : GoodIn wsX10_load wsX10_advance := goodIn_r _ [25, 4, 26, 27, 28, 11, 29, 30, 31, 32, 33, 34, 17, 35, 3, 36, 37, 38, 39, 40, 41, 42, 43, 44, 45, 46, 47, 167, 168, 169, 170, 171, 172, 173, 174, 175, 176, 177, 178, 179, 180, 181, 182, 183, 184, 185, 186, 187, 188, 189, 190, 191, 192, 193, 194, 195, 196, 197, 198, 199, 200, 201, 202, 203, 204, 205] rfl (by decide +kernel)
set_option maxRecDepth 20000 in
theorem gX10_load_X10_advance : GoodIn wsX10_load (wsV RX10 159 RX10 yX10_advance wsX10_advance) := goodIn_app (goodIn_r _ [22, 23, 24, 17] rfl (by decide +kernel)) ggX10_load_X10_advance
set_option maxRecDepth 20000 in
theorem ggX10_load_X10_between : GoodIn wsX10_load wsX10_between := goodIn_r _ [18] rfl (by decide +kernel)
set_option maxRecDepth 20000 in
theorem gX10_load_X10_between : GoodIn wsX10_load (va_wsS RX10 152 yX10_between wsX10_between) := goodIn_app (goodIn_r _ [15, 16, 17] rfl (by decide +kernel)) ggX10_load_X10_between
set_option maxRecDepth 20000 in
theorem ggX10_load_X10_closed : GoodIn wsX10_load wsX10_closed := goodIn_r _ [153, 119, 120, 121, 17, 122, 11, 36, 26, 22, 23, 24, 25, 4, 27, 28, 29, 30, 31, 32, 33, 34, 35, 3, 37, 38, 39, 40, 41, 42, 43, 44, 45, 46, 47, 52, 53, 54, 55, 5, 6, 167, 168, 169, 170, 171, 172, 173, 174, 175, 176, 177, 178, 179, 180, 181, 182, 183, 184, 185, 186, 187, 188, 189, 190, 191, 192, 193, 194, 195, 196, 197, 198, 199, 200, 201, 202, 203, 204, 205] rfl (by decide +kernel)
set_option maxRecDepth 20000 in
theorem gX10_load_X10_closed : GoodIn wsX10_load (wsV RX10 252 RX10 yX10_closed wsX10_closed) := goodIn_app (goodIn_r _ [150, 151, 152, 17] rfl (by decide +kernel)) ggX10_load_X10_closed
set_option maxRecDepth 20000 in
theorem ggX10_load_X10_reset : GoodIn wsX10_load wsX10_reset := goodIn_r _ [21] rfl (by decide +kernel)
set_option maxRecDepth 20000 in
theorem gX10_load_X10_reset : GoodIn wsX10_load (va_wsS RX10 76 yX10_reset wsX10_reset) := goodIn_app (goodIn_r _ [19, 20, 17] rfl (by decide +kernel)) ggX10_load_X10_reset
set_option maxRecDepth 20000 in
theorem ggX10_load_X10_statement : GoodIn wsX10_load wsX10_statement := goodIn_r _ [51, 11, 27, 52, 53, 54, 17, 55, 5, 26, 6, 56, 57, 58, 59, 31, 22, 23, 24, 25, 4, 28, 29, 30, 32, 33, 34, 35, 3, 36, 37, 38, 39, 40, 41, 42, 43, 44, 45, 46, 47, 60, 61, 62, 63, 10, 64, 65, 66, 67, 68, 15, 16, 18, 69, 70, 71, 72, 73, 74, 75, 76, 8, 77, 78, 79, 80, 81, 82, 83, 84, 85, 86, 9, 87, 88, 89, 90, 91, 92, 93, 94, 95, 96, 97, 98, 99, 100, 101, 102, 103, 104, 105, 106, 107, 108, 109, 110, 111, 112, 113, 114, 7, 115, 116, 117, 118, 119, 120, 121, 122, 123, 124, 125, 126, 127, 128, 129, 130, 131, 132, 133, 134, 135, 136, 137, 138, 139, 140, 141, 142, 143, 144, 145, 146, 147, 148, 149, 167, 168, 169, 170, 171, 172, 173, 174, 175, 176, 177, 178, 179, 180, 181, 182, 183, 184, 185, 186, 187, 188, 189, 190, 191, 192, 193, 194, 195, 196, 197, 198, 199, 200, 201, 202, 203, 204, 205] rfl (by decide +kernel)
set_option maxRecDepth 20000 in
theorem gX10_load_X10_statement : GoodIn wsX10_load (wsV RX10 249 RX10 yX10_statement wsX10_statement) := goodIn_app (goodIn_r _ [48, 49, 50, 17] rfl (by decide +kernel)) ggX10_load_X10_statement
set_option maxRecDepth 20000 in
theorem ggX10_load_X10_takeOver : GoodIn wsX10_load wsX10_takeOver := goodIn_r _ [157, 10, 14, 158, 85, 159, 139, 160, 86, 9, 161, 109, 162, 163, 164, 165, 17, 166, 167, 168, 169, 170, 171, 172, 173, 174, 175, 176, 177, 178, 179, 180, 181, 182, 183, 184, 185, 186, 187, 188, 189, 190, 191, 192, 193, 194, 195, 196, 197, 198, 199, 200, 201, 202, 203, 204, 205] rfl (by decide +kernel)
set_option maxRecDepth 20000 in
theorem gX10_load_X10_takeOver : GoodIn wsX10_load (wsV RX10 258 RX10 yX10_takeOver wsX10_takeOver) := goodIn_app (goodIn_r _ [154, 155, 156, 17] rfl (by decide +kernel)) ggX10_load_X10_takeOver
set_option maxRecDepth 20000 in
theorem ggX10_milestoneStatement_X10_advance : GoodIn wsX10_milestoneStatement wsX10_advance := goodIn_r _ [19, 20, 14, 21, 3, 12, 22, 23, 24, 25, 26, 27, 10, 28, 29, 30, 31, 32, 33, 34, 35, 36, 37, 38, 39, 40, 41, 118, 119, 120, 121, 122, 123, 124, 125, 126, 127, 128, 129, 130, 131, 132, 133, 134, 135, 136, 137, 138, 139, 140, 141, 142, 143, 144, 145, 146, 147, 148, 149, 150, 151, 152, 153, 154, 155, 156] rfl (by decide +kernel)
set_option maxRecDepth 20000 in
theorem gX10_milestoneStatement_X10_advance : GoodIn wsX10_milestoneStatement (wsV RX10 159 RX10 yX10_advance wsX10_advance) := goodIn_app (goodIn_r _ [16, 17, 18, 10] rfl (by decide +kernel)) ggX10_milestoneStatement_X10_advance
set_option maxRecDepth 20000 in
theorem ggX10_milestoneStatement_X10_condition : GoodIn wsX10_milestoneStatement wsX10_condition := goodIn_r _ [68, 69, 70, 71, 10, 61, 62, 63, 64, 12, 21, 16, 17, 18, 19, 20, 14, 3, 22, 23, 24, 25, 26, 27, 28, 29, 30, 31, 32, 33, 34, 35, 36, 37, 38, 39, 40, 41, 72, 73, 74, 75, 76, 6, 77, 78, 79, 80, 81, 82, 83, 84, 85, 86, 7, 8, 9, 11, 13, 15, 65, 66, 67, 87, 88, 89, 90, 91, 4, 92, 93, 94, 95, 96, 97, 98, 99, 100, 101, 102, 53, 54, 55, 56, 57, 58, 59, 60, 103, 104, 105, 106, 107, 1, 42, 43, 44, 45, 46, 47, 48, 108, 109, 110, 111, 2, 112, 113, 114, 115, 116, 117, 118, 119, 120, 121, 122, 123, 124, 125, 126, 127, 128, 129, 130, 131, 132, 133, 134, 135, 136, 137, 138, 139, 140, 141, 142, 143, 144, 145, 146, 147, 148, 149, 150, 151, 152, 153, 154, 155, 156] rfl (by decide +kernel)
set_option maxRecDepth 20000 in
theorem gX10_milestoneStatement_X10_condition : GoodIn wsX10_milestoneStatement (wsV RX10 188 RX10 yX10_condition wsX10_condition) := goodIn_app (goodIn_r _ [65, 66, 67, 10] rfl (by decide +kernel)) ggX10_milestoneStatement_X10_condition
set_option maxRecDepth 20000 in
theorem ggX10_milestoneStatement_X10_fail : GoodIn wsX10_milestoneStatement wsX10_fail := goodIn_r _ [11, 12, 13, 14, 15, 118, 119, 120, 121, 122, 123, 124, 125, 126, 127, 128, 129, 130, 131, 132, 133, 134, 135, 136, 137, 138, 139, 140, 141, 142, 143, 144, 145, 146, 147, 148, 149, 150, 151, 152, 153, 154, 155, 156] rfl (by decide +kernel)
set_option maxRecDepth 20000 in
theorem gX10_milestoneStatement_X10_fail : GoodIn wsX10_milestoneStatement (wsV RX10 149 RX10 yX10_fail wsX10_fail) := goodIn_app (goodIn_r _ [7, 8, 9, 10] rfl (by decide +kernel)) ggX10_milestoneStatement_X10_fail
set_option maxRecDepth 20000 in
theorem ggX10_milestoneStatement_X10_find : GoodIn wsX10_milestoneStatement wsX10_find := goodIn_r _ [48] rfl (by decide +kernel)
set_option maxRecDepth 20000 in
theorem gX10_milestoneStatement_X10_find : GoodIn wsX10_milestoneStatement (va_wsS RX10 197 yX10_find wsX10_find) := goodIn_app (goodIn_r _ [46, 47, 10] rfl (by decide +kernel)) ggX10_milestoneStatement_X10_find
set_option maxRecDepth 20000 in
theorem ggX10_milestoneStatement_X10_isKeyword : GoodIn wsX10_milestoneStatement wsX10_isKeyword := goodIn_r _ [64, 12, 21, 118, 119, 120, 121, 122, 123, 124, 125, 126, 127, 128, 129, 130, 131, 132, 133, 134, 135, 136, 137, 138, 139, 140, 141, 142, 143, 144, 145, 146, 147, 148, 149, 150, 151, 152, 153, 154, 155, 156] rfl (by decide +kernel)
set_option maxRecDepth 20000 in
theorem gX10_milestoneStatement_X10_isKeyword : GoodIn wsX10_milestoneStatement (wsV RX10 173 RX10 yX10_isKeyword wsX10_isKeyword) := goodIn_app (goodIn_r _ [61, 62, 63, 10] rfl (by decide +kernel)) ggX10_milestoneStatement_X10_isKeyword
set_option maxRecDepth 20000 in
theorem ggX10_milestoneStatement_X10_isName : GoodIn wsX10_milestoneStatement wsX10_isName := goodIn_r _ [45, 12, 21, 118, 119, 120, 121, 122, 123, 124, 125, 126, 127, 128, 129, 130, 131, 132, 133, 134, 135, 136, 137, 138, 139, 140, 141, 142, 143, 144, 145, 146, 147, 148, 149, 150, 151, 152, 153, 154, 155, 156] rfl (by decide +kernel)
set_option maxRecDepth 20000 in
theorem gX10_milestoneStatement_X10_isName : GoodIn wsX10_milestoneStatement (wsV RX10 194 RX10 yX10_isName wsX10_isName) := goodIn_app (goodIn_r _ [42, 43, 44, 10] rfl (by decide +kernel)) ggX10_milestoneStatement_X10_isName
set_option maxRecDepth 20000 in
theorem ggX10_milestoneStatement_X10_numberTo : GoodIn wsX10_milestoneStatement wsX10_numberTo := goodIn_r _ [52, 1, 53, 54, 55, 56, 10, 57, 12, 24, 7, 8, 9, 11, 13, 14, 15, 58, 59, 60, 16, 17, 18, 19, 20, 21, 3, 22, 23, 25, 26, 27, 28, 29, 30, 31, 32, 33, 34, 35, 36, 37, 38, 39, 40, 41, 118, 119, 120, 121, 122, 123, 124, 125, 126, 127, 128, 129, 130, 131, 132, 133, 134, 135, 136, 137, 138, 139, 140, 141, 142, 143, 144, 145, 146, 147, 148, 149, 150, 151, 152, 153, 154, 155, 156] rfl (by decide +kernel)
set_option maxRecDepth 20000 in
theorem gX10_milestoneStatement_X10_numberTo : GoodIn wsX10_milestoneStatement (wsV RX10 222 RX10 yX10_numberTo wsX10_numberTo) := goodIn_app (goodIn_r _ [49, 50, 51, 10] rfl (by decide +kernel)) ggX10_milestoneStatement_X10_numberTo
set_option maxRecDepth 20000 in
theorem ggX10_notFact_X10_emit : GoodIn wsX10_notFact wsX10_emit := goodIn_r _ [48, 49, 50, 112, 113, 114, 115, 116, 117, 118, 119, 120, 121, 122, 123, 124, 125, 126, 127, 128, 129, 130, 131, 132, 133, 134, 135, 136, 137, 138, 139, 140, 141, 142, 143, 144, 145, 146, 147, 148, 149, 150] rfl (by decide +kernel)
set_option maxRecDepth 20000 in
theorem gX10_notFact_X10_emit : GoodIn wsX10_notFact (wsV RX10 176 RX10 yX10_emit wsX10_emit) := goodIn_app (goodIn_r _ [45, 46, 47, 5] rfl (by decide +kernel)) ggX10_notFact_X10_emit
set_option maxRecDepth 20000 in
theorem ggX10_notFact_X10_fact : GoodIn wsX10_notFact wsX10_fact := goodIn_r _ [68, 11, 20, 69, 60, 61, 62, 5, 63, 30, 13, 70, 71, 72, 7, 8, 9, 10, 12, 14, 73, 74, 75, 76, 77, 78, 79, 80, 81, 15, 16, 17, 18, 19, 21, 22, 23, 24, 25, 26, 27, 28, 29, 31, 32, 33, 34, 35, 36, 37, 38, 39, 40, 41, 82, 83, 84, 85, 86, 87, 88, 45, 46, 47, 48, 49, 50, 89, 90, 91, 92, 93, 94, 95, 96, 97, 98, 99, 100, 101, 102, 103, 104, 105, 106, 107, 108, 109, 110, 111, 51, 42, 43, 44, 52, 53, 54, 55, 56, 1, 2, 3, 4, 6, 57, 58, 59, 64, 65, 66, 67, 0, 112, 113, 114, 115, 116, 117, 118, 119, 120, 121, 122, 123, 124, 125, 126, 127, 128, 129, 130, 131, 132, 133, 134, 135, 136, 137, 138, 139, 140, 141, 142, 143, 144, 145, 146, 147, 148, 149, 150] rfl (by decide +kernel)
set_option maxRecDepth 20000 in
theorem gX10_notFact_X10_fact : GoodIn wsX10_notFact (wsV RX10 179 RX10 yX10_fact wsX10_fact) := goodIn_app (goodIn_r _ [42, 43, 44, 5] rfl (by decide +kernel)) ggX10_notFact_X10_fact
set_option maxRecDepth 20000 in
theorem ggX10_notFact_X10_opens : GoodIn wsX10_notFact wsX10_opens := goodIn_r _ [6, 1, 7, 8, 9, 5, 10, 11, 12, 13, 14, 15, 16, 17, 18, 19, 20, 21, 22, 23, 24, 25, 26, 27, 28, 29, 30, 31, 32, 33, 34, 35, 36, 37, 38, 39, 40, 41, 112, 113, 114, 115, 116, 117, 118, 119, 120, 121, 122, 123, 124, 125, 126, 127, 128, 129, 130, 131, 132, 133, 134, 135, 136, 137, 138, 139, 140, 141, 142, 143, 144, 145, 146, 147, 148, 149, 150] rfl (by decide +kernel)
set_option maxRecDepth 20000 in
theorem gX10_notFact_X10_opens : GoodIn wsX10_notFact (wsV RX10 185 RX10 yX10_opens wsX10_opens) := goodIn_app (goodIn_r _ [2, 3, 4, 5] rfl (by decide +kernel)) ggX10_notFact_X10_opens
set_option maxRecDepth 20000 in
theorem ggX10_numberFact_X10_advance : GoodIn wsX10_numberFact wsX10_advance := goodIn_r _ [7, 8, 9, 10, 11, 12, 13, 14, 15, 16, 17, 18, 6, 19, 20, 21, 22, 23, 24, 25, 26, 27, 28, 29, 30, 31, 32, 52, 53, 54, 55, 56, 57, 58, 59, 60, 61, 62, 63, 64, 65, 66, 67, 68, 69, 70, 71, 72, 73, 74, 75, 76, 77, 78, 79, 80, 81, 82, 83, 84, 85, 86, 87, 88, 89, 90] rfl (by decide +kernel)
set_option maxRecDepth 20000 in
theorem gX10_numberFact_X10_advance : GoodIn wsX10_numberFact (wsV RX10 159 RX10 yX10_advance wsX10_advance) := goodIn_app (goodIn_r _ [3, 4, 5, 6] rfl (by decide +kernel)) ggX10_numberFact_X10_advance
set_option maxRecDepth 20000 in
theorem ggX10_numberFact_X10_emit : GoodIn wsX10_numberFact wsX10_emit := goodIn_r _ [49, 50, 51, 52, 53, 54, 55, 56, 57, 58, 59, 60, 61, 62, 63, 64, 65, 66, 67, 68, 69, 70, 71, 72, 73, 74, 75, 76, 77, 78, 79, 80, 81, 82, 83, 84, 85, 86, 87, 88, 89, 90] rfl (by decide +kernel)
set_option maxRecDepth 20000 in
theorem gX10_numberFact_X10_emit : GoodIn wsX10_numberFact (wsV RX10 176 RX10 yX10_emit wsX10_emit) := goodIn_app (goodIn_r _ [46, 47, 48, 6] rfl (by decide +kernel)) ggX10_numberFact_X10_emit
set_option maxRecDepth 20000 in
theorem ggX10_numberFact_X10_number : GoodIn wsX10_numberFact wsX10_number := goodIn_r _ [36, 12, 15, 2, 37, 38, 39, 6, 40, 41, 9, 42, 43, 44, 45, 3, 4, 5, 7, 8, 10, 11, 13, 14, 16, 17, 18, 19, 20, 21, 22, 23, 24, 25, 26, 27, 28, 29, 30, 31, 32, 52, 53, 54, 55, 56, 57, 58, 59, 60, 61, 62, 63, 64, 65, 66, 67, 68, 69, 70, 71, 72, 73, 74, 75, 76, 77, 78, 79, 80, 81, 82, 83, 84, 85, 86, 87, 88, 89, 90] rfl (by decide +kernel)
set_option maxRecDepth 20000 in
theorem gX10_numberFact_X10_number : GoodIn wsX10_numberFact (wsV RX10 163 RX10 yX10_number wsX10_number) := goodIn_app (goodIn_r _ [33, 34, 35, 6] rfl (by decide +kernel)) ggX10_numberFact_X10_number
set_option maxRecDepth 20000 in
theorem ggX10_numberTo_X10_number : GoodIn wsX10_numberTo wsX10_number := goodIn_r _ [7, 8, 9, 2, 10, 11, 12, 6, 13, 14, 15, 16, 17, 18, 19, 20, 21, 22, 23, 24, 25, 26, 27, 28, 29, 30, 31, 32, 33, 34, 35, 36, 37, 38, 39, 40, 41, 42, 43, 44, 45, 46, 47, 48, 49, 50, 51, 52, 53, 54, 55, 56, 57, 58, 59, 60, 61, 62, 63, 64, 65, 66, 67, 68, 69, 70, 71, 72, 73, 74, 75, 76, 77, 78, 79, 80, 81, 82, 83, 84] rfl (by decide +kernel)
set_option maxRecDepth 20000 in
theorem gX10_numberTo_X10_number : GoodIn wsX10_numberTo (wsV RX10 163 RX10 yX10_number wsX10_number) := goodIn_app (goodIn_r _ [3, 4, 5, 6] rfl (by decide +kernel)) ggX10_numberTo_X10_number
set_option maxRecDepth 20000 in
theorem ggX10_number_X10_advance : GoodIn wsX10_number wsX10_advance := goodIn_r _ [18, 19, 10, 20, 21, 1, 22, 23, 2, 24, 25, 26, 7, 27, 28, 29, 30, 31, 32, 33, 34, 35, 36, 37, 38, 39, 40, 41, 42, 43, 44, 45, 46, 47, 48, 49, 50, 51, 52, 53, 54, 55, 56, 57, 58, 59, 60, 61, 62, 63, 64, 65, 66, 67, 68, 69, 70, 71, 72, 73, 74, 75, 76, 77, 78, 79] rfl (by decide +kernel)
set_option maxRecDepth 20000 in
theorem gX10_number_X10_advance : GoodIn wsX10_number (wsV RX10 159 RX10 yX10_advance wsX10_advance) := goodIn_app (goodIn_r _ [15, 16, 17, 7] rfl (by decide +kernel)) ggX10_number_X10_advance
set_option maxRecDepth 20000 in
theorem ggX10_number_X10_between : GoodIn wsX10_number wsX10_between := goodIn_r _ [14] rfl (by decide +kernel)
set_option maxRecDepth 20000 in
theorem gX10_number_X10_between : GoodIn wsX10_number (va_wsS RX10 152 yX10_between wsX10_between) := goodIn_app (goodIn_r _ [12, 13, 7] rfl (by decide +kernel)) ggX10_number_X10_between
set_option maxRecDepth 20000 in
theorem ggX10_number_X10_fail : GoodIn wsX10_number wsX10_fail := goodIn_r _ [8, 1, 9, 10, 11, 41, 42, 43, 44, 45, 46, 47, 48, 49, 50, 51, 52, 53, 54, 55, 56, 57, 58, 59, 60, 61, 62, 63, 64, 65, 66, 67, 68, 69, 70, 71, 72, 73, 74, 75, 76, 77, 78, 79] rfl (by decide +kernel)
set_option maxRecDepth 20000 in
theorem gX10_number_X10_fail : GoodIn wsX10_number (wsV RX10 149 RX10 yX10_fail wsX10_fail) := goodIn_app (goodIn_r _ [4, 5, 6, 7] rfl (by decide +kernel)) ggX10_number_X10_fail
set_option maxRecDepth 20000 in
theorem ggX10_opens_X10_advance : GoodIn wsX10_opens wsX10_advance := goodIn_r _ [14, 15, 9, 16, 17, 7, 18, 19, 20, 21, 22, 23, 5, 24, 25, 26, 27, 28, 29, 30, 31, 32, 33, 34, 35, 36, 37, 38, 39, 40, 41, 42, 43, 44, 45, 46, 47, 48, 49, 50, 51, 52, 53, 54, 55, 56, 57, 58, 59, 60, 61, 62, 63, 64, 65, 66, 67, 68, 69, 70, 71, 72, 73, 74, 75, 76] rfl (by decide +kernel)
set_option maxRecDepth 20000 in
theorem gX10_opens_X10_advance : GoodIn wsX10_opens (wsV RX10 159 RX10 yX10_advance wsX10_advance) := goodIn_app (goodIn_r _ [11, 12, 13, 5] rfl (by decide +kernel)) ggX10_opens_X10_advance
set_option maxRecDepth 20000 in
theorem ggX10_opens_X10_fail : GoodIn wsX10_opens wsX10_fail := goodIn_r _ [6, 7, 8, 9, 10, 38, 39, 40, 41, 42, 43, 44, 45, 46, 47, 48, 49, 50, 51, 52, 53, 54, 55, 56, 57, 58, 59, 60, 61, 62, 63, 64, 65, 66, 67, 68, 69, 70, 71, 72, 73, 74, 75, 76] rfl (by decide +kernel)
set_option maxRecDepth 20000 in
theorem gX10_opens_X10_fail : GoodIn wsX10_opens (wsV RX10 149 RX10 yX10_fail wsX10_fail) := goodIn_app (goodIn_r _ [2, 3, 4, 5] rfl (by decide +kernel)) ggX10_opens_X10_fail
set_option maxRecDepth 20000 in
theorem ggX10_plainFact_X10_advance : GoodIn wsX10_plainFact wsX10_advance := goodIn_r _ [12, 13, 14, 15, 16, 17, 18, 19, 20, 21, 22, 23, 5, 24, 25, 26, 27, 28, 29, 30, 31, 32, 33, 34, 35, 36, 37, 38, 39, 40, 41, 42, 43, 44, 45, 46, 47, 48, 49, 50, 51, 52, 53, 54, 55, 56, 57, 58, 59, 60, 61, 62, 63, 64, 65, 66, 67, 68, 69, 70, 71, 72, 73, 74, 75, 76] rfl (by decide +kernel)
set_option maxRecDepth 20000 in
theorem gX10_plainFact_X10_advance : GoodIn wsX10_plainFact (wsV RX10 159 RX10 yX10_advance wsX10_advance) := goodIn_app (goodIn_r _ [9, 10, 11, 5] rfl (by decide +kernel)) ggX10_plainFact_X10_advance
set_option maxRecDepth 20000 in
theorem ggX10_plainFact_X10_emit : GoodIn wsX10_plainFact wsX10_emit := goodIn_r _ [6, 7, 8, 38, 39, 40, 41, 42, 43, 44, 45, 46, 47, 48, 49, 50, 51, 52, 53, 54, 55, 56, 57, 58, 59, 60, 61, 62, 63, 64, 65, 66, 67, 68, 69, 70, 71, 72, 73, 74, 75, 76] rfl (by decide +kernel)
set_option maxRecDepth 20000 in
theorem gX10_plainFact_X10_emit : GoodIn wsX10_plainFact (wsV RX10 176 RX10 yX10_emit wsX10_emit) := goodIn_app (goodIn_r _ [2, 3, 4, 5] rfl (by decide +kernel)) ggX10_plainFact_X10_emit
set_option maxRecDepth 20000 in
theorem ggX10_proofFact_X10_advance : GoodIn wsX10_proofFact wsX10_advance := goodIn_r _ [9, 10, 11, 12, 3, 13, 14, 15, 16, 17, 18, 19, 8, 20, 21, 22, 23, 24, 25, 26, 27, 28, 29, 30, 31, 32, 33, 53, 54, 55, 56, 57, 58, 59, 60, 61, 62, 63, 64, 65, 66, 67, 68, 69, 70, 71, 72, 73, 74, 75, 76, 77, 78, 79, 80, 81, 82, 83, 84, 85, 86, 87, 88, 89, 90, 91] rfl (by decide +kernel)
set_option maxRecDepth 20000 in
theorem gX10_proofFact_X10_advance : GoodIn wsX10_proofFact (wsV RX10 159 RX10 yX10_advance wsX10_advance) := goodIn_app (goodIn_r _ [5, 6, 7, 8] rfl (by decide +kernel)) ggX10_proofFact_X10_advance
set_option maxRecDepth 20000 in
theorem ggX10_proofFact_X10_emit : GoodIn wsX10_proofFact wsX10_emit := goodIn_r _ [50, 51, 52, 53, 54, 55, 56, 57, 58, 59, 60, 61, 62, 63, 64, 65, 66, 67, 68, 69, 70, 71, 72, 73, 74, 75, 76, 77, 78, 79, 80, 81, 82, 83, 84, 85, 86, 87, 88, 89, 90, 91] rfl (by decide +kernel)
set_option maxRecDepth 20000 in
theorem gX10_proofFact_X10_emit : GoodIn wsX10_proofFact (wsV RX10 176 RX10 yX10_emit wsX10_emit) := goodIn_app (goodIn_r _ [47, 48, 49, 8] rfl (by decide +kernel)) ggX10_proofFact_X10_emit
set_option maxRecDepth 20000 in
theorem ggX10_proofFact_X10_fail : GoodIn wsX10_proofFact wsX10_fail := goodIn_r _ [41, 13, 42, 11, 43, 53, 54, 55, 56, 57, 58, 59, 60, 61, 62, 63, 64, 65, 66, 67, 68, 69, 70, 71, 72, 73, 74, 75, 76, 77, 78, 79, 80, 81, 82, 83, 84, 85, 86, 87, 88, 89, 90, 91] rfl (by decide +kernel)
set_option maxRecDepth 20000 in
theorem gX10_proofFact_X10_fail : GoodIn wsX10_proofFact (wsV RX10 149 RX10 yX10_fail wsX10_fail) := goodIn_app (goodIn_r _ [38, 39, 40, 8] rfl (by decide +kernel)) ggX10_proofFact_X10_fail
set_option maxRecDepth 20000 in
theorem ggX10_proofFact_X10_find : GoodIn wsX10_proofFact wsX10_find := goodIn_r _ [46] rfl (by decide +kernel)
set_option maxRecDepth 20000 in
theorem gX10_proofFact_X10_find : GoodIn wsX10_proofFact (va_wsS RX10 197 yX10_find wsX10_find) := goodIn_app (goodIn_r _ [44, 45, 8] rfl (by decide +kernel)) ggX10_proofFact_X10_find
set_option maxRecDepth 20000 in
theorem ggX10_proofFact_X10_isName : GoodIn wsX10_proofFact wsX10_isName := goodIn_r _ [37, 13, 12, 53, 54, 55, 56, 57, 58, 59, 60, 61, 62, 63, 64, 65, 66, 67, 68, 69, 70, 71, 72, 73, 74, 75, 76, 77, 78, 79, 80, 81, 82, 83, 84, 85, 86, 87, 88, 89, 90, 91] rfl (by decide +kernel)
set_option maxRecDepth 20000 in
theorem gX10_proofFact_X10_isName : GoodIn wsX10_proofFact (wsV RX10 194 RX10 yX10_isName wsX10_isName) := goodIn_app (goodIn_r _ [34, 35, 36, 8] rfl (by decide +kernel)) ggX10_proofFact_X10_isName
set_option maxRecDepth 20000 in
theorem ggX10_rate_X10_advance : GoodIn wsX10_rate wsX10_advance := goodIn_r _ [7, 8, 9, 10, 11, 1, 12, 13, 2, 14, 15, 16, 6, 17, 18, 19, 20, 21, 22, 23, 24, 25, 26, 27, 28, 29, 30, 50, 51, 52, 53, 54, 55, 56, 57, 58, 59, 60, 61, 62, 63, 64, 65, 66, 67, 68, 69, 70, 71, 72, 73, 74, 75, 76, 77, 78, 79, 80, 81, 82, 83, 84, 85, 86, 87, 88] rfl (by decide +kernel)
set_option maxRecDepth 20000 in
theorem gX10_rate_X10_advance : GoodIn wsX10_rate (wsV RX10 159 RX10 yX10_advance wsX10_advance) := goodIn_app (goodIn_r _ [3, 4, 5, 6] rfl (by decide +kernel)) ggX10_rate_X10_advance
set_option maxRecDepth 20000 in
theorem ggX10_rate_X10_fail : GoodIn wsX10_rate wsX10_fail := goodIn_r _ [44, 1, 45, 9, 46, 50, 51, 52, 53, 54, 55, 56, 57, 58, 59, 60, 61, 62, 63, 64, 65, 66, 67, 68, 69, 70, 71, 72, 73, 74, 75, 76, 77, 78, 79, 80, 81, 82, 83, 84, 85, 86, 87, 88] rfl (by decide +kernel)
set_option maxRecDepth 20000 in
theorem gX10_rate_X10_fail : GoodIn wsX10_rate (wsV RX10 149 RX10 yX10_fail wsX10_fail) := goodIn_app (goodIn_r _ [41, 42, 43, 6] rfl (by decide +kernel)) ggX10_rate_X10_fail
set_option maxRecDepth 20000 in
theorem ggX10_rate_X10_numberTo : GoodIn wsX10_rate wsX10_numberTo := goodIn_r _ [34, 35, 36, 37, 38, 39, 6, 40, 1, 2, 41, 42, 43, 44, 45, 9, 46, 47, 48, 49, 3, 4, 5, 7, 8, 10, 11, 12, 13, 14, 15, 16, 17, 18, 19, 20, 21, 22, 23, 24, 25, 26, 27, 28, 29, 30, 50, 51, 52, 53, 54, 55, 56, 57, 58, 59, 60, 61, 62, 63, 64, 65, 66, 67, 68, 69, 70, 71, 72, 73, 74, 75, 76, 77, 78, 79, 80, 81, 82, 83, 84, 85, 86, 87, 88] rfl (by decide +kernel)
set_option maxRecDepth 20000 in
theorem gX10_rate_X10_numberTo : GoodIn wsX10_rate (wsV RX10 222 RX10 yX10_numberTo wsX10_numberTo) := goodIn_app (goodIn_r _ [31, 32, 33, 6] rfl (by decide +kernel)) ggX10_rate_X10_numberTo
set_option maxRecDepth 20000 in
theorem ggX10_setting_X10_advance : GoodIn wsX10_setting wsX10_advance := goodIn_r _ [5, 6, 7, 8, 9, 10, 11, 12, 13, 14, 15, 16, 4, 17, 18, 19, 20, 21, 22, 23, 24, 25, 26, 27, 28, 29, 30, 50, 51, 52, 53, 54, 55, 56, 57, 58, 59, 60, 61, 62, 63, 64, 65, 66, 67, 68, 69, 70, 71, 72, 73, 74, 75, 76, 77, 78, 79, 80, 81, 82, 83, 84, 85, 86, 87, 88] rfl (by decide +kernel)
set_option maxRecDepth 20000 in
theorem gX10_setting_X10_advance : GoodIn wsX10_setting (wsV RX10 159 RX10 yX10_advance wsX10_advance) := goodIn_app (goodIn_r _ [1, 2, 3, 4] rfl (by decide +kernel)) ggX10_setting_X10_advance
set_option maxRecDepth 20000 in
theorem ggX10_setting_X10_numberTo : GoodIn wsX10_setting wsX10_numberTo := goodIn_r _ [34, 35, 36, 37, 38, 39, 4, 40, 10, 13, 41, 42, 43, 44, 45, 7, 46, 47, 48, 49, 1, 2, 3, 5, 6, 8, 9, 11, 12, 14, 15, 16, 17, 18, 19, 20, 21, 22, 23, 24, 25, 26, 27, 28, 29, 30, 50, 51, 52, 53, 54, 55, 56, 57, 58, 59, 60, 61, 62, 63, 64, 65, 66, 67, 68, 69, 70, 71, 72, 73, 74, 75, 76, 77, 78, 79, 80, 81, 82, 83, 84, 85, 86, 87, 88] rfl (by decide +kernel)
set_option maxRecDepth 20000 in
theorem gX10_setting_X10_numberTo : GoodIn wsX10_setting (wsV RX10 222 RX10 yX10_numberTo wsX10_numberTo) := goodIn_app (goodIn_r _ [31, 32, 33, 4] rfl (by decide +kernel)) ggX10_setting_X10_numberTo
set_option maxRecDepth 20000 in
theorem ggX10_statement_X10_depositStatement : GoodIn wsX10_statement wsX10_depositStatement := goodIn_r _ [61, 62, 63, 45, 46, 3, 4, 5, 6, 7, 1, 8, 9, 10, 16, 17, 18, 19, 20, 2, 21, 22, 23, 15, 24, 25, 26, 27, 28, 29, 30, 31, 32, 33, 34, 35, 36, 37, 38, 39, 40, 47, 48, 49, 50, 51, 52, 53, 64, 65, 66, 138, 139, 140, 141, 142, 143, 144, 145, 146, 147, 148, 149, 150, 151, 152, 153, 154, 155, 156, 157, 158, 159, 160, 161, 162, 163, 164, 165, 166, 167, 168, 169, 170, 171, 172, 173, 174, 175, 176] rfl (by decide +kernel)
set_option maxRecDepth 20000 in
theorem gX10_statement_X10_depositStatement : GoodIn wsX10_statement (wsV RX10 239 RX10 yX10_depositStatement wsX10_depositStatement) := goodIn_app (goodIn_r _ [58, 59, 60, 6] rfl (by decide +kernel)) ggX10_statement_X10_depositStatement
set_option maxRecDepth 20000 in
theorem ggX10_statement_X10_fail : GoodIn wsX10_statement wsX10_fail := goodIn_r _ [7, 1, 8, 9, 10, 138, 139, 140, 141, 142, 143, 144, 145, 146, 147, 148, 149, 150, 151, 152, 153, 154, 155, 156, 157, 158, 159, 160, 161, 162, 163, 164, 165, 166, 167, 168, 169, 170, 171, 172, 173, 174, 175, 176] rfl (by decide +kernel)
set_option maxRecDepth 20000 in
theorem gX10_statement_X10_fail : GoodIn wsX10_statement (wsV RX10 149 RX10 yX10_fail wsX10_fail) := goodIn_app (goodIn_r _ [3, 4, 5, 6] rfl (by decide +kernel)) ggX10_statement_X10_fail
set_option maxRecDepth 20000 in
theorem ggX10_statement_X10_milestoneStatement : GoodIn wsX10_statement wsX10_milestoneStatement := goodIn_r _ [70, 45, 71, 21, 63, 72, 73, 3, 4, 5, 6, 7, 1, 8, 9, 10, 16, 17, 18, 19, 20, 2, 22, 23, 15, 24, 25, 26, 27, 28, 29, 30, 31, 32, 33, 34, 35, 36, 37, 38, 39, 40, 74, 75, 76, 77, 78, 79, 80, 41, 42, 43, 44, 46, 47, 48, 49, 50, 51, 52, 53, 81, 82, 83, 84, 85, 86, 87, 88, 89, 90, 91, 92, 93, 94, 95, 96, 97, 98, 99, 100, 101, 102, 103, 104, 105, 106, 107, 108, 109, 110, 111, 112, 113, 114, 115, 116, 117, 118, 119, 120, 121, 122, 123, 124, 125, 126, 127, 128, 129, 130, 131, 132, 133, 134, 135, 136, 137, 138, 139, 140, 141, 142, 143, 144, 145, 146, 147, 148, 149, 150, 151, 152, 153, 154, 155, 156, 157, 158, 159, 160, 161, 162, 163, 164, 165, 166, 167, 168, 169, 170, 171, 172, 173, 174, 175, 176] rfl (by decide +kernel)
set_option maxRecDepth 20000 in
theorem gX10_statement_X10_milestoneStatement : GoodIn wsX10_statement (wsV RX10 242 RX10 yX10_milestoneStatement wsX10_milestoneStatement) := goodIn_app (goodIn_r _ [67, 68, 69, 6] rfl (by decide +kernel)) ggX10_statement_X10_milestoneStatement
set_option maxRecDepth 20000 in
theorem ggX10_statement_X10_rate : GoodIn wsX10_statement wsX10_rate := goodIn_r _ [14, 1, 15, 16, 17, 18, 6, 19, 20, 9, 2, 21, 22, 23, 24, 25, 26, 27, 28, 29, 30, 31, 32, 33, 34, 35, 36, 37, 38, 39, 40, 41, 42, 43, 44, 45, 46, 47, 48, 49, 50, 3, 4, 5, 7, 8, 10, 51, 52, 53, 138, 139, 140, 141, 142, 143, 144, 145, 146, 147, 148, 149, 150, 151, 152, 153, 154, 155, 156, 157, 158, 159, 160, 161, 162, 163, 164, 165, 166, 167, 168, 169, 170, 171, 172, 173, 174, 175, 176] rfl (by decide +kernel)
set_option maxRecDepth 20000 in
theorem gX10_statement_X10_rate : GoodIn wsX10_statement (wsV RX10 233 RX10 yX10_rate wsX10_rate) := goodIn_app (goodIn_r _ [11, 12, 13, 6] rfl (by decide +kernel)) ggX10_statement_X10_rate
set_option maxRecDepth 20000 in
theorem ggX10_statement_X10_setting : GoodIn wsX10_statement wsX10_setting := goodIn_r _ [57, 16, 17, 18, 6, 19, 20, 9, 2, 21, 1, 22, 23, 15, 24, 25, 26, 27, 28, 29, 30, 31, 32, 33, 34, 35, 36, 37, 38, 39, 40, 41, 42, 43, 44, 45, 46, 47, 48, 49, 50, 3, 4, 5, 7, 8, 10, 51, 52, 53, 138, 139, 140, 141, 142, 143, 144, 145, 146, 147, 148, 149, 150, 151, 152, 153, 154, 155, 156, 157, 158, 159, 160, 161, 162, 163, 164, 165, 166, 167, 168, 169, 170, 171, 172, 173, 174, 175, 176] rfl (by decide +kernel)
set_option maxRecDepth 20000 in
theorem gX10_statement_X10_setting : GoodIn wsX10_statement (wsV RX10 236 RX10 yX10_setting wsX10_setting) := goodIn_app (goodIn_r _ [54, 55, 56, 6] rfl (by decide +kernel)) ggX10_statement_X10_setting
set_option maxRecDepth 20000 in
theorem ggX10_takeOver_X10_copy : GoodIn wsX10_takeOver wsX10_copy := goodIn_r _ [17] rfl (by decide +kernel)
set_option maxRecDepth 20000 in
theorem gX10_takeOver_X10_copy : GoodIn wsX10_takeOver (va_wsS RX10 245 yX10_copy wsX10_copy) := goodIn_app (goodIn_r _ [14, 15, 16] rfl (by decide +kernel)) ggX10_takeOver_X10_copy
set_option maxRecDepth 20000 in
theorem ggX4_readCondition_X3_addStep : GoodIn wsX4_readCondition wsX3_addStep := goodIn_r _ [19, 20, 21, 22, 84, 85, 86, 87, 88, 89, 90, 91, 92, 93, 94, 95, 96, 97, 98, 99, 100] rfl (by decide +kernel)
set_option maxRecDepth 20000 in
theorem gX4_readCondition_X3_addStep : GoodIn wsX4_readCondition (wsV RX4 141 RX3 yX3_addStep wsX3_addStep) := goodIn_app (goodIn_r _ [15, 16, 17, 18] rfl (by decide +kernel)) ggX4_readCondition_X3_addStep
set_option maxRecDepth 20000 in
theorem ggX4_readCondition_X4_lookAt : GoodIn wsX4_readCondition wsX4_lookAt := goodIn_r _ [11, 12, 2, 1, 13, 14, 71, 72, 73, 74, 75, 76, 77, 78, 79, 80, 81, 82, 83] rfl (by decide +kernel)
set_option maxRecDepth 20000 in
theorem gX4_readCondition_X4_lookAt : GoodIn wsX4_readCondition (wsV RX4 38 RX4 yX4_lookAt wsX4_lookAt) := goodIn_app (goodIn_r _ [8, 9, 10, 7] rfl (by decide +kernel)) ggX4_readCondition_X4_lookAt
set_option maxRecDepth 20000 in
theorem ggX4_readCondition_X4_readBoth : GoodIn wsX4_readCondition wsX4_readBoth := goodIn_r _ [23, 1, 2, 3, 24, 25, 26, 7, 8, 9, 10, 11, 12, 13, 14, 15, 16, 17, 18, 19, 20, 21, 22, 0, 4, 5, 6, 27, 28, 29, 30, 31, 32, 33, 34, 35, 36, 37, 38, 39, 40, 41, 42, 43, 44, 45, 46, 47, 48, 49, 50, 51, 52, 53, 54, 55, 56, 57, 58, 59, 60, 61, 62, 63, 64, 65, 66, 67, 68, 69, 70, 71, 72, 73, 74, 75, 76, 77, 78, 79, 80, 81, 82, 83, 84, 85, 86, 87, 88, 89, 90, 91, 92, 93, 94, 95, 96, 97, 98, 99, 100] rfl (by decide +kernel)
set_option maxRecDepth 20000 in
theorem gX4_readCondition_X4_readBoth : GoodIn wsX4_readCondition (wsV RX4 138 RX4 yX4_readBoth wsX4_readBoth) := goodIn_app (goodIn_r _ [4, 5, 6, 7] rfl (by decide +kernel)) ggX4_readCondition_X4_readBoth
set_option maxRecDepth 20000 in
theorem ggX4_readFact_X3_addStep : GoodIn wsX4_readFact wsX3_addStep := goodIn_r _ [38, 39, 40, 41, 84, 85, 86, 87, 88, 89, 90, 91, 92, 93, 94, 95, 96, 97, 98, 99, 100] rfl (by decide +kernel)
set_option maxRecDepth 20000 in
theorem gX4_readFact_X3_addStep : GoodIn wsX4_readFact (wsV RX4 141 RX3 yX3_addStep wsX3_addStep) := goodIn_app (goodIn_r _ [34, 35, 36, 37] rfl (by decide +kernel)) ggX4_readFact_X3_addStep
set_option maxRecDepth 20000 in
theorem ggX4_readFact_X4_fail : GoodIn wsX4_readFact wsX4_fail := goodIn_r _ [10, 1, 11, 12, 13, 71, 72, 73, 74, 75, 76, 77, 78, 79] rfl (by decide +kernel)
set_option maxRecDepth 20000 in
theorem gX4_readFact_X4_fail : GoodIn wsX4_readFact (wsV RX4 63 RX4 yX4_fail wsX4_fail) := goodIn_app (goodIn_r _ [6, 7, 8, 9] rfl (by decide +kernel)) ggX4_readFact_X4_fail
set_option maxRecDepth 20000 in
theorem ggX4_readFact_X4_lookAt : GoodIn wsX4_readFact wsX4_lookAt := goodIn_r _ [21, 22, 2, 1, 12, 23, 71, 72, 73, 74, 75, 76, 77, 78, 79, 80, 81, 82, 83] rfl (by decide +kernel)
set_option maxRecDepth 20000 in
theorem gX4_readFact_X4_lookAt : GoodIn wsX4_readFact (wsV RX4 38 RX4 yX4_lookAt wsX4_lookAt) := goodIn_app (goodIn_r _ [18, 19, 20, 9] rfl (by decide +kernel)) ggX4_readFact_X4_lookAt
set_option maxRecDepth 20000 in
theorem ggX4_readFact_X4_readCondition : GoodIn wsX4_readFact wsX4_readCondition := goodIn_r _ [67, 1, 2, 3, 68, 69, 70, 9, 18, 19, 20, 21, 22, 12, 23, 34, 35, 36, 37, 38, 39, 40, 41, 66, 31, 32, 33, 0, 4, 5, 6, 7, 8, 10, 11, 13, 14, 15, 16, 17, 24, 25, 26, 27, 28, 29, 30, 42, 43, 44, 45, 46, 47, 48, 49, 50, 51, 52, 53, 54, 55, 56, 57, 58, 59, 60, 61, 62, 63, 64, 65, 71, 72, 73, 74, 75, 76, 77, 78, 79, 80, 81, 82, 83, 84, 85, 86, 87, 88, 89, 90, 91, 92, 93, 94, 95, 96, 97, 98, 99, 100] rfl (by decide +kernel)
set_option maxRecDepth 20000 in
theorem gX4_readFact_X4_readCondition : GoodIn wsX4_readFact (wsV RX4 131 RX4 yX4_readCondition wsX4_readCondition) := goodIn_app (goodIn_r _ [24, 25, 26, 9] rfl (by decide +kernel)) ggX4_readFact_X4_readCondition
set_option maxRecDepth 20000 in
theorem ggX4_readFact_X4_readDoneName : GoodIn wsX4_readFact wsX4_readDoneName := goodIn_r _ [59, 1, 3, 23, 2, 6, 7, 8, 9, 10, 11, 12, 13, 60, 61, 62, 37, 63, 64, 65, 18, 19, 20, 21, 22, 34, 35, 36, 38, 39, 40, 41, 71, 72, 73, 74, 75, 76, 77, 78, 79, 84, 85, 86, 87, 88, 89, 90, 91, 92, 93, 94, 95, 96, 97, 98, 99, 100, 80, 81, 82, 83] rfl (by decide +kernel)
set_option maxRecDepth 20000 in
theorem gX4_readFact_X4_readDoneName : GoodIn wsX4_readFact (wsV RX4 153 RX4 yX4_readDoneName wsX4_readDoneName) := goodIn_app (goodIn_r _ [56, 57, 58, 9] rfl (by decide +kernel)) ggX4_readFact_X4_readDoneName
set_option maxRecDepth 20000 in
theorem ggX4_readFact_X4_readFact : GoodIn wsX4_readFact wsX4_readFact := goodIn_r _ [0, 1, 2, 3, 4, 5, 6, 7, 8, 9, 10, 11, 12, 13, 14, 15, 16, 17, 18, 19, 20, 21, 22, 23, 24, 25, 26, 27, 28, 29, 30, 31, 32, 33, 34, 35, 36, 37, 38, 39, 40, 41, 42, 43, 44, 45, 46, 47, 48, 49, 50, 51, 52, 53, 54, 55, 56, 57, 58, 59, 60, 61, 62, 63, 64, 65, 66, 67, 68, 69, 70, 71, 72, 73, 74, 75, 76, 77, 78, 79, 80, 81, 82, 83, 84, 85, 86, 87, 88, 89, 90, 91, 92, 93, 94, 95, 96, 97, 98, 99, 100] rfl (by decide +kernel)
set_option maxRecDepth 20000 in
theorem gX4_readFact_X4_readFact : GoodIn wsX4_readFact (wsV RX4 144 RX4 yX4_readFact wsX4_readFact) := goodIn_app (goodIn_r _ [31, 32, 33, 9] rfl (by decide +kernel)) ggX4_readFact_X4_readFact
set_option maxRecDepth 20000 in
theorem ggX4_readFact_X4_readProofName : GoodIn wsX4_readFact wsX4_readProofName := goodIn_r _ [49, 1, 3, 23, 2, 6, 7, 8, 9, 10, 11, 12, 13, 50, 51, 52, 37, 53, 54, 55, 18, 19, 20, 21, 22, 34, 35, 36, 38, 39, 40, 41, 71, 72, 73, 74, 75, 76, 77, 78, 79, 84, 85, 86, 87, 88, 89, 90, 91, 92, 93, 94, 95, 96, 97, 98, 99, 100, 80, 81, 82, 83] rfl (by decide +kernel)
set_option maxRecDepth 20000 in
theorem gX4_readFact_X4_readProofName : GoodIn wsX4_readFact (wsV RX4 150 RX4 yX4_readProofName wsX4_readProofName) := goodIn_app (goodIn_r _ [46, 47, 48, 9] rfl (by decide +kernel)) ggX4_readFact_X4_readProofName
set_option maxRecDepth 20000 in
theorem ggX4_readFact_X4_take : GoodIn wsX4_readFact wsX4_take := goodIn_r _ [30, 1, 2, 6, 7, 8, 9, 10, 11, 12, 13, 18, 19, 20, 21, 22, 23, 71, 72, 73, 74, 75, 76, 77, 78, 79, 80, 81, 82, 83] rfl (by decide +kernel)
set_option maxRecDepth 20000 in
theorem gX4_readFact_X4_take : GoodIn wsX4_readFact (wsV RX4 108 RX4 yX4_take wsX4_take) := goodIn_app (goodIn_r _ [27, 28, 29, 9] rfl (by decide +kernel)) ggX4_readFact_X4_take
set_option maxRecDepth 20000 in
theorem ggX4_readFact_X4_takeNumber : GoodIn wsX4_readFact wsX4_takeNumber := goodIn_r _ [45, 1, 23, 4, 2, 6, 7, 8, 9, 10, 11, 12, 13, 18, 19, 20, 21, 22, 71, 72, 73, 74, 75, 76, 77, 78, 79, 80, 81, 82, 83] rfl (by decide +kernel)
set_option maxRecDepth 20000 in
theorem gX4_readFact_X4_takeNumber : GoodIn wsX4_readFact (wsV RX4 94 RX4 yX4_takeNumber wsX4_takeNumber) := goodIn_app (goodIn_r _ [42, 43, 44, 9] rfl (by decide +kernel)) ggX4_readFact_X4_takeNumber
set_option maxRecDepth 20000 in
theorem ggX4_readFact_X7_beginsFact : GoodIn wsX4_readFact wsX7_beginsFact := goodIn_r _ [17] rfl (by decide +kernel)
set_option maxRecDepth 20000 in
theorem gX4_readFact_X7_beginsFact : GoodIn wsX4_readFact (va_wsS RX4 147 yX7_beginsFact wsX7_beginsFact) := goodIn_app (goodIn_r _ [14, 15, 16] rfl (by decide +kernel)) ggX4_readFact_X7_beginsFact
set_option maxRecDepth 20000 in
theorem ggX8_appendTo_J4_append_cf468 : GoodIn wsX8_appendTo wsJ4_append_cf468 := goodIn_r _ [14, 15, 16, 17, 18, 19, 20, 21, 22, 23, 24, 25, 26, 27, 28, 29, 30, 31, 32, 33, 34, 35, 36, 37, 38, 39, 40, 41, 42, 43, 44, 45, 46, 47, 48, 49, 50, 51, 52, 53, 54, 55, 56, 57, 58, 59, 60, 61, 62, 63, 64, 65, 66, 67, 68, 69, 70, 71, 72, 73, 74, 75, 76, 77, 78, 79, 80, 81, 82, 83, 84, 85, 86, 87, 88, 89, 90, 91, 92, 93, 94, 95, 96, 97, 98, 99, 100, 101, 102, 103, 104, 105, 106, 107, 108, 109, 110, 111, 112, 113, 114, 115, 116, 117, 118, 119, 120, 121, 122, 123, 124, 125, 126, 127, 128, 129, 130] rfl (by decide +kernel)
set_option maxRecDepth 20000 in
theorem gX8_appendTo_J4_append_cf468 : GoodIn wsX8_appendTo (wsV RX8 35 RJ4 yJ4_append_cf468 wsJ4_append_cf468) := goodIn_app (goodIn_r _ [10, 11, 12, 13] rfl (by decide +kernel)) ggX8_appendTo_J4_append_cf468
set_option maxRecDepth 20000 in
theorem ggX8_appendTo_X8_letterAt : GoodIn wsX8_appendTo wsX8_letterAt := goodIn_r _ [7, 8, 9, 1, 2, 3, 4] rfl (by decide +kernel)
set_option maxRecDepth 20000 in
theorem gX8_appendTo_X8_letterAt : GoodIn wsX8_appendTo (va_wsS RX8 31 yX8_letterAt wsX8_letterAt) := goodIn_app (goodIn_r _ [5, 6, 3] rfl (by decide +kernel)) ggX8_appendTo_X8_letterAt
set_option maxRecDepth 20000 in
theorem ggX8_appendTo_X8_letterCount : GoodIn wsX8_appendTo wsX8_letterCount := goodIn_r _ [4] rfl (by decide +kernel)
set_option maxRecDepth 20000 in
theorem gX8_appendTo_X8_letterCount : GoodIn wsX8_appendTo (va_wsS RX8 23 yX8_letterCount wsX8_letterCount) := goodIn_app (goodIn_r _ [1, 2, 3] rfl (by decide +kernel)) ggX8_appendTo_X8_letterCount
set_option maxRecDepth 20000 in
theorem ggX8_letterAt_X8_letterCount : GoodIn wsX8_letterAt wsX8_letterCount := goodIn_r _ [6] rfl (by decide +kernel)
set_option maxRecDepth 20000 in
theorem gX8_letterAt_X8_letterCount : GoodIn wsX8_letterAt (va_wsS RX8 23 yX8_letterCount wsX8_letterCount) := goodIn_app (goodIn_r _ [3, 4, 5] rfl (by decide +kernel)) ggX8_letterAt_X8_letterCount
set_option maxRecDepth 20000 in
theorem ggX9_proofCharacter_X8_letterAt : GoodIn wsX9_proofCharacter wsX8_letterAt := goodIn_r _ [18, 19, 20, 21, 13, 14, 15] rfl (by decide +kernel)
set_option maxRecDepth 20000 in
theorem gX9_proofCharacter_X8_letterAt : GoodIn wsX9_proofCharacter (va_wsS RX9 200 yX8_letterAt wsX8_letterAt) := goodIn_app (goodIn_r _ [16, 17, 14] rfl (by decide +kernel)) ggX9_proofCharacter_X8_letterAt
set_option maxRecDepth 20000 in
theorem ggX9_proofCharacter_X8_letterCount : GoodIn wsX9_proofCharacter wsX8_letterCount := goodIn_r _ [15] rfl (by decide +kernel)
set_option maxRecDepth 20000 in
theorem gX9_proofCharacter_X8_letterCount : GoodIn wsX9_proofCharacter (va_wsS RX9 190 yX8_letterCount wsX8_letterCount) := goodIn_app (goodIn_r _ [12, 13, 14] rfl (by decide +kernel)) ggX9_proofCharacter_X8_letterCount
set_option maxRecDepth 20000 in
theorem ggX9_proofCharacter_X9_needIndex : GoodIn wsX9_proofCharacter wsX9_needIndex := goodIn_ca (goodIn_r _ [9, 10, 11] rfl (by decide +kernel)) (goodIn_sub (fun _ h => List.mem_cons_of_mem _ (List.mem_append_right _ h)) (by decide +kernel))
set_option maxRecDepth 20000 in
theorem gX9_proofCharacter_X9_needIndex : GoodIn wsX9_proofCharacter (va_wsS RX9 196 yX9_needIndex wsX9_needIndex) := goodIn_app (goodIn_r _ [7, 8, 5] rfl (by decide +kernel)) ggX9_proofCharacter_X9_needIndex
set_option maxRecDepth 20000 in
theorem ggX9_proofCharacter_X9_needProof : GoodIn wsX9_proofCharacter wsX9_needProof := goodIn_ca (goodIn_r _ [6, 1, 7, 8, 5, 9, 10, 11, 22, 23, 24, 25, 26, 27, 28, 29, 30, 31, 32, 33, 34, 35, 36, 37, 38, 39, 40, 41, 42, 43, 44, 45, 46, 47] rfl (by decide +kernel)) (goodIn_sub (fun _ h => List.mem_cons_of_mem _ (List.mem_append_right _ h)) (by decide +kernel))
set_option maxRecDepth 20000 in
theorem gX9_proofCharacter_X9_needProof : GoodIn wsX9_proofCharacter (wsV RX9 180 RX9 yX9_needProof wsX9_needProof) := goodIn_app (goodIn_r _ [2, 3, 4, 5] rfl (by decide +kernel)) ggX9_proofCharacter_X9_needProof
set_option maxRecDepth 20000 in
theorem ggX9_write_J4_append_15ec4 : GoodIn wsX9_write wsJ4_append_15ec4 := goodIn_r _ [181, 182, 183, 21, 184, 23, 185, 28, 186, 187, 188, 189, 190, 29, 31, 32, 33, 34, 35, 36, 37, 38, 39, 40, 41, 42, 43, 44, 45, 46, 47, 48, 49, 50, 51, 52, 53, 54, 55, 56, 57, 58, 59, 60, 61, 62, 63, 64, 65, 66, 67, 68, 69, 70, 71, 72, 73, 74, 75, 76, 77, 78, 191, 192, 96, 193, 158, 194, 195, 196, 143, 144, 145, 197, 198, 148, 199, 150, 200, 201, 153, 202, 155, 156, 157, 159, 160, 203, 204, 205, 206, 207, 208, 209, 210, 211, 212, 213, 214, 215, 216, 217, 218, 219, 220, 221, 222, 223, 224, 122, 123, 124, 125, 126, 127, 128, 129, 130, 131, 132, 133, 134, 135, 81, 136, 137, 138, 139, 140, 141, 142, 146, 147, 149, 151, 152, 154, 225, 226, 227, 228, 229, 230, 316, 317, 318, 319, 326, 327, 328, 329] rfl (by decide +kernel)
set_option maxRecDepth 20000 in
theorem gX9_write_J4_append_15ec4 : GoodIn wsX9_write (wsV RX9 330 RJ4 yJ4_append_15ec4 wsJ4_append_15ec4) := goodIn_app (goodIn_r _ [178, 179, 180, 17] rfl (by decide +kernel)) ggX9_write_J4_append_15ec4
set_option maxRecDepth 20000 in
theorem ggX9_write_J4_append_bf812 : GoodIn wsX9_write wsJ4_append_bf812 := goodIn_r _ [234, 235, 236, 21, 237, 23, 238, 28, 29, 239, 240, 241, 242, 31, 32, 33, 34, 35, 36, 37, 38, 39, 40, 41, 42, 43, 44, 45, 46, 47, 48, 49, 50, 51, 52, 53, 54, 55, 56, 57, 58, 59, 60, 61, 62, 63, 64, 65, 66, 67, 68, 69, 70, 71, 72, 73, 74, 75, 76, 77, 78, 243, 244, 245, 246, 247, 248, 249, 96, 250, 158, 194, 195, 196, 143, 144, 145, 197, 198, 148, 199, 150, 200, 201, 153, 202, 251, 252, 253, 254, 255, 155, 156, 157, 159, 160, 316, 317, 318, 319] rfl (by decide +kernel)
set_option maxRecDepth 20000 in
theorem gX9_write_J4_append_bf812 : GoodIn wsX9_write (wsV RX9 333 RJ4 yJ4_append_bf812 wsJ4_append_bf812) := goodIn_app (goodIn_r _ [231, 232, 233, 17] rfl (by decide +kernel)) ggX9_write_J4_append_bf812
set_option maxRecDepth 20000 in
theorem ggX9_write_J4_append_cf468 : GoodIn wsX9_write wsJ4_append_cf468 := goodIn_r _ [114, 115, 116, 21, 117, 23, 118, 28, 29, 31, 32, 33, 34, 35, 36, 37, 38, 39, 40, 41, 42, 43, 44, 45, 46, 47, 48, 49, 50, 51, 52, 53, 54, 55, 56, 57, 58, 59, 60, 61, 62, 63, 64, 65, 66, 67, 68, 69, 70, 71, 72, 73, 74, 75, 76, 77, 78, 119, 120, 81, 121, 122, 123, 124, 125, 126, 127, 128, 96, 129, 130, 131, 132, 133, 134, 135, 136, 137, 138, 139, 140, 141, 142, 143, 144, 145, 146, 147, 148, 149, 150, 151, 152, 153, 154, 155, 156, 157, 158, 159, 160, 161, 162, 163, 164, 165, 166, 167, 168, 169, 170, 171, 172, 316, 317, 318, 319] rfl (by decide +kernel)
set_option maxRecDepth 20000 in
theorem gX9_write_J4_append_cf468 : GoodIn wsX9_write (wsV RX9 322 RJ4 yJ4_append_cf468 wsJ4_append_cf468) := goodIn_app (goodIn_r _ [173, 112, 113, 17] rfl (by decide +kernel)) ggX9_write_J4_append_cf468
set_option maxRecDepth 20000 in
theorem ggX9_write_J4_length_8abf5 : GoodIn wsX9_write wsJ4_length_8abf5 := goodIn_r _ [259, 260, 261, 21, 262, 23, 263, 28, 316, 317, 318, 319] rfl (by decide +kernel)
set_option maxRecDepth 20000 in
theorem gX9_write_J4_length_8abf5 : GoodIn wsX9_write (wsV RX9 340 RJ4 yJ4_length_8abf5 wsJ4_length_8abf5) := goodIn_app (goodIn_r _ [256, 257, 258, 17] rfl (by decide +kernel)) ggX9_write_J4_length_8abf5
set_option maxRecDepth 20000 in
theorem ggX9_write_J4_setLength_d00df : GoodIn wsX9_write wsJ4_setLength_d00df := goodIn_r _ [18, 19, 20, 21, 22, 23, 24, 25, 26, 27, 28, 29, 30, 31, 32, 33, 34, 35, 36, 37, 38, 39, 40, 41, 42, 43, 44, 45, 46, 47, 48, 49, 50, 51, 52, 53, 54, 55, 56, 57, 58, 59, 60, 61, 62, 63, 64, 65, 66, 67, 68, 69, 70, 71, 72, 73, 74, 75, 76, 77, 78, 79, 80, 81, 82, 83, 84, 85, 86, 87, 88, 89, 90, 17, 91, 92, 93, 94, 95, 96, 97, 98, 310, 311, 312, 313, 314, 315, 316, 317, 318, 319, 320, 321, 322, 323, 324, 325] rfl (by decide +kernel)
set_option maxRecDepth 20000 in
theorem gX9_write_J4_setLength_d00df : GoodIn wsX9_write (wsV RX9 312 RJ4 yJ4_setLength_d00df wsJ4_setLength_d00df) := goodIn_app (goodIn_r _ [14, 15, 16, 17] rfl (by decide +kernel)) ggX9_write_J4_setLength_d00df
set_option maxRecDepth 20000 in
theorem ggX9_write_X6_spelling : GoodIn wsX9_write wsX6_spelling := goodIn_r _ [177] rfl (by decide +kernel)
set_option maxRecDepth 20000 in
theorem gX9_write_X6_spelling : GoodIn wsX9_write (va_wsS RX9 326 yX6_spelling wsX6_spelling) := goodIn_app (goodIn_r _ [174, 175, 176] rfl (by decide +kernel)) ggX9_write_X6_spelling
set_option maxRecDepth 20000 in
theorem ggX9_write_X8_appendTo : GoodIn wsX9_write wsX8_appendTo := goodIn_r _ [102, 103, 104, 101, 105, 106, 107, 108, 109, 110, 111, 112, 113, 17, 114, 115, 116, 21, 117, 23, 118, 28, 29, 31, 32, 33, 34, 35, 36, 37, 38, 39, 40, 41, 42, 43, 44, 45, 46, 47, 48, 49, 50, 51, 52, 53, 54, 55, 56, 57, 58, 59, 60, 61, 62, 63, 64, 65, 66, 67, 68, 69, 70, 71, 72, 73, 74, 75, 76, 77, 78, 119, 120, 81, 121, 122, 123, 124, 125, 126, 127, 128, 96, 129, 130, 131, 132, 133, 134, 135, 136, 137, 138, 139, 140, 141, 142, 143, 144, 145, 146, 147, 148, 149, 150, 151, 152, 153, 154, 155, 156, 157, 158, 159, 160, 161, 162, 163, 164, 165, 166, 167, 168, 169, 170, 171, 172, 316, 317, 318, 319] rfl (by decide +kernel)
set_option maxRecDepth 20000 in
theorem gX9_write_X8_appendTo : GoodIn wsX9_write (va_wsS RX9 318 yX8_appendTo wsX8_appendTo) := goodIn_app (goodIn_r _ [99, 100, 101] rfl (by decide +kernel)) ggX9_write_X8_appendTo
set_option maxRecDepth 20000 in
theorem ggX9_write_X9_needMilestone : GoodIn wsX9_write wsX9_needMilestone := goodIn_ca (goodIn_r _ [8, 3, 9, 10, 7, 11, 12, 13, 264, 265, 266, 267, 268, 269, 270, 271, 272, 293, 294, 295, 296, 297, 298, 299, 300, 301, 302, 303, 304, 305, 306, 307, 308, 309] rfl (by decide +kernel)) (goodIn_sub (fun _ h => List.mem_cons_of_mem _ (List.mem_append_right _ h)) (by decide +kernel))
set_option maxRecDepth 20000 in
theorem gX9_write_X9_needMilestone : GoodIn wsX9_write (wsV RX9 119 RX9 yX9_needMilestone wsX9_needMilestone) := goodIn_app (goodIn_r _ [4, 5, 6, 7] rfl (by decide +kernel)) ggX9_write_X9_needMilestone
set_option maxRecDepth 20000 in
theorem ggX9_written_J4_charAt_5068e : GoodIn wsX9_written wsJ4_charAt_5068e := goodIn_r _ [23, 24, 25, 9, 26, 11, 27, 28, 29, 13, 30, 31, 32, 33, 34, 35, 36, 37, 38, 39, 40, 41, 42, 43, 44, 45, 46, 47, 48, 49, 50, 51, 52, 62, 63, 64, 65] rfl (by decide +kernel)
set_option maxRecDepth 20000 in
theorem gX9_written_J4_charAt_5068e : GoodIn wsX9_written (wsV RX9 343 RJ4 yJ4_charAt_5068e wsJ4_charAt_5068e) := goodIn_app (goodIn_r _ [20, 21, 22, 5] rfl (by decide +kernel)) ggX9_written_J4_charAt_5068e
set_option maxRecDepth 20000 in
theorem ggX9_written_J4_length_8abf5 : GoodIn wsX9_written wsJ4_length_8abf5 := goodIn_r _ [6, 7, 8, 9, 10, 11, 12, 13, 62, 63, 64, 65] rfl (by decide +kernel)
set_option maxRecDepth 20000 in
theorem gX9_written_J4_length_8abf5 : GoodIn wsX9_written (wsV RX9 340 RJ4 yJ4_length_8abf5 wsJ4_length_8abf5) := goodIn_app (goodIn_r _ [2, 3, 4, 5] rfl (by decide +kernel)) ggX9_written_J4_length_8abf5
set_option maxRecDepth 20000 in
theorem ggX9_written_X9_needIndex : GoodIn wsX9_written wsX9_needIndex := goodIn_ca (goodIn_r _ [17, 18, 19] rfl (by decide +kernel)) (goodIn_sub (fun _ h => List.mem_cons_of_mem _ (List.mem_append_right _ h)) (by decide +kernel))
set_option maxRecDepth 20000 in
theorem gX9_written_X9_needIndex : GoodIn wsX9_written (va_wsS RX9 196 yX9_needIndex wsX9_needIndex) := goodIn_app (goodIn_r _ [14, 15, 16] rfl (by decide +kernel)) ggX9_written_X9_needIndex
theorem dJ0_getBytes_840e7_0 : decode cJ0_getBytes_840e7 0 = .ok (.aload_n 0, 1) := by decide +kernel
theorem dJ0_getBytes_840e7_1 : decode cJ0_getBytes_840e7 1 = .ok (.invokevirtual 335, 3) := by decide +kernel
theorem dJ0_getBytes_840e7_4 : decode cJ0_getBytes_840e7 4 = .ok (.iload_n 3, 1) := by decide +kernel
theorem dJ0_getBytes_840e7_5 : decode cJ0_getBytes_840e7 5 = .ok (.if_icmp .ne 23, 3) := by decide +kernel
theorem dJ0_getBytes_840e7_8 : decode cJ0_getBytes_840e7 8 = .ok (.aload_n 0, 1) := by decide +kernel
theorem dJ0_getBytes_840e7_9 : decode cJ0_getBytes_840e7 9 = .ok (.getfield 9, 3) := by decide +kernel
theorem dJ0_getBytes_840e7_12 : decode cJ0_getBytes_840e7 12 = .ok (.iconst 0, 1) := by decide +kernel
theorem dJ0_getBytes_840e7_13 : decode cJ0_getBytes_840e7 13 = .ok (.aload_n 1, 1) := by decide +kernel
theorem dJ0_getBytes_840e7_14 : decode cJ0_getBytes_840e7 14 = .ok (.iload_n 2, 1) := by decide +kernel
theorem dJ0_getBytes_840e7_15 : decode cJ0_getBytes_840e7 15 = .ok (.iload_n 3, 1) := by decide +kernel
theorem dJ0_getBytes_840e7_16 : decode cJ0_getBytes_840e7 16 = .ok (.ishl, 1) := by decide +kernel
theorem dJ0_getBytes_840e7_17 : decode cJ0_getBytes_840e7 17 = .ok (.aload_n 0, 1) := by decide +kernel
theorem dJ0_getBytes_840e7_18 : decode cJ0_getBytes_840e7 18 = .ok (.getfield 9, 3) := by decide +kernel
theorem dJ0_getBytes_840e7_21 : decode cJ0_getBytes_840e7 21 = .ok (.arraylength, 1) := by decide +kernel
theorem dJ0_getBytes_840e7_22 : decode cJ0_getBytes_840e7 22 = .ok (.invokestatic 212, 3) := by decide +kernel
theorem dJ0_getBytes_840e7_25 : decode cJ0_getBytes_840e7 25 = .ok (.goto 18, 3) := by decide +kernel
theorem dJ0_getBytes_840e7_28 : decode cJ0_getBytes_840e7 28 = .ok (.aload_n 0, 1) := by decide +kernel
theorem dJ0_getBytes_840e7_29 : decode cJ0_getBytes_840e7 29 = .ok (.getfield 9, 3) := by decide +kernel
theorem dJ0_getBytes_840e7_32 : decode cJ0_getBytes_840e7 32 = .ok (.iconst 0, 1) := by decide +kernel
theorem dJ0_getBytes_840e7_33 : decode cJ0_getBytes_840e7 33 = .ok (.aload_n 1, 1) := by decide +kernel
theorem dJ0_getBytes_840e7_34 : decode cJ0_getBytes_840e7 34 = .ok (.iload_n 2, 1) := by decide +kernel
theorem dJ0_getBytes_840e7_35 : decode cJ0_getBytes_840e7 35 = .ok (.aload_n 0, 1) := by decide +kernel
theorem dJ0_getBytes_840e7_36 : decode cJ0_getBytes_840e7 36 = .ok (.getfield 9, 3) := by decide +kernel
theorem dJ0_getBytes_840e7_39 : decode cJ0_getBytes_840e7 39 = .ok (.arraylength, 1) := by decide +kernel
theorem dJ0_getBytes_840e7_40 : decode cJ0_getBytes_840e7 40 = .ok (.invokestatic 106, 3) := by decide +kernel
theorem dJ0_getBytes_840e7_43 : decode cJ0_getBytes_840e7 43 = .ok (.return_, 1) := by decide +kernel
theorem dJ1_canEncode_fc78d_0 : decode cJ1_canEncode_fc78d 0 = .ok (.iload_n 0, 1) := by decide +kernel
theorem dJ1_canEncode_fc78d_1 : decode cJ1_canEncode_fc78d 1 = .ok (.sipush 255, 3) := by decide +kernel
theorem dJ1_canEncode_fc78d_4 : decode cJ1_canEncode_fc78d 4 = .ok (.if_icmp .gt 7, 3) := by decide +kernel
theorem dJ1_canEncode_fc78d_7 : decode cJ1_canEncode_fc78d 7 = .ok (.iconst 1, 1) := by decide +kernel
theorem dJ1_canEncode_fc78d_8 : decode cJ1_canEncode_fc78d 8 = .ok (.goto 4, 3) := by decide +kernel
theorem dJ1_canEncode_fc78d_11 : decode cJ1_canEncode_fc78d 11 = .ok (.iconst 0, 1) := by decide +kernel
theorem dJ1_canEncode_fc78d_12 : decode cJ1_canEncode_fc78d 12 = .ok (.ireturn, 1) := by decide +kernel
theorem dJ4_append_15ec4_0 : decode cJ4_append_15ec4 0 = .ok (.aload_n 0, 1) := by decide +kernel
theorem dJ4_append_15ec4_1 : decode cJ4_append_15ec4 1 = .ok (.aload_n 1, 1) := by decide +kernel
theorem dJ4_append_15ec4_2 : decode cJ4_append_15ec4 2 = .ok (.invokespecial 29, 3) := by decide +kernel
theorem dJ4_append_15ec4_5 : decode cJ4_append_15ec4 5 = .ok (.pop, 1) := by decide +kernel
theorem dJ4_append_15ec4_6 : decode cJ4_append_15ec4 6 = .ok (.aload_n 0, 1) := by decide +kernel
theorem dJ4_append_15ec4_7 : decode cJ4_append_15ec4 7 = .ok (.areturn, 1) := by decide +kernel
theorem dJ4_append_bf812_0 : decode cJ4_append_bf812 0 = .ok (.aload_n 0, 1) := by decide +kernel
theorem dJ4_append_bf812_1 : decode cJ4_append_bf812 1 = .ok (.iload_n 1, 1) := by decide +kernel
theorem dJ4_append_bf812_2 : decode cJ4_append_bf812 2 = .ok (.invokespecial 53, 3) := by decide +kernel
theorem dJ4_append_bf812_5 : decode cJ4_append_bf812 5 = .ok (.pop, 1) := by decide +kernel
theorem dJ4_append_bf812_6 : decode cJ4_append_bf812 6 = .ok (.aload_n 0, 1) := by decide +kernel
theorem dJ4_append_bf812_7 : decode cJ4_append_bf812 7 = .ok (.areturn, 1) := by decide +kernel
theorem dJ4_append_cf468_0 : decode cJ4_append_cf468 0 = .ok (.aload_n 0, 1) := by decide +kernel
theorem dJ4_append_cf468_1 : decode cJ4_append_cf468 1 = .ok (.iload_n 1, 1) := by decide +kernel
theorem dJ4_append_cf468_2 : decode cJ4_append_cf468 2 = .ok (.invokespecial 50, 3) := by decide +kernel
theorem dJ4_append_cf468_5 : decode cJ4_append_cf468 5 = .ok (.pop, 1) := by decide +kernel
theorem dJ4_append_cf468_6 : decode cJ4_append_cf468 6 = .ok (.aload_n 0, 1) := by decide +kernel
theorem dJ4_append_cf468_7 : decode cJ4_append_cf468 7 = .ok (.areturn, 1) := by decide +kernel
theorem dJ4_charAt_5068e_0 : decode cJ4_charAt_5068e 0 = .ok (.aload_n 0, 1) := by decide +kernel
theorem dJ4_charAt_5068e_1 : decode cJ4_charAt_5068e 1 = .ok (.iload_n 1, 1) := by decide +kernel
theorem dJ4_charAt_5068e_2 : decode cJ4_charAt_5068e 2 = .ok (.invokespecial 329, 3) := by decide +kernel
theorem dJ4_charAt_5068e_5 : decode cJ4_charAt_5068e 5 = .ok (.ireturn, 1) := by decide +kernel
theorem dJ4_length_8abf5_0 : decode cJ4_length_8abf5 0 = .ok (.aload_n 0, 1) := by decide +kernel
theorem dJ4_length_8abf5_1 : decode cJ4_length_8abf5 1 = .ok (.invokespecial 343, 3) := by decide +kernel
theorem dJ4_length_8abf5_4 : decode cJ4_length_8abf5 4 = .ok (.ireturn, 1) := by decide +kernel
theorem dJ4_setLength_d00df_0 : decode cJ4_setLength_d00df 0 = .ok (.aload_n 0, 1) := by decide +kernel
theorem dJ4_setLength_d00df_1 : decode cJ4_setLength_d00df 1 = .ok (.iload_n 1, 1) := by decide +kernel
theorem dJ4_setLength_d00df_2 : decode cJ4_setLength_d00df 2 = .ok (.invokespecial 333, 3) := by decide +kernel
theorem dJ4_setLength_d00df_5 : decode cJ4_setLength_d00df 5 = .ok (.return_, 1) := by decide +kernel
theorem dJ5_append_3fe6f_0 : decode cJ5_append_3fe6f 0 = .ok (.aload_n 0, 1) := by decide +kernel
theorem dJ5_append_3fe6f_1 : decode cJ5_append_3fe6f 1 = .ok (.aload_n 0, 1) := by decide +kernel
theorem dJ5_append_3fe6f_2 : decode cJ5_append_3fe6f 2 = .ok (.getfield 79, 3) := by decide +kernel
theorem dJ5_append_3fe6f_5 : decode cJ5_append_3fe6f 5 = .ok (.iconst 1, 1) := by decide +kernel
theorem dJ5_append_3fe6f_6 : decode cJ5_append_3fe6f 6 = .ok (.iadd, 1) := by decide +kernel
theorem dJ5_append_3fe6f_7 : decode cJ5_append_3fe6f 7 = .ok (.invokevirtual 100, 3) := by decide +kernel
theorem dJ5_append_3fe6f_10 : decode cJ5_append_3fe6f 10 = .ok (.aload_n 0, 1) := by decide +kernel
theorem dJ5_append_3fe6f_11 : decode cJ5_append_3fe6f 11 = .ok (.invokevirtual 83, 3) := by decide +kernel
theorem dJ5_append_3fe6f_14 : decode cJ5_append_3fe6f 14 = .ok (.ifCond .eq 31, 3) := by decide +kernel
theorem dJ5_append_3fe6f_17 : decode cJ5_append_3fe6f 17 = .ok (.iload_n 1, 1) := by decide +kernel
theorem dJ5_append_3fe6f_18 : decode cJ5_append_3fe6f 18 = .ok (.invokestatic 191, 3) := by decide +kernel
theorem dJ5_append_3fe6f_21 : decode cJ5_append_3fe6f 21 = .ok (.ifCond .eq 24, 3) := by decide +kernel
theorem dJ5_append_3fe6f_24 : decode cJ5_append_3fe6f 24 = .ok (.aload_n 0, 1) := by decide +kernel
theorem dJ5_append_3fe6f_25 : decode cJ5_append_3fe6f 25 = .ok (.getfield 15, 3) := by decide +kernel
theorem dJ5_append_3fe6f_28 : decode cJ5_append_3fe6f 28 = .ok (.aload_n 0, 1) := by decide +kernel
theorem dJ5_append_3fe6f_29 : decode cJ5_append_3fe6f 29 = .ok (.dup, 1) := by decide +kernel
theorem dJ5_append_3fe6f_30 : decode cJ5_append_3fe6f 30 = .ok (.getfield 79, 3) := by decide +kernel
theorem dJ5_append_3fe6f_33 : decode cJ5_append_3fe6f 33 = .ok (.dup_x1, 1) := by decide +kernel
theorem dJ5_append_3fe6f_34 : decode cJ5_append_3fe6f 34 = .ok (.iconst 1, 1) := by decide +kernel
theorem dJ5_append_3fe6f_35 : decode cJ5_append_3fe6f 35 = .ok (.iadd, 1) := by decide +kernel
theorem dJ5_append_3fe6f_36 : decode cJ5_append_3fe6f 36 = .ok (.putfield 79, 3) := by decide +kernel
theorem dJ5_append_3fe6f_39 : decode cJ5_append_3fe6f 39 = .ok (.iload_n 1, 1) := by decide +kernel
theorem dJ5_append_3fe6f_40 : decode cJ5_append_3fe6f 40 = .ok (.i2b, 1) := by decide +kernel
theorem dJ5_append_3fe6f_41 : decode cJ5_append_3fe6f 41 = .ok (.bastore, 1) := by decide +kernel
theorem dJ5_append_3fe6f_42 : decode cJ5_append_3fe6f 42 = .ok (.goto 33, 3) := by decide +kernel
theorem dJ5_append_3fe6f_45 : decode cJ5_append_3fe6f 45 = .ok (.aload_n 0, 1) := by decide +kernel
theorem dJ5_append_3fe6f_46 : decode cJ5_append_3fe6f 46 = .ok (.invokevirtual 83, 3) := by decide +kernel
theorem dJ5_append_3fe6f_49 : decode cJ5_append_3fe6f 49 = .ok (.ifCond .eq 7, 3) := by decide +kernel
theorem dJ5_append_3fe6f_52 : decode cJ5_append_3fe6f 52 = .ok (.aload_n 0, 1) := by decide +kernel
theorem dJ5_append_3fe6f_53 : decode cJ5_append_3fe6f 53 = .ok (.invokevirtual 195, 3) := by decide +kernel
theorem dJ5_append_3fe6f_56 : decode cJ5_append_3fe6f 56 = .ok (.aload_n 0, 1) := by decide +kernel
theorem dJ5_append_3fe6f_57 : decode cJ5_append_3fe6f 57 = .ok (.getfield 15, 3) := by decide +kernel
theorem dJ5_append_3fe6f_60 : decode cJ5_append_3fe6f 60 = .ok (.aload_n 0, 1) := by decide +kernel
theorem dJ5_append_3fe6f_61 : decode cJ5_append_3fe6f 61 = .ok (.dup, 1) := by decide +kernel
theorem dJ5_append_3fe6f_62 : decode cJ5_append_3fe6f 62 = .ok (.getfield 79, 3) := by decide +kernel
theorem dJ5_append_3fe6f_65 : decode cJ5_append_3fe6f 65 = .ok (.dup_x1, 1) := by decide +kernel
theorem dJ5_append_3fe6f_66 : decode cJ5_append_3fe6f 66 = .ok (.iconst 1, 1) := by decide +kernel
theorem dJ5_append_3fe6f_67 : decode cJ5_append_3fe6f 67 = .ok (.iadd, 1) := by decide +kernel
theorem dJ5_append_3fe6f_68 : decode cJ5_append_3fe6f 68 = .ok (.putfield 79, 3) := by decide +kernel
theorem dJ5_append_3fe6f_71 : decode cJ5_append_3fe6f 71 = .ok (.iload_n 1, 1) := by decide +kernel
theorem dJ5_append_3fe6f_72 : decode cJ5_append_3fe6f 72 = .ok (.invokestatic 197, 3) := by decide +kernel
theorem dJ5_append_3fe6f_75 : decode cJ5_append_3fe6f 75 = .ok (.aload_n 0, 1) := by decide +kernel
theorem dJ5_append_3fe6f_76 : decode cJ5_append_3fe6f 76 = .ok (.areturn, 1) := by decide +kernel
theorem dJ5_append_c97b9_0 : decode cJ5_append_c97b9 0 = .ok (.aload_n 0, 1) := by decide +kernel
theorem dJ5_append_c97b9_1 : decode cJ5_append_c97b9 1 = .ok (.getfield 79, 3) := by decide +kernel
theorem dJ5_append_c97b9_4 : decode cJ5_append_c97b9 4 = .ok (.istore_n 2, 1) := by decide +kernel
theorem dJ5_append_c97b9_5 : decode cJ5_append_c97b9 5 = .ok (.iload_n 2, 1) := by decide +kernel
theorem dJ5_append_c97b9_6 : decode cJ5_append_c97b9 6 = .ok (.iload_n 1, 1) := by decide +kernel
theorem dJ5_append_c97b9_7 : decode cJ5_append_c97b9 7 = .ok (.invokestatic 245, 3) := by decide +kernel
theorem dJ5_append_c97b9_10 : decode cJ5_append_c97b9 10 = .ok (.iadd, 1) := by decide +kernel
theorem dJ5_append_c97b9_11 : decode cJ5_append_c97b9 11 = .ok (.istore_n 3, 1) := by decide +kernel
theorem dJ5_append_c97b9_12 : decode cJ5_append_c97b9 12 = .ok (.aload_n 0, 1) := by decide +kernel
theorem dJ5_append_c97b9_13 : decode cJ5_append_c97b9 13 = .ok (.iload_n 3, 1) := by decide +kernel
theorem dJ5_append_c97b9_14 : decode cJ5_append_c97b9 14 = .ok (.invokevirtual 100, 3) := by decide +kernel
theorem dJ5_append_c97b9_17 : decode cJ5_append_c97b9 17 = .ok (.aload_n 0, 1) := by decide +kernel
theorem dJ5_append_c97b9_18 : decode cJ5_append_c97b9 18 = .ok (.invokevirtual 83, 3) := by decide +kernel
theorem dJ5_append_c97b9_21 : decode cJ5_append_c97b9 21 = .ok (.ifCond .eq 16, 3) := by decide +kernel
theorem dJ5_append_c97b9_24 : decode cJ5_append_c97b9 24 = .ok (.iload_n 1, 1) := by decide +kernel
theorem dJ5_append_c97b9_25 : decode cJ5_append_c97b9 25 = .ok (.iload_n 3, 1) := by decide +kernel
theorem dJ5_append_c97b9_26 : decode cJ5_append_c97b9 26 = .ok (.aload_n 0, 1) := by decide +kernel
theorem dJ5_append_c97b9_27 : decode cJ5_append_c97b9 27 = .ok (.getfield 15, 3) := by decide +kernel
theorem dJ5_append_c97b9_30 : decode cJ5_append_c97b9 30 = .ok (.invokestatic 248, 3) := by decide +kernel
theorem dJ5_append_c97b9_33 : decode cJ5_append_c97b9 33 = .ok (.pop, 1) := by decide +kernel
theorem dJ5_append_c97b9_34 : decode cJ5_append_c97b9 34 = .ok (.goto 14, 3) := by decide +kernel
theorem dJ5_append_c97b9_37 : decode cJ5_append_c97b9 37 = .ok (.iload_n 1, 1) := by decide +kernel
theorem dJ5_append_c97b9_38 : decode cJ5_append_c97b9 38 = .ok (.iload_n 2, 1) := by decide +kernel
theorem dJ5_append_c97b9_39 : decode cJ5_append_c97b9 39 = .ok (.iload_n 3, 1) := by decide +kernel
theorem dJ5_append_c97b9_40 : decode cJ5_append_c97b9 40 = .ok (.aload_n 0, 1) := by decide +kernel
theorem dJ5_append_c97b9_41 : decode cJ5_append_c97b9 41 = .ok (.getfield 15, 3) := by decide +kernel
theorem dJ5_append_c97b9_44 : decode cJ5_append_c97b9 44 = .ok (.invokestatic 251, 3) := by decide +kernel
theorem dJ5_append_c97b9_47 : decode cJ5_append_c97b9 47 = .ok (.pop, 1) := by decide +kernel
theorem dJ5_append_c97b9_48 : decode cJ5_append_c97b9 48 = .ok (.aload_n 0, 1) := by decide +kernel
theorem dJ5_append_c97b9_49 : decode cJ5_append_c97b9 49 = .ok (.iload_n 3, 1) := by decide +kernel
theorem dJ5_append_c97b9_50 : decode cJ5_append_c97b9 50 = .ok (.putfield 79, 3) := by decide +kernel
theorem dJ5_append_c97b9_53 : decode cJ5_append_c97b9 53 = .ok (.aload_n 0, 1) := by decide +kernel
theorem dJ5_append_c97b9_54 : decode cJ5_append_c97b9 54 = .ok (.areturn, 1) := by decide +kernel
theorem dJ5_append_cf1ce_0 : decode cJ5_append_cf1ce 0 = .ok (.aload_n 1, 1) := by decide +kernel
theorem dJ5_append_cf1ce_1 : decode cJ5_append_cf1ce 1 = .ok (.ifnonnull 8, 3) := by decide +kernel
theorem dJ5_append_cf1ce_4 : decode cJ5_append_cf1ce 4 = .ok (.aload_n 0, 1) := by decide +kernel
theorem dJ5_append_cf1ce_5 : decode cJ5_append_cf1ce 5 = .ok (.invokevirtual 204, 3) := by decide +kernel
theorem dJ5_append_cf1ce_8 : decode cJ5_append_cf1ce 8 = .ok (.areturn, 1) := by decide +kernel
theorem dJ5_append_cf1ce_9 : decode cJ5_append_cf1ce 9 = .ok (.aload_n 1, 1) := by decide +kernel
theorem dJ5_append_cf1ce_10 : decode cJ5_append_cf1ce 10 = .ok (.invokevirtual 32, 3) := by decide +kernel
theorem dJ5_append_cf1ce_13 : decode cJ5_append_cf1ce 13 = .ok (.istore_n 2, 1) := by decide +kernel
theorem dJ5_append_cf1ce_14 : decode cJ5_append_cf1ce 14 = .ok (.aload_n 0, 1) := by decide +kernel
theorem dJ5_append_cf1ce_15 : decode cJ5_append_cf1ce 15 = .ok (.aload_n 0, 1) := by decide +kernel
theorem dJ5_append_cf1ce_16 : decode cJ5_append_cf1ce 16 = .ok (.getfield 79, 3) := by decide +kernel
theorem dJ5_append_cf1ce_19 : decode cJ5_append_cf1ce 19 = .ok (.iload_n 2, 1) := by decide +kernel
theorem dJ5_append_cf1ce_20 : decode cJ5_append_cf1ce 20 = .ok (.iadd, 1) := by decide +kernel
theorem dJ5_append_cf1ce_21 : decode cJ5_append_cf1ce 21 = .ok (.invokevirtual 100, 3) := by decide +kernel
theorem dJ5_append_cf1ce_24 : decode cJ5_append_cf1ce 24 = .ok (.aload_n 0, 1) := by decide +kernel
theorem dJ5_append_cf1ce_25 : decode cJ5_append_cf1ce 25 = .ok (.aload_n 0, 1) := by decide +kernel
theorem dJ5_append_cf1ce_26 : decode cJ5_append_cf1ce 26 = .ok (.getfield 79, 3) := by decide +kernel
theorem dJ5_append_cf1ce_29 : decode cJ5_append_cf1ce 29 = .ok (.aload_n 1, 1) := by decide +kernel
theorem dJ5_append_cf1ce_30 : decode cJ5_append_cf1ce 30 = .ok (.invokevirtual 208, 3) := by decide +kernel
theorem dJ5_append_cf1ce_33 : decode cJ5_append_cf1ce 33 = .ok (.aload_n 0, 1) := by decide +kernel
theorem dJ5_append_cf1ce_34 : decode cJ5_append_cf1ce 34 = .ok (.dup, 1) := by decide +kernel
theorem dJ5_append_cf1ce_35 : decode cJ5_append_cf1ce 35 = .ok (.getfield 79, 3) := by decide +kernel
theorem dJ5_append_cf1ce_38 : decode cJ5_append_cf1ce 38 = .ok (.iload_n 2, 1) := by decide +kernel
theorem dJ5_append_cf1ce_39 : decode cJ5_append_cf1ce 39 = .ok (.iadd, 1) := by decide +kernel
theorem dJ5_append_cf1ce_40 : decode cJ5_append_cf1ce 40 = .ok (.putfield 79, 3) := by decide +kernel
theorem dJ5_append_cf1ce_43 : decode cJ5_append_cf1ce 43 = .ok (.aload_n 0, 1) := by decide +kernel
theorem dJ5_append_cf1ce_44 : decode cJ5_append_cf1ce 44 = .ok (.areturn, 1) := by decide +kernel
theorem dJ5_charAt_5068e_0 : decode cJ5_charAt_5068e 0 = .ok (.aload_n 0, 1) := by decide +kernel
theorem dJ5_charAt_5068e_1 : decode cJ5_charAt_5068e 1 = .ok (.getfield 22, 3) := by decide +kernel
theorem dJ5_charAt_5068e_4 : decode cJ5_charAt_5068e 4 = .ok (.istore_n 2, 1) := by decide +kernel
theorem dJ5_charAt_5068e_5 : decode cJ5_charAt_5068e 5 = .ok (.aload_n 0, 1) := by decide +kernel
theorem dJ5_charAt_5068e_6 : decode cJ5_charAt_5068e 6 = .ok (.getfield 15, 3) := by decide +kernel
theorem dJ5_charAt_5068e_9 : decode cJ5_charAt_5068e 9 = .ok (.astore_n 3, 1) := by decide +kernel
theorem dJ5_charAt_5068e_10 : decode cJ5_charAt_5068e 10 = .ok (.aload_n 0, 1) := by decide +kernel
theorem dJ5_charAt_5068e_11 : decode cJ5_charAt_5068e 11 = .ok (.getfield 79, 3) := by decide +kernel
theorem dJ5_charAt_5068e_14 : decode cJ5_charAt_5068e 14 = .ok (.aload_n 3, 1) := by decide +kernel
theorem dJ5_charAt_5068e_15 : decode cJ5_charAt_5068e 15 = .ok (.arraylength, 1) := by decide +kernel
theorem dJ5_charAt_5068e_16 : decode cJ5_charAt_5068e 16 = .ok (.iload_n 2, 1) := by decide +kernel
theorem dJ5_charAt_5068e_17 : decode cJ5_charAt_5068e 17 = .ok (.ishr, 1) := by decide +kernel
theorem dJ5_charAt_5068e_18 : decode cJ5_charAt_5068e 18 = .ok (.invokestatic 138, 3) := by decide +kernel
theorem dJ5_charAt_5068e_21 : decode cJ5_charAt_5068e 21 = .ok (.istore 4, 2) := by decide +kernel
theorem dJ5_charAt_5068e_23 : decode cJ5_charAt_5068e 23 = .ok (.iload_n 1, 1) := by decide +kernel
theorem dJ5_charAt_5068e_24 : decode cJ5_charAt_5068e 24 = .ok (.iload 4, 2) := by decide +kernel
theorem dJ5_charAt_5068e_26 : decode cJ5_charAt_5068e 26 = .ok (.invokestatic 144, 3) := by decide +kernel
theorem dJ5_charAt_5068e_29 : decode cJ5_charAt_5068e 29 = .ok (.iload_n 2, 1) := by decide +kernel
theorem dJ5_charAt_5068e_30 : decode cJ5_charAt_5068e 30 = .ok (.ifCond .ne 12, 3) := by decide +kernel
theorem dJ5_charAt_5068e_33 : decode cJ5_charAt_5068e 33 = .ok (.aload_n 3, 1) := by decide +kernel
theorem dJ5_charAt_5068e_34 : decode cJ5_charAt_5068e 34 = .ok (.iload_n 1, 1) := by decide +kernel
theorem dJ5_charAt_5068e_35 : decode cJ5_charAt_5068e 35 = .ok (.baload, 1) := by decide +kernel
theorem dJ5_charAt_5068e_36 : decode cJ5_charAt_5068e 36 = .ok (.sipush 255, 3) := by decide +kernel
theorem dJ5_charAt_5068e_39 : decode cJ5_charAt_5068e 39 = .ok (.iand, 1) := by decide +kernel
theorem dJ5_charAt_5068e_40 : decode cJ5_charAt_5068e 40 = .ok (.i2c, 1) := by decide +kernel
theorem dJ5_charAt_5068e_41 : decode cJ5_charAt_5068e 41 = .ok (.ireturn, 1) := by decide +kernel
theorem dJ5_charAt_5068e_42 : decode cJ5_charAt_5068e 42 = .ok (.aload_n 3, 1) := by decide +kernel
theorem dJ5_charAt_5068e_43 : decode cJ5_charAt_5068e 43 = .ok (.iload_n 1, 1) := by decide +kernel
theorem dJ5_charAt_5068e_44 : decode cJ5_charAt_5068e 44 = .ok (.invokestatic 148, 3) := by decide +kernel
theorem dJ5_charAt_5068e_47 : decode cJ5_charAt_5068e 47 = .ok (.ireturn, 1) := by decide +kernel
theorem dJ5_ensureCapacityInternal_d00df_0 : decode cJ5_ensureCapacityInternal_d00df 0 = .ok (.aload_n 0, 1) := by decide +kernel
theorem dJ5_ensureCapacityInternal_d00df_1 : decode cJ5_ensureCapacityInternal_d00df 1 = .ok (.getfield 15, 3) := by decide +kernel
theorem dJ5_ensureCapacityInternal_d00df_4 : decode cJ5_ensureCapacityInternal_d00df 4 = .ok (.arraylength, 1) := by decide +kernel
theorem dJ5_ensureCapacityInternal_d00df_5 : decode cJ5_ensureCapacityInternal_d00df 5 = .ok (.aload_n 0, 1) := by decide +kernel
theorem dJ5_ensureCapacityInternal_d00df_6 : decode cJ5_ensureCapacityInternal_d00df 6 = .ok (.getfield 22, 3) := by decide +kernel
theorem dJ5_ensureCapacityInternal_d00df_9 : decode cJ5_ensureCapacityInternal_d00df 9 = .ok (.ishr, 1) := by decide +kernel
theorem dJ5_ensureCapacityInternal_d00df_10 : decode cJ5_ensureCapacityInternal_d00df 10 = .ok (.istore_n 2, 1) := by decide +kernel
theorem dJ5_ensureCapacityInternal_d00df_11 : decode cJ5_ensureCapacityInternal_d00df 11 = .ok (.iload_n 1, 1) := by decide +kernel
theorem dJ5_ensureCapacityInternal_d00df_12 : decode cJ5_ensureCapacityInternal_d00df 12 = .ok (.iload_n 2, 1) := by decide +kernel
theorem dJ5_ensureCapacityInternal_d00df_13 : decode cJ5_ensureCapacityInternal_d00df 13 = .ok (.isub, 1) := by decide +kernel
theorem dJ5_ensureCapacityInternal_d00df_14 : decode cJ5_ensureCapacityInternal_d00df 14 = .ok (.ifCond .le 24, 3) := by decide +kernel
theorem dJ5_ensureCapacityInternal_d00df_17 : decode cJ5_ensureCapacityInternal_d00df 17 = .ok (.aload_n 0, 1) := by decide +kernel
theorem dJ5_ensureCapacityInternal_d00df_18 : decode cJ5_ensureCapacityInternal_d00df 18 = .ok (.aload_n 0, 1) := by decide +kernel
theorem dJ5_ensureCapacityInternal_d00df_19 : decode cJ5_ensureCapacityInternal_d00df 19 = .ok (.getfield 15, 3) := by decide +kernel
theorem dJ5_ensureCapacityInternal_d00df_22 : decode cJ5_ensureCapacityInternal_d00df 22 = .ok (.aload_n 0, 1) := by decide +kernel
theorem dJ5_ensureCapacityInternal_d00df_23 : decode cJ5_ensureCapacityInternal_d00df 23 = .ok (.iload_n 1, 1) := by decide +kernel
theorem dJ5_ensureCapacityInternal_d00df_24 : decode cJ5_ensureCapacityInternal_d00df 24 = .ok (.invokevirtual 104, 3) := by decide +kernel
theorem dJ5_ensureCapacityInternal_d00df_27 : decode cJ5_ensureCapacityInternal_d00df 27 = .ok (.aload_n 0, 1) := by decide +kernel
theorem dJ5_ensureCapacityInternal_d00df_28 : decode cJ5_ensureCapacityInternal_d00df 28 = .ok (.getfield 22, 3) := by decide +kernel
theorem dJ5_ensureCapacityInternal_d00df_31 : decode cJ5_ensureCapacityInternal_d00df 31 = .ok (.ishl, 1) := by decide +kernel
theorem dJ5_ensureCapacityInternal_d00df_32 : decode cJ5_ensureCapacityInternal_d00df 32 = .ok (.invokestatic 108, 3) := by decide +kernel
theorem dJ5_ensureCapacityInternal_d00df_35 : decode cJ5_ensureCapacityInternal_d00df 35 = .ok (.putfield 15, 3) := by decide +kernel
theorem dJ5_ensureCapacityInternal_d00df_38 : decode cJ5_ensureCapacityInternal_d00df 38 = .ok (.return_, 1) := by decide +kernel
theorem dJ5_inflateIfNeededFor_a7421_0 : decode cJ5_inflateIfNeededFor_a7421 0 = .ok (.getstatic 18, 3) := by decide +kernel
theorem dJ5_inflateIfNeededFor_a7421_3 : decode cJ5_inflateIfNeededFor_a7421 3 = .ok (.ifCond .eq 18, 3) := by decide +kernel
theorem dJ5_inflateIfNeededFor_a7421_6 : decode cJ5_inflateIfNeededFor_a7421 6 = .ok (.aload_n 0, 1) := by decide +kernel
theorem dJ5_inflateIfNeededFor_a7421_7 : decode cJ5_inflateIfNeededFor_a7421 7 = .ok (.getfield 22, 3) := by decide +kernel
theorem dJ5_inflateIfNeededFor_a7421_10 : decode cJ5_inflateIfNeededFor_a7421 10 = .ok (.aload_n 1, 1) := by decide +kernel
theorem dJ5_inflateIfNeededFor_a7421_11 : decode cJ5_inflateIfNeededFor_a7421 11 = .ok (.invokevirtual 40, 3) := by decide +kernel
theorem dJ5_inflateIfNeededFor_a7421_14 : decode cJ5_inflateIfNeededFor_a7421 14 = .ok (.if_icmp .eq 7, 3) := by decide +kernel
theorem dJ5_inflateIfNeededFor_a7421_17 : decode cJ5_inflateIfNeededFor_a7421 17 = .ok (.aload_n 0, 1) := by decide +kernel
theorem dJ5_inflateIfNeededFor_a7421_18 : decode cJ5_inflateIfNeededFor_a7421 18 = .ok (.invokevirtual 195, 3) := by decide +kernel
theorem dJ5_inflateIfNeededFor_a7421_21 : decode cJ5_inflateIfNeededFor_a7421 21 = .ok (.return_, 1) := by decide +kernel
theorem dJ5_isLatin1_aae02_0 : decode cJ5_isLatin1_aae02 0 = .ok (.getstatic 18, 3) := by decide +kernel
theorem dJ5_isLatin1_aae02_3 : decode cJ5_isLatin1_aae02 3 = .ok (.ifCond .eq 14, 3) := by decide +kernel
theorem dJ5_isLatin1_aae02_6 : decode cJ5_isLatin1_aae02 6 = .ok (.aload_n 0, 1) := by decide +kernel
theorem dJ5_isLatin1_aae02_7 : decode cJ5_isLatin1_aae02 7 = .ok (.getfield 22, 3) := by decide +kernel
theorem dJ5_isLatin1_aae02_10 : decode cJ5_isLatin1_aae02 10 = .ok (.ifCond .ne 7, 3) := by decide +kernel
theorem dJ5_isLatin1_aae02_13 : decode cJ5_isLatin1_aae02 13 = .ok (.iconst 1, 1) := by decide +kernel
theorem dJ5_isLatin1_aae02_14 : decode cJ5_isLatin1_aae02 14 = .ok (.goto 4, 3) := by decide +kernel
theorem dJ5_isLatin1_aae02_17 : decode cJ5_isLatin1_aae02 17 = .ok (.iconst 0, 1) := by decide +kernel
theorem dJ5_isLatin1_aae02_18 : decode cJ5_isLatin1_aae02 18 = .ok (.ireturn, 1) := by decide +kernel
theorem dJ5_length_8abf5_0 : decode cJ5_length_8abf5 0 = .ok (.aload_n 0, 1) := by decide +kernel
theorem dJ5_length_8abf5_1 : decode cJ5_length_8abf5 1 = .ok (.getfield 79, 3) := by decide +kernel
theorem dJ5_length_8abf5_4 : decode cJ5_length_8abf5 4 = .ok (.ireturn, 1) := by decide +kernel
theorem dJ5_newCapacity_0f7a4_0 : decode cJ5_newCapacity_0f7a4 0 = .ok (.aload_n 0, 1) := by decide +kernel
theorem dJ5_newCapacity_0f7a4_1 : decode cJ5_newCapacity_0f7a4 1 = .ok (.getfield 15, 3) := by decide +kernel
theorem dJ5_newCapacity_0f7a4_4 : decode cJ5_newCapacity_0f7a4 4 = .ok (.arraylength, 1) := by decide +kernel
theorem dJ5_newCapacity_0f7a4_5 : decode cJ5_newCapacity_0f7a4 5 = .ok (.istore_n 2, 1) := by decide +kernel
theorem dJ5_newCapacity_0f7a4_6 : decode cJ5_newCapacity_0f7a4 6 = .ok (.iload_n 1, 1) := by decide +kernel
theorem dJ5_newCapacity_0f7a4_7 : decode cJ5_newCapacity_0f7a4 7 = .ok (.aload_n 0, 1) := by decide +kernel
theorem dJ5_newCapacity_0f7a4_8 : decode cJ5_newCapacity_0f7a4 8 = .ok (.getfield 22, 3) := by decide +kernel
theorem dJ5_newCapacity_0f7a4_11 : decode cJ5_newCapacity_0f7a4 11 = .ok (.ishl, 1) := by decide +kernel
theorem dJ5_newCapacity_0f7a4_12 : decode cJ5_newCapacity_0f7a4 12 = .ok (.istore_n 3, 1) := by decide +kernel
theorem dJ5_newCapacity_0f7a4_13 : decode cJ5_newCapacity_0f7a4 13 = .ok (.iload_n 3, 1) := by decide +kernel
theorem dJ5_newCapacity_0f7a4_14 : decode cJ5_newCapacity_0f7a4 14 = .ok (.iload_n 2, 1) := by decide +kernel
theorem dJ5_newCapacity_0f7a4_15 : decode cJ5_newCapacity_0f7a4 15 = .ok (.isub, 1) := by decide +kernel
theorem dJ5_newCapacity_0f7a4_16 : decode cJ5_newCapacity_0f7a4 16 = .ok (.istore 4, 2) := by decide +kernel
theorem dJ5_newCapacity_0f7a4_18 : decode cJ5_newCapacity_0f7a4 18 = .ok (.iload_n 2, 1) := by decide +kernel
theorem dJ5_newCapacity_0f7a4_19 : decode cJ5_newCapacity_0f7a4 19 = .ok (.iload 4, 2) := by decide +kernel
theorem dJ5_newCapacity_0f7a4_21 : decode cJ5_newCapacity_0f7a4 21 = .ok (.iload_n 2, 1) := by decide +kernel
theorem dJ5_newCapacity_0f7a4_22 : decode cJ5_newCapacity_0f7a4 22 = .ok (.iconst 2, 1) := by decide +kernel
theorem dJ5_newCapacity_0f7a4_23 : decode cJ5_newCapacity_0f7a4 23 = .ok (.aload_n 0, 1) := by decide +kernel
theorem dJ5_newCapacity_0f7a4_24 : decode cJ5_newCapacity_0f7a4 24 = .ok (.getfield 22, 3) := by decide +kernel
theorem dJ5_newCapacity_0f7a4_27 : decode cJ5_newCapacity_0f7a4 27 = .ok (.ishl, 1) := by decide +kernel
theorem dJ5_newCapacity_0f7a4_28 : decode cJ5_newCapacity_0f7a4 28 = .ok (.iadd, 1) := by decide +kernel
theorem dJ5_newCapacity_0f7a4_29 : decode cJ5_newCapacity_0f7a4 29 = .ok (.invokestatic 114, 3) := by decide +kernel
theorem dJ5_newCapacity_0f7a4_32 : decode cJ5_newCapacity_0f7a4 32 = .ok (.istore 5, 2) := by decide +kernel
theorem dJ5_newCapacity_0f7a4_34 : decode cJ5_newCapacity_0f7a4 34 = .ok (.iload 5, 2) := by decide +kernel
theorem dJ5_newCapacity_0f7a4_36 : decode cJ5_newCapacity_0f7a4 36 = .ok (.ldc 39, 2) := by decide +kernel
theorem dJ5_newCapacity_0f7a4_38 : decode cJ5_newCapacity_0f7a4 38 = .ok (.if_icmp .ne 13, 3) := by decide +kernel
theorem dJ5_newCapacity_0f7a4_41 : decode cJ5_newCapacity_0f7a4 41 = .ok (.new 120, 3) := by decide +kernel
theorem dJ5_newCapacity_0f7a4_44 : decode cJ5_newCapacity_0f7a4 44 = .ok (.dup, 1) := by decide +kernel
theorem dJ5_newCapacity_0f7a4_45 : decode cJ5_newCapacity_0f7a4 45 = .ok (.ldc 122, 2) := by decide +kernel
theorem dJ5_newCapacity_0f7a4_47 : decode cJ5_newCapacity_0f7a4 47 = .ok (.invokespecial 124, 3) := by decide +kernel
theorem dJ5_newCapacity_0f7a4_50 : decode cJ5_newCapacity_0f7a4 50 = .ok (.athrow, 1) := by decide +kernel
theorem dJ5_newCapacity_0f7a4_51 : decode cJ5_newCapacity_0f7a4 51 = .ok (.iload 5, 2) := by decide +kernel
theorem dJ5_newCapacity_0f7a4_53 : decode cJ5_newCapacity_0f7a4 53 = .ok (.aload_n 0, 1) := by decide +kernel
theorem dJ5_newCapacity_0f7a4_54 : decode cJ5_newCapacity_0f7a4 54 = .ok (.getfield 22, 3) := by decide +kernel
theorem dJ5_newCapacity_0f7a4_57 : decode cJ5_newCapacity_0f7a4 57 = .ok (.ishr, 1) := by decide +kernel
theorem dJ5_newCapacity_0f7a4_58 : decode cJ5_newCapacity_0f7a4 58 = .ok (.ireturn, 1) := by decide +kernel
theorem dJ5_putStringAt_47b60_0 : decode cJ5_putStringAt_47b60 0 = .ok (.aload_n 0, 1) := by decide +kernel
theorem dJ5_putStringAt_47b60_1 : decode cJ5_putStringAt_47b60 1 = .ok (.aload_n 2, 1) := by decide +kernel
theorem dJ5_putStringAt_47b60_2 : decode cJ5_putStringAt_47b60 2 = .ok (.invokevirtual 397, 3) := by decide +kernel
theorem dJ5_putStringAt_47b60_5 : decode cJ5_putStringAt_47b60 5 = .ok (.aload_n 2, 1) := by decide +kernel
theorem dJ5_putStringAt_47b60_6 : decode cJ5_putStringAt_47b60 6 = .ok (.aload_n 0, 1) := by decide +kernel
theorem dJ5_putStringAt_47b60_7 : decode cJ5_putStringAt_47b60 7 = .ok (.getfield 15, 3) := by decide +kernel
theorem dJ5_putStringAt_47b60_10 : decode cJ5_putStringAt_47b60 10 = .ok (.iload_n 1, 1) := by decide +kernel
theorem dJ5_putStringAt_47b60_11 : decode cJ5_putStringAt_47b60 11 = .ok (.aload_n 0, 1) := by decide +kernel
theorem dJ5_putStringAt_47b60_12 : decode cJ5_putStringAt_47b60 12 = .ok (.getfield 22, 3) := by decide +kernel
theorem dJ5_putStringAt_47b60_15 : decode cJ5_putStringAt_47b60 15 = .ok (.invokevirtual 399, 3) := by decide +kernel
theorem dJ5_putStringAt_47b60_18 : decode cJ5_putStringAt_47b60 18 = .ok (.return_, 1) := by decide +kernel
theorem dJ5_setLength_d00df_0 : decode cJ5_setLength_d00df 0 = .ok (.iload_n 1, 1) := by decide +kernel
theorem dJ5_setLength_d00df_1 : decode cJ5_setLength_d00df 1 = .ok (.ifCond .ge 12, 3) := by decide +kernel
theorem dJ5_setLength_d00df_4 : decode cJ5_setLength_d00df 4 = .ok (.new 129, 3) := by decide +kernel
theorem dJ5_setLength_d00df_7 : decode cJ5_setLength_d00df 7 = .ok (.dup, 1) := by decide +kernel
theorem dJ5_setLength_d00df_8 : decode cJ5_setLength_d00df 8 = .ok (.iload_n 1, 1) := by decide +kernel
theorem dJ5_setLength_d00df_9 : decode cJ5_setLength_d00df 9 = .ok (.invokespecial 131, 3) := by decide +kernel
theorem dJ5_setLength_d00df_12 : decode cJ5_setLength_d00df 12 = .ok (.athrow, 1) := by decide +kernel
theorem dJ5_setLength_d00df_13 : decode cJ5_setLength_d00df 13 = .ok (.aload_n 0, 1) := by decide +kernel
theorem dJ5_setLength_d00df_14 : decode cJ5_setLength_d00df 14 = .ok (.iload_n 1, 1) := by decide +kernel
theorem dJ5_setLength_d00df_15 : decode cJ5_setLength_d00df 15 = .ok (.invokevirtual 100, 3) := by decide +kernel
theorem dJ5_setLength_d00df_18 : decode cJ5_setLength_d00df 18 = .ok (.aload_n 0, 1) := by decide +kernel
theorem dJ5_setLength_d00df_19 : decode cJ5_setLength_d00df 19 = .ok (.getfield 79, 3) := by decide +kernel
theorem dJ5_setLength_d00df_22 : decode cJ5_setLength_d00df 22 = .ok (.iload_n 1, 1) := by decide +kernel
theorem dJ5_setLength_d00df_23 : decode cJ5_setLength_d00df 23 = .ok (.if_icmp .ge 40, 3) := by decide +kernel
theorem dJ5_setLength_d00df_26 : decode cJ5_setLength_d00df 26 = .ok (.aload_n 0, 1) := by decide +kernel
theorem dJ5_setLength_d00df_27 : decode cJ5_setLength_d00df 27 = .ok (.invokevirtual 83, 3) := by decide +kernel
theorem dJ5_setLength_d00df_30 : decode cJ5_setLength_d00df 30 = .ok (.ifCond .eq 18, 3) := by decide +kernel
theorem dJ5_setLength_d00df_33 : decode cJ5_setLength_d00df 33 = .ok (.aload_n 0, 1) := by decide +kernel
theorem dJ5_setLength_d00df_34 : decode cJ5_setLength_d00df 34 = .ok (.getfield 15, 3) := by decide +kernel
theorem dJ5_setLength_d00df_37 : decode cJ5_setLength_d00df 37 = .ok (.aload_n 0, 1) := by decide +kernel
theorem dJ5_setLength_d00df_38 : decode cJ5_setLength_d00df 38 = .ok (.getfield 79, 3) := by decide +kernel
theorem dJ5_setLength_d00df_41 : decode cJ5_setLength_d00df 41 = .ok (.iload_n 1, 1) := by decide +kernel
theorem dJ5_setLength_d00df_42 : decode cJ5_setLength_d00df 42 = .ok (.invokestatic 133, 3) := by decide +kernel
theorem dJ5_setLength_d00df_45 : decode cJ5_setLength_d00df 45 = .ok (.goto 31, 3) := by decide +kernel
theorem dJ5_setLength_d00df_48 : decode cJ5_setLength_d00df 48 = .ok (.aload_n 0, 1) := by decide +kernel
theorem dJ5_setLength_d00df_49 : decode cJ5_setLength_d00df 49 = .ok (.getfield 15, 3) := by decide +kernel
theorem dJ5_setLength_d00df_52 : decode cJ5_setLength_d00df 52 = .ok (.aload_n 0, 1) := by decide +kernel
theorem dJ5_setLength_d00df_53 : decode cJ5_setLength_d00df 53 = .ok (.getfield 79, 3) := by decide +kernel
theorem dJ5_setLength_d00df_56 : decode cJ5_setLength_d00df 56 = .ok (.iload_n 1, 1) := by decide +kernel
theorem dJ5_setLength_d00df_57 : decode cJ5_setLength_d00df 57 = .ok (.invokestatic 137, 3) := by decide +kernel
theorem dJ5_setLength_d00df_60 : decode cJ5_setLength_d00df 60 = .ok (.goto 16, 3) := by decide +kernel
theorem dJ5_setLength_d00df_63 : decode cJ5_setLength_d00df 63 = .ok (.aload_n 0, 1) := by decide +kernel
theorem dJ5_setLength_d00df_64 : decode cJ5_setLength_d00df 64 = .ok (.getfield 79, 3) := by decide +kernel
theorem dJ5_setLength_d00df_67 : decode cJ5_setLength_d00df 67 = .ok (.iload_n 1, 1) := by decide +kernel
theorem dJ5_setLength_d00df_68 : decode cJ5_setLength_d00df 68 = .ok (.if_icmp .le 8, 3) := by decide +kernel
theorem dJ5_setLength_d00df_71 : decode cJ5_setLength_d00df 71 = .ok (.aload_n 0, 1) := by decide +kernel
theorem dJ5_setLength_d00df_72 : decode cJ5_setLength_d00df 72 = .ok (.iconst 1, 1) := by decide +kernel
theorem dJ5_setLength_d00df_73 : decode cJ5_setLength_d00df 73 = .ok (.putfield 73, 3) := by decide +kernel
theorem dJ5_setLength_d00df_76 : decode cJ5_setLength_d00df 76 = .ok (.aload_n 0, 1) := by decide +kernel
theorem dJ5_setLength_d00df_77 : decode cJ5_setLength_d00df 77 = .ok (.iload_n 1, 1) := by decide +kernel
theorem dJ5_setLength_d00df_78 : decode cJ5_setLength_d00df 78 = .ok (.putfield 79, 3) := by decide +kernel
theorem dJ5_setLength_d00df_81 : decode cJ5_setLength_d00df 81 = .ok (.return_, 1) := by decide +kernel
theorem dJ6_getChars_ba4f3_0 : decode cJ6_getChars_ba4f3 0 = .ok (.iload_n 1, 1) := by decide +kernel
theorem dJ6_getChars_ba4f3_1 : decode cJ6_getChars_ba4f3 1 = .ok (.istore 5, 2) := by decide +kernel
theorem dJ6_getChars_ba4f3_3 : decode cJ6_getChars_ba4f3 3 = .ok (.iload_n 0, 1) := by decide +kernel
theorem dJ6_getChars_ba4f3_4 : decode cJ6_getChars_ba4f3 4 = .ok (.ifCond .ge 7, 3) := by decide +kernel
theorem dJ6_getChars_ba4f3_7 : decode cJ6_getChars_ba4f3 7 = .ok (.iconst 1, 1) := by decide +kernel
theorem dJ6_getChars_ba4f3_8 : decode cJ6_getChars_ba4f3 8 = .ok (.goto 4, 3) := by decide +kernel
theorem dJ6_getChars_ba4f3_11 : decode cJ6_getChars_ba4f3 11 = .ok (.iconst 0, 1) := by decide +kernel
theorem dJ6_getChars_ba4f3_12 : decode cJ6_getChars_ba4f3 12 = .ok (.istore 6, 2) := by decide +kernel
theorem dJ6_getChars_ba4f3_14 : decode cJ6_getChars_ba4f3 14 = .ok (.iload 6, 2) := by decide +kernel
theorem dJ6_getChars_ba4f3_16 : decode cJ6_getChars_ba4f3 16 = .ok (.ifCond .ne 6, 3) := by decide +kernel
theorem dJ6_getChars_ba4f3_19 : decode cJ6_getChars_ba4f3 19 = .ok (.iload_n 0, 1) := by decide +kernel
theorem dJ6_getChars_ba4f3_20 : decode cJ6_getChars_ba4f3 20 = .ok (.ineg, 1) := by decide +kernel
theorem dJ6_getChars_ba4f3_21 : decode cJ6_getChars_ba4f3 21 = .ok (.istore_n 0, 1) := by decide +kernel
theorem dJ6_getChars_ba4f3_22 : decode cJ6_getChars_ba4f3 22 = .ok (.iload_n 0, 1) := by decide +kernel
theorem dJ6_getChars_ba4f3_23 : decode cJ6_getChars_ba4f3 23 = .ok (.bipush (-100), 2) := by decide +kernel
theorem dJ6_getChars_ba4f3_25 : decode cJ6_getChars_ba4f3 25 = .ok (.if_icmp .gt 47, 3) := by decide +kernel
theorem dJ6_getChars_ba4f3_28 : decode cJ6_getChars_ba4f3 28 = .ok (.iload_n 0, 1) := by decide +kernel
theorem dJ6_getChars_ba4f3_29 : decode cJ6_getChars_ba4f3 29 = .ok (.bipush 100, 2) := by decide +kernel
theorem dJ6_getChars_ba4f3_31 : decode cJ6_getChars_ba4f3 31 = .ok (.idiv, 1) := by decide +kernel
theorem dJ6_getChars_ba4f3_32 : decode cJ6_getChars_ba4f3 32 = .ok (.istore_n 3, 1) := by decide +kernel
theorem dJ6_getChars_ba4f3_33 : decode cJ6_getChars_ba4f3 33 = .ok (.iload_n 3, 1) := by decide +kernel
theorem dJ6_getChars_ba4f3_34 : decode cJ6_getChars_ba4f3 34 = .ok (.bipush 100, 2) := by decide +kernel
theorem dJ6_getChars_ba4f3_36 : decode cJ6_getChars_ba4f3 36 = .ok (.imul, 1) := by decide +kernel
theorem dJ6_getChars_ba4f3_37 : decode cJ6_getChars_ba4f3 37 = .ok (.iload_n 0, 1) := by decide +kernel
theorem dJ6_getChars_ba4f3_38 : decode cJ6_getChars_ba4f3 38 = .ok (.isub, 1) := by decide +kernel
theorem dJ6_getChars_ba4f3_39 : decode cJ6_getChars_ba4f3 39 = .ok (.istore 4, 2) := by decide +kernel
theorem dJ6_getChars_ba4f3_41 : decode cJ6_getChars_ba4f3 41 = .ok (.iload_n 3, 1) := by decide +kernel
theorem dJ6_getChars_ba4f3_42 : decode cJ6_getChars_ba4f3 42 = .ok (.istore_n 0, 1) := by decide +kernel
theorem dJ6_getChars_ba4f3_43 : decode cJ6_getChars_ba4f3 43 = .ok (.aload_n 2, 1) := by decide +kernel
theorem dJ6_getChars_ba4f3_44 : decode cJ6_getChars_ba4f3 44 = .ok (.iinc 5 (-1), 3) := by decide +kernel
theorem dJ6_getChars_ba4f3_47 : decode cJ6_getChars_ba4f3 47 = .ok (.iload 5, 2) := by decide +kernel
theorem dJ6_getChars_ba4f3_49 : decode cJ6_getChars_ba4f3 49 = .ok (.getstatic 83, 3) := by decide +kernel
theorem dJ6_getChars_ba4f3_52 : decode cJ6_getChars_ba4f3 52 = .ok (.iload 4, 2) := by decide +kernel
theorem dJ6_getChars_ba4f3_54 : decode cJ6_getChars_ba4f3 54 = .ok (.baload, 1) := by decide +kernel
theorem dJ6_getChars_ba4f3_55 : decode cJ6_getChars_ba4f3 55 = .ok (.bastore, 1) := by decide +kernel
theorem dJ6_getChars_ba4f3_56 : decode cJ6_getChars_ba4f3 56 = .ok (.aload_n 2, 1) := by decide +kernel
theorem dJ6_getChars_ba4f3_57 : decode cJ6_getChars_ba4f3 57 = .ok (.iinc 5 (-1), 3) := by decide +kernel
theorem dJ6_getChars_ba4f3_60 : decode cJ6_getChars_ba4f3 60 = .ok (.iload 5, 2) := by decide +kernel
theorem dJ6_getChars_ba4f3_62 : decode cJ6_getChars_ba4f3 62 = .ok (.getstatic 87, 3) := by decide +kernel
theorem dJ6_getChars_ba4f3_65 : decode cJ6_getChars_ba4f3 65 = .ok (.iload 4, 2) := by decide +kernel
theorem dJ6_getChars_ba4f3_67 : decode cJ6_getChars_ba4f3 67 = .ok (.baload, 1) := by decide +kernel
theorem dJ6_getChars_ba4f3_68 : decode cJ6_getChars_ba4f3 68 = .ok (.bastore, 1) := by decide +kernel
theorem dJ6_getChars_ba4f3_69 : decode cJ6_getChars_ba4f3 69 = .ok (.goto (-47), 3) := by decide +kernel
theorem dJ6_getChars_ba4f3_72 : decode cJ6_getChars_ba4f3 72 = .ok (.aload_n 2, 1) := by decide +kernel
theorem dJ6_getChars_ba4f3_73 : decode cJ6_getChars_ba4f3 73 = .ok (.iinc 5 (-1), 3) := by decide +kernel
theorem dJ6_getChars_ba4f3_76 : decode cJ6_getChars_ba4f3 76 = .ok (.iload 5, 2) := by decide +kernel
theorem dJ6_getChars_ba4f3_78 : decode cJ6_getChars_ba4f3 78 = .ok (.getstatic 83, 3) := by decide +kernel
theorem dJ6_getChars_ba4f3_81 : decode cJ6_getChars_ba4f3 81 = .ok (.iload_n 0, 1) := by decide +kernel
theorem dJ6_getChars_ba4f3_82 : decode cJ6_getChars_ba4f3 82 = .ok (.ineg, 1) := by decide +kernel
theorem dJ6_getChars_ba4f3_83 : decode cJ6_getChars_ba4f3 83 = .ok (.baload, 1) := by decide +kernel
theorem dJ6_getChars_ba4f3_84 : decode cJ6_getChars_ba4f3 84 = .ok (.bastore, 1) := by decide +kernel
theorem dJ6_getChars_ba4f3_85 : decode cJ6_getChars_ba4f3 85 = .ok (.iload_n 0, 1) := by decide +kernel
theorem dJ6_getChars_ba4f3_86 : decode cJ6_getChars_ba4f3 86 = .ok (.bipush (-9), 2) := by decide +kernel
theorem dJ6_getChars_ba4f3_88 : decode cJ6_getChars_ba4f3 88 = .ok (.if_icmp .ge 16, 3) := by decide +kernel
theorem dJ6_getChars_ba4f3_91 : decode cJ6_getChars_ba4f3 91 = .ok (.aload_n 2, 1) := by decide +kernel
theorem dJ6_getChars_ba4f3_92 : decode cJ6_getChars_ba4f3 92 = .ok (.iinc 5 (-1), 3) := by decide +kernel
theorem dJ6_getChars_ba4f3_95 : decode cJ6_getChars_ba4f3 95 = .ok (.iload 5, 2) := by decide +kernel
theorem dJ6_getChars_ba4f3_97 : decode cJ6_getChars_ba4f3 97 = .ok (.getstatic 87, 3) := by decide +kernel
theorem dJ6_getChars_ba4f3_100 : decode cJ6_getChars_ba4f3 100 = .ok (.iload_n 0, 1) := by decide +kernel
theorem dJ6_getChars_ba4f3_101 : decode cJ6_getChars_ba4f3 101 = .ok (.ineg, 1) := by decide +kernel
theorem dJ6_getChars_ba4f3_102 : decode cJ6_getChars_ba4f3 102 = .ok (.baload, 1) := by decide +kernel
theorem dJ6_getChars_ba4f3_103 : decode cJ6_getChars_ba4f3 103 = .ok (.bastore, 1) := by decide +kernel
theorem dJ6_getChars_ba4f3_104 : decode cJ6_getChars_ba4f3 104 = .ok (.iload 6, 2) := by decide +kernel
theorem dJ6_getChars_ba4f3_106 : decode cJ6_getChars_ba4f3 106 = .ok (.ifCond .eq 12, 3) := by decide +kernel
theorem dJ6_getChars_ba4f3_109 : decode cJ6_getChars_ba4f3 109 = .ok (.aload_n 2, 1) := by decide +kernel
theorem dJ6_getChars_ba4f3_110 : decode cJ6_getChars_ba4f3 110 = .ok (.iinc 5 (-1), 3) := by decide +kernel
theorem dJ6_getChars_ba4f3_113 : decode cJ6_getChars_ba4f3 113 = .ok (.iload 5, 2) := by decide +kernel
theorem dJ6_getChars_ba4f3_115 : decode cJ6_getChars_ba4f3 115 = .ok (.bipush 45, 2) := by decide +kernel
theorem dJ6_getChars_ba4f3_117 : decode cJ6_getChars_ba4f3 117 = .ok (.bastore, 1) := by decide +kernel
theorem dJ6_getChars_ba4f3_118 : decode cJ6_getChars_ba4f3 118 = .ok (.iload 5, 2) := by decide +kernel
theorem dJ6_getChars_ba4f3_120 : decode cJ6_getChars_ba4f3 120 = .ok (.ireturn, 1) := by decide +kernel
theorem dJ6_stringSize_0f7a4_0 : decode cJ6_stringSize_0f7a4 0 = .ok (.iconst 1, 1) := by decide +kernel
theorem dJ6_stringSize_0f7a4_1 : decode cJ6_stringSize_0f7a4 1 = .ok (.istore_n 1, 1) := by decide +kernel
theorem dJ6_stringSize_0f7a4_2 : decode cJ6_stringSize_0f7a4 2 = .ok (.iload_n 0, 1) := by decide +kernel
theorem dJ6_stringSize_0f7a4_3 : decode cJ6_stringSize_0f7a4 3 = .ok (.ifCond .lt 8, 3) := by decide +kernel
theorem dJ6_stringSize_0f7a4_6 : decode cJ6_stringSize_0f7a4 6 = .ok (.iconst 0, 1) := by decide +kernel
theorem dJ6_stringSize_0f7a4_7 : decode cJ6_stringSize_0f7a4 7 = .ok (.istore_n 1, 1) := by decide +kernel
theorem dJ6_stringSize_0f7a4_8 : decode cJ6_stringSize_0f7a4 8 = .ok (.iload_n 0, 1) := by decide +kernel
theorem dJ6_stringSize_0f7a4_9 : decode cJ6_stringSize_0f7a4 9 = .ok (.ineg, 1) := by decide +kernel
theorem dJ6_stringSize_0f7a4_10 : decode cJ6_stringSize_0f7a4 10 = .ok (.istore_n 0, 1) := by decide +kernel
theorem dJ6_stringSize_0f7a4_11 : decode cJ6_stringSize_0f7a4 11 = .ok (.bipush (-10), 2) := by decide +kernel
theorem dJ6_stringSize_0f7a4_13 : decode cJ6_stringSize_0f7a4 13 = .ok (.istore_n 2, 1) := by decide +kernel
theorem dJ6_stringSize_0f7a4_14 : decode cJ6_stringSize_0f7a4 14 = .ok (.iconst 1, 1) := by decide +kernel
theorem dJ6_stringSize_0f7a4_15 : decode cJ6_stringSize_0f7a4 15 = .ok (.istore_n 3, 1) := by decide +kernel
theorem dJ6_stringSize_0f7a4_16 : decode cJ6_stringSize_0f7a4 16 = .ok (.iload_n 3, 1) := by decide +kernel
theorem dJ6_stringSize_0f7a4_17 : decode cJ6_stringSize_0f7a4 17 = .ok (.bipush 10, 2) := by decide +kernel
theorem dJ6_stringSize_0f7a4_19 : decode cJ6_stringSize_0f7a4 19 = .ok (.if_icmp .ge 23, 3) := by decide +kernel
theorem dJ6_stringSize_0f7a4_22 : decode cJ6_stringSize_0f7a4 22 = .ok (.iload_n 0, 1) := by decide +kernel
theorem dJ6_stringSize_0f7a4_23 : decode cJ6_stringSize_0f7a4 23 = .ok (.iload_n 2, 1) := by decide +kernel
theorem dJ6_stringSize_0f7a4_24 : decode cJ6_stringSize_0f7a4 24 = .ok (.if_icmp .le 7, 3) := by decide +kernel
theorem dJ6_stringSize_0f7a4_27 : decode cJ6_stringSize_0f7a4 27 = .ok (.iload_n 3, 1) := by decide +kernel
theorem dJ6_stringSize_0f7a4_28 : decode cJ6_stringSize_0f7a4 28 = .ok (.iload_n 1, 1) := by decide +kernel
theorem dJ6_stringSize_0f7a4_29 : decode cJ6_stringSize_0f7a4 29 = .ok (.iadd, 1) := by decide +kernel
theorem dJ6_stringSize_0f7a4_30 : decode cJ6_stringSize_0f7a4 30 = .ok (.ireturn, 1) := by decide +kernel
theorem dJ6_stringSize_0f7a4_31 : decode cJ6_stringSize_0f7a4 31 = .ok (.bipush 10, 2) := by decide +kernel
theorem dJ6_stringSize_0f7a4_33 : decode cJ6_stringSize_0f7a4 33 = .ok (.iload_n 2, 1) := by decide +kernel
theorem dJ6_stringSize_0f7a4_34 : decode cJ6_stringSize_0f7a4 34 = .ok (.imul, 1) := by decide +kernel
theorem dJ6_stringSize_0f7a4_35 : decode cJ6_stringSize_0f7a4 35 = .ok (.istore_n 2, 1) := by decide +kernel
theorem dJ6_stringSize_0f7a4_36 : decode cJ6_stringSize_0f7a4 36 = .ok (.iinc 3 1, 3) := by decide +kernel
theorem dJ6_stringSize_0f7a4_39 : decode cJ6_stringSize_0f7a4 39 = .ok (.goto (-23), 3) := by decide +kernel
theorem dJ6_stringSize_0f7a4_42 : decode cJ6_stringSize_0f7a4 42 = .ok (.bipush 10, 2) := by decide +kernel
theorem dJ6_stringSize_0f7a4_44 : decode cJ6_stringSize_0f7a4 44 = .ok (.iload_n 1, 1) := by decide +kernel
theorem dJ6_stringSize_0f7a4_45 : decode cJ6_stringSize_0f7a4 45 = .ok (.iadd, 1) := by decide +kernel
theorem dJ6_stringSize_0f7a4_46 : decode cJ6_stringSize_0f7a4 46 = .ok (.ireturn, 1) := by decide +kernel
theorem dJ7_copyOf_9075b_0 : decode cJ7_copyOf_9075b 0 = .ok (.iload_n 1, 1) := by decide +kernel
theorem dJ7_copyOf_9075b_1 : decode cJ7_copyOf_9075b 1 = .ok (.aload_n 0, 1) := by decide +kernel
theorem dJ7_copyOf_9075b_2 : decode cJ7_copyOf_9075b 2 = .ok (.arraylength, 1) := by decide +kernel
theorem dJ7_copyOf_9075b_3 : decode cJ7_copyOf_9075b 3 = .ok (.if_icmp .ne 11, 3) := by decide +kernel
theorem dJ7_copyOf_9075b_6 : decode cJ7_copyOf_9075b 6 = .ok (.aload_n 0, 1) := by decide +kernel
theorem dJ7_copyOf_9075b_7 : decode cJ7_copyOf_9075b 7 = .ok (.invokevirtual 310, 3) := by decide +kernel
theorem dJ7_copyOf_9075b_10 : decode cJ7_copyOf_9075b 10 = .ok (.checkcast 311, 3) := by decide +kernel
theorem dJ7_copyOf_9075b_13 : decode cJ7_copyOf_9075b 13 = .ok (.areturn, 1) := by decide +kernel
theorem dJ7_copyOf_9075b_14 : decode cJ7_copyOf_9075b 14 = .ok (.iload_n 1, 1) := by decide +kernel
theorem dJ7_copyOf_9075b_15 : decode cJ7_copyOf_9075b 15 = .ok (.newarray .byte, 2) := by decide +kernel
theorem dJ7_copyOf_9075b_17 : decode cJ7_copyOf_9075b 17 = .ok (.astore_n 2, 1) := by decide +kernel
theorem dJ7_copyOf_9075b_18 : decode cJ7_copyOf_9075b 18 = .ok (.aload_n 0, 1) := by decide +kernel
theorem dJ7_copyOf_9075b_19 : decode cJ7_copyOf_9075b 19 = .ok (.iconst 0, 1) := by decide +kernel
theorem dJ7_copyOf_9075b_20 : decode cJ7_copyOf_9075b 20 = .ok (.aload_n 2, 1) := by decide +kernel
theorem dJ7_copyOf_9075b_21 : decode cJ7_copyOf_9075b 21 = .ok (.iconst 0, 1) := by decide +kernel
theorem dJ7_copyOf_9075b_22 : decode cJ7_copyOf_9075b 22 = .ok (.aload_n 0, 1) := by decide +kernel
theorem dJ7_copyOf_9075b_23 : decode cJ7_copyOf_9075b 23 = .ok (.arraylength, 1) := by decide +kernel
theorem dJ7_copyOf_9075b_24 : decode cJ7_copyOf_9075b 24 = .ok (.iload_n 1, 1) := by decide +kernel
theorem dJ7_copyOf_9075b_25 : decode cJ7_copyOf_9075b 25 = .ok (.invokestatic 304, 3) := by decide +kernel
theorem dJ7_copyOf_9075b_28 : decode cJ7_copyOf_9075b 28 = .ok (.invokestatic 150, 3) := by decide +kernel
theorem dJ7_copyOf_9075b_31 : decode cJ7_copyOf_9075b 31 = .ok (.aload_n 2, 1) := by decide +kernel
theorem dJ7_copyOf_9075b_32 : decode cJ7_copyOf_9075b 32 = .ok (.areturn, 1) := by decide +kernel
theorem dJ8_newLength_cabcc_0 : decode cJ8_newLength_cabcc 0 = .ok (.iload_n 0, 1) := by decide +kernel
theorem dJ8_newLength_cabcc_1 : decode cJ8_newLength_cabcc 1 = .ok (.iload_n 1, 1) := by decide +kernel
theorem dJ8_newLength_cabcc_2 : decode cJ8_newLength_cabcc 2 = .ok (.iload_n 2, 1) := by decide +kernel
theorem dJ8_newLength_cabcc_3 : decode cJ8_newLength_cabcc 3 = .ok (.invokestatic 194, 3) := by decide +kernel
theorem dJ8_newLength_cabcc_6 : decode cJ8_newLength_cabcc 6 = .ok (.iadd, 1) := by decide +kernel
theorem dJ8_newLength_cabcc_7 : decode cJ8_newLength_cabcc 7 = .ok (.istore_n 3, 1) := by decide +kernel
theorem dJ8_newLength_cabcc_8 : decode cJ8_newLength_cabcc 8 = .ok (.iconst 0, 1) := by decide +kernel
theorem dJ8_newLength_cabcc_9 : decode cJ8_newLength_cabcc 9 = .ok (.iload_n 3, 1) := by decide +kernel
theorem dJ8_newLength_cabcc_10 : decode cJ8_newLength_cabcc 10 = .ok (.if_icmp .ge 11, 3) := by decide +kernel
theorem dJ8_newLength_cabcc_13 : decode cJ8_newLength_cabcc 13 = .ok (.iload_n 3, 1) := by decide +kernel
theorem dJ8_newLength_cabcc_14 : decode cJ8_newLength_cabcc 14 = .ok (.ldc 200, 2) := by decide +kernel
theorem dJ8_newLength_cabcc_16 : decode cJ8_newLength_cabcc 16 = .ok (.if_icmp .gt 5, 3) := by decide +kernel
theorem dJ8_newLength_cabcc_19 : decode cJ8_newLength_cabcc 19 = .ok (.iload_n 3, 1) := by decide +kernel
theorem dJ8_newLength_cabcc_20 : decode cJ8_newLength_cabcc 20 = .ok (.ireturn, 1) := by decide +kernel
theorem dJ8_newLength_cabcc_21 : decode cJ8_newLength_cabcc 21 = .ok (.iload_n 0, 1) := by decide +kernel
theorem dJ8_newLength_cabcc_22 : decode cJ8_newLength_cabcc 22 = .ok (.iload_n 1, 1) := by decide +kernel
theorem dJ8_newLength_cabcc_23 : decode cJ8_newLength_cabcc 23 = .ok (.invokestatic 201, 3) := by decide +kernel
theorem dJ8_newLength_cabcc_26 : decode cJ8_newLength_cabcc 26 = .ok (.ireturn, 1) := by decide +kernel
theorem dX10_advance_0 : decode cX10_advance 0 = .ok (.aload_n 0, 1) := by decide +kernel
theorem dX10_advance_1 : decode cX10_advance 1 = .ok (.aload_n 0, 1) := by decide +kernel
theorem dX10_advance_2 : decode cX10_advance 2 = .ok (.getfield 110, 3) := by decide +kernel
theorem dX10_advance_5 : decode cX10_advance 5 = .ok (.invokevirtual 113, 3) := by decide +kernel
theorem dX10_advance_8 : decode cX10_advance 8 = .ok (.bipush 32, 2) := by decide +kernel
theorem dX10_advance_10 : decode cX10_advance 10 = .ok (.if_icmp .eq 16, 3) := by decide +kernel
theorem dX10_advance_13 : decode cX10_advance 13 = .ok (.aload_n 0, 1) := by decide +kernel
theorem dX10_advance_14 : decode cX10_advance 14 = .ok (.aload_n 0, 1) := by decide +kernel
theorem dX10_advance_15 : decode cX10_advance 15 = .ok (.getfield 110, 3) := by decide +kernel
theorem dX10_advance_18 : decode cX10_advance 18 = .ok (.invokevirtual 113, 3) := by decide +kernel
theorem dX10_advance_21 : decode cX10_advance 21 = .ok (.bipush 10, 2) := by decide +kernel
theorem dX10_advance_23 : decode cX10_advance 23 = .ok (.if_icmp .ne 16, 3) := by decide +kernel
theorem dX10_advance_26 : decode cX10_advance 26 = .ok (.aload_n 0, 1) := by decide +kernel
theorem dX10_advance_27 : decode cX10_advance 27 = .ok (.dup, 1) := by decide +kernel
theorem dX10_advance_28 : decode cX10_advance 28 = .ok (.getfield 110, 3) := by decide +kernel
theorem dX10_advance_31 : decode cX10_advance 31 = .ok (.iconst 1, 1) := by decide +kernel
theorem dX10_advance_32 : decode cX10_advance 32 = .ok (.iadd, 1) := by decide +kernel
theorem dX10_advance_33 : decode cX10_advance 33 = .ok (.putfield 110, 3) := by decide +kernel
theorem dX10_advance_36 : decode cX10_advance 36 = .ok (.goto (-36), 3) := by decide +kernel
theorem dX10_advance_39 : decode cX10_advance 39 = .ok (.aload_n 0, 1) := by decide +kernel
theorem dX10_advance_40 : decode cX10_advance 40 = .ok (.aload_n 0, 1) := by decide +kernel
theorem dX10_advance_41 : decode cX10_advance 41 = .ok (.getfield 110, 3) := by decide +kernel
theorem dX10_advance_44 : decode cX10_advance 44 = .ok (.putfield 117, 3) := by decide +kernel
theorem dX10_advance_47 : decode cX10_advance 47 = .ok (.aload_n 0, 1) := by decide +kernel
theorem dX10_advance_48 : decode cX10_advance 48 = .ok (.iconst (-1), 1) := by decide +kernel
theorem dX10_advance_49 : decode cX10_advance 49 = .ok (.putfield 120, 3) := by decide +kernel
theorem dX10_advance_52 : decode cX10_advance 52 = .ok (.aload_n 0, 1) := by decide +kernel
theorem dX10_advance_53 : decode cX10_advance 53 = .ok (.lconst 0, 1) := by decide +kernel
theorem dX10_advance_54 : decode cX10_advance 54 = .ok (.putfield 123, 3) := by decide +kernel
theorem dX10_advance_57 : decode cX10_advance 57 = .ok (.aload_n 0, 1) := by decide +kernel
theorem dX10_advance_58 : decode cX10_advance 58 = .ok (.aload_n 0, 1) := by decide +kernel
theorem dX10_advance_59 : decode cX10_advance 59 = .ok (.getfield 110, 3) := by decide +kernel
theorem dX10_advance_62 : decode cX10_advance 62 = .ok (.invokevirtual 113, 3) := by decide +kernel
theorem dX10_advance_65 : decode cX10_advance 65 = .ok (.istore_n 1, 1) := by decide +kernel
theorem dX10_advance_66 : decode cX10_advance 66 = .ok (.iload_n 1, 1) := by decide +kernel
theorem dX10_advance_67 : decode cX10_advance 67 = .ok (.iconst (-1), 1) := by decide +kernel
theorem dX10_advance_68 : decode cX10_advance 68 = .ok (.if_icmp .ne 11, 3) := by decide +kernel
theorem dX10_advance_71 : decode cX10_advance 71 = .ok (.aload_n 0, 1) := by decide +kernel
theorem dX10_advance_72 : decode cX10_advance 72 = .ok (.iconst 0, 1) := by decide +kernel
theorem dX10_advance_73 : decode cX10_advance 73 = .ok (.putfield 126, 3) := by decide +kernel
theorem dX10_advance_76 : decode cX10_advance 76 = .ok (.goto 278, 3) := by decide +kernel
theorem dX10_advance_79 : decode cX10_advance 79 = .ok (.iload_n 1, 1) := by decide +kernel
theorem dX10_advance_80 : decode cX10_advance 80 = .ok (.invokestatic 129, 3) := by decide +kernel
theorem dX10_advance_83 : decode cX10_advance 83 = .ok (.ifCond .eq 127, 3) := by decide +kernel
theorem dX10_advance_86 : decode cX10_advance 86 = .ok (.aload_n 0, 1) := by decide +kernel
theorem dX10_advance_87 : decode cX10_advance 87 = .ok (.aload_n 0, 1) := by decide +kernel
theorem dX10_advance_88 : decode cX10_advance 88 = .ok (.getfield 110, 3) := by decide +kernel
theorem dX10_advance_91 : decode cX10_advance 91 = .ok (.invokevirtual 113, 3) := by decide +kernel
theorem dX10_advance_94 : decode cX10_advance 94 = .ok (.invokestatic 129, 3) := by decide +kernel
theorem dX10_advance_97 : decode cX10_advance 97 = .ok (.ifCond .eq 63, 3) := by decide +kernel
theorem dX10_advance_100 : decode cX10_advance 100 = .ok (.aload_n 0, 1) := by decide +kernel
theorem dX10_advance_101 : decode cX10_advance 101 = .ok (.aload_n 0, 1) := by decide +kernel
theorem dX10_advance_102 : decode cX10_advance 102 = .ok (.getfield 110, 3) := by decide +kernel
theorem dX10_advance_105 : decode cX10_advance 105 = .ok (.aload_n 0, 1) := by decide +kernel
theorem dX10_advance_106 : decode cX10_advance 106 = .ok (.getfield 117, 3) := by decide +kernel
theorem dX10_advance_109 : decode cX10_advance 109 = .ok (.isub, 1) := by decide +kernel
theorem dX10_advance_110 : decode cX10_advance 110 = .ok (.bipush 9, 2) := by decide +kernel
theorem dX10_advance_112 : decode cX10_advance 112 = .ok (.if_icmp .ge 28, 3) := by decide +kernel
theorem dX10_advance_115 : decode cX10_advance 115 = .ok (.ldc2_w 103, 3) := by decide +kernel
theorem dX10_advance_118 : decode cX10_advance 118 = .ok (.aload_n 0, 1) := by decide +kernel
theorem dX10_advance_119 : decode cX10_advance 119 = .ok (.getfield 123, 3) := by decide +kernel
theorem dX10_advance_122 : decode cX10_advance 122 = .ok (.lmul, 1) := by decide +kernel
theorem dX10_advance_123 : decode cX10_advance 123 = .ok (.aload_n 0, 1) := by decide +kernel
theorem dX10_advance_124 : decode cX10_advance 124 = .ok (.aload_n 0, 1) := by decide +kernel
theorem dX10_advance_125 : decode cX10_advance 125 = .ok (.getfield 110, 3) := by decide +kernel
theorem dX10_advance_128 : decode cX10_advance 128 = .ok (.invokevirtual 113, 3) := by decide +kernel
theorem dX10_advance_131 : decode cX10_advance 131 = .ok (.i2l, 1) := by decide +kernel
theorem dX10_advance_132 : decode cX10_advance 132 = .ok (.ladd, 1) := by decide +kernel
theorem dX10_advance_133 : decode cX10_advance 133 = .ok (.ldc2_w 105, 3) := by decide +kernel
theorem dX10_advance_136 : decode cX10_advance 136 = .ok (.lsub, 1) := by decide +kernel
theorem dX10_advance_137 : decode cX10_advance 137 = .ok (.goto 7, 3) := by decide +kernel
theorem dX10_advance_140 : decode cX10_advance 140 = .ok (.aload_n 0, 1) := by decide +kernel
theorem dX10_advance_141 : decode cX10_advance 141 = .ok (.getfield 123, 3) := by decide +kernel
theorem dX10_advance_144 : decode cX10_advance 144 = .ok (.putfield 123, 3) := by decide +kernel
theorem dX10_advance_147 : decode cX10_advance 147 = .ok (.aload_n 0, 1) := by decide +kernel
theorem dX10_advance_148 : decode cX10_advance 148 = .ok (.dup, 1) := by decide +kernel
theorem dX10_advance_149 : decode cX10_advance 149 = .ok (.getfield 110, 3) := by decide +kernel
theorem dX10_advance_152 : decode cX10_advance 152 = .ok (.iconst 1, 1) := by decide +kernel
theorem dX10_advance_153 : decode cX10_advance 153 = .ok (.iadd, 1) := by decide +kernel
theorem dX10_advance_154 : decode cX10_advance 154 = .ok (.putfield 110, 3) := by decide +kernel
theorem dX10_advance_157 : decode cX10_advance 157 = .ok (.goto (-71), 3) := by decide +kernel
theorem dX10_advance_160 : decode cX10_advance 160 = .ok (.aload_n 0, 1) := by decide +kernel
theorem dX10_advance_161 : decode cX10_advance 161 = .ok (.aload_n 0, 1) := by decide +kernel
theorem dX10_advance_162 : decode cX10_advance 162 = .ok (.getfield 110, 3) := by decide +kernel
theorem dX10_advance_165 : decode cX10_advance 165 = .ok (.aload_n 0, 1) := by decide +kernel
theorem dX10_advance_166 : decode cX10_advance 166 = .ok (.getfield 117, 3) := by decide +kernel
theorem dX10_advance_169 : decode cX10_advance 169 = .ok (.isub, 1) := by decide +kernel
theorem dX10_advance_170 : decode cX10_advance 170 = .ok (.bipush 9, 2) := by decide +kernel
theorem dX10_advance_172 : decode cX10_advance 172 = .ok (.if_icmp .le 7, 3) := by decide +kernel
theorem dX10_advance_175 : decode cX10_advance 175 = .ok (.iconst 1, 1) := by decide +kernel
theorem dX10_advance_176 : decode cX10_advance 176 = .ok (.goto 4, 3) := by decide +kernel
theorem dX10_advance_179 : decode cX10_advance 179 = .ok (.iconst 2, 1) := by decide +kernel
theorem dX10_advance_180 : decode cX10_advance 180 = .ok (.putfield 126, 3) := by decide +kernel
theorem dX10_advance_183 : decode cX10_advance 183 = .ok (.aload_n 0, 1) := by decide +kernel
theorem dX10_advance_184 : decode cX10_advance 184 = .ok (.aload_n 0, 1) := by decide +kernel
theorem dX10_advance_185 : decode cX10_advance 185 = .ok (.getfield 126, 3) := by decide +kernel
theorem dX10_advance_188 : decode cX10_advance 188 = .ok (.iconst 2, 1) := by decide +kernel
theorem dX10_advance_189 : decode cX10_advance 189 = .ok (.if_icmp .ne 14, 3) := by decide +kernel
theorem dX10_advance_192 : decode cX10_advance 192 = .ok (.aload_n 0, 1) := by decide +kernel
theorem dX10_advance_193 : decode cX10_advance 193 = .ok (.aload_n 0, 1) := by decide +kernel
theorem dX10_advance_194 : decode cX10_advance 194 = .ok (.getfield 123, 3) := by decide +kernel
theorem dX10_advance_197 : decode cX10_advance 197 = .ok (.invokevirtual 133, 3) := by decide +kernel
theorem dX10_advance_200 : decode cX10_advance 200 = .ok (.goto 4, 3) := by decide +kernel
theorem dX10_advance_203 : decode cX10_advance 203 = .ok (.iconst (-1), 1) := by decide +kernel
theorem dX10_advance_204 : decode cX10_advance 204 = .ok (.putfield 120, 3) := by decide +kernel
theorem dX10_advance_207 : decode cX10_advance 207 = .ok (.goto 147, 3) := by decide +kernel
theorem dX10_advance_210 : decode cX10_advance 210 = .ok (.iload_n 1, 1) := by decide +kernel
theorem dX10_advance_211 : decode cX10_advance 211 = .ok (.invokestatic 137, 3) := by decide +kernel
theorem dX10_advance_214 : decode cX10_advance 214 = .ok (.ifCond .eq 103, 3) := by decide +kernel
theorem dX10_advance_217 : decode cX10_advance 217 = .ok (.aload_n 0, 1) := by decide +kernel
theorem dX10_advance_218 : decode cX10_advance 218 = .ok (.iconst 0, 1) := by decide +kernel
theorem dX10_advance_219 : decode cX10_advance 219 = .ok (.putfield 140, 3) := by decide +kernel
theorem dX10_advance_222 : decode cX10_advance 222 = .ok (.aload_n 0, 1) := by decide +kernel
theorem dX10_advance_223 : decode cX10_advance 223 = .ok (.aload_n 0, 1) := by decide +kernel
theorem dX10_advance_224 : decode cX10_advance 224 = .ok (.getfield 110, 3) := by decide +kernel
theorem dX10_advance_227 : decode cX10_advance 227 = .ok (.invokevirtual 113, 3) := by decide +kernel
theorem dX10_advance_230 : decode cX10_advance 230 = .ok (.invokestatic 137, 3) := by decide +kernel
theorem dX10_advance_233 : decode cX10_advance 233 = .ok (.ifCond .eq 59, 3) := by decide +kernel
theorem dX10_advance_236 : decode cX10_advance 236 = .ok (.aload_n 0, 1) := by decide +kernel
theorem dX10_advance_237 : decode cX10_advance 237 = .ok (.aload_n 0, 1) := by decide +kernel
theorem dX10_advance_238 : decode cX10_advance 238 = .ok (.getfield 110, 3) := by decide +kernel
theorem dX10_advance_241 : decode cX10_advance 241 = .ok (.aload_n 0, 1) := by decide +kernel
theorem dX10_advance_242 : decode cX10_advance 242 = .ok (.getfield 117, 3) := by decide +kernel
theorem dX10_advance_245 : decode cX10_advance 245 = .ok (.isub, 1) := by decide +kernel
theorem dX10_advance_246 : decode cX10_advance 246 = .ok (.iconst 5, 1) := by decide +kernel
theorem dX10_advance_247 : decode cX10_advance 247 = .ok (.if_icmp .ge 25, 3) := by decide +kernel
theorem dX10_advance_250 : decode cX10_advance 250 = .ok (.bipush 10, 2) := by decide +kernel
theorem dX10_advance_252 : decode cX10_advance 252 = .ok (.aload_n 0, 1) := by decide +kernel
theorem dX10_advance_253 : decode cX10_advance 253 = .ok (.getfield 140, 3) := by decide +kernel
theorem dX10_advance_256 : decode cX10_advance 256 = .ok (.imul, 1) := by decide +kernel
theorem dX10_advance_257 : decode cX10_advance 257 = .ok (.aload_n 0, 1) := by decide +kernel
theorem dX10_advance_258 : decode cX10_advance 258 = .ok (.aload_n 0, 1) := by decide +kernel
theorem dX10_advance_259 : decode cX10_advance 259 = .ok (.getfield 110, 3) := by decide +kernel
theorem dX10_advance_262 : decode cX10_advance 262 = .ok (.invokevirtual 113, 3) := by decide +kernel
theorem dX10_advance_265 : decode cX10_advance 265 = .ok (.iadd, 1) := by decide +kernel
theorem dX10_advance_266 : decode cX10_advance 266 = .ok (.bipush 48, 2) := by decide +kernel
theorem dX10_advance_268 : decode cX10_advance 268 = .ok (.isub, 1) := by decide +kernel
theorem dX10_advance_269 : decode cX10_advance 269 = .ok (.goto 7, 3) := by decide +kernel
theorem dX10_advance_272 : decode cX10_advance 272 = .ok (.aload_n 0, 1) := by decide +kernel
theorem dX10_advance_273 : decode cX10_advance 273 = .ok (.getfield 140, 3) := by decide +kernel
theorem dX10_advance_276 : decode cX10_advance 276 = .ok (.putfield 140, 3) := by decide +kernel
theorem dX10_advance_279 : decode cX10_advance 279 = .ok (.aload_n 0, 1) := by decide +kernel
theorem dX10_advance_280 : decode cX10_advance 280 = .ok (.dup, 1) := by decide +kernel
theorem dX10_advance_281 : decode cX10_advance 281 = .ok (.getfield 110, 3) := by decide +kernel
theorem dX10_advance_284 : decode cX10_advance 284 = .ok (.iconst 1, 1) := by decide +kernel
theorem dX10_advance_285 : decode cX10_advance 285 = .ok (.iadd, 1) := by decide +kernel
theorem dX10_advance_286 : decode cX10_advance 286 = .ok (.putfield 110, 3) := by decide +kernel
theorem dX10_advance_289 : decode cX10_advance 289 = .ok (.goto (-67), 3) := by decide +kernel
theorem dX10_advance_292 : decode cX10_advance 292 = .ok (.aload_n 0, 1) := by decide +kernel
theorem dX10_advance_293 : decode cX10_advance 293 = .ok (.aload_n 0, 1) := by decide +kernel
theorem dX10_advance_294 : decode cX10_advance 294 = .ok (.getfield 110, 3) := by decide +kernel
theorem dX10_advance_297 : decode cX10_advance 297 = .ok (.aload_n 0, 1) := by decide +kernel
theorem dX10_advance_298 : decode cX10_advance 298 = .ok (.getfield 117, 3) := by decide +kernel
theorem dX10_advance_301 : decode cX10_advance 301 = .ok (.isub, 1) := by decide +kernel
theorem dX10_advance_302 : decode cX10_advance 302 = .ok (.iconst 5, 1) := by decide +kernel
theorem dX10_advance_303 : decode cX10_advance 303 = .ok (.if_icmp .le 7, 3) := by decide +kernel
theorem dX10_advance_306 : decode cX10_advance 306 = .ok (.iconst 1, 1) := by decide +kernel
theorem dX10_advance_307 : decode cX10_advance 307 = .ok (.goto 4, 3) := by decide +kernel
theorem dX10_advance_310 : decode cX10_advance 310 = .ok (.iconst 3, 1) := by decide +kernel
theorem dX10_advance_311 : decode cX10_advance 311 = .ok (.putfield 126, 3) := by decide +kernel
theorem dX10_advance_314 : decode cX10_advance 314 = .ok (.goto 40, 3) := by decide +kernel
theorem dX10_advance_317 : decode cX10_advance 317 = .ok (.aload_n 0, 1) := by decide +kernel
theorem dX10_advance_318 : decode cX10_advance 318 = .ok (.dup, 1) := by decide +kernel
theorem dX10_advance_319 : decode cX10_advance 319 = .ok (.getfield 110, 3) := by decide +kernel
theorem dX10_advance_322 : decode cX10_advance 322 = .ok (.iconst 1, 1) := by decide +kernel
theorem dX10_advance_323 : decode cX10_advance 323 = .ok (.iadd, 1) := by decide +kernel
theorem dX10_advance_324 : decode cX10_advance 324 = .ok (.putfield 110, 3) := by decide +kernel
theorem dX10_advance_327 : decode cX10_advance 327 = .ok (.aload_n 0, 1) := by decide +kernel
theorem dX10_advance_328 : decode cX10_advance 328 = .ok (.iload_n 1, 1) := by decide +kernel
theorem dX10_advance_329 : decode cX10_advance 329 = .ok (.bipush 59, 2) := by decide +kernel
theorem dX10_advance_331 : decode cX10_advance 331 = .ok (.if_icmp .eq 15, 3) := by decide +kernel
theorem dX10_advance_334 : decode cX10_advance 334 = .ok (.iload_n 1, 1) := by decide +kernel
theorem dX10_advance_335 : decode cX10_advance 335 = .ok (.bipush 40, 2) := by decide +kernel
theorem dX10_advance_337 : decode cX10_advance 337 = .ok (.if_icmp .eq 9, 3) := by decide +kernel
theorem dX10_advance_340 : decode cX10_advance 340 = .ok (.iload_n 1, 1) := by decide +kernel
theorem dX10_advance_341 : decode cX10_advance 341 = .ok (.bipush 41, 2) := by decide +kernel
theorem dX10_advance_343 : decode cX10_advance 343 = .ok (.if_icmp .ne 7, 3) := by decide +kernel
theorem dX10_advance_346 : decode cX10_advance 346 = .ok (.iconst 4, 1) := by decide +kernel
theorem dX10_advance_347 : decode cX10_advance 347 = .ok (.goto 4, 3) := by decide +kernel
theorem dX10_advance_350 : decode cX10_advance 350 = .ok (.iconst 1, 1) := by decide +kernel
theorem dX10_advance_351 : decode cX10_advance 351 = .ok (.putfield 126, 3) := by decide +kernel
theorem dX10_advance_354 : decode cX10_advance 354 = .ok (.iconst 1, 1) := by decide +kernel
theorem dX10_advance_355 : decode cX10_advance 355 = .ok (.ireturn, 1) := by decide +kernel
theorem dX10_both_0 : decode cX10_both 0 = .ok (.aload_n 0, 1) := by decide +kernel
theorem dX10_both_1 : decode cX10_both 1 = .ok (.invokevirtual 179, 3) := by decide +kernel
theorem dX10_both_4 : decode cX10_both 4 = .ok (.ifCond .ne 5, 3) := by decide +kernel
theorem dX10_both_7 : decode cX10_both 7 = .ok (.iconst 0, 1) := by decide +kernel
theorem dX10_both_8 : decode cX10_both 8 = .ok (.ireturn, 1) := by decide +kernel
theorem dX10_both_9 : decode cX10_both 9 = .ok (.aload_n 0, 1) := by decide +kernel
theorem dX10_both_10 : decode cX10_both 10 = .ok (.bipush 7, 2) := by decide +kernel
theorem dX10_both_12 : decode cX10_both 12 = .ok (.invokevirtual 173, 3) := by decide +kernel
theorem dX10_both_15 : decode cX10_both 15 = .ok (.ifCond .eq 26, 3) := by decide +kernel
theorem dX10_both_18 : decode cX10_both 18 = .ok (.aload_n 0, 1) := by decide +kernel
theorem dX10_both_19 : decode cX10_both 19 = .ok (.invokevirtual 159, 3) := by decide +kernel
theorem dX10_both_22 : decode cX10_both 22 = .ok (.pop, 1) := by decide +kernel
theorem dX10_both_23 : decode cX10_both 23 = .ok (.aload_n 0, 1) := by decide +kernel
theorem dX10_both_24 : decode cX10_both 24 = .ok (.invokevirtual 179, 3) := by decide +kernel
theorem dX10_both_27 : decode cX10_both 27 = .ok (.ifCond .ne 5, 3) := by decide +kernel
theorem dX10_both_30 : decode cX10_both 30 = .ok (.iconst 0, 1) := by decide +kernel
theorem dX10_both_31 : decode cX10_both 31 = .ok (.ireturn, 1) := by decide +kernel
theorem dX10_both_32 : decode cX10_both 32 = .ok (.aload_n 0, 1) := by decide +kernel
theorem dX10_both_33 : decode cX10_both 33 = .ok (.iconst (-1), 1) := by decide +kernel
theorem dX10_both_34 : decode cX10_both 34 = .ok (.invokevirtual 176, 3) := by decide +kernel
theorem dX10_both_37 : decode cX10_both 37 = .ok (.pop, 1) := by decide +kernel
theorem dX10_both_38 : decode cX10_both 38 = .ok (.goto (-29), 3) := by decide +kernel
theorem dX10_both_41 : decode cX10_both 41 = .ok (.iconst 1, 1) := by decide +kernel
theorem dX10_both_42 : decode cX10_both 42 = .ok (.ireturn, 1) := by decide +kernel
theorem dX10_bracket_0 : decode cX10_bracket 0 = .ok (.aload_n 0, 1) := by decide +kernel
theorem dX10_bracket_1 : decode cX10_bracket 1 = .ok (.invokevirtual 185, 3) := by decide +kernel
theorem dX10_bracket_4 : decode cX10_bracket 4 = .ok (.ifCond .eq 10, 3) := by decide +kernel
theorem dX10_bracket_7 : decode cX10_bracket 7 = .ok (.aload_n 0, 1) := by decide +kernel
theorem dX10_bracket_8 : decode cX10_bracket 8 = .ok (.invokevirtual 188, 3) := by decide +kernel
theorem dX10_bracket_11 : decode cX10_bracket 11 = .ok (.ifCond .ne 5, 3) := by decide +kernel
theorem dX10_bracket_14 : decode cX10_bracket 14 = .ok (.iconst 0, 1) := by decide +kernel
theorem dX10_bracket_15 : decode cX10_bracket 15 = .ok (.ireturn, 1) := by decide +kernel
theorem dX10_bracket_16 : decode cX10_bracket 16 = .ok (.aload_n 0, 1) := by decide +kernel
theorem dX10_bracket_17 : decode cX10_bracket 17 = .ok (.bipush 41, 2) := by decide +kernel
theorem dX10_bracket_19 : decode cX10_bracket 19 = .ok (.invokevirtual 191, 3) := by decide +kernel
theorem dX10_bracket_22 : decode cX10_bracket 22 = .ok (.ifCond .ne 9, 3) := by decide +kernel
theorem dX10_bracket_25 : decode cX10_bracket 25 = .ok (.aload_n 0, 1) := by decide +kernel
theorem dX10_bracket_26 : decode cX10_bracket 26 = .ok (.iconst 2, 1) := by decide +kernel
theorem dX10_bracket_27 : decode cX10_bracket 27 = .ok (.invokevirtual 149, 3) := by decide +kernel
theorem dX10_bracket_30 : decode cX10_bracket 30 = .ok (.ireturn, 1) := by decide +kernel
theorem dX10_bracket_31 : decode cX10_bracket 31 = .ok (.aload_n 0, 1) := by decide +kernel
theorem dX10_bracket_32 : decode cX10_bracket 32 = .ok (.dup, 1) := by decide +kernel
theorem dX10_bracket_33 : decode cX10_bracket 33 = .ok (.getfield 182, 3) := by decide +kernel
theorem dX10_bracket_36 : decode cX10_bracket 36 = .ok (.iconst 1, 1) := by decide +kernel
theorem dX10_bracket_37 : decode cX10_bracket 37 = .ok (.isub, 1) := by decide +kernel
theorem dX10_bracket_38 : decode cX10_bracket 38 = .ok (.putfield 182, 3) := by decide +kernel
theorem dX10_bracket_41 : decode cX10_bracket 41 = .ok (.aload_n 0, 1) := by decide +kernel
theorem dX10_bracket_42 : decode cX10_bracket 42 = .ok (.invokevirtual 159, 3) := by decide +kernel
theorem dX10_bracket_45 : decode cX10_bracket 45 = .ok (.ireturn, 1) := by decide +kernel
theorem dX10_byteAt_0 : decode cX10_byteAt 0 = .ok (.iload_n 1, 1) := by decide +kernel
theorem dX10_byteAt_1 : decode cX10_byteAt 1 = .ok (.aload_n 0, 1) := by decide +kernel
theorem dX10_byteAt_2 : decode cX10_byteAt 2 = .ok (.getfield 107, 3) := by decide +kernel
theorem dX10_byteAt_5 : decode cX10_byteAt 5 = .ok (.if_icmp .ge 12, 3) := by decide +kernel
theorem dX10_byteAt_8 : decode cX10_byteAt 8 = .ok (.aload_n 0, 1) := by decide +kernel
theorem dX10_byteAt_9 : decode cX10_byteAt 9 = .ok (.getfield 26, 3) := by decide +kernel
theorem dX10_byteAt_12 : decode cX10_byteAt 12 = .ok (.iload_n 1, 1) := by decide +kernel
theorem dX10_byteAt_13 : decode cX10_byteAt 13 = .ok (.iaload, 1) := by decide +kernel
theorem dX10_byteAt_14 : decode cX10_byteAt 14 = .ok (.goto 4, 3) := by decide +kernel
theorem dX10_byteAt_17 : decode cX10_byteAt 17 = .ok (.iconst (-1), 1) := by decide +kernel
theorem dX10_byteAt_18 : decode cX10_byteAt 18 = .ok (.ireturn, 1) := by decide +kernel
theorem dX10_closed_0 : decode cX10_closed 0 = .ok (.aload_n 0, 1) := by decide +kernel
theorem dX10_closed_1 : decode cX10_closed 1 = .ok (.bipush 59, 2) := by decide +kernel
theorem dX10_closed_3 : decode cX10_closed 3 = .ok (.invokevirtual 191, 3) := by decide +kernel
theorem dX10_closed_6 : decode cX10_closed 6 = .ok (.ifCond .eq 10, 3) := by decide +kernel
theorem dX10_closed_9 : decode cX10_closed 9 = .ok (.aload_n 0, 1) := by decide +kernel
theorem dX10_closed_10 : decode cX10_closed 10 = .ok (.invokevirtual 159, 3) := by decide +kernel
theorem dX10_closed_13 : decode cX10_closed 13 = .ok (.goto 8, 3) := by decide +kernel
theorem dX10_closed_16 : decode cX10_closed 16 = .ok (.aload_n 0, 1) := by decide +kernel
theorem dX10_closed_17 : decode cX10_closed 17 = .ok (.iconst 2, 1) := by decide +kernel
theorem dX10_closed_18 : decode cX10_closed 18 = .ok (.invokevirtual 149, 3) := by decide +kernel
theorem dX10_closed_21 : decode cX10_closed 21 = .ok (.ireturn, 1) := by decide +kernel
theorem dX10_condition_0 : decode cX10_condition 0 = .ok (.aload_n 0, 1) := by decide +kernel
theorem dX10_condition_1 : decode cX10_condition 1 = .ok (.invokevirtual 170, 3) := by decide +kernel
theorem dX10_condition_4 : decode cX10_condition 4 = .ok (.ifCond .ne 5, 3) := by decide +kernel
theorem dX10_condition_7 : decode cX10_condition 7 = .ok (.iconst 0, 1) := by decide +kernel
theorem dX10_condition_8 : decode cX10_condition 8 = .ok (.ireturn, 1) := by decide +kernel
theorem dX10_condition_9 : decode cX10_condition 9 = .ok (.aload_n 0, 1) := by decide +kernel
theorem dX10_condition_10 : decode cX10_condition 10 = .ok (.bipush 6, 2) := by decide +kernel
theorem dX10_condition_12 : decode cX10_condition 12 = .ok (.invokevirtual 173, 3) := by decide +kernel
theorem dX10_condition_15 : decode cX10_condition 15 = .ok (.ifCond .eq 27, 3) := by decide +kernel
theorem dX10_condition_18 : decode cX10_condition 18 = .ok (.aload_n 0, 1) := by decide +kernel
theorem dX10_condition_19 : decode cX10_condition 19 = .ok (.invokevirtual 159, 3) := by decide +kernel
theorem dX10_condition_22 : decode cX10_condition 22 = .ok (.pop, 1) := by decide +kernel
theorem dX10_condition_23 : decode cX10_condition 23 = .ok (.aload_n 0, 1) := by decide +kernel
theorem dX10_condition_24 : decode cX10_condition 24 = .ok (.invokevirtual 170, 3) := by decide +kernel
theorem dX10_condition_27 : decode cX10_condition 27 = .ok (.ifCond .ne 5, 3) := by decide +kernel
theorem dX10_condition_30 : decode cX10_condition 30 = .ok (.iconst 0, 1) := by decide +kernel
theorem dX10_condition_31 : decode cX10_condition 31 = .ok (.ireturn, 1) := by decide +kernel
theorem dX10_condition_32 : decode cX10_condition 32 = .ok (.aload_n 0, 1) := by decide +kernel
theorem dX10_condition_33 : decode cX10_condition 33 = .ok (.bipush (-2), 2) := by decide +kernel
theorem dX10_condition_35 : decode cX10_condition 35 = .ok (.invokevirtual 176, 3) := by decide +kernel
theorem dX10_condition_38 : decode cX10_condition 38 = .ok (.pop, 1) := by decide +kernel
theorem dX10_condition_39 : decode cX10_condition 39 = .ok (.goto (-30), 3) := by decide +kernel
theorem dX10_condition_42 : decode cX10_condition 42 = .ok (.iconst 1, 1) := by decide +kernel
theorem dX10_condition_43 : decode cX10_condition 43 = .ok (.ireturn, 1) := by decide +kernel
theorem dX10_depositStatement_0 : decode cX10_depositStatement 0 = .ok (.aload_n 0, 1) := by decide +kernel
theorem dX10_depositStatement_1 : decode cX10_depositStatement 1 = .ok (.getfield 226, 3) := by decide +kernel
theorem dX10_depositStatement_4 : decode cX10_depositStatement 4 = .ok (.bipush 6, 2) := by decide +kernel
theorem dX10_depositStatement_6 : decode cX10_depositStatement 6 = .ok (.if_icmp .ne 9, 3) := by decide +kernel
theorem dX10_depositStatement_9 : decode cX10_depositStatement 9 = .ok (.aload_n 0, 1) := by decide +kernel
theorem dX10_depositStatement_10 : decode cX10_depositStatement 10 = .ok (.iconst 5, 1) := by decide +kernel
theorem dX10_depositStatement_11 : decode cX10_depositStatement 11 = .ok (.invokevirtual 149, 3) := by decide +kernel
theorem dX10_depositStatement_14 : decode cX10_depositStatement 14 = .ok (.ireturn, 1) := by decide +kernel
theorem dX10_depositStatement_15 : decode cX10_depositStatement 15 = .ok (.aload_n 0, 1) := by decide +kernel
theorem dX10_depositStatement_16 : decode cX10_depositStatement 16 = .ok (.invokevirtual 159, 3) := by decide +kernel
theorem dX10_depositStatement_19 : decode cX10_depositStatement 19 = .ok (.pop, 1) := by decide +kernel
theorem dX10_depositStatement_20 : decode cX10_depositStatement 20 = .ok (.aload_n 0, 1) := by decide +kernel
theorem dX10_depositStatement_21 : decode cX10_depositStatement 21 = .ok (.iconst 1, 1) := by decide +kernel
theorem dX10_depositStatement_22 : decode cX10_depositStatement 22 = .ok (.ldc 218, 2) := by decide +kernel
theorem dX10_depositStatement_24 : decode cX10_depositStatement 24 = .ok (.invokevirtual 163, 3) := by decide +kernel
theorem dX10_depositStatement_27 : decode cX10_depositStatement 27 = .ok (.ifCond .ne 5, 3) := by decide +kernel
theorem dX10_depositStatement_30 : decode cX10_depositStatement 30 = .ok (.iconst 0, 1) := by decide +kernel
theorem dX10_depositStatement_31 : decode cX10_depositStatement 31 = .ok (.ireturn, 1) := by decide +kernel
theorem dX10_depositStatement_32 : decode cX10_depositStatement 32 = .ok (.aload_n 0, 1) := by decide +kernel
theorem dX10_depositStatement_33 : decode cX10_depositStatement 33 = .ok (.dup, 1) := by decide +kernel
theorem dX10_depositStatement_34 : decode cX10_depositStatement 34 = .ok (.getfield 226, 3) := by decide +kernel
theorem dX10_depositStatement_37 : decode cX10_depositStatement 37 = .ok (.iconst 1, 1) := by decide +kernel
theorem dX10_depositStatement_38 : decode cX10_depositStatement 38 = .ok (.iadd, 1) := by decide +kernel
theorem dX10_depositStatement_39 : decode cX10_depositStatement 39 = .ok (.putfield 226, 3) := by decide +kernel
theorem dX10_depositStatement_42 : decode cX10_depositStatement 42 = .ok (.aload_n 0, 1) := by decide +kernel
theorem dX10_depositStatement_43 : decode cX10_depositStatement 43 = .ok (.getfield 13, 3) := by decide +kernel
theorem dX10_depositStatement_46 : decode cX10_depositStatement 46 = .ok (.iconst 5, 1) := by decide +kernel
theorem dX10_depositStatement_47 : decode cX10_depositStatement 47 = .ok (.dup2, 1) := by decide +kernel
theorem dX10_depositStatement_48 : decode cX10_depositStatement 48 = .ok (.iaload, 1) := by decide +kernel
theorem dX10_depositStatement_49 : decode cX10_depositStatement 49 = .ok (.aload_n 0, 1) := by decide +kernel
theorem dX10_depositStatement_50 : decode cX10_depositStatement 50 = .ok (.getfield 156, 3) := by decide +kernel
theorem dX10_depositStatement_53 : decode cX10_depositStatement 53 = .ok (.iadd, 1) := by decide +kernel
theorem dX10_depositStatement_54 : decode cX10_depositStatement 54 = .ok (.iastore, 1) := by decide +kernel
theorem dX10_depositStatement_55 : decode cX10_depositStatement 55 = .ok (.aload_n 0, 1) := by decide +kernel
theorem dX10_depositStatement_56 : decode cX10_depositStatement 56 = .ok (.getfield 13, 3) := by decide +kernel
theorem dX10_depositStatement_59 : decode cX10_depositStatement 59 = .ok (.bipush 6, 2) := by decide +kernel
theorem dX10_depositStatement_61 : decode cX10_depositStatement 61 = .ok (.dup2, 1) := by decide +kernel
theorem dX10_depositStatement_62 : decode cX10_depositStatement 62 = .ok (.iaload, 1) := by decide +kernel
theorem dX10_depositStatement_63 : decode cX10_depositStatement 63 = .ok (.aload_n 0, 1) := by decide +kernel
theorem dX10_depositStatement_64 : decode cX10_depositStatement 64 = .ok (.getfield 156, 3) := by decide +kernel
theorem dX10_depositStatement_67 : decode cX10_depositStatement 67 = .ok (.iadd, 1) := by decide +kernel
theorem dX10_depositStatement_68 : decode cX10_depositStatement 68 = .ok (.iastore, 1) := by decide +kernel
theorem dX10_depositStatement_69 : decode cX10_depositStatement 69 = .ok (.aload_n 0, 1) := by decide +kernel
theorem dX10_depositStatement_70 : decode cX10_depositStatement 70 = .ok (.getfield 13, 3) := by decide +kernel
theorem dX10_depositStatement_73 : decode cX10_depositStatement 73 = .ok (.iconst 0, 1) := by decide +kernel
theorem dX10_depositStatement_74 : decode cX10_depositStatement 74 = .ok (.aload_n 0, 1) := by decide +kernel
theorem dX10_depositStatement_75 : decode cX10_depositStatement 75 = .ok (.getfield 156, 3) := by decide +kernel
theorem dX10_depositStatement_78 : decode cX10_depositStatement 78 = .ok (.iconst (-1), 1) := by decide +kernel
theorem dX10_depositStatement_79 : decode cX10_depositStatement 79 = .ok (.invokestatic 229, 3) := by decide +kernel
theorem dX10_depositStatement_82 : decode cX10_depositStatement 82 = .ok (.iconst 1, 1) := by decide +kernel
theorem dX10_depositStatement_83 : decode cX10_depositStatement 83 = .ok (.ireturn, 1) := by decide +kernel
theorem dX10_doneFact_0 : decode cX10_doneFact 0 = .ok (.aload_n 0, 1) := by decide +kernel
theorem dX10_doneFact_1 : decode cX10_doneFact 1 = .ok (.invokevirtual 159, 3) := by decide +kernel
theorem dX10_doneFact_4 : decode cX10_doneFact 4 = .ok (.pop, 1) := by decide +kernel
theorem dX10_doneFact_5 : decode cX10_doneFact 5 = .ok (.aload_n 0, 1) := by decide +kernel
theorem dX10_doneFact_6 : decode cX10_doneFact 6 = .ok (.invokevirtual 194, 3) := by decide +kernel
theorem dX10_doneFact_9 : decode cX10_doneFact 9 = .ok (.ifCond .ne 9, 3) := by decide +kernel
theorem dX10_doneFact_12 : decode cX10_doneFact 12 = .ok (.aload_n 0, 1) := by decide +kernel
theorem dX10_doneFact_13 : decode cX10_doneFact 13 = .ok (.iconst 2, 1) := by decide +kernel
theorem dX10_doneFact_14 : decode cX10_doneFact 14 = .ok (.invokevirtual 149, 3) := by decide +kernel
theorem dX10_doneFact_17 : decode cX10_doneFact 17 = .ok (.ireturn, 1) := by decide +kernel
theorem dX10_doneFact_18 : decode cX10_doneFact 18 = .ok (.aload_n 0, 1) := by decide +kernel
theorem dX10_doneFact_19 : decode cX10_doneFact 19 = .ok (.getfield 39, 3) := by decide +kernel
theorem dX10_doneFact_22 : decode cX10_doneFact 22 = .ok (.aload_n 0, 1) := by decide +kernel
theorem dX10_doneFact_23 : decode cX10_doneFact 23 = .ok (.getfield 13, 3) := by decide +kernel
theorem dX10_doneFact_26 : decode cX10_doneFact 26 = .ok (.bipush 13, 2) := by decide +kernel
theorem dX10_doneFact_28 : decode cX10_doneFact 28 = .ok (.iaload, 1) := by decide +kernel
theorem dX10_doneFact_29 : decode cX10_doneFact 29 = .ok (.aload_n 0, 1) := by decide +kernel
theorem dX10_doneFact_30 : decode cX10_doneFact 30 = .ok (.getfield 123, 3) := by decide +kernel
theorem dX10_doneFact_33 : decode cX10_doneFact 33 = .ok (.invokestatic 197, 3) := by decide +kernel
theorem dX10_doneFact_36 : decode cX10_doneFact 36 = .ok (.istore_n 1, 1) := by decide +kernel
theorem dX10_doneFact_37 : decode cX10_doneFact 37 = .ok (.iload_n 1, 1) := by decide +kernel
theorem dX10_doneFact_38 : decode cX10_doneFact 38 = .ok (.iconst (-1), 1) := by decide +kernel
theorem dX10_doneFact_39 : decode cX10_doneFact 39 = .ok (.if_icmp .ne 9, 3) := by decide +kernel
theorem dX10_doneFact_42 : decode cX10_doneFact 42 = .ok (.aload_n 0, 1) := by decide +kernel
theorem dX10_doneFact_43 : decode cX10_doneFact 43 = .ok (.iconst 4, 1) := by decide +kernel
theorem dX10_doneFact_44 : decode cX10_doneFact 44 = .ok (.invokevirtual 149, 3) := by decide +kernel
theorem dX10_doneFact_47 : decode cX10_doneFact 47 = .ok (.ireturn, 1) := by decide +kernel
theorem dX10_doneFact_48 : decode cX10_doneFact 48 = .ok (.aload_n 0, 1) := by decide +kernel
theorem dX10_doneFact_49 : decode cX10_doneFact 49 = .ok (.ldc 202, 2) := by decide +kernel
theorem dX10_doneFact_51 : decode cX10_doneFact 51 = .ok (.iload_n 1, 1) := by decide +kernel
theorem dX10_doneFact_52 : decode cX10_doneFact 52 = .ok (.iadd, 1) := by decide +kernel
theorem dX10_doneFact_53 : decode cX10_doneFact 53 = .ok (.invokevirtual 176, 3) := by decide +kernel
theorem dX10_doneFact_56 : decode cX10_doneFact 56 = .ok (.pop, 1) := by decide +kernel
theorem dX10_doneFact_57 : decode cX10_doneFact 57 = .ok (.aload_n 0, 1) := by decide +kernel
theorem dX10_doneFact_58 : decode cX10_doneFact 58 = .ok (.invokevirtual 159, 3) := by decide +kernel
theorem dX10_doneFact_61 : decode cX10_doneFact 61 = .ok (.ireturn, 1) := by decide +kernel
theorem dX10_emit_0 : decode cX10_emit 0 = .ok (.aload_n 0, 1) := by decide +kernel
theorem dX10_emit_1 : decode cX10_emit 1 = .ok (.getfield 51, 3) := by decide +kernel
theorem dX10_emit_4 : decode cX10_emit 4 = .ok (.aload_n 0, 1) := by decide +kernel
theorem dX10_emit_5 : decode cX10_emit 5 = .ok (.getfield 167, 3) := by decide +kernel
theorem dX10_emit_8 : decode cX10_emit 8 = .ok (.iload_n 1, 1) := by decide +kernel
theorem dX10_emit_9 : decode cX10_emit 9 = .ok (.iastore, 1) := by decide +kernel
theorem dX10_emit_10 : decode cX10_emit 10 = .ok (.aload_n 0, 1) := by decide +kernel
theorem dX10_emit_11 : decode cX10_emit 11 = .ok (.dup, 1) := by decide +kernel
theorem dX10_emit_12 : decode cX10_emit 12 = .ok (.getfield 167, 3) := by decide +kernel
theorem dX10_emit_15 : decode cX10_emit 15 = .ok (.iconst 1, 1) := by decide +kernel
theorem dX10_emit_16 : decode cX10_emit 16 = .ok (.iadd, 1) := by decide +kernel
theorem dX10_emit_17 : decode cX10_emit 17 = .ok (.putfield 167, 3) := by decide +kernel
theorem dX10_emit_20 : decode cX10_emit 20 = .ok (.iconst 1, 1) := by decide +kernel
theorem dX10_emit_21 : decode cX10_emit 21 = .ok (.ireturn, 1) := by decide +kernel
theorem dX10_fact_0 : decode cX10_fact 0 = .ok (.aload_n 0, 1) := by decide +kernel
theorem dX10_fact_1 : decode cX10_fact 1 = .ok (.bipush 40, 2) := by decide +kernel
theorem dX10_fact_3 : decode cX10_fact 3 = .ok (.invokevirtual 191, 3) := by decide +kernel
theorem dX10_fact_6 : decode cX10_fact 6 = .ok (.ifCond .eq 8, 3) := by decide +kernel
theorem dX10_fact_9 : decode cX10_fact 9 = .ok (.aload_n 0, 1) := by decide +kernel
theorem dX10_fact_10 : decode cX10_fact 10 = .ok (.invokevirtual 203, 3) := by decide +kernel
theorem dX10_fact_13 : decode cX10_fact 13 = .ok (.ireturn, 1) := by decide +kernel
theorem dX10_fact_14 : decode cX10_fact 14 = .ok (.aload_n 0, 1) := by decide +kernel
theorem dX10_fact_15 : decode cX10_fact 15 = .ok (.getfield 126, 3) := by decide +kernel
theorem dX10_fact_18 : decode cX10_fact 18 = .ok (.iconst 2, 1) := by decide +kernel
theorem dX10_fact_19 : decode cX10_fact 19 = .ok (.if_icmp .eq 9, 3) := by decide +kernel
theorem dX10_fact_22 : decode cX10_fact 22 = .ok (.aload_n 0, 1) := by decide +kernel
theorem dX10_fact_23 : decode cX10_fact 23 = .ok (.iconst 2, 1) := by decide +kernel
theorem dX10_fact_24 : decode cX10_fact 24 = .ok (.invokevirtual 149, 3) := by decide +kernel
theorem dX10_fact_27 : decode cX10_fact 27 = .ok (.ireturn, 1) := by decide +kernel
theorem dX10_fact_28 : decode cX10_fact 28 = .ok (.aload_n 0, 1) := by decide +kernel
theorem dX10_fact_29 : decode cX10_fact 29 = .ok (.getfield 120, 3) := by decide +kernel
theorem dX10_fact_32 : decode cX10_fact 32 = .ok (.tableswitch 88 8 14 #[44, 49, 58, 63, 68, 76, 82], 44) := by decide +kernel
theorem dX10_fact_76 : decode cX10_fact 76 = .ok (.aload_n 0, 1) := by decide +kernel
theorem dX10_fact_77 : decode cX10_fact 77 = .ok (.invokevirtual 206, 3) := by decide +kernel
theorem dX10_fact_80 : decode cX10_fact 80 = .ok (.ireturn, 1) := by decide +kernel
theorem dX10_fact_81 : decode cX10_fact 81 = .ok (.aload_n 0, 1) := by decide +kernel
theorem dX10_fact_82 : decode cX10_fact 82 = .ok (.iconst 0, 1) := by decide +kernel
theorem dX10_fact_83 : decode cX10_fact 83 = .ok (.sipush 999, 3) := by decide +kernel
theorem dX10_fact_86 : decode cX10_fact 86 = .ok (.invokevirtual 209, 3) := by decide +kernel
theorem dX10_fact_89 : decode cX10_fact 89 = .ok (.ireturn, 1) := by decide +kernel
theorem dX10_fact_90 : decode cX10_fact 90 = .ok (.aload_n 0, 1) := by decide +kernel
theorem dX10_fact_91 : decode cX10_fact 91 = .ok (.invokevirtual 212, 3) := by decide +kernel
theorem dX10_fact_94 : decode cX10_fact 94 = .ok (.ireturn, 1) := by decide +kernel
theorem dX10_fact_95 : decode cX10_fact 95 = .ok (.aload_n 0, 1) := by decide +kernel
theorem dX10_fact_96 : decode cX10_fact 96 = .ok (.invokevirtual 215, 3) := by decide +kernel
theorem dX10_fact_99 : decode cX10_fact 99 = .ok (.ireturn, 1) := by decide +kernel
theorem dX10_fact_100 : decode cX10_fact 100 = .ok (.aload_n 0, 1) := by decide +kernel
theorem dX10_fact_101 : decode cX10_fact 101 = .ok (.iconst 3, 1) := by decide +kernel
theorem dX10_fact_102 : decode cX10_fact 102 = .ok (.ldc 218, 2) := by decide +kernel
theorem dX10_fact_104 : decode cX10_fact 104 = .ok (.invokevirtual 209, 3) := by decide +kernel
theorem dX10_fact_107 : decode cX10_fact 107 = .ok (.ireturn, 1) := by decide +kernel
theorem dX10_fact_108 : decode cX10_fact 108 = .ok (.aload_n 0, 1) := by decide +kernel
theorem dX10_fact_109 : decode cX10_fact 109 = .ok (.iconst 4, 1) := by decide +kernel
theorem dX10_fact_110 : decode cX10_fact 110 = .ok (.invokevirtual 219, 3) := by decide +kernel
theorem dX10_fact_113 : decode cX10_fact 113 = .ok (.ireturn, 1) := by decide +kernel
theorem dX10_fact_114 : decode cX10_fact 114 = .ok (.aload_n 0, 1) := by decide +kernel
theorem dX10_fact_115 : decode cX10_fact 115 = .ok (.iconst 5, 1) := by decide +kernel
theorem dX10_fact_116 : decode cX10_fact 116 = .ok (.invokevirtual 219, 3) := by decide +kernel
theorem dX10_fact_119 : decode cX10_fact 119 = .ok (.ireturn, 1) := by decide +kernel
theorem dX10_fact_120 : decode cX10_fact 120 = .ok (.aload_n 0, 1) := by decide +kernel
theorem dX10_fact_121 : decode cX10_fact 121 = .ok (.iconst 2, 1) := by decide +kernel
theorem dX10_fact_122 : decode cX10_fact 122 = .ok (.invokevirtual 149, 3) := by decide +kernel
theorem dX10_fact_125 : decode cX10_fact 125 = .ok (.ireturn, 1) := by decide +kernel
theorem dX10_fail_0 : decode cX10_fail 0 = .ok (.aload_n 0, 1) := by decide +kernel
theorem dX10_fail_1 : decode cX10_fail 1 = .ok (.aload_n 0, 1) := by decide +kernel
theorem dX10_fail_2 : decode cX10_fail 2 = .ok (.getfield 126, 3) := by decide +kernel
theorem dX10_fail_5 : decode cX10_fail 5 = .ok (.iconst 1, 1) := by decide +kernel
theorem dX10_fail_6 : decode cX10_fail 6 = .ok (.if_icmp .ne 7, 3) := by decide +kernel
theorem dX10_fail_9 : decode cX10_fail 9 = .ok (.iconst 1, 1) := by decide +kernel
theorem dX10_fail_10 : decode cX10_fail 10 = .ok (.goto 4, 3) := by decide +kernel
theorem dX10_fail_13 : decode cX10_fail 13 = .ok (.iload_n 1, 1) := by decide +kernel
theorem dX10_fail_14 : decode cX10_fail 14 = .ok (.putfield 143, 3) := by decide +kernel
theorem dX10_fail_17 : decode cX10_fail 17 = .ok (.aload_n 0, 1) := by decide +kernel
theorem dX10_fail_18 : decode cX10_fail 18 = .ok (.aload_n 0, 1) := by decide +kernel
theorem dX10_fail_19 : decode cX10_fail 19 = .ok (.getfield 117, 3) := by decide +kernel
theorem dX10_fail_22 : decode cX10_fail 22 = .ok (.putfield 146, 3) := by decide +kernel
theorem dX10_fail_25 : decode cX10_fail 25 = .ok (.iconst 0, 1) := by decide +kernel
theorem dX10_fail_26 : decode cX10_fail 26 = .ok (.ireturn, 1) := by decide +kernel
theorem dX10_find_0 : decode cX10_find 0 = .ok (.iconst 0, 1) := by decide +kernel
theorem dX10_find_1 : decode cX10_find 1 = .ok (.istore 4, 2) := by decide +kernel
theorem dX10_find_3 : decode cX10_find 3 = .ok (.iload 4, 2) := by decide +kernel
theorem dX10_find_5 : decode cX10_find 5 = .ok (.iload_n 1, 1) := by decide +kernel
theorem dX10_find_6 : decode cX10_find 6 = .ok (.if_icmp .ge 21, 3) := by decide +kernel
theorem dX10_find_9 : decode cX10_find 9 = .ok (.aload_n 0, 1) := by decide +kernel
theorem dX10_find_10 : decode cX10_find 10 = .ok (.iload 4, 2) := by decide +kernel
theorem dX10_find_12 : decode cX10_find 12 = .ok (.laload, 1) := by decide +kernel
theorem dX10_find_13 : decode cX10_find 13 = .ok (.lload_n 2, 1) := by decide +kernel
theorem dX10_find_14 : decode cX10_find 14 = .ok (.lcmp, 1) := by decide +kernel
theorem dX10_find_15 : decode cX10_find 15 = .ok (.ifCond .ne 6, 3) := by decide +kernel
theorem dX10_find_18 : decode cX10_find 18 = .ok (.iload 4, 2) := by decide +kernel
theorem dX10_find_20 : decode cX10_find 20 = .ok (.ireturn, 1) := by decide +kernel
theorem dX10_find_21 : decode cX10_find 21 = .ok (.iinc 4 1, 3) := by decide +kernel
theorem dX10_find_24 : decode cX10_find 24 = .ok (.goto (-21), 3) := by decide +kernel
theorem dX10_find_27 : decode cX10_find 27 = .ok (.iconst (-1), 1) := by decide +kernel
theorem dX10_find_28 : decode cX10_find 28 = .ok (.ireturn, 1) := by decide +kernel
theorem dX10_isDigit_0 : decode cX10_isDigit 0 = .ok (.iload_n 0, 1) := by decide +kernel
theorem dX10_isDigit_1 : decode cX10_isDigit 1 = .ok (.bipush 48, 2) := by decide +kernel
theorem dX10_isDigit_3 : decode cX10_isDigit 3 = .ok (.if_icmp .lt 13, 3) := by decide +kernel
theorem dX10_isDigit_6 : decode cX10_isDigit 6 = .ok (.iload_n 0, 1) := by decide +kernel
theorem dX10_isDigit_7 : decode cX10_isDigit 7 = .ok (.bipush 57, 2) := by decide +kernel
theorem dX10_isDigit_9 : decode cX10_isDigit 9 = .ok (.if_icmp .gt 7, 3) := by decide +kernel
theorem dX10_isDigit_12 : decode cX10_isDigit 12 = .ok (.iconst 1, 1) := by decide +kernel
theorem dX10_isDigit_13 : decode cX10_isDigit 13 = .ok (.goto 4, 3) := by decide +kernel
theorem dX10_isDigit_16 : decode cX10_isDigit 16 = .ok (.iconst 0, 1) := by decide +kernel
theorem dX10_isDigit_17 : decode cX10_isDigit 17 = .ok (.ireturn, 1) := by decide +kernel
theorem dX10_isKeyword_0 : decode cX10_isKeyword 0 = .ok (.aload_n 0, 1) := by decide +kernel
theorem dX10_isKeyword_1 : decode cX10_isKeyword 1 = .ok (.getfield 126, 3) := by decide +kernel
theorem dX10_isKeyword_4 : decode cX10_isKeyword 4 = .ok (.iconst 2, 1) := by decide +kernel
theorem dX10_isKeyword_5 : decode cX10_isKeyword 5 = .ok (.if_icmp .ne 15, 3) := by decide +kernel
theorem dX10_isKeyword_8 : decode cX10_isKeyword 8 = .ok (.aload_n 0, 1) := by decide +kernel
theorem dX10_isKeyword_9 : decode cX10_isKeyword 9 = .ok (.getfield 120, 3) := by decide +kernel
theorem dX10_isKeyword_12 : decode cX10_isKeyword 12 = .ok (.iload_n 1, 1) := by decide +kernel
theorem dX10_isKeyword_13 : decode cX10_isKeyword 13 = .ok (.if_icmp .ne 7, 3) := by decide +kernel
theorem dX10_isKeyword_16 : decode cX10_isKeyword 16 = .ok (.iconst 1, 1) := by decide +kernel
theorem dX10_isKeyword_17 : decode cX10_isKeyword 17 = .ok (.goto 4, 3) := by decide +kernel
theorem dX10_isKeyword_20 : decode cX10_isKeyword 20 = .ok (.iconst 0, 1) := by decide +kernel
theorem dX10_isKeyword_21 : decode cX10_isKeyword 21 = .ok (.ireturn, 1) := by decide +kernel
theorem dX10_isLetter_0 : decode cX10_isLetter 0 = .ok (.iload_n 0, 1) := by decide +kernel
theorem dX10_isLetter_1 : decode cX10_isLetter 1 = .ok (.bipush 97, 2) := by decide +kernel
theorem dX10_isLetter_3 : decode cX10_isLetter 3 = .ok (.if_icmp .lt 13, 3) := by decide +kernel
theorem dX10_isLetter_6 : decode cX10_isLetter 6 = .ok (.iload_n 0, 1) := by decide +kernel
theorem dX10_isLetter_7 : decode cX10_isLetter 7 = .ok (.bipush 122, 2) := by decide +kernel
theorem dX10_isLetter_9 : decode cX10_isLetter 9 = .ok (.if_icmp .gt 7, 3) := by decide +kernel
theorem dX10_isLetter_12 : decode cX10_isLetter 12 = .ok (.iconst 1, 1) := by decide +kernel
theorem dX10_isLetter_13 : decode cX10_isLetter 13 = .ok (.goto 4, 3) := by decide +kernel
theorem dX10_isLetter_16 : decode cX10_isLetter 16 = .ok (.iconst 0, 1) := by decide +kernel
theorem dX10_isLetter_17 : decode cX10_isLetter 17 = .ok (.ireturn, 1) := by decide +kernel
theorem dX10_isName_0 : decode cX10_isName 0 = .ok (.aload_n 0, 1) := by decide +kernel
theorem dX10_isName_1 : decode cX10_isName 1 = .ok (.getfield 126, 3) := by decide +kernel
theorem dX10_isName_4 : decode cX10_isName 4 = .ok (.iconst 2, 1) := by decide +kernel
theorem dX10_isName_5 : decode cX10_isName 5 = .ok (.if_icmp .ne 15, 3) := by decide +kernel
theorem dX10_isName_8 : decode cX10_isName 8 = .ok (.aload_n 0, 1) := by decide +kernel
theorem dX10_isName_9 : decode cX10_isName 9 = .ok (.getfield 120, 3) := by decide +kernel
theorem dX10_isName_12 : decode cX10_isName 12 = .ok (.iconst (-1), 1) := by decide +kernel
theorem dX10_isName_13 : decode cX10_isName 13 = .ok (.if_icmp .ne 7, 3) := by decide +kernel
theorem dX10_isName_16 : decode cX10_isName 16 = .ok (.iconst 1, 1) := by decide +kernel
theorem dX10_isName_17 : decode cX10_isName 17 = .ok (.goto 4, 3) := by decide +kernel
theorem dX10_isName_20 : decode cX10_isName 20 = .ok (.iconst 0, 1) := by decide +kernel
theorem dX10_isName_21 : decode cX10_isName 21 = .ok (.ireturn, 1) := by decide +kernel
theorem dX10_isSymbol_0 : decode cX10_isSymbol 0 = .ok (.aload_n 0, 1) := by decide +kernel
theorem dX10_isSymbol_1 : decode cX10_isSymbol 1 = .ok (.getfield 126, 3) := by decide +kernel
theorem dX10_isSymbol_4 : decode cX10_isSymbol 4 = .ok (.iconst 4, 1) := by decide +kernel
theorem dX10_isSymbol_5 : decode cX10_isSymbol 5 = .ok (.if_icmp .ne 20, 3) := by decide +kernel
theorem dX10_isSymbol_8 : decode cX10_isSymbol 8 = .ok (.aload_n 0, 1) := by decide +kernel
theorem dX10_isSymbol_9 : decode cX10_isSymbol 9 = .ok (.getfield 26, 3) := by decide +kernel
theorem dX10_isSymbol_12 : decode cX10_isSymbol 12 = .ok (.aload_n 0, 1) := by decide +kernel
theorem dX10_isSymbol_13 : decode cX10_isSymbol 13 = .ok (.getfield 117, 3) := by decide +kernel
theorem dX10_isSymbol_16 : decode cX10_isSymbol 16 = .ok (.iaload, 1) := by decide +kernel
theorem dX10_isSymbol_17 : decode cX10_isSymbol 17 = .ok (.iload_n 1, 1) := by decide +kernel
theorem dX10_isSymbol_18 : decode cX10_isSymbol 18 = .ok (.if_icmp .ne 7, 3) := by decide +kernel
theorem dX10_isSymbol_21 : decode cX10_isSymbol 21 = .ok (.iconst 1, 1) := by decide +kernel
theorem dX10_isSymbol_22 : decode cX10_isSymbol 22 = .ok (.goto 4, 3) := by decide +kernel
theorem dX10_isSymbol_25 : decode cX10_isSymbol 25 = .ok (.iconst 0, 1) := by decide +kernel
theorem dX10_isSymbol_26 : decode cX10_isSymbol 26 = .ok (.ireturn, 1) := by decide +kernel
theorem dX10_keywordOf_0 : decode cX10_keywordOf 0 = .ok (.iconst 0, 1) := by decide +kernel
theorem dX10_keywordOf_1 : decode cX10_keywordOf 1 = .ok (.istore_n 3, 1) := by decide +kernel
theorem dX10_keywordOf_2 : decode cX10_keywordOf 2 = .ok (.iload_n 3, 1) := by decide +kernel
theorem dX10_keywordOf_3 : decode cX10_keywordOf 3 = .ok (.bipush 15, 2) := by decide +kernel
theorem dX10_keywordOf_5 : decode cX10_keywordOf 5 = .ok (.if_icmp .ge 22, 3) := by decide +kernel
theorem dX10_keywordOf_8 : decode cX10_keywordOf 8 = .ok (.aload_n 0, 1) := by decide +kernel
theorem dX10_keywordOf_9 : decode cX10_keywordOf 9 = .ok (.getfield 33, 3) := by decide +kernel
theorem dX10_keywordOf_12 : decode cX10_keywordOf 12 = .ok (.iload_n 3, 1) := by decide +kernel
theorem dX10_keywordOf_13 : decode cX10_keywordOf 13 = .ok (.laload, 1) := by decide +kernel
theorem dX10_keywordOf_14 : decode cX10_keywordOf 14 = .ok (.lload_n 1, 1) := by decide +kernel
theorem dX10_keywordOf_15 : decode cX10_keywordOf 15 = .ok (.lcmp, 1) := by decide +kernel
theorem dX10_keywordOf_16 : decode cX10_keywordOf 16 = .ok (.ifCond .ne 5, 3) := by decide +kernel
theorem dX10_keywordOf_19 : decode cX10_keywordOf 19 = .ok (.iload_n 3, 1) := by decide +kernel
theorem dX10_keywordOf_20 : decode cX10_keywordOf 20 = .ok (.ireturn, 1) := by decide +kernel
theorem dX10_keywordOf_21 : decode cX10_keywordOf 21 = .ok (.iinc 3 1, 3) := by decide +kernel
theorem dX10_keywordOf_24 : decode cX10_keywordOf 24 = .ok (.goto (-22), 3) := by decide +kernel
theorem dX10_keywordOf_27 : decode cX10_keywordOf 27 = .ok (.iconst (-1), 1) := by decide +kernel
theorem dX10_keywordOf_28 : decode cX10_keywordOf 28 = .ok (.ireturn, 1) := by decide +kernel
theorem dX10_load_0 : decode cX10_load 0 = .ok (.aload_n 0, 1) := by decide +kernel
theorem dX10_load_1 : decode cX10_load 1 = .ok (.iload_n 1, 1) := by decide +kernel
theorem dX10_load_2 : decode cX10_load 2 = .ok (.i2l, 1) := by decide +kernel
theorem dX10_load_3 : decode cX10_load 3 = .ok (.lconst 0, 1) := by decide +kernel
theorem dX10_load_4 : decode cX10_load 4 = .ok (.aload_n 0, 1) := by decide +kernel
theorem dX10_load_5 : decode cX10_load 5 = .ok (.getfield 90, 3) := by decide +kernel
theorem dX10_load_8 : decode cX10_load 8 = .ok (.i2l, 1) := by decide +kernel
theorem dX10_load_9 : decode cX10_load 9 = .ok (.invokestatic 152, 3) := by decide +kernel
theorem dX10_load_12 : decode cX10_load 12 = .ok (.ifCond .eq 7, 3) := by decide +kernel
theorem dX10_load_15 : decode cX10_load 15 = .ok (.iconst 0, 1) := by decide +kernel
theorem dX10_load_16 : decode cX10_load 16 = .ok (.goto 4, 3) := by decide +kernel
theorem dX10_load_19 : decode cX10_load 19 = .ok (.iconst 1, 1) := by decide +kernel
theorem dX10_load_20 : decode cX10_load 20 = .ok (.putfield 80, 3) := by decide +kernel
theorem dX10_load_23 : decode cX10_load 23 = .ok (.aload_n 0, 1) := by decide +kernel
theorem dX10_load_24 : decode cX10_load 24 = .ok (.getfield 80, 3) := by decide +kernel
theorem dX10_load_27 : decode cX10_load 27 = .ok (.ifCond .le 5, 3) := by decide +kernel
theorem dX10_load_30 : decode cX10_load 30 = .ok (.iconst 0, 1) := by decide +kernel
theorem dX10_load_31 : decode cX10_load 31 = .ok (.ireturn, 1) := by decide +kernel
theorem dX10_load_32 : decode cX10_load 32 = .ok (.aload_n 0, 1) := by decide +kernel
theorem dX10_load_33 : decode cX10_load 33 = .ok (.iload_n 1, 1) := by decide +kernel
theorem dX10_load_34 : decode cX10_load 34 = .ok (.putfield 107, 3) := by decide +kernel
theorem dX10_load_37 : decode cX10_load 37 = .ok (.aload_n 0, 1) := by decide +kernel
theorem dX10_load_38 : decode cX10_load 38 = .ok (.iconst 0, 1) := by decide +kernel
theorem dX10_load_39 : decode cX10_load 39 = .ok (.putfield 90, 3) := by decide +kernel
theorem dX10_load_42 : decode cX10_load 42 = .ok (.aload_n 0, 1) := by decide +kernel
theorem dX10_load_43 : decode cX10_load 43 = .ok (.iconst 0, 1) := by decide +kernel
theorem dX10_load_44 : decode cX10_load 44 = .ok (.putfield 110, 3) := by decide +kernel
theorem dX10_load_47 : decode cX10_load 47 = .ok (.aload_n 0, 1) := by decide +kernel
theorem dX10_load_48 : decode cX10_load 48 = .ok (.iconst 0, 1) := by decide +kernel
theorem dX10_load_49 : decode cX10_load 49 = .ok (.putfield 143, 3) := by decide +kernel
theorem dX10_load_52 : decode cX10_load 52 = .ok (.aload_n 0, 1) := by decide +kernel
theorem dX10_load_53 : decode cX10_load 53 = .ok (.iconst (-1), 1) := by decide +kernel
theorem dX10_load_54 : decode cX10_load 54 = .ok (.putfield 146, 3) := by decide +kernel
theorem dX10_load_57 : decode cX10_load 57 = .ok (.aload_n 0, 1) := by decide +kernel
theorem dX10_load_58 : decode cX10_load 58 = .ok (.iconst 0, 1) := by decide +kernel
theorem dX10_load_59 : decode cX10_load 59 = .ok (.putfield 182, 3) := by decide +kernel
theorem dX10_load_62 : decode cX10_load 62 = .ok (.aload_n 0, 1) := by decide +kernel
theorem dX10_load_63 : decode cX10_load 63 = .ok (.iconst 0, 1) := by decide +kernel
theorem dX10_load_64 : decode cX10_load 64 = .ok (.putfield 226, 3) := by decide +kernel
theorem dX10_load_67 : decode cX10_load 67 = .ok (.aload_n 0, 1) := by decide +kernel
theorem dX10_load_68 : decode cX10_load 68 = .ok (.iconst 0, 1) := by decide +kernel
theorem dX10_load_69 : decode cX10_load 69 = .ok (.putfield 167, 3) := by decide +kernel
theorem dX10_load_72 : decode cX10_load 72 = .ok (.aload_n 0, 1) := by decide +kernel
theorem dX10_load_73 : decode cX10_load 73 = .ok (.getfield 13, 3) := by decide +kernel
theorem dX10_load_76 : decode cX10_load 76 = .ok (.invokestatic 76, 3) := by decide +kernel
theorem dX10_load_79 : decode cX10_load 79 = .ok (.aload_n 0, 1) := by decide +kernel
theorem dX10_load_80 : decode cX10_load 80 = .ok (.invokevirtual 159, 3) := by decide +kernel
theorem dX10_load_83 : decode cX10_load 83 = .ok (.pop, 1) := by decide +kernel
theorem dX10_load_84 : decode cX10_load 84 = .ok (.iconst 1, 1) := by decide +kernel
theorem dX10_load_85 : decode cX10_load 85 = .ok (.istore_n 2, 1) := by decide +kernel
theorem dX10_load_86 : decode cX10_load 86 = .ok (.iload_n 2, 1) := by decide +kernel
theorem dX10_load_87 : decode cX10_load 87 = .ok (.ifCond .eq 33, 3) := by decide +kernel
theorem dX10_load_90 : decode cX10_load 90 = .ok (.aload_n 0, 1) := by decide +kernel
theorem dX10_load_91 : decode cX10_load 91 = .ok (.getfield 126, 3) := by decide +kernel
theorem dX10_load_94 : decode cX10_load 94 = .ok (.ifCond .eq 26, 3) := by decide +kernel
theorem dX10_load_97 : decode cX10_load 97 = .ok (.aload_n 0, 1) := by decide +kernel
theorem dX10_load_98 : decode cX10_load 98 = .ok (.invokevirtual 249, 3) := by decide +kernel
theorem dX10_load_101 : decode cX10_load 101 = .ok (.ifCond .eq 14, 3) := by decide +kernel
theorem dX10_load_104 : decode cX10_load 104 = .ok (.aload_n 0, 1) := by decide +kernel
theorem dX10_load_105 : decode cX10_load 105 = .ok (.invokevirtual 252, 3) := by decide +kernel
theorem dX10_load_108 : decode cX10_load 108 = .ok (.ifCond .eq 7, 3) := by decide +kernel
theorem dX10_load_111 : decode cX10_load 111 = .ok (.iconst 1, 1) := by decide +kernel
theorem dX10_load_112 : decode cX10_load 112 = .ok (.goto 4, 3) := by decide +kernel
theorem dX10_load_115 : decode cX10_load 115 = .ok (.iconst 0, 1) := by decide +kernel
theorem dX10_load_116 : decode cX10_load 116 = .ok (.istore_n 2, 1) := by decide +kernel
theorem dX10_load_117 : decode cX10_load 117 = .ok (.goto (-31), 3) := by decide +kernel
theorem dX10_load_120 : decode cX10_load 120 = .ok (.aload_n 0, 1) := by decide +kernel
theorem dX10_load_121 : decode cX10_load 121 = .ok (.aload_n 0, 1) := by decide +kernel
theorem dX10_load_122 : decode cX10_load 122 = .ok (.getfield 143, 3) := by decide +kernel
theorem dX10_load_125 : decode cX10_load 125 = .ok (.putfield 255, 3) := by decide +kernel
theorem dX10_load_128 : decode cX10_load 128 = .ok (.aload_n 0, 1) := by decide +kernel
theorem dX10_load_129 : decode cX10_load 129 = .ok (.aload_n 0, 1) := by decide +kernel
theorem dX10_load_130 : decode cX10_load 130 = .ok (.getfield 146, 3) := by decide +kernel
theorem dX10_load_133 : decode cX10_load 133 = .ok (.putfield 29, 3) := by decide +kernel
theorem dX10_load_136 : decode cX10_load 136 = .ok (.iload_n 2, 1) := by decide +kernel
theorem dX10_load_137 : decode cX10_load 137 = .ok (.ifCond .ne 6, 3) := by decide +kernel
theorem dX10_load_140 : decode cX10_load 140 = .ok (.bipush (-3), 2) := by decide +kernel
theorem dX10_load_142 : decode cX10_load 142 = .ok (.ireturn, 1) := by decide +kernel
theorem dX10_load_143 : decode cX10_load 143 = .ok (.aload_n 0, 1) := by decide +kernel
theorem dX10_load_144 : decode cX10_load 144 = .ok (.invokevirtual 258, 3) := by decide +kernel
theorem dX10_load_147 : decode cX10_load 147 = .ok (.aload_n 0, 1) := by decide +kernel
theorem dX10_load_148 : decode cX10_load 148 = .ok (.getfield 7, 3) := by decide +kernel
theorem dX10_load_151 : decode cX10_load 151 = .ok (.bipush 13, 2) := by decide +kernel
theorem dX10_load_153 : decode cX10_load 153 = .ok (.iaload, 1) := by decide +kernel
theorem dX10_load_154 : decode cX10_load 154 = .ok (.ireturn, 1) := by decide +kernel
theorem dX10_milestoneStatement_0 : decode cX10_milestoneStatement 0 = .ok (.aload_n 0, 1) := by decide +kernel
theorem dX10_milestoneStatement_1 : decode cX10_milestoneStatement 1 = .ok (.getfield 13, 3) := by decide +kernel
theorem dX10_milestoneStatement_4 : decode cX10_milestoneStatement 4 = .ok (.bipush 13, 2) := by decide +kernel
theorem dX10_milestoneStatement_6 : decode cX10_milestoneStatement 6 = .ok (.iaload, 1) := by decide +kernel
theorem dX10_milestoneStatement_7 : decode cX10_milestoneStatement 7 = .ok (.istore_n 1, 1) := by decide +kernel
theorem dX10_milestoneStatement_8 : decode cX10_milestoneStatement 8 = .ok (.iload_n 1, 1) := by decide +kernel
theorem dX10_milestoneStatement_9 : decode cX10_milestoneStatement 9 = .ok (.bipush 10, 2) := by decide +kernel
theorem dX10_milestoneStatement_11 : decode cX10_milestoneStatement 11 = .ok (.if_icmp .ne 9, 3) := by decide +kernel
theorem dX10_milestoneStatement_14 : decode cX10_milestoneStatement 14 = .ok (.aload_n 0, 1) := by decide +kernel
theorem dX10_milestoneStatement_15 : decode cX10_milestoneStatement 15 = .ok (.iconst 5, 1) := by decide +kernel
theorem dX10_milestoneStatement_16 : decode cX10_milestoneStatement 16 = .ok (.invokevirtual 149, 3) := by decide +kernel
theorem dX10_milestoneStatement_19 : decode cX10_milestoneStatement 19 = .ok (.ireturn, 1) := by decide +kernel
theorem dX10_milestoneStatement_20 : decode cX10_milestoneStatement 20 = .ok (.aload_n 0, 1) := by decide +kernel
theorem dX10_milestoneStatement_21 : decode cX10_milestoneStatement 21 = .ok (.invokevirtual 159, 3) := by decide +kernel
theorem dX10_milestoneStatement_24 : decode cX10_milestoneStatement 24 = .ok (.pop, 1) := by decide +kernel
theorem dX10_milestoneStatement_25 : decode cX10_milestoneStatement 25 = .ok (.aload_n 0, 1) := by decide +kernel
theorem dX10_milestoneStatement_26 : decode cX10_milestoneStatement 26 = .ok (.invokevirtual 194, 3) := by decide +kernel
theorem dX10_milestoneStatement_29 : decode cX10_milestoneStatement 29 = .ok (.ifCond .ne 9, 3) := by decide +kernel
theorem dX10_milestoneStatement_32 : decode cX10_milestoneStatement 32 = .ok (.aload_n 0, 1) := by decide +kernel
theorem dX10_milestoneStatement_33 : decode cX10_milestoneStatement 33 = .ok (.iconst 2, 1) := by decide +kernel
theorem dX10_milestoneStatement_34 : decode cX10_milestoneStatement 34 = .ok (.invokevirtual 149, 3) := by decide +kernel
theorem dX10_milestoneStatement_37 : decode cX10_milestoneStatement 37 = .ok (.ireturn, 1) := by decide +kernel
theorem dX10_milestoneStatement_38 : decode cX10_milestoneStatement 38 = .ok (.aload_n 0, 1) := by decide +kernel
theorem dX10_milestoneStatement_39 : decode cX10_milestoneStatement 39 = .ok (.getfield 39, 3) := by decide +kernel
theorem dX10_milestoneStatement_42 : decode cX10_milestoneStatement 42 = .ok (.iload_n 1, 1) := by decide +kernel
theorem dX10_milestoneStatement_43 : decode cX10_milestoneStatement 43 = .ok (.aload_n 0, 1) := by decide +kernel
theorem dX10_milestoneStatement_44 : decode cX10_milestoneStatement 44 = .ok (.getfield 123, 3) := by decide +kernel
theorem dX10_milestoneStatement_47 : decode cX10_milestoneStatement 47 = .ok (.invokestatic 197, 3) := by decide +kernel
theorem dX10_milestoneStatement_50 : decode cX10_milestoneStatement 50 = .ok (.iconst (-1), 1) := by decide +kernel
theorem dX10_milestoneStatement_51 : decode cX10_milestoneStatement 51 = .ok (.if_icmp .eq 9, 3) := by decide +kernel
theorem dX10_milestoneStatement_54 : decode cX10_milestoneStatement 54 = .ok (.aload_n 0, 1) := by decide +kernel
theorem dX10_milestoneStatement_55 : decode cX10_milestoneStatement 55 = .ok (.iconst 4, 1) := by decide +kernel
theorem dX10_milestoneStatement_56 : decode cX10_milestoneStatement 56 = .ok (.invokevirtual 149, 3) := by decide +kernel
theorem dX10_milestoneStatement_59 : decode cX10_milestoneStatement 59 = .ok (.ireturn, 1) := by decide +kernel
theorem dX10_milestoneStatement_60 : decode cX10_milestoneStatement 60 = .ok (.aload_n 0, 1) := by decide +kernel
theorem dX10_milestoneStatement_61 : decode cX10_milestoneStatement 61 = .ok (.getfield 123, 3) := by decide +kernel
theorem dX10_milestoneStatement_64 : decode cX10_milestoneStatement 64 = .ok (.lstore_n 2, 1) := by decide +kernel
theorem dX10_milestoneStatement_65 : decode cX10_milestoneStatement 65 = .ok (.aload_n 0, 1) := by decide +kernel
theorem dX10_milestoneStatement_66 : decode cX10_milestoneStatement 66 = .ok (.invokevirtual 159, 3) := by decide +kernel
theorem dX10_milestoneStatement_69 : decode cX10_milestoneStatement 69 = .ok (.pop, 1) := by decide +kernel
theorem dX10_milestoneStatement_70 : decode cX10_milestoneStatement 70 = .ok (.bipush 16, 2) := by decide +kernel
theorem dX10_milestoneStatement_72 : decode cX10_milestoneStatement 72 = .ok (.bipush 7, 2) := by decide +kernel
theorem dX10_milestoneStatement_74 : decode cX10_milestoneStatement 74 = .ok (.iload_n 1, 1) := by decide +kernel
theorem dX10_milestoneStatement_75 : decode cX10_milestoneStatement 75 = .ok (.imul, 1) := by decide +kernel
theorem dX10_milestoneStatement_76 : decode cX10_milestoneStatement 76 = .ok (.iadd, 1) := by decide +kernel
theorem dX10_milestoneStatement_77 : decode cX10_milestoneStatement 77 = .ok (.istore 4, 2) := by decide +kernel
theorem dX10_milestoneStatement_79 : decode cX10_milestoneStatement 79 = .ok (.aload_n 0, 1) := by decide +kernel
theorem dX10_milestoneStatement_80 : decode cX10_milestoneStatement 80 = .ok (.iload 4, 2) := by decide +kernel
theorem dX10_milestoneStatement_82 : decode cX10_milestoneStatement 82 = .ok (.iconst 0, 1) := by decide +kernel
theorem dX10_milestoneStatement_83 : decode cX10_milestoneStatement 83 = .ok (.iadd, 1) := by decide +kernel
theorem dX10_milestoneStatement_84 : decode cX10_milestoneStatement 84 = .ok (.iconst 1, 1) := by decide +kernel
theorem dX10_milestoneStatement_85 : decode cX10_milestoneStatement 85 = .ok (.ldc 218, 2) := by decide +kernel
theorem dX10_milestoneStatement_87 : decode cX10_milestoneStatement 87 = .ok (.invokevirtual 222, 3) := by decide +kernel
theorem dX10_milestoneStatement_90 : decode cX10_milestoneStatement 90 = .ok (.ifCond .eq 18, 3) := by decide +kernel
theorem dX10_milestoneStatement_93 : decode cX10_milestoneStatement 93 = .ok (.aload_n 0, 1) := by decide +kernel
theorem dX10_milestoneStatement_94 : decode cX10_milestoneStatement 94 = .ok (.iload 4, 2) := by decide +kernel
theorem dX10_milestoneStatement_96 : decode cX10_milestoneStatement 96 = .ok (.bipush 6, 2) := by decide +kernel
theorem dX10_milestoneStatement_98 : decode cX10_milestoneStatement 98 = .ok (.iadd, 1) := by decide +kernel
theorem dX10_milestoneStatement_99 : decode cX10_milestoneStatement 99 = .ok (.iconst 0, 1) := by decide +kernel
theorem dX10_milestoneStatement_100 : decode cX10_milestoneStatement 100 = .ok (.bipush 99, 2) := by decide +kernel
theorem dX10_milestoneStatement_102 : decode cX10_milestoneStatement 102 = .ok (.invokevirtual 222, 3) := by decide +kernel
theorem dX10_milestoneStatement_105 : decode cX10_milestoneStatement 105 = .ok (.ifCond .ne 5, 3) := by decide +kernel
theorem dX10_milestoneStatement_108 : decode cX10_milestoneStatement 108 = .ok (.iconst 0, 1) := by decide +kernel
theorem dX10_milestoneStatement_109 : decode cX10_milestoneStatement 109 = .ok (.ireturn, 1) := by decide +kernel
theorem dX10_milestoneStatement_110 : decode cX10_milestoneStatement 110 = .ok (.aload_n 0, 1) := by decide +kernel
theorem dX10_milestoneStatement_111 : decode cX10_milestoneStatement 111 = .ok (.iconst 5, 1) := by decide +kernel
theorem dX10_milestoneStatement_112 : decode cX10_milestoneStatement 112 = .ok (.invokevirtual 173, 3) := by decide +kernel
theorem dX10_milestoneStatement_115 : decode cX10_milestoneStatement 115 = .ok (.ifCond .ne 9, 3) := by decide +kernel
theorem dX10_milestoneStatement_118 : decode cX10_milestoneStatement 118 = .ok (.aload_n 0, 1) := by decide +kernel
theorem dX10_milestoneStatement_119 : decode cX10_milestoneStatement 119 = .ok (.iconst 2, 1) := by decide +kernel
theorem dX10_milestoneStatement_120 : decode cX10_milestoneStatement 120 = .ok (.invokevirtual 149, 3) := by decide +kernel
theorem dX10_milestoneStatement_123 : decode cX10_milestoneStatement 123 = .ok (.ireturn, 1) := by decide +kernel
theorem dX10_milestoneStatement_124 : decode cX10_milestoneStatement 124 = .ok (.aload_n 0, 1) := by decide +kernel
theorem dX10_milestoneStatement_125 : decode cX10_milestoneStatement 125 = .ok (.invokevirtual 159, 3) := by decide +kernel
theorem dX10_milestoneStatement_128 : decode cX10_milestoneStatement 128 = .ok (.pop, 1) := by decide +kernel
theorem dX10_milestoneStatement_129 : decode cX10_milestoneStatement 129 = .ok (.aload_n 0, 1) := by decide +kernel
theorem dX10_milestoneStatement_130 : decode cX10_milestoneStatement 130 = .ok (.getfield 57, 3) := by decide +kernel
theorem dX10_milestoneStatement_133 : decode cX10_milestoneStatement 133 = .ok (.iload_n 1, 1) := by decide +kernel
theorem dX10_milestoneStatement_134 : decode cX10_milestoneStatement 134 = .ok (.aload_n 0, 1) := by decide +kernel
theorem dX10_milestoneStatement_135 : decode cX10_milestoneStatement 135 = .ok (.getfield 167, 3) := by decide +kernel
theorem dX10_milestoneStatement_138 : decode cX10_milestoneStatement 138 = .ok (.iastore, 1) := by decide +kernel
theorem dX10_milestoneStatement_139 : decode cX10_milestoneStatement 139 = .ok (.aload_n 0, 1) := by decide +kernel
theorem dX10_milestoneStatement_140 : decode cX10_milestoneStatement 140 = .ok (.invokevirtual 188, 3) := by decide +kernel
theorem dX10_milestoneStatement_143 : decode cX10_milestoneStatement 143 = .ok (.ifCond .ne 5, 3) := by decide +kernel
theorem dX10_milestoneStatement_146 : decode cX10_milestoneStatement 146 = .ok (.iconst 0, 1) := by decide +kernel
theorem dX10_milestoneStatement_147 : decode cX10_milestoneStatement 147 = .ok (.ireturn, 1) := by decide +kernel
theorem dX10_milestoneStatement_148 : decode cX10_milestoneStatement 148 = .ok (.aload_n 0, 1) := by decide +kernel
theorem dX10_milestoneStatement_149 : decode cX10_milestoneStatement 149 = .ok (.getfield 57, 3) := by decide +kernel
theorem dX10_milestoneStatement_152 : decode cX10_milestoneStatement 152 = .ok (.iload_n 1, 1) := by decide +kernel
theorem dX10_milestoneStatement_153 : decode cX10_milestoneStatement 153 = .ok (.iconst 1, 1) := by decide +kernel
theorem dX10_milestoneStatement_154 : decode cX10_milestoneStatement 154 = .ok (.iadd, 1) := by decide +kernel
theorem dX10_milestoneStatement_155 : decode cX10_milestoneStatement 155 = .ok (.aload_n 0, 1) := by decide +kernel
theorem dX10_milestoneStatement_156 : decode cX10_milestoneStatement 156 = .ok (.getfield 167, 3) := by decide +kernel
theorem dX10_milestoneStatement_159 : decode cX10_milestoneStatement 159 = .ok (.iastore, 1) := by decide +kernel
theorem dX10_milestoneStatement_160 : decode cX10_milestoneStatement 160 = .ok (.aload_n 0, 1) := by decide +kernel
theorem dX10_milestoneStatement_161 : decode cX10_milestoneStatement 161 = .ok (.getfield 39, 3) := by decide +kernel
theorem dX10_milestoneStatement_164 : decode cX10_milestoneStatement 164 = .ok (.iload_n 1, 1) := by decide +kernel
theorem dX10_milestoneStatement_165 : decode cX10_milestoneStatement 165 = .ok (.lload_n 2, 1) := by decide +kernel
theorem dX10_milestoneStatement_166 : decode cX10_milestoneStatement 166 = .ok (.lastore, 1) := by decide +kernel
theorem dX10_milestoneStatement_167 : decode cX10_milestoneStatement 167 = .ok (.aload_n 0, 1) := by decide +kernel
theorem dX10_milestoneStatement_168 : decode cX10_milestoneStatement 168 = .ok (.getfield 13, 3) := by decide +kernel
theorem dX10_milestoneStatement_171 : decode cX10_milestoneStatement 171 = .ok (.iload 4, 2) := by decide +kernel
theorem dX10_milestoneStatement_173 : decode cX10_milestoneStatement 173 = .ok (.iconst 4, 1) := by decide +kernel
theorem dX10_milestoneStatement_174 : decode cX10_milestoneStatement 174 = .ok (.iadd, 1) := by decide +kernel
theorem dX10_milestoneStatement_175 : decode cX10_milestoneStatement 175 = .ok (.iconst (-1), 1) := by decide +kernel
theorem dX10_milestoneStatement_176 : decode cX10_milestoneStatement 176 = .ok (.iastore, 1) := by decide +kernel
theorem dX10_milestoneStatement_177 : decode cX10_milestoneStatement 177 = .ok (.aload_n 0, 1) := by decide +kernel
theorem dX10_milestoneStatement_178 : decode cX10_milestoneStatement 178 = .ok (.getfield 13, 3) := by decide +kernel
theorem dX10_milestoneStatement_181 : decode cX10_milestoneStatement 181 = .ok (.bipush 13, 2) := by decide +kernel
theorem dX10_milestoneStatement_183 : decode cX10_milestoneStatement 183 = .ok (.dup2, 1) := by decide +kernel
theorem dX10_milestoneStatement_184 : decode cX10_milestoneStatement 184 = .ok (.iaload, 1) := by decide +kernel
theorem dX10_milestoneStatement_185 : decode cX10_milestoneStatement 185 = .ok (.iconst 1, 1) := by decide +kernel
theorem dX10_milestoneStatement_186 : decode cX10_milestoneStatement 186 = .ok (.iadd, 1) := by decide +kernel
theorem dX10_milestoneStatement_187 : decode cX10_milestoneStatement 187 = .ok (.iastore, 1) := by decide +kernel
theorem dX10_milestoneStatement_188 : decode cX10_milestoneStatement 188 = .ok (.iconst 1, 1) := by decide +kernel
theorem dX10_milestoneStatement_189 : decode cX10_milestoneStatement 189 = .ok (.ireturn, 1) := by decide +kernel
theorem dX10_notFact_0 : decode cX10_notFact 0 = .ok (.aload_n 0, 1) := by decide +kernel
theorem dX10_notFact_1 : decode cX10_notFact 1 = .ok (.invokevirtual 185, 3) := by decide +kernel
theorem dX10_notFact_4 : decode cX10_notFact 4 = .ok (.ifCond .eq 10, 3) := by decide +kernel
theorem dX10_notFact_7 : decode cX10_notFact 7 = .ok (.aload_n 0, 1) := by decide +kernel
theorem dX10_notFact_8 : decode cX10_notFact 8 = .ok (.invokevirtual 179, 3) := by decide +kernel
theorem dX10_notFact_11 : decode cX10_notFact 11 = .ok (.ifCond .ne 5, 3) := by decide +kernel
theorem dX10_notFact_14 : decode cX10_notFact 14 = .ok (.iconst 0, 1) := by decide +kernel
theorem dX10_notFact_15 : decode cX10_notFact 15 = .ok (.ireturn, 1) := by decide +kernel
theorem dX10_notFact_16 : decode cX10_notFact 16 = .ok (.aload_n 0, 1) := by decide +kernel
theorem dX10_notFact_17 : decode cX10_notFact 17 = .ok (.dup, 1) := by decide +kernel
theorem dX10_notFact_18 : decode cX10_notFact 18 = .ok (.getfield 182, 3) := by decide +kernel
theorem dX10_notFact_21 : decode cX10_notFact 21 = .ok (.iconst 1, 1) := by decide +kernel
theorem dX10_notFact_22 : decode cX10_notFact 22 = .ok (.isub, 1) := by decide +kernel
theorem dX10_notFact_23 : decode cX10_notFact 23 = .ok (.putfield 182, 3) := by decide +kernel
theorem dX10_notFact_26 : decode cX10_notFact 26 = .ok (.aload_n 0, 1) := by decide +kernel
theorem dX10_notFact_27 : decode cX10_notFact 27 = .ok (.bipush (-3), 2) := by decide +kernel
theorem dX10_notFact_29 : decode cX10_notFact 29 = .ok (.invokevirtual 176, 3) := by decide +kernel
theorem dX10_notFact_32 : decode cX10_notFact 32 = .ok (.ireturn, 1) := by decide +kernel
theorem dX10_number_0 : decode cX10_number 0 = .ok (.aload_n 0, 1) := by decide +kernel
theorem dX10_number_1 : decode cX10_number 1 = .ok (.getfield 126, 3) := by decide +kernel
theorem dX10_number_4 : decode cX10_number 4 = .ok (.iconst 3, 1) := by decide +kernel
theorem dX10_number_5 : decode cX10_number 5 = .ok (.if_icmp .eq 9, 3) := by decide +kernel
theorem dX10_number_8 : decode cX10_number 8 = .ok (.aload_n 0, 1) := by decide +kernel
theorem dX10_number_9 : decode cX10_number 9 = .ok (.iconst 2, 1) := by decide +kernel
theorem dX10_number_10 : decode cX10_number 10 = .ok (.invokevirtual 149, 3) := by decide +kernel
theorem dX10_number_13 : decode cX10_number 13 = .ok (.ireturn, 1) := by decide +kernel
theorem dX10_number_14 : decode cX10_number 14 = .ok (.aload_n 0, 1) := by decide +kernel
theorem dX10_number_15 : decode cX10_number 15 = .ok (.getfield 140, 3) := by decide +kernel
theorem dX10_number_18 : decode cX10_number 18 = .ok (.i2l, 1) := by decide +kernel
theorem dX10_number_19 : decode cX10_number 19 = .ok (.iload_n 1, 1) := by decide +kernel
theorem dX10_number_20 : decode cX10_number 20 = .ok (.i2l, 1) := by decide +kernel
theorem dX10_number_21 : decode cX10_number 21 = .ok (.iload_n 2, 1) := by decide +kernel
theorem dX10_number_22 : decode cX10_number 22 = .ok (.i2l, 1) := by decide +kernel
theorem dX10_number_23 : decode cX10_number 23 = .ok (.invokestatic 152, 3) := by decide +kernel
theorem dX10_number_26 : decode cX10_number 26 = .ok (.ifCond .ne 9, 3) := by decide +kernel
theorem dX10_number_29 : decode cX10_number 29 = .ok (.aload_n 0, 1) := by decide +kernel
theorem dX10_number_30 : decode cX10_number 30 = .ok (.iconst 3, 1) := by decide +kernel
theorem dX10_number_31 : decode cX10_number 31 = .ok (.invokevirtual 149, 3) := by decide +kernel
theorem dX10_number_34 : decode cX10_number 34 = .ok (.ireturn, 1) := by decide +kernel
theorem dX10_number_35 : decode cX10_number 35 = .ok (.aload_n 0, 1) := by decide +kernel
theorem dX10_number_36 : decode cX10_number 36 = .ok (.aload_n 0, 1) := by decide +kernel
theorem dX10_number_37 : decode cX10_number 37 = .ok (.getfield 140, 3) := by decide +kernel
theorem dX10_number_40 : decode cX10_number 40 = .ok (.putfield 156, 3) := by decide +kernel
theorem dX10_number_43 : decode cX10_number 43 = .ok (.aload_n 0, 1) := by decide +kernel
theorem dX10_number_44 : decode cX10_number 44 = .ok (.invokevirtual 159, 3) := by decide +kernel
theorem dX10_number_47 : decode cX10_number 47 = .ok (.ireturn, 1) := by decide +kernel
theorem dX10_numberFact_0 : decode cX10_numberFact 0 = .ok (.aload_n 0, 1) := by decide +kernel
theorem dX10_numberFact_1 : decode cX10_numberFact 1 = .ok (.invokevirtual 159, 3) := by decide +kernel
theorem dX10_numberFact_4 : decode cX10_numberFact 4 = .ok (.pop, 1) := by decide +kernel
theorem dX10_numberFact_5 : decode cX10_numberFact 5 = .ok (.aload_n 0, 1) := by decide +kernel
theorem dX10_numberFact_6 : decode cX10_numberFact 6 = .ok (.iconst 0, 1) := by decide +kernel
theorem dX10_numberFact_7 : decode cX10_numberFact 7 = .ok (.iload_n 2, 1) := by decide +kernel
theorem dX10_numberFact_8 : decode cX10_numberFact 8 = .ok (.invokevirtual 163, 3) := by decide +kernel
theorem dX10_numberFact_11 : decode cX10_numberFact 11 = .ok (.ifCond .eq 23, 3) := by decide +kernel
theorem dX10_numberFact_14 : decode cX10_numberFact 14 = .ok (.aload_n 0, 1) := by decide +kernel
theorem dX10_numberFact_15 : decode cX10_numberFact 15 = .ok (.ldc 201, 2) := by decide +kernel
theorem dX10_numberFact_17 : decode cX10_numberFact 17 = .ok (.iload_n 1, 1) := by decide +kernel
theorem dX10_numberFact_18 : decode cX10_numberFact 18 = .ok (.imul, 1) := by decide +kernel
theorem dX10_numberFact_19 : decode cX10_numberFact 19 = .ok (.aload_n 0, 1) := by decide +kernel
theorem dX10_numberFact_20 : decode cX10_numberFact 20 = .ok (.getfield 156, 3) := by decide +kernel
theorem dX10_numberFact_23 : decode cX10_numberFact 23 = .ok (.iadd, 1) := by decide +kernel
theorem dX10_numberFact_24 : decode cX10_numberFact 24 = .ok (.invokevirtual 176, 3) := by decide +kernel
theorem dX10_numberFact_27 : decode cX10_numberFact 27 = .ok (.ifCond .eq 7, 3) := by decide +kernel
theorem dX10_numberFact_30 : decode cX10_numberFact 30 = .ok (.iconst 1, 1) := by decide +kernel
theorem dX10_numberFact_31 : decode cX10_numberFact 31 = .ok (.goto 4, 3) := by decide +kernel
theorem dX10_numberFact_34 : decode cX10_numberFact 34 = .ok (.iconst 0, 1) := by decide +kernel
theorem dX10_numberFact_35 : decode cX10_numberFact 35 = .ok (.ireturn, 1) := by decide +kernel
theorem dX10_numberTo_0 : decode cX10_numberTo 0 = .ok (.aload_n 0, 1) := by decide +kernel
theorem dX10_numberTo_1 : decode cX10_numberTo 1 = .ok (.iload_n 2, 1) := by decide +kernel
theorem dX10_numberTo_2 : decode cX10_numberTo 2 = .ok (.iload_n 3, 1) := by decide +kernel
theorem dX10_numberTo_3 : decode cX10_numberTo 3 = .ok (.invokevirtual 163, 3) := by decide +kernel
theorem dX10_numberTo_6 : decode cX10_numberTo 6 = .ok (.ifCond .ne 5, 3) := by decide +kernel
theorem dX10_numberTo_9 : decode cX10_numberTo 9 = .ok (.iconst 0, 1) := by decide +kernel
theorem dX10_numberTo_10 : decode cX10_numberTo 10 = .ok (.ireturn, 1) := by decide +kernel
theorem dX10_numberTo_11 : decode cX10_numberTo 11 = .ok (.aload_n 0, 1) := by decide +kernel
theorem dX10_numberTo_12 : decode cX10_numberTo 12 = .ok (.getfield 13, 3) := by decide +kernel
theorem dX10_numberTo_15 : decode cX10_numberTo 15 = .ok (.iload_n 1, 1) := by decide +kernel
theorem dX10_numberTo_16 : decode cX10_numberTo 16 = .ok (.aload_n 0, 1) := by decide +kernel
theorem dX10_numberTo_17 : decode cX10_numberTo 17 = .ok (.getfield 156, 3) := by decide +kernel
theorem dX10_numberTo_20 : decode cX10_numberTo 20 = .ok (.iastore, 1) := by decide +kernel
theorem dX10_numberTo_21 : decode cX10_numberTo 21 = .ok (.iconst 1, 1) := by decide +kernel
theorem dX10_numberTo_22 : decode cX10_numberTo 22 = .ok (.ireturn, 1) := by decide +kernel
theorem dX10_opens_0 : decode cX10_opens 0 = .ok (.aload_n 0, 1) := by decide +kernel
theorem dX10_opens_1 : decode cX10_opens 1 = .ok (.getfield 182, 3) := by decide +kernel
theorem dX10_opens_4 : decode cX10_opens 4 = .ok (.bipush 8, 2) := by decide +kernel
theorem dX10_opens_6 : decode cX10_opens 6 = .ok (.if_icmp .ne 9, 3) := by decide +kernel
theorem dX10_opens_9 : decode cX10_opens 9 = .ok (.aload_n 0, 1) := by decide +kernel
theorem dX10_opens_10 : decode cX10_opens 10 = .ok (.iconst 5, 1) := by decide +kernel
theorem dX10_opens_11 : decode cX10_opens 11 = .ok (.invokevirtual 149, 3) := by decide +kernel
theorem dX10_opens_14 : decode cX10_opens 14 = .ok (.ireturn, 1) := by decide +kernel
theorem dX10_opens_15 : decode cX10_opens 15 = .ok (.aload_n 0, 1) := by decide +kernel
theorem dX10_opens_16 : decode cX10_opens 16 = .ok (.dup, 1) := by decide +kernel
theorem dX10_opens_17 : decode cX10_opens 17 = .ok (.getfield 182, 3) := by decide +kernel
theorem dX10_opens_20 : decode cX10_opens 20 = .ok (.iconst 1, 1) := by decide +kernel
theorem dX10_opens_21 : decode cX10_opens 21 = .ok (.iadd, 1) := by decide +kernel
theorem dX10_opens_22 : decode cX10_opens 22 = .ok (.putfield 182, 3) := by decide +kernel
theorem dX10_opens_25 : decode cX10_opens 25 = .ok (.aload_n 0, 1) := by decide +kernel
theorem dX10_opens_26 : decode cX10_opens 26 = .ok (.invokevirtual 159, 3) := by decide +kernel
theorem dX10_opens_29 : decode cX10_opens 29 = .ok (.ireturn, 1) := by decide +kernel
theorem dX10_plainFact_0 : decode cX10_plainFact 0 = .ok (.aload_n 0, 1) := by decide +kernel
theorem dX10_plainFact_1 : decode cX10_plainFact 1 = .ok (.ldc 201, 2) := by decide +kernel
theorem dX10_plainFact_3 : decode cX10_plainFact 3 = .ok (.iload_n 1, 1) := by decide +kernel
theorem dX10_plainFact_4 : decode cX10_plainFact 4 = .ok (.imul, 1) := by decide +kernel
theorem dX10_plainFact_5 : decode cX10_plainFact 5 = .ok (.invokevirtual 176, 3) := by decide +kernel
theorem dX10_plainFact_8 : decode cX10_plainFact 8 = .ok (.pop, 1) := by decide +kernel
theorem dX10_plainFact_9 : decode cX10_plainFact 9 = .ok (.aload_n 0, 1) := by decide +kernel
theorem dX10_plainFact_10 : decode cX10_plainFact 10 = .ok (.invokevirtual 159, 3) := by decide +kernel
theorem dX10_plainFact_13 : decode cX10_plainFact 13 = .ok (.ireturn, 1) := by decide +kernel
theorem dX10_proofFact_0 : decode cX10_proofFact 0 = .ok (.aload_n 0, 1) := by decide +kernel
theorem dX10_proofFact_1 : decode cX10_proofFact 1 = .ok (.invokevirtual 159, 3) := by decide +kernel
theorem dX10_proofFact_4 : decode cX10_proofFact 4 = .ok (.pop, 1) := by decide +kernel
theorem dX10_proofFact_5 : decode cX10_proofFact 5 = .ok (.aload_n 0, 1) := by decide +kernel
theorem dX10_proofFact_6 : decode cX10_proofFact 6 = .ok (.invokevirtual 194, 3) := by decide +kernel
theorem dX10_proofFact_9 : decode cX10_proofFact 9 = .ok (.ifCond .ne 9, 3) := by decide +kernel
theorem dX10_proofFact_12 : decode cX10_proofFact 12 = .ok (.aload_n 0, 1) := by decide +kernel
theorem dX10_proofFact_13 : decode cX10_proofFact 13 = .ok (.iconst 2, 1) := by decide +kernel
theorem dX10_proofFact_14 : decode cX10_proofFact 14 = .ok (.invokevirtual 149, 3) := by decide +kernel
theorem dX10_proofFact_17 : decode cX10_proofFact 17 = .ok (.ireturn, 1) := by decide +kernel
theorem dX10_proofFact_18 : decode cX10_proofFact 18 = .ok (.aload_n 0, 1) := by decide +kernel
theorem dX10_proofFact_19 : decode cX10_proofFact 19 = .ok (.getfield 45, 3) := by decide +kernel
theorem dX10_proofFact_22 : decode cX10_proofFact 22 = .ok (.aload_n 0, 1) := by decide +kernel
theorem dX10_proofFact_23 : decode cX10_proofFact 23 = .ok (.getfield 13, 3) := by decide +kernel
theorem dX10_proofFact_26 : decode cX10_proofFact 26 = .ok (.bipush 14, 2) := by decide +kernel
theorem dX10_proofFact_28 : decode cX10_proofFact 28 = .ok (.iaload, 1) := by decide +kernel
theorem dX10_proofFact_29 : decode cX10_proofFact 29 = .ok (.aload_n 0, 1) := by decide +kernel
theorem dX10_proofFact_30 : decode cX10_proofFact 30 = .ok (.getfield 123, 3) := by decide +kernel
theorem dX10_proofFact_33 : decode cX10_proofFact 33 = .ok (.invokestatic 197, 3) := by decide +kernel
theorem dX10_proofFact_36 : decode cX10_proofFact 36 = .ok (.istore_n 1, 1) := by decide +kernel
theorem dX10_proofFact_37 : decode cX10_proofFact 37 = .ok (.iload_n 1, 1) := by decide +kernel
theorem dX10_proofFact_38 : decode cX10_proofFact 38 = .ok (.iconst (-1), 1) := by decide +kernel
theorem dX10_proofFact_39 : decode cX10_proofFact 39 = .ok (.if_icmp .ne 50, 3) := by decide +kernel
theorem dX10_proofFact_42 : decode cX10_proofFact 42 = .ok (.aload_n 0, 1) := by decide +kernel
theorem dX10_proofFact_43 : decode cX10_proofFact 43 = .ok (.getfield 13, 3) := by decide +kernel
theorem dX10_proofFact_46 : decode cX10_proofFact 46 = .ok (.bipush 14, 2) := by decide +kernel
theorem dX10_proofFact_48 : decode cX10_proofFact 48 = .ok (.iaload, 1) := by decide +kernel
theorem dX10_proofFact_49 : decode cX10_proofFact 49 = .ok (.bipush 8, 2) := by decide +kernel
theorem dX10_proofFact_51 : decode cX10_proofFact 51 = .ok (.if_icmp .ne 9, 3) := by decide +kernel
theorem dX10_proofFact_54 : decode cX10_proofFact 54 = .ok (.aload_n 0, 1) := by decide +kernel
theorem dX10_proofFact_55 : decode cX10_proofFact 55 = .ok (.iconst 5, 1) := by decide +kernel
theorem dX10_proofFact_56 : decode cX10_proofFact 56 = .ok (.invokevirtual 149, 3) := by decide +kernel
theorem dX10_proofFact_59 : decode cX10_proofFact 59 = .ok (.ireturn, 1) := by decide +kernel
theorem dX10_proofFact_60 : decode cX10_proofFact 60 = .ok (.aload_n 0, 1) := by decide +kernel
theorem dX10_proofFact_61 : decode cX10_proofFact 61 = .ok (.getfield 13, 3) := by decide +kernel
theorem dX10_proofFact_64 : decode cX10_proofFact 64 = .ok (.bipush 14, 2) := by decide +kernel
theorem dX10_proofFact_66 : decode cX10_proofFact 66 = .ok (.iaload, 1) := by decide +kernel
theorem dX10_proofFact_67 : decode cX10_proofFact 67 = .ok (.istore_n 1, 1) := by decide +kernel
theorem dX10_proofFact_68 : decode cX10_proofFact 68 = .ok (.aload_n 0, 1) := by decide +kernel
theorem dX10_proofFact_69 : decode cX10_proofFact 69 = .ok (.getfield 45, 3) := by decide +kernel
theorem dX10_proofFact_72 : decode cX10_proofFact 72 = .ok (.iload_n 1, 1) := by decide +kernel
theorem dX10_proofFact_73 : decode cX10_proofFact 73 = .ok (.aload_n 0, 1) := by decide +kernel
theorem dX10_proofFact_74 : decode cX10_proofFact 74 = .ok (.getfield 123, 3) := by decide +kernel
theorem dX10_proofFact_77 : decode cX10_proofFact 77 = .ok (.lastore, 1) := by decide +kernel
theorem dX10_proofFact_78 : decode cX10_proofFact 78 = .ok (.aload_n 0, 1) := by decide +kernel
theorem dX10_proofFact_79 : decode cX10_proofFact 79 = .ok (.getfield 13, 3) := by decide +kernel
theorem dX10_proofFact_82 : decode cX10_proofFact 82 = .ok (.bipush 14, 2) := by decide +kernel
theorem dX10_proofFact_84 : decode cX10_proofFact 84 = .ok (.dup2, 1) := by decide +kernel
theorem dX10_proofFact_85 : decode cX10_proofFact 85 = .ok (.iaload, 1) := by decide +kernel
theorem dX10_proofFact_86 : decode cX10_proofFact 86 = .ok (.iconst 1, 1) := by decide +kernel
theorem dX10_proofFact_87 : decode cX10_proofFact 87 = .ok (.iadd, 1) := by decide +kernel
theorem dX10_proofFact_88 : decode cX10_proofFact 88 = .ok (.iastore, 1) := by decide +kernel
theorem dX10_proofFact_89 : decode cX10_proofFact 89 = .ok (.aload_n 0, 1) := by decide +kernel
theorem dX10_proofFact_90 : decode cX10_proofFact 90 = .ok (.ldc 201, 2) := by decide +kernel
theorem dX10_proofFact_92 : decode cX10_proofFact 92 = .ok (.iload_n 1, 1) := by decide +kernel
theorem dX10_proofFact_93 : decode cX10_proofFact 93 = .ok (.iadd, 1) := by decide +kernel
theorem dX10_proofFact_94 : decode cX10_proofFact 94 = .ok (.invokevirtual 176, 3) := by decide +kernel
theorem dX10_proofFact_97 : decode cX10_proofFact 97 = .ok (.pop, 1) := by decide +kernel
theorem dX10_proofFact_98 : decode cX10_proofFact 98 = .ok (.aload_n 0, 1) := by decide +kernel
theorem dX10_proofFact_99 : decode cX10_proofFact 99 = .ok (.invokevirtual 159, 3) := by decide +kernel
theorem dX10_proofFact_102 : decode cX10_proofFact 102 = .ok (.ireturn, 1) := by decide +kernel
theorem dX10_rate_0 : decode cX10_rate 0 = .ok (.aload_n 0, 1) := by decide +kernel
theorem dX10_rate_1 : decode cX10_rate 1 = .ok (.invokevirtual 159, 3) := by decide +kernel
theorem dX10_rate_4 : decode cX10_rate 4 = .ok (.pop, 1) := by decide +kernel
theorem dX10_rate_5 : decode cX10_rate 5 = .ok (.aload_n 0, 1) := by decide +kernel
theorem dX10_rate_6 : decode cX10_rate 6 = .ok (.iconst 0, 1) := by decide +kernel
theorem dX10_rate_7 : decode cX10_rate 7 = .ok (.iconst 0, 1) := by decide +kernel
theorem dX10_rate_8 : decode cX10_rate 8 = .ok (.sipush 3000, 3) := by decide +kernel
theorem dX10_rate_11 : decode cX10_rate 11 = .ok (.invokevirtual 222, 3) := by decide +kernel
theorem dX10_rate_14 : decode cX10_rate 14 = .ok (.ifCond .ne 5, 3) := by decide +kernel
theorem dX10_rate_17 : decode cX10_rate 17 = .ok (.iconst 0, 1) := by decide +kernel
theorem dX10_rate_18 : decode cX10_rate 18 = .ok (.ireturn, 1) := by decide +kernel
theorem dX10_rate_19 : decode cX10_rate 19 = .ok (.aload_n 0, 1) := by decide +kernel
theorem dX10_rate_20 : decode cX10_rate 20 = .ok (.getfield 126, 3) := by decide +kernel
theorem dX10_rate_23 : decode cX10_rate 23 = .ok (.iconst 3, 1) := by decide +kernel
theorem dX10_rate_24 : decode cX10_rate 24 = .ok (.if_icmp .ne 29, 3) := by decide +kernel
theorem dX10_rate_27 : decode cX10_rate 27 = .ok (.aload_n 0, 1) := by decide +kernel
theorem dX10_rate_28 : decode cX10_rate 28 = .ok (.getfield 140, 3) := by decide +kernel
theorem dX10_rate_31 : decode cX10_rate 31 = .ok (.sipush 360, 3) := by decide +kernel
theorem dX10_rate_34 : decode cX10_rate 34 = .ok (.if_icmp .eq 19, 3) := by decide +kernel
theorem dX10_rate_37 : decode cX10_rate 37 = .ok (.aload_n 0, 1) := by decide +kernel
theorem dX10_rate_38 : decode cX10_rate 38 = .ok (.getfield 140, 3) := by decide +kernel
theorem dX10_rate_41 : decode cX10_rate 41 = .ok (.sipush 365, 3) := by decide +kernel
theorem dX10_rate_44 : decode cX10_rate 44 = .ok (.if_icmp .eq 9, 3) := by decide +kernel
theorem dX10_rate_47 : decode cX10_rate 47 = .ok (.aload_n 0, 1) := by decide +kernel
theorem dX10_rate_48 : decode cX10_rate 48 = .ok (.iconst 3, 1) := by decide +kernel
theorem dX10_rate_49 : decode cX10_rate 49 = .ok (.invokevirtual 149, 3) := by decide +kernel
theorem dX10_rate_52 : decode cX10_rate 52 = .ok (.ireturn, 1) := by decide +kernel
theorem dX10_rate_53 : decode cX10_rate 53 = .ok (.aload_n 0, 1) := by decide +kernel
theorem dX10_rate_54 : decode cX10_rate 54 = .ok (.iconst 1, 1) := by decide +kernel
theorem dX10_rate_55 : decode cX10_rate 55 = .ok (.sipush 360, 3) := by decide +kernel
theorem dX10_rate_58 : decode cX10_rate 58 = .ok (.sipush 365, 3) := by decide +kernel
theorem dX10_rate_61 : decode cX10_rate 61 = .ok (.invokevirtual 222, 3) := by decide +kernel
theorem dX10_rate_64 : decode cX10_rate 64 = .ok (.ireturn, 1) := by decide +kernel
theorem dX10_setting_0 : decode cX10_setting 0 = .ok (.aload_n 0, 1) := by decide +kernel
theorem dX10_setting_1 : decode cX10_setting 1 = .ok (.invokevirtual 159, 3) := by decide +kernel
theorem dX10_setting_4 : decode cX10_setting 4 = .ok (.pop, 1) := by decide +kernel
theorem dX10_setting_5 : decode cX10_setting 5 = .ok (.aload_n 0, 1) := by decide +kernel
theorem dX10_setting_6 : decode cX10_setting 6 = .ok (.iload_n 1, 1) := by decide +kernel
theorem dX10_setting_7 : decode cX10_setting 7 = .ok (.iconst 0, 1) := by decide +kernel
theorem dX10_setting_8 : decode cX10_setting 8 = .ok (.iload_n 2, 1) := by decide +kernel
theorem dX10_setting_9 : decode cX10_setting 9 = .ok (.invokevirtual 222, 3) := by decide +kernel
theorem dX10_setting_12 : decode cX10_setting 12 = .ok (.ireturn, 1) := by decide +kernel
theorem dX10_statement_0 : decode cX10_statement 0 = .ok (.aload_n 0, 1) := by decide +kernel
theorem dX10_statement_1 : decode cX10_statement 1 = .ok (.getfield 126, 3) := by decide +kernel
theorem dX10_statement_4 : decode cX10_statement 4 = .ok (.iconst 2, 1) := by decide +kernel
theorem dX10_statement_5 : decode cX10_statement 5 = .ok (.if_icmp .eq 9, 3) := by decide +kernel
theorem dX10_statement_8 : decode cX10_statement 8 = .ok (.aload_n 0, 1) := by decide +kernel
theorem dX10_statement_9 : decode cX10_statement 9 = .ok (.iconst 2, 1) := by decide +kernel
theorem dX10_statement_10 : decode cX10_statement 10 = .ok (.invokevirtual 149, 3) := by decide +kernel
theorem dX10_statement_13 : decode cX10_statement 13 = .ok (.ireturn, 1) := by decide +kernel
theorem dX10_statement_14 : decode cX10_statement 14 = .ok (.aload_n 0, 1) := by decide +kernel
theorem dX10_statement_15 : decode cX10_statement 15 = .ok (.getfield 120, 3) := by decide +kernel
theorem dX10_statement_18 : decode cX10_statement 18 = .ok (.tableswitch 66 0 4 #[34, 39, 48, 56, 61], 34) := by decide +kernel
theorem dX10_statement_52 : decode cX10_statement 52 = .ok (.aload_n 0, 1) := by decide +kernel
theorem dX10_statement_53 : decode cX10_statement 53 = .ok (.invokevirtual 233, 3) := by decide +kernel
theorem dX10_statement_56 : decode cX10_statement 56 = .ok (.ireturn, 1) := by decide +kernel
theorem dX10_statement_57 : decode cX10_statement 57 = .ok (.aload_n 0, 1) := by decide +kernel
theorem dX10_statement_58 : decode cX10_statement 58 = .ok (.iconst 2, 1) := by decide +kernel
theorem dX10_statement_59 : decode cX10_statement 59 = .ok (.sipush 2000, 3) := by decide +kernel
theorem dX10_statement_62 : decode cX10_statement 62 = .ok (.invokevirtual 236, 3) := by decide +kernel
theorem dX10_statement_65 : decode cX10_statement 65 = .ok (.ireturn, 1) := by decide +kernel
theorem dX10_statement_66 : decode cX10_statement 66 = .ok (.aload_n 0, 1) := by decide +kernel
theorem dX10_statement_67 : decode cX10_statement 67 = .ok (.iconst 3, 1) := by decide +kernel
theorem dX10_statement_68 : decode cX10_statement 68 = .ok (.bipush 60, 2) := by decide +kernel
theorem dX10_statement_70 : decode cX10_statement 70 = .ok (.invokevirtual 236, 3) := by decide +kernel
theorem dX10_statement_73 : decode cX10_statement 73 = .ok (.ireturn, 1) := by decide +kernel
theorem dX10_statement_74 : decode cX10_statement 74 = .ok (.aload_n 0, 1) := by decide +kernel
theorem dX10_statement_75 : decode cX10_statement 75 = .ok (.invokevirtual 239, 3) := by decide +kernel
theorem dX10_statement_78 : decode cX10_statement 78 = .ok (.ireturn, 1) := by decide +kernel
theorem dX10_statement_79 : decode cX10_statement 79 = .ok (.aload_n 0, 1) := by decide +kernel
theorem dX10_statement_80 : decode cX10_statement 80 = .ok (.invokevirtual 242, 3) := by decide +kernel
theorem dX10_statement_83 : decode cX10_statement 83 = .ok (.ireturn, 1) := by decide +kernel
theorem dX10_statement_84 : decode cX10_statement 84 = .ok (.aload_n 0, 1) := by decide +kernel
theorem dX10_statement_85 : decode cX10_statement 85 = .ok (.iconst 2, 1) := by decide +kernel
theorem dX10_statement_86 : decode cX10_statement 86 = .ok (.invokevirtual 149, 3) := by decide +kernel
theorem dX10_statement_89 : decode cX10_statement 89 = .ok (.ireturn, 1) := by decide +kernel
theorem dX10_takeOver_0 : decode cX10_takeOver 0 = .ok (.aload_n 0, 1) := by decide +kernel
theorem dX10_takeOver_1 : decode cX10_takeOver 1 = .ok (.getfield 13, 3) := by decide +kernel
theorem dX10_takeOver_4 : decode cX10_takeOver 4 = .ok (.aload_n 0, 1) := by decide +kernel
theorem dX10_takeOver_5 : decode cX10_takeOver 5 = .ok (.getfield 7, 3) := by decide +kernel
theorem dX10_takeOver_8 : decode cX10_takeOver 8 = .ok (.invokestatic 245, 3) := by decide +kernel
theorem dX10_takeOver_11 : decode cX10_takeOver 11 = .ok (.iconst 0, 1) := by decide +kernel
theorem dX10_takeOver_12 : decode cX10_takeOver 12 = .ok (.istore_n 1, 1) := by decide +kernel
theorem dX10_takeOver_13 : decode cX10_takeOver 13 = .ok (.iload_n 1, 1) := by decide +kernel
theorem dX10_takeOver_14 : decode cX10_takeOver 14 = .ok (.bipush 10, 2) := by decide +kernel
theorem dX10_takeOver_16 : decode cX10_takeOver 16 = .ok (.if_icmp .ge 21, 3) := by decide +kernel
theorem dX10_takeOver_19 : decode cX10_takeOver 19 = .ok (.aload_n 0, 1) := by decide +kernel
theorem dX10_takeOver_20 : decode cX10_takeOver 20 = .ok (.getfield 36, 3) := by decide +kernel
theorem dX10_takeOver_23 : decode cX10_takeOver 23 = .ok (.iload_n 1, 1) := by decide +kernel
theorem dX10_takeOver_24 : decode cX10_takeOver 24 = .ok (.aload_n 0, 1) := by decide +kernel
theorem dX10_takeOver_25 : decode cX10_takeOver 25 = .ok (.getfield 39, 3) := by decide +kernel
theorem dX10_takeOver_28 : decode cX10_takeOver 28 = .ok (.iload_n 1, 1) := by decide +kernel
theorem dX10_takeOver_29 : decode cX10_takeOver 29 = .ok (.laload, 1) := by decide +kernel
theorem dX10_takeOver_30 : decode cX10_takeOver 30 = .ok (.lastore, 1) := by decide +kernel
theorem dX10_takeOver_31 : decode cX10_takeOver 31 = .ok (.iinc 1 1, 3) := by decide +kernel
theorem dX10_takeOver_34 : decode cX10_takeOver 34 = .ok (.goto (-21), 3) := by decide +kernel
theorem dX10_takeOver_37 : decode cX10_takeOver 37 = .ok (.iconst 0, 1) := by decide +kernel
theorem dX10_takeOver_38 : decode cX10_takeOver 38 = .ok (.istore_n 1, 1) := by decide +kernel
theorem dX10_takeOver_39 : decode cX10_takeOver 39 = .ok (.iload_n 1, 1) := by decide +kernel
theorem dX10_takeOver_40 : decode cX10_takeOver 40 = .ok (.bipush 8, 2) := by decide +kernel
theorem dX10_takeOver_42 : decode cX10_takeOver 42 = .ok (.if_icmp .ge 21, 3) := by decide +kernel
theorem dX10_takeOver_45 : decode cX10_takeOver 45 = .ok (.aload_n 0, 1) := by decide +kernel
theorem dX10_takeOver_46 : decode cX10_takeOver 46 = .ok (.getfield 42, 3) := by decide +kernel
theorem dX10_takeOver_49 : decode cX10_takeOver 49 = .ok (.iload_n 1, 1) := by decide +kernel
theorem dX10_takeOver_50 : decode cX10_takeOver 50 = .ok (.aload_n 0, 1) := by decide +kernel
theorem dX10_takeOver_51 : decode cX10_takeOver 51 = .ok (.getfield 45, 3) := by decide +kernel
theorem dX10_takeOver_54 : decode cX10_takeOver 54 = .ok (.iload_n 1, 1) := by decide +kernel
theorem dX10_takeOver_55 : decode cX10_takeOver 55 = .ok (.laload, 1) := by decide +kernel
theorem dX10_takeOver_56 : decode cX10_takeOver 56 = .ok (.lastore, 1) := by decide +kernel
theorem dX10_takeOver_57 : decode cX10_takeOver 57 = .ok (.iinc 1 1, 3) := by decide +kernel
theorem dX10_takeOver_60 : decode cX10_takeOver 60 = .ok (.goto (-21), 3) := by decide +kernel
theorem dX10_takeOver_63 : decode cX10_takeOver 63 = .ok (.iconst 0, 1) := by decide +kernel
theorem dX10_takeOver_64 : decode cX10_takeOver 64 = .ok (.istore_n 1, 1) := by decide +kernel
theorem dX10_takeOver_65 : decode cX10_takeOver 65 = .ok (.iload_n 1, 1) := by decide +kernel
theorem dX10_takeOver_66 : decode cX10_takeOver 66 = .ok (.bipush 10, 2) := by decide +kernel
theorem dX10_takeOver_68 : decode cX10_takeOver 68 = .ok (.if_icmp .gt 21, 3) := by decide +kernel
theorem dX10_takeOver_71 : decode cX10_takeOver 71 = .ok (.aload_n 0, 1) := by decide +kernel
theorem dX10_takeOver_72 : decode cX10_takeOver 72 = .ok (.getfield 54, 3) := by decide +kernel
theorem dX10_takeOver_75 : decode cX10_takeOver 75 = .ok (.iload_n 1, 1) := by decide +kernel
theorem dX10_takeOver_76 : decode cX10_takeOver 76 = .ok (.aload_n 0, 1) := by decide +kernel
theorem dX10_takeOver_77 : decode cX10_takeOver 77 = .ok (.getfield 57, 3) := by decide +kernel
theorem dX10_takeOver_80 : decode cX10_takeOver 80 = .ok (.iload_n 1, 1) := by decide +kernel
theorem dX10_takeOver_81 : decode cX10_takeOver 81 = .ok (.iaload, 1) := by decide +kernel
theorem dX10_takeOver_82 : decode cX10_takeOver 82 = .ok (.iastore, 1) := by decide +kernel
theorem dX10_takeOver_83 : decode cX10_takeOver 83 = .ok (.iinc 1 1, 3) := by decide +kernel
theorem dX10_takeOver_86 : decode cX10_takeOver 86 = .ok (.goto (-21), 3) := by decide +kernel
theorem dX10_takeOver_89 : decode cX10_takeOver 89 = .ok (.iconst 0, 1) := by decide +kernel
theorem dX10_takeOver_90 : decode cX10_takeOver 90 = .ok (.istore_n 1, 1) := by decide +kernel
theorem dX10_takeOver_91 : decode cX10_takeOver 91 = .ok (.iload_n 1, 1) := by decide +kernel
theorem dX10_takeOver_92 : decode cX10_takeOver 92 = .ok (.aload_n 0, 1) := by decide +kernel
theorem dX10_takeOver_93 : decode cX10_takeOver 93 = .ok (.getfield 167, 3) := by decide +kernel
theorem dX10_takeOver_96 : decode cX10_takeOver 96 = .ok (.if_icmp .ge 21, 3) := by decide +kernel
theorem dX10_takeOver_99 : decode cX10_takeOver 99 = .ok (.aload_n 0, 1) := by decide +kernel
theorem dX10_takeOver_100 : decode cX10_takeOver 100 = .ok (.getfield 48, 3) := by decide +kernel
theorem dX10_takeOver_103 : decode cX10_takeOver 103 = .ok (.iload_n 1, 1) := by decide +kernel
theorem dX10_takeOver_104 : decode cX10_takeOver 104 = .ok (.aload_n 0, 1) := by decide +kernel
theorem dX10_takeOver_105 : decode cX10_takeOver 105 = .ok (.getfield 51, 3) := by decide +kernel
theorem dX10_takeOver_108 : decode cX10_takeOver 108 = .ok (.iload_n 1, 1) := by decide +kernel
theorem dX10_takeOver_109 : decode cX10_takeOver 109 = .ok (.iaload, 1) := by decide +kernel
theorem dX10_takeOver_110 : decode cX10_takeOver 110 = .ok (.iastore, 1) := by decide +kernel
theorem dX10_takeOver_111 : decode cX10_takeOver 111 = .ok (.iinc 1 1, 3) := by decide +kernel
theorem dX10_takeOver_114 : decode cX10_takeOver 114 = .ok (.goto (-23), 3) := by decide +kernel
theorem dX10_takeOver_117 : decode cX10_takeOver 117 = .ok (.aload_n 0, 1) := by decide +kernel
theorem dX10_takeOver_118 : decode cX10_takeOver 118 = .ok (.lconst 0, 1) := by decide +kernel
theorem dX10_takeOver_119 : decode cX10_takeOver 119 = .ok (.putfield 86, 3) := by decide +kernel
theorem dX10_takeOver_122 : decode cX10_takeOver 122 = .ok (.aload_n 0, 1) := by decide +kernel
theorem dX10_takeOver_123 : decode cX10_takeOver 123 = .ok (.iconst 0, 1) := by decide +kernel
theorem dX10_takeOver_124 : decode cX10_takeOver 124 = .ok (.putfield 83, 3) := by decide +kernel
theorem dX10_takeOver_127 : decode cX10_takeOver 127 = .ok (.return_, 1) := by decide +kernel
theorem dX4_readCondition_0 : decode cX4_readCondition 0 = .ok (.aload_n 0, 1) := by decide +kernel
theorem dX4_readCondition_1 : decode cX4_readCondition 1 = .ok (.iload_n 1, 1) := by decide +kernel
theorem dX4_readCondition_2 : decode cX4_readCondition 2 = .ok (.invokevirtual 138, 3) := by decide +kernel
theorem dX4_readCondition_5 : decode cX4_readCondition 5 = .ok (.istore_n 2, 1) := by decide +kernel
theorem dX4_readCondition_6 : decode cX4_readCondition 6 = .ok (.iconst 0, 1) := by decide +kernel
theorem dX4_readCondition_7 : decode cX4_readCondition 7 = .ok (.istore_n 3, 1) := by decide +kernel
theorem dX4_readCondition_8 : decode cX4_readCondition 8 = .ok (.iload_n 2, 1) := by decide +kernel
theorem dX4_readCondition_9 : decode cX4_readCondition 9 = .ok (.ifCond .eq 62, 3) := by decide +kernel
theorem dX4_readCondition_12 : decode cX4_readCondition 12 = .ok (.iload_n 3, 1) := by decide +kernel
theorem dX4_readCondition_13 : decode cX4_readCondition 13 = .ok (.sipush 700, 3) := by decide +kernel
theorem dX4_readCondition_16 : decode cX4_readCondition 16 = .ok (.if_icmp .ge 55, 3) := by decide +kernel
theorem dX4_readCondition_19 : decode cX4_readCondition 19 = .ok (.aload_n 0, 1) := by decide +kernel
theorem dX4_readCondition_20 : decode cX4_readCondition 20 = .ok (.getfield 42, 3) := by decide +kernel
theorem dX4_readCondition_23 : decode cX4_readCondition 23 = .ok (.bipush 14, 2) := by decide +kernel
theorem dX4_readCondition_25 : decode cX4_readCondition 25 = .ok (.if_icmp .ne 46, 3) := by decide +kernel
theorem dX4_readCondition_28 : decode cX4_readCondition 28 = .ok (.aload_n 0, 1) := by decide +kernel
theorem dX4_readCondition_29 : decode cX4_readCondition 29 = .ok (.aload_n 0, 1) := by decide +kernel
theorem dX4_readCondition_30 : decode cX4_readCondition 30 = .ok (.getfield 70, 3) := by decide +kernel
theorem dX4_readCondition_33 : decode cX4_readCondition 33 = .ok (.iconst 1, 1) := by decide +kernel
theorem dX4_readCondition_34 : decode cX4_readCondition 34 = .ok (.iadd, 1) := by decide +kernel
theorem dX4_readCondition_35 : decode cX4_readCondition 35 = .ok (.invokevirtual 38, 3) := by decide +kernel
theorem dX4_readCondition_38 : decode cX4_readCondition 38 = .ok (.aload_n 0, 1) := by decide +kernel
theorem dX4_readCondition_39 : decode cX4_readCondition 39 = .ok (.iload_n 1, 1) := by decide +kernel
theorem dX4_readCondition_40 : decode cX4_readCondition 40 = .ok (.invokevirtual 138, 3) := by decide +kernel
theorem dX4_readCondition_43 : decode cX4_readCondition 43 = .ok (.ifCond .eq 20, 3) := by decide +kernel
theorem dX4_readCondition_46 : decode cX4_readCondition 46 = .ok (.aload_n 0, 1) := by decide +kernel
theorem dX4_readCondition_47 : decode cX4_readCondition 47 = .ok (.getfield 25, 3) := by decide +kernel
theorem dX4_readCondition_50 : decode cX4_readCondition 50 = .ok (.bipush 14, 2) := by decide +kernel
theorem dX4_readCondition_52 : decode cX4_readCondition 52 = .ok (.iconst 0, 1) := by decide +kernel
theorem dX4_readCondition_53 : decode cX4_readCondition 53 = .ok (.invokevirtual 141, 3) := by decide +kernel
theorem dX4_readCondition_56 : decode cX4_readCondition 56 = .ok (.ifCond .eq 7, 3) := by decide +kernel
theorem dX4_readCondition_59 : decode cX4_readCondition 59 = .ok (.iconst 1, 1) := by decide +kernel
theorem dX4_readCondition_60 : decode cX4_readCondition 60 = .ok (.goto 4, 3) := by decide +kernel
theorem dX4_readCondition_63 : decode cX4_readCondition 63 = .ok (.iconst 0, 1) := by decide +kernel
theorem dX4_readCondition_64 : decode cX4_readCondition 64 = .ok (.istore_n 2, 1) := by decide +kernel
theorem dX4_readCondition_65 : decode cX4_readCondition 65 = .ok (.iinc 3 1, 3) := by decide +kernel
theorem dX4_readCondition_68 : decode cX4_readCondition 68 = .ok (.goto (-60), 3) := by decide +kernel
theorem dX4_readCondition_71 : decode cX4_readCondition 71 = .ok (.iload_n 2, 1) := by decide +kernel
theorem dX4_readCondition_72 : decode cX4_readCondition 72 = .ok (.ireturn, 1) := by decide +kernel
theorem dX4_readFact_0 : decode cX4_readFact 0 = .ok (.aload_n 0, 1) := by decide +kernel
theorem dX4_readFact_1 : decode cX4_readFact 1 = .ok (.getfield 42, 3) := by decide +kernel
theorem dX4_readFact_4 : decode cX4_readFact 4 = .ok (.istore_n 2, 1) := by decide +kernel
theorem dX4_readFact_5 : decode cX4_readFact 5 = .ok (.iload_n 2, 1) := by decide +kernel
theorem dX4_readFact_6 : decode cX4_readFact 6 = .ok (.bipush 16, 2) := by decide +kernel
theorem dX4_readFact_8 : decode cX4_readFact 8 = .ok (.if_icmp .eq 8, 3) := by decide +kernel
theorem dX4_readFact_11 : decode cX4_readFact 11 = .ok (.iload_n 2, 1) := by decide +kernel
theorem dX4_readFact_12 : decode cX4_readFact 12 = .ok (.iconst 5, 1) := by decide +kernel
theorem dX4_readFact_13 : decode cX4_readFact 13 = .ok (.if_icmp .ne 15, 3) := by decide +kernel
theorem dX4_readFact_16 : decode cX4_readFact 16 = .ok (.iload_n 1, 1) := by decide +kernel
theorem dX4_readFact_17 : decode cX4_readFact 17 = .ok (.bipush 8, 2) := by decide +kernel
theorem dX4_readFact_19 : decode cX4_readFact 19 = .ok (.if_icmp .lt 9, 3) := by decide +kernel
theorem dX4_readFact_22 : decode cX4_readFact 22 = .ok (.aload_n 0, 1) := by decide +kernel
theorem dX4_readFact_23 : decode cX4_readFact 23 = .ok (.iconst 5, 1) := by decide +kernel
theorem dX4_readFact_24 : decode cX4_readFact 24 = .ok (.invokevirtual 63, 3) := by decide +kernel
theorem dX4_readFact_27 : decode cX4_readFact 27 = .ok (.ireturn, 1) := by decide +kernel
theorem dX4_readFact_28 : decode cX4_readFact 28 = .ok (.iload_n 2, 1) := by decide +kernel
theorem dX4_readFact_29 : decode cX4_readFact 29 = .ok (.invokestatic 147, 3) := by decide +kernel
theorem dX4_readFact_32 : decode cX4_readFact 32 = .ok (.ifCond .ne 9, 3) := by decide +kernel
theorem dX4_readFact_35 : decode cX4_readFact 35 = .ok (.aload_n 0, 1) := by decide +kernel
theorem dX4_readFact_36 : decode cX4_readFact 36 = .ok (.iconst 2, 1) := by decide +kernel
theorem dX4_readFact_37 : decode cX4_readFact 37 = .ok (.invokevirtual 63, 3) := by decide +kernel
theorem dX4_readFact_40 : decode cX4_readFact 40 = .ok (.ireturn, 1) := by decide +kernel
theorem dX4_readFact_41 : decode cX4_readFact 41 = .ok (.aload_n 0, 1) := by decide +kernel
theorem dX4_readFact_42 : decode cX4_readFact 42 = .ok (.aload_n 0, 1) := by decide +kernel
theorem dX4_readFact_43 : decode cX4_readFact 43 = .ok (.getfield 70, 3) := by decide +kernel
theorem dX4_readFact_46 : decode cX4_readFact 46 = .ok (.iconst 1, 1) := by decide +kernel
theorem dX4_readFact_47 : decode cX4_readFact 47 = .ok (.iadd, 1) := by decide +kernel
theorem dX4_readFact_48 : decode cX4_readFact 48 = .ok (.invokevirtual 38, 3) := by decide +kernel
theorem dX4_readFact_51 : decode cX4_readFact 51 = .ok (.iload_n 2, 1) := by decide +kernel
theorem dX4_readFact_52 : decode cX4_readFact 52 = .ok (.tableswitch 206 5 20 #[80, 206, 206, 206, 206, 206, 206, 206, 206, 206, 206, 105, 133, 196, 201, 165], 80) := by decide +kernel
theorem dX4_readFact_132 : decode cX4_readFact 132 = .ok (.aload_n 0, 1) := by decide +kernel
theorem dX4_readFact_133 : decode cX4_readFact 133 = .ok (.iload_n 1, 1) := by decide +kernel
theorem dX4_readFact_134 : decode cX4_readFact 134 = .ok (.iconst 1, 1) := by decide +kernel
theorem dX4_readFact_135 : decode cX4_readFact 135 = .ok (.iadd, 1) := by decide +kernel
theorem dX4_readFact_136 : decode cX4_readFact 136 = .ok (.invokevirtual 131, 3) := by decide +kernel
theorem dX4_readFact_139 : decode cX4_readFact 139 = .ok (.ifCond .eq 16, 3) := by decide +kernel
theorem dX4_readFact_142 : decode cX4_readFact 142 = .ok (.aload_n 0, 1) := by decide +kernel
theorem dX4_readFact_143 : decode cX4_readFact 143 = .ok (.bipush 6, 2) := by decide +kernel
theorem dX4_readFact_145 : decode cX4_readFact 145 = .ok (.invokevirtual 108, 3) := by decide +kernel
theorem dX4_readFact_148 : decode cX4_readFact 148 = .ok (.ifCond .eq 7, 3) := by decide +kernel
theorem dX4_readFact_151 : decode cX4_readFact 151 = .ok (.iconst 1, 1) := by decide +kernel
theorem dX4_readFact_152 : decode cX4_readFact 152 = .ok (.goto 4, 3) := by decide +kernel
theorem dX4_readFact_155 : decode cX4_readFact 155 = .ok (.iconst 0, 1) := by decide +kernel
theorem dX4_readFact_156 : decode cX4_readFact 156 = .ok (.ireturn, 1) := by decide +kernel
theorem dX4_readFact_157 : decode cX4_readFact 157 = .ok (.aload_n 0, 1) := by decide +kernel
theorem dX4_readFact_158 : decode cX4_readFact 158 = .ok (.iload_n 1, 1) := by decide +kernel
theorem dX4_readFact_159 : decode cX4_readFact 159 = .ok (.iconst 1, 1) := by decide +kernel
theorem dX4_readFact_160 : decode cX4_readFact 160 = .ok (.iadd, 1) := by decide +kernel
theorem dX4_readFact_161 : decode cX4_readFact 161 = .ok (.invokevirtual 144, 3) := by decide +kernel
theorem dX4_readFact_164 : decode cX4_readFact 164 = .ok (.ifCond .eq 19, 3) := by decide +kernel
theorem dX4_readFact_167 : decode cX4_readFact 167 = .ok (.aload_n 0, 1) := by decide +kernel
theorem dX4_readFact_168 : decode cX4_readFact 168 = .ok (.getfield 25, 3) := by decide +kernel
theorem dX4_readFact_171 : decode cX4_readFact 171 = .ok (.iload_n 2, 1) := by decide +kernel
theorem dX4_readFact_172 : decode cX4_readFact 172 = .ok (.iconst 0, 1) := by decide +kernel
theorem dX4_readFact_173 : decode cX4_readFact 173 = .ok (.invokevirtual 141, 3) := by decide +kernel
theorem dX4_readFact_176 : decode cX4_readFact 176 = .ok (.ifCond .eq 7, 3) := by decide +kernel
theorem dX4_readFact_179 : decode cX4_readFact 179 = .ok (.iconst 1, 1) := by decide +kernel
theorem dX4_readFact_180 : decode cX4_readFact 180 = .ok (.goto 4, 3) := by decide +kernel
theorem dX4_readFact_183 : decode cX4_readFact 183 = .ok (.iconst 0, 1) := by decide +kernel
theorem dX4_readFact_184 : decode cX4_readFact 184 = .ok (.ireturn, 1) := by decide +kernel
theorem dX4_readFact_185 : decode cX4_readFact 185 = .ok (.aload_n 0, 1) := by decide +kernel
theorem dX4_readFact_186 : decode cX4_readFact 186 = .ok (.iconst 0, 1) := by decide +kernel
theorem dX4_readFact_187 : decode cX4_readFact 187 = .ok (.sipush 999, 3) := by decide +kernel
theorem dX4_readFact_190 : decode cX4_readFact 190 = .ok (.invokevirtual 94, 3) := by decide +kernel
theorem dX4_readFact_193 : decode cX4_readFact 193 = .ok (.ifCond .eq 22, 3) := by decide +kernel
theorem dX4_readFact_196 : decode cX4_readFact 196 = .ok (.aload_n 0, 1) := by decide +kernel
theorem dX4_readFact_197 : decode cX4_readFact 197 = .ok (.getfield 25, 3) := by decide +kernel
theorem dX4_readFact_200 : decode cX4_readFact 200 = .ok (.iload_n 2, 1) := by decide +kernel
theorem dX4_readFact_201 : decode cX4_readFact 201 = .ok (.aload_n 0, 1) := by decide +kernel
theorem dX4_readFact_202 : decode cX4_readFact 202 = .ok (.getfield 91, 3) := by decide +kernel
theorem dX4_readFact_205 : decode cX4_readFact 205 = .ok (.invokevirtual 141, 3) := by decide +kernel
theorem dX4_readFact_208 : decode cX4_readFact 208 = .ok (.ifCond .eq 7, 3) := by decide +kernel
theorem dX4_readFact_211 : decode cX4_readFact 211 = .ok (.iconst 1, 1) := by decide +kernel
theorem dX4_readFact_212 : decode cX4_readFact 212 = .ok (.goto 4, 3) := by decide +kernel
theorem dX4_readFact_215 : decode cX4_readFact 215 = .ok (.iconst 0, 1) := by decide +kernel
theorem dX4_readFact_216 : decode cX4_readFact 216 = .ok (.ireturn, 1) := by decide +kernel
theorem dX4_readFact_217 : decode cX4_readFact 217 = .ok (.aload_n 0, 1) := by decide +kernel
theorem dX4_readFact_218 : decode cX4_readFact 218 = .ok (.iconst 0, 1) := by decide +kernel
theorem dX4_readFact_219 : decode cX4_readFact 219 = .ok (.ldc 120, 2) := by decide +kernel
theorem dX4_readFact_221 : decode cX4_readFact 221 = .ok (.invokevirtual 94, 3) := by decide +kernel
theorem dX4_readFact_224 : decode cX4_readFact 224 = .ok (.ifCond .eq 22, 3) := by decide +kernel
theorem dX4_readFact_227 : decode cX4_readFact 227 = .ok (.aload_n 0, 1) := by decide +kernel
theorem dX4_readFact_228 : decode cX4_readFact 228 = .ok (.getfield 25, 3) := by decide +kernel
theorem dX4_readFact_231 : decode cX4_readFact 231 = .ok (.iload_n 2, 1) := by decide +kernel
theorem dX4_readFact_232 : decode cX4_readFact 232 = .ok (.aload_n 0, 1) := by decide +kernel
theorem dX4_readFact_233 : decode cX4_readFact 233 = .ok (.getfield 91, 3) := by decide +kernel
theorem dX4_readFact_236 : decode cX4_readFact 236 = .ok (.invokevirtual 141, 3) := by decide +kernel
theorem dX4_readFact_239 : decode cX4_readFact 239 = .ok (.ifCond .eq 7, 3) := by decide +kernel
theorem dX4_readFact_242 : decode cX4_readFact 242 = .ok (.iconst 1, 1) := by decide +kernel
theorem dX4_readFact_243 : decode cX4_readFact 243 = .ok (.goto 4, 3) := by decide +kernel
theorem dX4_readFact_246 : decode cX4_readFact 246 = .ok (.iconst 0, 1) := by decide +kernel
theorem dX4_readFact_247 : decode cX4_readFact 247 = .ok (.ireturn, 1) := by decide +kernel
theorem dX4_readFact_248 : decode cX4_readFact 248 = .ok (.aload_n 0, 1) := by decide +kernel
theorem dX4_readFact_249 : decode cX4_readFact 249 = .ok (.invokevirtual 150, 3) := by decide +kernel
theorem dX4_readFact_252 : decode cX4_readFact 252 = .ok (.ireturn, 1) := by decide +kernel
theorem dX4_readFact_253 : decode cX4_readFact 253 = .ok (.aload_n 0, 1) := by decide +kernel
theorem dX4_readFact_254 : decode cX4_readFact 254 = .ok (.invokevirtual 153, 3) := by decide +kernel
theorem dX4_readFact_257 : decode cX4_readFact 257 = .ok (.ireturn, 1) := by decide +kernel
theorem dX4_readFact_258 : decode cX4_readFact 258 = .ok (.aload_n 0, 1) := by decide +kernel
theorem dX4_readFact_259 : decode cX4_readFact 259 = .ok (.getfield 25, 3) := by decide +kernel
theorem dX4_readFact_262 : decode cX4_readFact 262 = .ok (.iload_n 2, 1) := by decide +kernel
theorem dX4_readFact_263 : decode cX4_readFact 263 = .ok (.iconst 0, 1) := by decide +kernel
theorem dX4_readFact_264 : decode cX4_readFact 264 = .ok (.invokevirtual 141, 3) := by decide +kernel
theorem dX4_readFact_267 : decode cX4_readFact 267 = .ok (.ireturn, 1) := by decide +kernel
theorem dX6_spelling_0 : decode cX6_spelling 0 = .ok (.iload_n 0, 1) := by decide +kernel
theorem dX6_spelling_1 : decode cX6_spelling 1 = .ok (.tableswitch 50 0 4 #[35, 38, 41, 44, 47], 35) := by decide +kernel
theorem dX6_spelling_36 : decode cX6_spelling 36 = .ok (.ldc 7, 2) := by decide +kernel
theorem dX6_spelling_38 : decode cX6_spelling 38 = .ok (.areturn, 1) := by decide +kernel
theorem dX6_spelling_39 : decode cX6_spelling 39 = .ok (.ldc 9, 2) := by decide +kernel
theorem dX6_spelling_41 : decode cX6_spelling 41 = .ok (.areturn, 1) := by decide +kernel
theorem dX6_spelling_42 : decode cX6_spelling 42 = .ok (.ldc 11, 2) := by decide +kernel
theorem dX6_spelling_44 : decode cX6_spelling 44 = .ok (.areturn, 1) := by decide +kernel
theorem dX6_spelling_45 : decode cX6_spelling 45 = .ok (.ldc 13, 2) := by decide +kernel
theorem dX6_spelling_47 : decode cX6_spelling 47 = .ok (.areturn, 1) := by decide +kernel
theorem dX6_spelling_48 : decode cX6_spelling 48 = .ok (.ldc 15, 2) := by decide +kernel
theorem dX6_spelling_50 : decode cX6_spelling 50 = .ok (.areturn, 1) := by decide +kernel
theorem dX6_spelling_51 : decode cX6_spelling 51 = .ok (.ldc 17, 2) := by decide +kernel
theorem dX6_spelling_53 : decode cX6_spelling 53 = .ok (.areturn, 1) := by decide +kernel
theorem dX8_appendTo_0 : decode cX8_appendTo 0 = .ok (.lload_n 1, 1) := by decide +kernel
theorem dX8_appendTo_1 : decode cX8_appendTo 1 = .ok (.invokestatic 23, 3) := by decide +kernel
theorem dX8_appendTo_4 : decode cX8_appendTo 4 = .ok (.istore_n 3, 1) := by decide +kernel
theorem dX8_appendTo_5 : decode cX8_appendTo 5 = .ok (.iconst 0, 1) := by decide +kernel
theorem dX8_appendTo_6 : decode cX8_appendTo 6 = .ok (.istore 4, 2) := by decide +kernel
theorem dX8_appendTo_8 : decode cX8_appendTo 8 = .ok (.iload 4, 2) := by decide +kernel
theorem dX8_appendTo_10 : decode cX8_appendTo 10 = .ok (.iload_n 3, 1) := by decide +kernel
theorem dX8_appendTo_11 : decode cX8_appendTo 11 = .ok (.if_icmp .ge 20, 3) := by decide +kernel
theorem dX8_appendTo_14 : decode cX8_appendTo 14 = .ok (.aload_n 0, 1) := by decide +kernel
theorem dX8_appendTo_15 : decode cX8_appendTo 15 = .ok (.lload_n 1, 1) := by decide +kernel
theorem dX8_appendTo_16 : decode cX8_appendTo 16 = .ok (.iload 4, 2) := by decide +kernel
theorem dX8_appendTo_18 : decode cX8_appendTo 18 = .ok (.invokestatic 31, 3) := by decide +kernel
theorem dX8_appendTo_21 : decode cX8_appendTo 21 = .ok (.invokevirtual 35, 3) := by decide +kernel
theorem dX8_appendTo_24 : decode cX8_appendTo 24 = .ok (.pop, 1) := by decide +kernel
theorem dX8_appendTo_25 : decode cX8_appendTo 25 = .ok (.iinc 4 1, 3) := by decide +kernel
theorem dX8_appendTo_28 : decode cX8_appendTo 28 = .ok (.goto (-20), 3) := by decide +kernel
theorem dX8_appendTo_31 : decode cX8_appendTo 31 = .ok (.return_, 1) := by decide +kernel
theorem dX8_letterAt_0 : decode cX8_letterAt 0 = .ok (.iconst 5, 1) := by decide +kernel
theorem dX8_letterAt_1 : decode cX8_letterAt 1 = .ok (.lload_n 0, 1) := by decide +kernel
theorem dX8_letterAt_2 : decode cX8_letterAt 2 = .ok (.invokestatic 23, 3) := by decide +kernel
theorem dX8_letterAt_5 : decode cX8_letterAt 5 = .ok (.iconst 1, 1) := by decide +kernel
theorem dX8_letterAt_6 : decode cX8_letterAt 6 = .ok (.isub, 1) := by decide +kernel
theorem dX8_letterAt_7 : decode cX8_letterAt 7 = .ok (.iload_n 2, 1) := by decide +kernel
theorem dX8_letterAt_8 : decode cX8_letterAt 8 = .ok (.isub, 1) := by decide +kernel
theorem dX8_letterAt_9 : decode cX8_letterAt 9 = .ok (.imul, 1) := by decide +kernel
theorem dX8_letterAt_10 : decode cX8_letterAt 10 = .ok (.istore_n 3, 1) := by decide +kernel
theorem dX8_letterAt_11 : decode cX8_letterAt 11 = .ok (.ldc2_w 27, 3) := by decide +kernel
theorem dX8_letterAt_14 : decode cX8_letterAt 14 = .ok (.lload_n 0, 1) := by decide +kernel
theorem dX8_letterAt_15 : decode cX8_letterAt 15 = .ok (.iload_n 3, 1) := by decide +kernel
theorem dX8_letterAt_16 : decode cX8_letterAt 16 = .ok (.lushr, 1) := by decide +kernel
theorem dX8_letterAt_17 : decode cX8_letterAt 17 = .ok (.ldc2_w 29, 3) := by decide +kernel
theorem dX8_letterAt_20 : decode cX8_letterAt 20 = .ok (.land, 1) := by decide +kernel
theorem dX8_letterAt_21 : decode cX8_letterAt 21 = .ok (.ladd, 1) := by decide +kernel
theorem dX8_letterAt_22 : decode cX8_letterAt 22 = .ok (.l2i, 1) := by decide +kernel
theorem dX8_letterAt_23 : decode cX8_letterAt 23 = .ok (.i2c, 1) := by decide +kernel
theorem dX8_letterAt_24 : decode cX8_letterAt 24 = .ok (.ireturn, 1) := by decide +kernel
theorem dX9_proofCharacter_0 : decode cX9_proofCharacter 0 = .ok (.aload_n 0, 1) := by decide +kernel
theorem dX9_proofCharacter_1 : decode cX9_proofCharacter 1 = .ok (.iload_n 1, 1) := by decide +kernel
theorem dX9_proofCharacter_2 : decode cX9_proofCharacter 2 = .ok (.invokevirtual 180, 3) := by decide +kernel
theorem dX9_proofCharacter_5 : decode cX9_proofCharacter 5 = .ok (.aload_n 0, 1) := by decide +kernel
theorem dX9_proofCharacter_6 : decode cX9_proofCharacter 6 = .ok (.getfield 16, 3) := by decide +kernel
theorem dX9_proofCharacter_9 : decode cX9_proofCharacter 9 = .ok (.getfield 186, 3) := by decide +kernel
theorem dX9_proofCharacter_12 : decode cX9_proofCharacter 12 = .ok (.iload_n 1, 1) := by decide +kernel
theorem dX9_proofCharacter_13 : decode cX9_proofCharacter 13 = .ok (.laload, 1) := by decide +kernel
theorem dX9_proofCharacter_14 : decode cX9_proofCharacter 14 = .ok (.lstore_n 3, 1) := by decide +kernel
theorem dX9_proofCharacter_15 : decode cX9_proofCharacter 15 = .ok (.iload_n 2, 1) := by decide +kernel
theorem dX9_proofCharacter_16 : decode cX9_proofCharacter 16 = .ok (.lload_n 3, 1) := by decide +kernel
theorem dX9_proofCharacter_17 : decode cX9_proofCharacter 17 = .ok (.invokestatic 190, 3) := by decide +kernel
theorem dX9_proofCharacter_20 : decode cX9_proofCharacter 20 = .ok (.invokestatic 196, 3) := by decide +kernel
theorem dX9_proofCharacter_23 : decode cX9_proofCharacter 23 = .ok (.lload_n 3, 1) := by decide +kernel
theorem dX9_proofCharacter_24 : decode cX9_proofCharacter 24 = .ok (.iload_n 2, 1) := by decide +kernel
theorem dX9_proofCharacter_25 : decode cX9_proofCharacter 25 = .ok (.invokestatic 200, 3) := by decide +kernel
theorem dX9_proofCharacter_28 : decode cX9_proofCharacter 28 = .ok (.ireturn, 1) := by decide +kernel
theorem dX9_write_0 : decode cX9_write 0 = .ok (.aload_n 0, 1) := by decide +kernel
theorem dX9_write_1 : decode cX9_write 1 = .ok (.iload_n 1, 1) := by decide +kernel
theorem dX9_write_2 : decode cX9_write 2 = .ok (.invokevirtual 119, 3) := by decide +kernel
theorem dX9_write_5 : decode cX9_write 5 = .ok (.aload_n 0, 1) := by decide +kernel
theorem dX9_write_6 : decode cX9_write 6 = .ok (.getfield 35, 3) := by decide +kernel
theorem dX9_write_9 : decode cX9_write 9 = .ok (.getfield 122, 3) := by decide +kernel
theorem dX9_write_12 : decode cX9_write 12 = .ok (.iload_n 1, 1) := by decide +kernel
theorem dX9_write_13 : decode cX9_write 13 = .ok (.iaload, 1) := by decide +kernel
theorem dX9_write_14 : decode cX9_write 14 = .ok (.istore_n 2, 1) := by decide +kernel
theorem dX9_write_15 : decode cX9_write 15 = .ok (.aload_n 0, 1) := by decide +kernel
theorem dX9_write_16 : decode cX9_write 16 = .ok (.getfield 52, 3) := by decide +kernel
theorem dX9_write_19 : decode cX9_write 19 = .ok (.iconst 0, 1) := by decide +kernel
theorem dX9_write_20 : decode cX9_write 20 = .ok (.invokevirtual 312, 3) := by decide +kernel
theorem dX9_write_23 : decode cX9_write 23 = .ok (.aload_n 0, 1) := by decide +kernel
theorem dX9_write_24 : decode cX9_write 24 = .ok (.getfield 52, 3) := by decide +kernel
theorem dX9_write_27 : decode cX9_write 27 = .ok (.aload_n 0, 1) := by decide +kernel
theorem dX9_write_28 : decode cX9_write 28 = .ok (.getfield 16, 3) := by decide +kernel
theorem dX9_write_31 : decode cX9_write 31 = .ok (.getfield 315, 3) := by decide +kernel
theorem dX9_write_34 : decode cX9_write 34 = .ok (.iload_n 1, 1) := by decide +kernel
theorem dX9_write_35 : decode cX9_write 35 = .ok (.laload, 1) := by decide +kernel
theorem dX9_write_36 : decode cX9_write 36 = .ok (.invokestatic 318, 3) := by decide +kernel
theorem dX9_write_39 : decode cX9_write 39 = .ok (.aload_n 0, 1) := by decide +kernel
theorem dX9_write_40 : decode cX9_write 40 = .ok (.getfield 52, 3) := by decide +kernel
theorem dX9_write_43 : decode cX9_write 43 = .ok (.bipush 32, 2) := by decide +kernel
theorem dX9_write_45 : decode cX9_write 45 = .ok (.invokevirtual 322, 3) := by decide +kernel
theorem dX9_write_48 : decode cX9_write 48 = .ok (.pop, 1) := by decide +kernel
theorem dX9_write_49 : decode cX9_write 49 = .ok (.aload_n 0, 1) := by decide +kernel
theorem dX9_write_50 : decode cX9_write 50 = .ok (.getfield 52, 3) := by decide +kernel
theorem dX9_write_53 : decode cX9_write 53 = .ok (.iload_n 2, 1) := by decide +kernel
theorem dX9_write_54 : decode cX9_write 54 = .ok (.invokestatic 326, 3) := by decide +kernel
theorem dX9_write_57 : decode cX9_write 57 = .ok (.invokevirtual 330, 3) := by decide +kernel
theorem dX9_write_60 : decode cX9_write 60 = .ok (.pop, 1) := by decide +kernel
theorem dX9_write_61 : decode cX9_write 61 = .ok (.aload_n 0, 1) := by decide +kernel
theorem dX9_write_62 : decode cX9_write 62 = .ok (.getfield 52, 3) := by decide +kernel
theorem dX9_write_65 : decode cX9_write 65 = .ok (.bipush 32, 2) := by decide +kernel
theorem dX9_write_67 : decode cX9_write 67 = .ok (.invokevirtual 322, 3) := by decide +kernel
theorem dX9_write_70 : decode cX9_write 70 = .ok (.pop, 1) := by decide +kernel
theorem dX9_write_71 : decode cX9_write 71 = .ok (.aload_n 0, 1) := by decide +kernel
theorem dX9_write_72 : decode cX9_write 72 = .ok (.getfield 52, 3) := by decide +kernel
theorem dX9_write_75 : decode cX9_write 75 = .ok (.aload_n 0, 1) := by decide +kernel
theorem dX9_write_76 : decode cX9_write 76 = .ok (.getfield 35, 3) := by decide +kernel
theorem dX9_write_79 : decode cX9_write 79 = .ok (.getfield 126, 3) := by decide +kernel
theorem dX9_write_82 : decode cX9_write 82 = .ok (.iload_n 1, 1) := by decide +kernel
theorem dX9_write_83 : decode cX9_write 83 = .ok (.iaload, 1) := by decide +kernel
theorem dX9_write_84 : decode cX9_write 84 = .ok (.invokevirtual 333, 3) := by decide +kernel
theorem dX9_write_87 : decode cX9_write 87 = .ok (.pop, 1) := by decide +kernel
theorem dX9_write_88 : decode cX9_write 88 = .ok (.aload_n 0, 1) := by decide +kernel
theorem dX9_write_89 : decode cX9_write 89 = .ok (.getfield 52, 3) := by decide +kernel
theorem dX9_write_92 : decode cX9_write 92 = .ok (.bipush 47, 2) := by decide +kernel
theorem dX9_write_94 : decode cX9_write 94 = .ok (.invokevirtual 322, 3) := by decide +kernel
theorem dX9_write_97 : decode cX9_write 97 = .ok (.pop, 1) := by decide +kernel
theorem dX9_write_98 : decode cX9_write 98 = .ok (.aload_n 0, 1) := by decide +kernel
theorem dX9_write_99 : decode cX9_write 99 = .ok (.getfield 52, 3) := by decide +kernel
theorem dX9_write_102 : decode cX9_write 102 = .ok (.aload_n 0, 1) := by decide +kernel
theorem dX9_write_103 : decode cX9_write 103 = .ok (.getfield 16, 3) := by decide +kernel
theorem dX9_write_106 : decode cX9_write 106 = .ok (.getfield 165, 3) := by decide +kernel
theorem dX9_write_109 : decode cX9_write 109 = .ok (.iload_n 1, 1) := by decide +kernel
theorem dX9_write_110 : decode cX9_write 110 = .ok (.iaload, 1) := by decide +kernel
theorem dX9_write_111 : decode cX9_write 111 = .ok (.invokevirtual 333, 3) := by decide +kernel
theorem dX9_write_114 : decode cX9_write 114 = .ok (.pop, 1) := by decide +kernel
theorem dX9_write_115 : decode cX9_write 115 = .ok (.iload_n 2, 1) := by decide +kernel
theorem dX9_write_116 : decode cX9_write 116 = .ok (.iconst 1, 1) := by decide +kernel
theorem dX9_write_117 : decode cX9_write 117 = .ok (.if_icmp .ne 31, 3) := by decide +kernel
theorem dX9_write_120 : decode cX9_write 120 = .ok (.aload_n 0, 1) := by decide +kernel
theorem dX9_write_121 : decode cX9_write 121 = .ok (.getfield 52, 3) := by decide +kernel
theorem dX9_write_124 : decode cX9_write 124 = .ok (.ldc_w 336, 3) := by decide +kernel
theorem dX9_write_127 : decode cX9_write 127 = .ok (.invokevirtual 330, 3) := by decide +kernel
theorem dX9_write_130 : decode cX9_write 130 = .ok (.pop, 1) := by decide +kernel
theorem dX9_write_131 : decode cX9_write 131 = .ok (.aload_n 0, 1) := by decide +kernel
theorem dX9_write_132 : decode cX9_write 132 = .ok (.getfield 52, 3) := by decide +kernel
theorem dX9_write_135 : decode cX9_write 135 = .ok (.aload_n 0, 1) := by decide +kernel
theorem dX9_write_136 : decode cX9_write 136 = .ok (.getfield 35, 3) := by decide +kernel
theorem dX9_write_139 : decode cX9_write 139 = .ok (.getfield 136, 3) := by decide +kernel
theorem dX9_write_142 : decode cX9_write 142 = .ok (.iload_n 1, 1) := by decide +kernel
theorem dX9_write_143 : decode cX9_write 143 = .ok (.iaload, 1) := by decide +kernel
theorem dX9_write_144 : decode cX9_write 144 = .ok (.invokevirtual 333, 3) := by decide +kernel
theorem dX9_write_147 : decode cX9_write 147 = .ok (.pop, 1) := by decide +kernel
theorem dX9_write_148 : decode cX9_write 148 = .ok (.iload_n 2, 1) := by decide +kernel
theorem dX9_write_149 : decode cX9_write 149 = .ok (.iconst 2, 1) := by decide +kernel
theorem dX9_write_150 : decode cX9_write 150 = .ok (.if_icmp .ne 31, 3) := by decide +kernel
theorem dX9_write_153 : decode cX9_write 153 = .ok (.aload_n 0, 1) := by decide +kernel
theorem dX9_write_154 : decode cX9_write 154 = .ok (.getfield 52, 3) := by decide +kernel
theorem dX9_write_157 : decode cX9_write 157 = .ok (.ldc_w 338, 3) := by decide +kernel
theorem dX9_write_160 : decode cX9_write 160 = .ok (.invokevirtual 330, 3) := by decide +kernel
theorem dX9_write_163 : decode cX9_write 163 = .ok (.pop, 1) := by decide +kernel
theorem dX9_write_164 : decode cX9_write 164 = .ok (.aload_n 0, 1) := by decide +kernel
theorem dX9_write_165 : decode cX9_write 165 = .ok (.getfield 52, 3) := by decide +kernel
theorem dX9_write_168 : decode cX9_write 168 = .ok (.aload_n 0, 1) := by decide +kernel
theorem dX9_write_169 : decode cX9_write 169 = .ok (.getfield 35, 3) := by decide +kernel
theorem dX9_write_172 : decode cX9_write 172 = .ok (.getfield 133, 3) := by decide +kernel
theorem dX9_write_175 : decode cX9_write 175 = .ok (.iload_n 1, 1) := by decide +kernel
theorem dX9_write_176 : decode cX9_write 176 = .ok (.iaload, 1) := by decide +kernel
theorem dX9_write_177 : decode cX9_write 177 = .ok (.invokevirtual 333, 3) := by decide +kernel
theorem dX9_write_180 : decode cX9_write 180 = .ok (.pop, 1) := by decide +kernel
theorem dX9_write_181 : decode cX9_write 181 = .ok (.aload_n 0, 1) := by decide +kernel
theorem dX9_write_182 : decode cX9_write 182 = .ok (.getfield 52, 3) := by decide +kernel
theorem dX9_write_185 : decode cX9_write 185 = .ok (.invokevirtual 340, 3) := by decide +kernel
theorem dX9_write_188 : decode cX9_write 188 = .ok (.ireturn, 1) := by decide +kernel
theorem dX9_written_0 : decode cX9_written 0 = .ok (.iload_n 1, 1) := by decide +kernel
theorem dX9_written_1 : decode cX9_written 1 = .ok (.aload_n 0, 1) := by decide +kernel
theorem dX9_written_2 : decode cX9_written 2 = .ok (.getfield 52, 3) := by decide +kernel
theorem dX9_written_5 : decode cX9_written 5 = .ok (.invokevirtual 340, 3) := by decide +kernel
theorem dX9_written_8 : decode cX9_written 8 = .ok (.invokestatic 196, 3) := by decide +kernel
theorem dX9_written_11 : decode cX9_written 11 = .ok (.aload_n 0, 1) := by decide +kernel
theorem dX9_written_12 : decode cX9_written 12 = .ok (.getfield 52, 3) := by decide +kernel
theorem dX9_written_15 : decode cX9_written 15 = .ok (.iload_n 1, 1) := by decide +kernel
theorem dX9_written_16 : decode cX9_written 16 = .ok (.invokevirtual 343, 3) := by decide +kernel
theorem dX9_written_19 : decode cX9_written 19 = .ok (.ireturn, 1) := by decide +kernel
