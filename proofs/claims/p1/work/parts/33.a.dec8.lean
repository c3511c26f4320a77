theorem sb_lt {k : Nat} {bs : List Int32} (hq : (k, bs) ∈ sbL) : bs.length < 2 ^ 31 := (show ∀ q ∈ sbL, q.2.length < 2 ^ 31 by decide +kernel) _ hq
theorem sb_mem {bs : List Int32} {i : Nat} (hi : i < bs.length) : bs.getD i 0 ∈ bs := by
  rw [List.getD_eq_getElem?_getD, List.getElem?_eq_getElem hi]
  exact List.getElem_mem hi
theorem sb_c2 {k : Nat} {bs : List Int32} {i : Nat} (hq : (k, bs) ∈ sbL) (hi : i < bs.length) : ((bs.getD i 0 &&& 255).toUInt32 % 65536).toInt32 = bs.getD i 0 := (show ∀ q ∈ sbL, ∀ b ∈ q.2, ((b &&& 255).toUInt32 % 65536).toInt32 = b by decide +kernel) _ hq _ (sb_mem hi)
theorem sb_nar {k : Nat} {bs : List Int32} {i : Nat} (hq : (k, bs) ∈ sbL) (hi : i < bs.length) : narrow .char (.int (bs.getD i 0)) = .int (bs.getD i 0) := (show ∀ q ∈ sbL, ∀ b ∈ q.2, narrow .char (.int b) = .int b by decide +kernel) _ hq _ (sb_mem hi)
theorem SO.recv {sa : Nat → Nat} {q : Nat × List Int32} {A : Nat → Prop} {s : State} {H : Heap} {locs : List Loc} (h : SO sa q A s s.heap) (hS : va_S A s.heap H locs) : ∃ cell : Cell, H[sa q.1]? = some cell ∧ cell.vm.isStatics = false ∧ s.vm.findClass "java/lang/String" = some cell.cls := by
  obtain ⟨cell, h1, h2, h3, -⟩ := h.1.kept hS.2.1
  exact ⟨cell, h1, h2, h3⟩
def At0 (x : Int32) (f : Nat → Int32) : Prop := f 0 = x
theorem At0.us {x : Int32} {f : Nat → Int32} : At0 x (upd f 0 x) := pk_us
set_option maxRecDepth 20000 in
theorem ggX4_readText_X5_split : GoodIn wsX4_readText wsX5_split := goodIn_r _ [10, 11, 12, 13, 9, 14, 15, 16, 17, 18, 19, 20, 21, 22, 23, 24, 25, 26, 27, 28, 29, 30, 31, 32, 33, 34, 35, 36, 37, 38, 39, 40, 41, 42, 43, 44, 45, 46, 47, 48, 49, 50, 51, 52, 53, 54, 55, 56, 57, 58, 59, 60, 61, 62, 63, 64, 65, 66, 67, 68, 69, 70, 71, 72, 73, 74, 75, 76, 77, 78, 79, 80, 81, 82, 83, 84, 85, 86, 87, 88, 89, 90, 91, 92, 93, 94, 226, 227, 228, 229, 230, 231, 232, 233] (by decide +kernel) (by decide +kernel)
set_option maxRecDepth 20000 in
theorem gX4_readText_X5_split : GoodIn wsX4_readText (wsV RX4 29 RX5 yX5_split wsX5_split) := goodIn_app (goodIn_of _ (by decide +kernel)) ggX4_readText_X5_split
set_option maxRecDepth 20000 in
theorem ggX4_readText_X3_clear : GoodIn wsX4_readText wsX3_clear := goodIn_r _ [99, 100, 101, 102, 103, 104, 105, 106, 107, 234, 235, 236, 237, 238, 239, 240, 241, 242, 243, 244, 245, 246, 247, 248, 249, 250] (by decide +kernel) (by decide +kernel)
set_option maxRecDepth 20000 in
theorem gX4_readText_X3_clear : GoodIn wsX4_readText (wsV RX4 33 RX3 yX3_clear wsX3_clear) := goodIn_app (goodIn_of _ (by decide +kernel)) ggX4_readText_X3_clear
set_option maxRecDepth 20000 in
theorem ggX4_readText_X4_lookAt : GoodIn wsX4_readText wsX4_lookAt := goodIn_r _ [112, 1, 113, 5, 114, 115, 217, 218, 219, 220, 221, 222, 223, 224, 225, 226, 227, 228, 229] (by decide +kernel) (by decide +kernel)
set_option maxRecDepth 20000 in
theorem gX4_readText_X4_lookAt : GoodIn wsX4_readText (wsV RX4 38 RX4 yX4_lookAt wsX4_lookAt) := goodIn_app (goodIn_of _ (by decide +kernel)) ggX4_readText_X4_lookAt
set_option maxRecDepth 20000 in
theorem ggX5_split_X5_add : GoodIn wsX5_split wsX5_add := goodIn_r _ [23, 1, 11, 24, 10, 86, 87, 88, 89] (by decide +kernel) (by decide +kernel)
set_option maxRecDepth 20000 in
theorem gX5_split_X5_add : GoodIn wsX5_split (wsV RX5 40 RX5 yX5_add wsX5_add) := goodIn_app (goodIn_of _ (by decide +kernel)) ggX5_split_X5_add
set_option maxRecDepth 20000 in
theorem ggX5_split_X5_markKeywords : GoodIn wsX5_split wsX5_markKeywords := goodIn_r _ [28, 1, 11, 10, 29, 30, 31, 32, 33, 34, 18, 35, 36, 37, 38, 39, 40, 41, 42, 43, 44, 45, 46, 47, 48, 49, 50, 51, 52, 53, 54, 55, 56, 57, 58, 59, 60, 61, 62, 63, 64, 65, 66, 67, 68, 69, 70, 71, 72, 73, 74, 75, 76, 77, 78, 79, 80, 81, 82, 83, 84, 85, 17, 19, 86, 87, 88, 89, 90, 91, 92, 93] (by decide +kernel) (by decide +kernel)
set_option maxRecDepth 20000 in
theorem gX5_split_X5_markKeywords : GoodIn wsX5_split (wsV RX5 44 RX5 yX5_markKeywords wsX5_markKeywords) := goodIn_app (goodIn_of _ (by decide +kernel)) ggX5_split_X5_markKeywords
set_option maxRecDepth 20000 in
theorem ggX5_markKeywords_X7_spelling : GoodIn wsX5_markKeywords wsX7_spelling := goodIn_r _ [7] (by decide +kernel) (by decide +kernel)
set_option maxRecDepth 20000 in
theorem gX5_markKeywords_X7_spelling : GoodIn wsX5_markKeywords (va_wsS RX5 55 yX7_spelling wsX7_spelling) := goodIn_app (goodIn_of _ (by decide +kernel)) ggX5_markKeywords_X7_spelling
set_option maxRecDepth 20000 in
theorem ggX5_markKeywords_X8_packed : GoodIn wsX5_markKeywords wsX8_packed := goodIn_r _ [11, 12, 13, 14, 15, 16, 17, 18, 19, 20, 21, 22, 23, 24, 25, 26, 27, 28, 29, 30, 31, 32, 33, 34, 35, 36, 37, 38, 39, 40, 41, 42, 43, 44, 45, 46, 47, 48, 49, 50, 51, 52, 53, 54, 55, 56, 57, 58, 59, 60, 61, 62, 10, 63, 68, 69, 70, 71] (by decide +kernel) (by decide +kernel)
set_option maxRecDepth 20000 in
theorem gX5_markKeywords_X8_packed : GoodIn wsX5_markKeywords (va_wsS RX5 59 yX8_packed wsX8_packed) := goodIn_app (goodIn_of _ (by decide +kernel)) ggX5_markKeywords_X8_packed
set_option maxRecDepth 20000 in
theorem ggX8_packed_J0_length_8abf5 : GoodIn wsX8_packed wsJ0_length_8abf5 := goodIn_r _ [5, 6, 7, 8, 9, 4, 10, 11, 12, 54, 55, 56, 57] (by decide +kernel) (by decide +kernel)
set_option maxRecDepth 20000 in
theorem gX8_packed_J0_length_8abf5 : GoodIn wsX8_packed (wsV RX8 9 RJ0 yJ0_length_8abf5 wsJ0_length_8abf5) := goodIn_app (goodIn_of _ (by decide +kernel)) ggX8_packed_J0_length_8abf5
set_option maxRecDepth 20000 in
theorem ggX8_packed_J0_charAt_5068e : GoodIn wsX8_packed wsJ0_charAt_5068e := goodIn_r _ [16, 6, 17, 18, 19, 4, 20, 11, 12, 21, 22, 23, 24, 25, 26, 27, 28, 29, 30, 31, 32, 33, 34, 35, 36, 37, 38, 39, 40, 41, 42, 43, 44, 45, 46, 47, 48, 49, 54, 55, 56, 57] (by decide +kernel) (by decide +kernel)
set_option maxRecDepth 20000 in
theorem gX8_packed_J0_charAt_5068e : GoodIn wsX8_packed (wsV RX8 15 RJ0 yJ0_charAt_5068e wsJ0_charAt_5068e) := goodIn_app (goodIn_of _ (by decide +kernel)) ggX8_packed_J0_charAt_5068e
set_option maxRecDepth 20000 in
theorem ggX8_packed_X8_withLetter : GoodIn wsX8_packed wsX8_withLetter := goodIn_r _ [53] (by decide +kernel) (by decide +kernel)
set_option maxRecDepth 20000 in
theorem gX8_packed_X8_withLetter : GoodIn wsX8_packed (va_wsS RX8 19 yX8_withLetter wsX8_withLetter) := goodIn_app (goodIn_of _ (by decide +kernel)) ggX8_packed_X8_withLetter
set_option maxRecDepth 20000 in
theorem ggX9_load_X9_needRange : GoodIn wsX9_load wsX9_needRange := goodIn_ca (goodIn_r _ [11, 12, 13] (by decide +kernel) (by decide +kernel)) (goodIn_sub (fun _ h => List.mem_cons_of_mem _ (List.mem_append_right _ h)) (by decide +kernel))
set_option maxRecDepth 20000 in
theorem gX9_load_X9_needRange : GoodIn wsX9_load (va_wsS RX9 67 yX9_needRange wsX9_needRange) := goodIn_app (goodIn_of _ (by decide +kernel)) ggX9_load_X9_needRange
set_option maxRecDepth 20000 in
theorem ggX9_load_X4_readText : GoodIn wsX9_load wsX4_readText := goodIn_r _ [18, 19, 20, 21, 22, 23, 24, 25, 26, 27, 28, 29, 30, 31, 32, 33, 34, 35, 36, 37, 38, 39, 40, 41, 42, 43, 44, 45, 46, 47, 48, 49, 50, 51, 52, 53, 54, 55, 56, 57, 58, 59, 60, 61, 62, 63, 64, 65, 66, 67, 68, 69, 70, 71, 72, 73, 74, 75, 76, 77, 78, 79, 80, 81, 82, 83, 84, 85, 86, 87, 88, 89, 90, 91, 92, 93, 94, 95, 96, 97, 98, 99, 100, 101, 102, 103, 104, 105, 106, 107, 108, 109, 110, 111, 112, 113, 114, 115, 116, 117, 118, 119, 120, 121, 122, 123, 124, 125, 126, 127, 128, 17, 129, 130, 131, 132, 133, 134, 135, 136, 137, 138, 139, 140, 141, 142, 143, 144, 145, 146, 10, 147, 148, 149, 150, 151, 152, 153, 154, 155, 156, 157, 158, 159, 160, 161, 162, 163, 164, 165, 166, 167, 168, 169, 170, 171, 172, 173, 174, 175, 176, 177, 178, 179, 180, 181, 182, 183, 184, 185, 186, 187, 188, 189, 190, 191, 192, 193, 194, 195, 196, 197, 198, 199, 200, 201, 202, 203, 204, 205, 206, 207, 208, 209, 210, 211, 212, 213, 214, 215, 216, 217, 218, 219, 220, 221, 222, 223, 224, 225, 226, 227, 228, 229, 230, 231, 232, 310, 311, 312, 313, 314, 315, 316, 317, 318, 319, 320, 321, 322, 323, 324, 325, 326, 293, 294, 295, 296, 297, 298, 299, 300, 301, 302, 303, 304, 305, 306, 307, 308, 309] (by decide +kernel) (by decide +kernel)
set_option maxRecDepth 20000 in
theorem gX9_load_X4_readText : GoodIn wsX9_load (wsV RX9 71 RX4 yX4_readText wsX4_readText) := goodIn_app (goodIn_of _ (by decide +kernel)) ggX9_load_X4_readText
set_option maxRecDepth 20000 in
theorem ggX9_load_X0_openWith : GoodIn wsX9_load wsX0_openWith := goodIn_r _ [237, 238, 239, 240, 241, 242, 243, 244, 245, 246, 247, 248, 249, 250, 251, 252, 253, 254, 255, 256, 257, 258, 259, 260, 261, 262, 263, 264, 265, 266, 267, 236, 268, 269, 270, 271, 272, 273, 274, 275, 276, 277, 327, 328, 329, 330, 331, 332, 333, 334, 335, 336, 337, 338, 339, 340, 341, 342, 343, 344, 345, 346, 293, 294, 295, 296, 297, 298, 299, 300, 301, 302, 303, 304, 305, 306, 307, 308, 309, 347, 348, 349] (by decide +kernel) (by decide +kernel)
set_option maxRecDepth 20000 in
theorem gX9_load_X0_openWith : GoodIn wsX9_load (wsV RX9 56 RX0 yX0_openWith wsX0_openWith) := goodIn_app (goodIn_of _ (by decide +kernel)) ggX9_load_X0_openWith
set_option maxRecDepth 20000 in
theorem ggX9_load_X1_forgetAll : GoodIn wsX9_load wsX1_forgetAll := goodIn_r _ [282, 283, 350, 351, 352] (by decide +kernel) (by decide +kernel)
set_option maxRecDepth 20000 in
theorem gX9_load_X1_forgetAll : GoodIn wsX9_load (wsV RX9 75 RX1 yX1_forgetAll wsX1_forgetAll) := goodIn_app (goodIn_of _ (by decide +kernel)) ggX9_load_X1_forgetAll
set_option maxRecDepth 20000 in
theorem ggX9_written_J4_length_8abf5 : GoodIn wsX9_written wsJ4_length_8abf5 := goodIn_r _ [6, 7, 8, 9, 10, 11, 12, 13, 62, 63, 64, 65] (by decide +kernel) (by decide +kernel)
set_option maxRecDepth 20000 in
theorem gX9_written_J4_length_8abf5 : GoodIn wsX9_written (wsV RX9 340 RJ4 yJ4_length_8abf5 wsJ4_length_8abf5) := goodIn_app (goodIn_of _ (by decide +kernel)) ggX9_written_J4_length_8abf5
set_option maxRecDepth 20000 in
theorem ggX9_written_X9_needIndex : GoodIn wsX9_written wsX9_needIndex := goodIn_ca (goodIn_r _ [17, 18, 19] (by decide +kernel) (by decide +kernel)) (goodIn_sub (fun _ h => List.mem_cons_of_mem _ (List.mem_append_right _ h)) (by decide +kernel))
set_option maxRecDepth 20000 in
theorem gX9_written_X9_needIndex : GoodIn wsX9_written (va_wsS RX9 196 yX9_needIndex wsX9_needIndex) := goodIn_app (goodIn_of _ (by decide +kernel)) ggX9_written_X9_needIndex
set_option maxRecDepth 20000 in
theorem ggJ0_length_8abf5_J0_coder_7d493 : GoodIn wsJ0_length_8abf5 wsJ0_coder_7d493 := goodIn_r _ [6, 7, 8, 9, 10, 11, 12] (by decide +kernel) (by decide +kernel)
set_option maxRecDepth 20000 in
theorem gJ0_length_8abf5_J0_coder_7d493 : GoodIn wsJ0_length_8abf5 (wsV RJ0 335 RJ0 yJ0_coder_7d493 wsJ0_coder_7d493) := goodIn_app (goodIn_of _ (by decide +kernel)) ggJ0_length_8abf5_J0_coder_7d493
set_option maxRecDepth 20000 in
theorem ggJ0_charAt_5068e_J0_isLatin1_aae02 : GoodIn wsJ0_charAt_5068e wsJ0_isLatin1_aae02 := goodIn_r _ [6, 7, 8, 38, 39, 40, 41] (by decide +kernel) (by decide +kernel)
set_option maxRecDepth 20000 in
theorem gJ0_charAt_5068e_J0_isLatin1_aae02 : GoodIn wsJ0_charAt_5068e (wsV RJ0 492 RJ0 yJ0_isLatin1_aae02 wsJ0_isLatin1_aae02) := goodIn_app (goodIn_of _ (by decide +kernel)) ggJ0_charAt_5068e_J0_isLatin1_aae02
set_option maxRecDepth 20000 in
theorem ggJ0_charAt_5068e_J1_charAt_3b067 : GoodIn wsJ0_charAt_5068e wsJ1_charAt_3b067 := goodIn_r _ [12, 13, 14, 5, 15, 16, 17, 18, 19, 20] (by decide +kernel) (by decide +kernel)
set_option maxRecDepth 20000 in
theorem gJ0_charAt_5068e_J1_charAt_3b067 : GoodIn wsJ0_charAt_5068e (va_wsS RJ0 495 yJ1_charAt_3b067 wsJ1_charAt_3b067) := goodIn_app (goodIn_of _ (by decide +kernel)) ggJ0_charAt_5068e_J1_charAt_3b067
set_option maxRecDepth 20000 in
theorem ggJ0_checkIndex_df160_J3_checkIndex_8e157 : GoodIn wsJ0_checkIndex_df160 wsJ3_checkIndex_8e157 := goodIn_r _ [5] (by decide +kernel) (by decide +kernel)
set_option maxRecDepth 20000 in
theorem gJ0_checkIndex_df160_J3_checkIndex_8e157 : GoodIn wsJ0_checkIndex_df160 (va_wsS RJ0 1059 yJ3_checkIndex_8e157 wsJ3_checkIndex_8e157) := goodIn_app (goodIn_of _ (by decide +kernel)) ggJ0_checkIndex_df160_J3_checkIndex_8e157
set_option maxRecDepth 20000 in
theorem ggJ4_length_8abf5_J5_length_8abf5 : GoodIn wsJ4_length_8abf5 wsJ5_length_8abf5 := goodIn_r _ [6, 7, 8, 9, 10, 11] (by decide +kernel) (by decide +kernel)
set_option maxRecDepth 20000 in
theorem gJ4_length_8abf5_J5_length_8abf5_s343 : GoodIn wsJ4_length_8abf5 (va_wsSU RJ4 343 yJ5_length_8abf5 wsJ5_length_8abf5) := goodIn_app (goodIn_of _ (by decide +kernel)) ggJ4_length_8abf5_J5_length_8abf5
set_option maxRecDepth 20000 in
theorem ggJ1_charAt_3b067_J0_checkIndex_df160 : GoodIn wsJ1_charAt_3b067 wsJ0_checkIndex_df160 := goodIn_r _ [4, 5, 6, 7, 8, 9] (by decide +kernel) (by decide +kernel)
set_option maxRecDepth 20000 in
theorem gJ1_charAt_3b067_J0_checkIndex_df160 : GoodIn wsJ1_charAt_3b067 (va_wsS RJ1 9 yJ0_checkIndex_df160 wsJ0_checkIndex_df160) := goodIn_app (goodIn_of _ (by decide +kernel)) ggJ1_charAt_3b067_J0_checkIndex_df160
theorem dJ0_charAt_5068e_0 : decode cJ0_charAt_5068e 0 = .ok (.aload_n 0, 1) := by decide +kernel
theorem dJ0_charAt_5068e_1 : decode cJ0_charAt_5068e 1 = .ok (.invokevirtual 492, 3) := by decide +kernel
theorem dJ0_charAt_5068e_4 : decode cJ0_charAt_5068e 4 = .ok (.ifCond .eq 12, 3) := by decide +kernel
theorem dJ0_charAt_5068e_7 : decode cJ0_charAt_5068e 7 = .ok (.aload_n 0, 1) := by decide +kernel
theorem dJ0_charAt_5068e_8 : decode cJ0_charAt_5068e 8 = .ok (.getfield 9, 3) := by decide +kernel
theorem dJ0_charAt_5068e_11 : decode cJ0_charAt_5068e 11 = .ok (.iload_n 1, 1) := by decide +kernel
theorem dJ0_charAt_5068e_12 : decode cJ0_charAt_5068e 12 = .ok (.invokestatic 495, 3) := by decide +kernel
theorem dJ0_charAt_5068e_15 : decode cJ0_charAt_5068e 15 = .ok (.ireturn, 1) := by decide +kernel
theorem dJ0_charAt_5068e_16 : decode cJ0_charAt_5068e 16 = .ok (.aload_n 0, 1) := by decide +kernel
theorem dJ0_charAt_5068e_17 : decode cJ0_charAt_5068e 17 = .ok (.getfield 9, 3) := by decide +kernel
theorem dJ0_charAt_5068e_20 : decode cJ0_charAt_5068e 20 = .ok (.iload_n 1, 1) := by decide +kernel
theorem dJ0_charAt_5068e_21 : decode cJ0_charAt_5068e 21 = .ok (.invokestatic 498, 3) := by decide +kernel
theorem dJ0_charAt_5068e_24 : decode cJ0_charAt_5068e 24 = .ok (.ireturn, 1) := by decide +kernel
theorem dJ0_checkIndex_df160_0 : decode cJ0_checkIndex_df160 0 = .ok (.iload_n 0, 1) := by decide +kernel
theorem dJ0_checkIndex_df160_1 : decode cJ0_checkIndex_df160 1 = .ok (.iload_n 1, 1) := by decide +kernel
theorem dJ0_checkIndex_df160_2 : decode cJ0_checkIndex_df160 2 = .ok (.getstatic 1053, 3) := by decide +kernel
theorem dJ0_checkIndex_df160_5 : decode cJ0_checkIndex_df160 5 = .ok (.invokestatic 1059, 3) := by decide +kernel
theorem dJ0_checkIndex_df160_8 : decode cJ0_checkIndex_df160 8 = .ok (.pop, 1) := by decide +kernel
theorem dJ0_checkIndex_df160_9 : decode cJ0_checkIndex_df160 9 = .ok (.return_, 1) := by decide +kernel
theorem dJ0_coder_7d493_0 : decode cJ0_coder_7d493 0 = .ok (.getstatic 38, 3) := by decide +kernel
theorem dJ0_coder_7d493_3 : decode cJ0_coder_7d493 3 = .ok (.ifCond .eq 10, 3) := by decide +kernel
theorem dJ0_coder_7d493_6 : decode cJ0_coder_7d493 6 = .ok (.aload_n 0, 1) := by decide +kernel
theorem dJ0_coder_7d493_7 : decode cJ0_coder_7d493 7 = .ok (.getfield 15, 3) := by decide +kernel
theorem dJ0_coder_7d493_10 : decode cJ0_coder_7d493 10 = .ok (.goto 4, 3) := by decide +kernel
theorem dJ0_coder_7d493_13 : decode cJ0_coder_7d493 13 = .ok (.iconst 1, 1) := by decide +kernel
theorem dJ0_coder_7d493_14 : decode cJ0_coder_7d493 14 = .ok (.ireturn, 1) := by decide +kernel
theorem dJ0_isLatin1_aae02_0 : decode cJ0_isLatin1_aae02 0 = .ok (.getstatic 38, 3) := by decide +kernel
theorem dJ0_isLatin1_aae02_3 : decode cJ0_isLatin1_aae02 3 = .ok (.ifCond .eq 14, 3) := by decide +kernel
theorem dJ0_isLatin1_aae02_6 : decode cJ0_isLatin1_aae02 6 = .ok (.aload_n 0, 1) := by decide +kernel
theorem dJ0_isLatin1_aae02_7 : decode cJ0_isLatin1_aae02 7 = .ok (.getfield 15, 3) := by decide +kernel
theorem dJ0_isLatin1_aae02_10 : decode cJ0_isLatin1_aae02 10 = .ok (.ifCond .ne 7, 3) := by decide +kernel
theorem dJ0_isLatin1_aae02_13 : decode cJ0_isLatin1_aae02 13 = .ok (.iconst 1, 1) := by decide +kernel
theorem dJ0_isLatin1_aae02_14 : decode cJ0_isLatin1_aae02 14 = .ok (.goto 4, 3) := by decide +kernel
theorem dJ0_isLatin1_aae02_17 : decode cJ0_isLatin1_aae02 17 = .ok (.iconst 0, 1) := by decide +kernel
theorem dJ0_isLatin1_aae02_18 : decode cJ0_isLatin1_aae02 18 = .ok (.ireturn, 1) := by decide +kernel
theorem dJ0_length_8abf5_0 : decode cJ0_length_8abf5 0 = .ok (.aload_n 0, 1) := by decide +kernel
theorem dJ0_length_8abf5_1 : decode cJ0_length_8abf5 1 = .ok (.getfield 9, 3) := by decide +kernel
theorem dJ0_length_8abf5_4 : decode cJ0_length_8abf5 4 = .ok (.arraylength, 1) := by decide +kernel
theorem dJ0_length_8abf5_5 : decode cJ0_length_8abf5 5 = .ok (.aload_n 0, 1) := by decide +kernel
theorem dJ0_length_8abf5_6 : decode cJ0_length_8abf5 6 = .ok (.invokevirtual 335, 3) := by decide +kernel
theorem dJ0_length_8abf5_9 : decode cJ0_length_8abf5 9 = .ok (.ishr, 1) := by decide +kernel
theorem dJ0_length_8abf5_10 : decode cJ0_length_8abf5 10 = .ok (.ireturn, 1) := by decide +kernel
theorem dJ1_charAt_3b067_0 : decode cJ1_charAt_3b067 0 = .ok (.iload_n 1, 1) := by decide +kernel
theorem dJ1_charAt_3b067_1 : decode cJ1_charAt_3b067 1 = .ok (.aload_n 0, 1) := by decide +kernel
theorem dJ1_charAt_3b067_2 : decode cJ1_charAt_3b067 2 = .ok (.arraylength, 1) := by decide +kernel
theorem dJ1_charAt_3b067_3 : decode cJ1_charAt_3b067 3 = .ok (.invokestatic 9, 3) := by decide +kernel
theorem dJ1_charAt_3b067_6 : decode cJ1_charAt_3b067 6 = .ok (.aload_n 0, 1) := by decide +kernel
theorem dJ1_charAt_3b067_7 : decode cJ1_charAt_3b067 7 = .ok (.iload_n 1, 1) := by decide +kernel
theorem dJ1_charAt_3b067_8 : decode cJ1_charAt_3b067 8 = .ok (.baload, 1) := by decide +kernel
theorem dJ1_charAt_3b067_9 : decode cJ1_charAt_3b067 9 = .ok (.sipush 255, 3) := by decide +kernel
theorem dJ1_charAt_3b067_12 : decode cJ1_charAt_3b067 12 = .ok (.iand, 1) := by decide +kernel
theorem dJ1_charAt_3b067_13 : decode cJ1_charAt_3b067 13 = .ok (.i2c, 1) := by decide +kernel
theorem dJ1_charAt_3b067_14 : decode cJ1_charAt_3b067 14 = .ok (.ireturn, 1) := by decide +kernel
theorem dJ3_checkIndex_8e157_0 : decode cJ3_checkIndex_8e157 0 = .ok (.iload_n 0, 1) := by decide +kernel
theorem dJ3_checkIndex_8e157_1 : decode cJ3_checkIndex_8e157 1 = .ok (.ifCond .lt 8, 3) := by decide +kernel
theorem dJ3_checkIndex_8e157_4 : decode cJ3_checkIndex_8e157 4 = .ok (.iload_n 0, 1) := by decide +kernel
theorem dJ3_checkIndex_8e157_5 : decode cJ3_checkIndex_8e157 5 = .ok (.iload_n 1, 1) := by decide +kernel
theorem dJ3_checkIndex_8e157_6 : decode cJ3_checkIndex_8e157 6 = .ok (.if_icmp .lt 10, 3) := by decide +kernel
theorem dJ3_checkIndex_8e157_9 : decode cJ3_checkIndex_8e157 9 = .ok (.aload_n 2, 1) := by decide +kernel
theorem dJ3_checkIndex_8e157_10 : decode cJ3_checkIndex_8e157 10 = .ok (.iload_n 0, 1) := by decide +kernel
theorem dJ3_checkIndex_8e157_11 : decode cJ3_checkIndex_8e157 11 = .ok (.iload_n 1, 1) := by decide +kernel
theorem dJ3_checkIndex_8e157_12 : decode cJ3_checkIndex_8e157 12 = .ok (.invokestatic 95, 3) := by decide +kernel
theorem dJ3_checkIndex_8e157_15 : decode cJ3_checkIndex_8e157 15 = .ok (.athrow, 1) := by decide +kernel
theorem dJ3_checkIndex_8e157_16 : decode cJ3_checkIndex_8e157 16 = .ok (.iload_n 0, 1) := by decide +kernel
theorem dJ3_checkIndex_8e157_17 : decode cJ3_checkIndex_8e157 17 = .ok (.ireturn, 1) := by decide +kernel
theorem dJ4_length_8abf5_0 : decode cJ4_length_8abf5 0 = .ok (.aload_n 0, 1) := by decide +kernel
theorem dJ4_length_8abf5_1 : decode cJ4_length_8abf5 1 = .ok (.invokespecial 343, 3) := by decide +kernel
theorem dJ4_length_8abf5_4 : decode cJ4_length_8abf5 4 = .ok (.ireturn, 1) := by decide +kernel
theorem dJ5_length_8abf5_0 : decode cJ5_length_8abf5 0 = .ok (.aload_n 0, 1) := by decide +kernel
theorem dJ5_length_8abf5_1 : decode cJ5_length_8abf5 1 = .ok (.getfield 79, 3) := by decide +kernel
theorem dJ5_length_8abf5_4 : decode cJ5_length_8abf5 4 = .ok (.ireturn, 1) := by decide +kernel
theorem dX1_forgetAll_0 : decode cX1_forgetAll 0 = .ok (.aload_n 0, 1) := by decide +kernel
theorem dX1_forgetAll_1 : decode cX1_forgetAll 1 = .ok (.iconst 0, 1) := by decide +kernel
theorem dX1_forgetAll_2 : decode cX1_forgetAll 2 = .ok (.putfield 28, 3) := by decide +kernel
theorem dX1_forgetAll_5 : decode cX1_forgetAll 5 = .ok (.return_, 1) := by decide +kernel
theorem dX3_clear_0 : decode cX3_clear 0 = .ok (.aload_n 0, 1) := by decide +kernel
theorem dX3_clear_1 : decode cX3_clear 1 = .ok (.iconst 0, 1) := by decide +kernel
theorem dX3_clear_2 : decode cX3_clear 2 = .ok (.putfield 44, 3) := by decide +kernel
theorem dX3_clear_5 : decode cX3_clear 5 = .ok (.aload_n 0, 1) := by decide +kernel
theorem dX3_clear_6 : decode cX3_clear 6 = .ok (.sipush 365, 3) := by decide +kernel
theorem dX3_clear_9 : decode cX3_clear 9 = .ok (.putfield 9, 3) := by decide +kernel
theorem dX3_clear_12 : decode cX3_clear 12 = .ok (.aload_n 0, 1) := by decide +kernel
theorem dX3_clear_13 : decode cX3_clear 13 = .ok (.iconst 0, 1) := by decide +kernel
theorem dX3_clear_14 : decode cX3_clear 14 = .ok (.putfield 47, 3) := by decide +kernel
theorem dX3_clear_17 : decode cX3_clear 17 = .ok (.aload_n 0, 1) := by decide +kernel
theorem dX3_clear_18 : decode cX3_clear 18 = .ok (.iconst 0, 1) := by decide +kernel
theorem dX3_clear_19 : decode cX3_clear 19 = .ok (.putfield 50, 3) := by decide +kernel
theorem dX3_clear_22 : decode cX3_clear 22 = .ok (.aload_n 0, 1) := by decide +kernel
theorem dX3_clear_23 : decode cX3_clear 23 = .ok (.iconst 0, 1) := by decide +kernel
theorem dX3_clear_24 : decode cX3_clear 24 = .ok (.putfield 53, 3) := by decide +kernel
theorem dX3_clear_27 : decode cX3_clear 27 = .ok (.aload_n 0, 1) := by decide +kernel
theorem dX3_clear_28 : decode cX3_clear 28 = .ok (.iconst 0, 1) := by decide +kernel
theorem dX3_clear_29 : decode cX3_clear 29 = .ok (.putfield 56, 3) := by decide +kernel
theorem dX3_clear_32 : decode cX3_clear 32 = .ok (.aload_n 0, 1) := by decide +kernel
theorem dX3_clear_33 : decode cX3_clear 33 = .ok (.iconst 0, 1) := by decide +kernel
theorem dX3_clear_34 : decode cX3_clear 34 = .ok (.putfield 59, 3) := by decide +kernel
theorem dX3_clear_37 : decode cX3_clear 37 = .ok (.aload_n 0, 1) := by decide +kernel
theorem dX3_clear_38 : decode cX3_clear 38 = .ok (.iconst 0, 1) := by decide +kernel
theorem dX3_clear_39 : decode cX3_clear 39 = .ok (.putfield 62, 3) := by decide +kernel
theorem dX3_clear_42 : decode cX3_clear 42 = .ok (.return_, 1) := by decide +kernel
theorem dX4_lookAt_0 : decode cX4_lookAt 0 = .ok (.iload_n 1, 1) := by decide +kernel
theorem dX4_lookAt_1 : decode cX4_lookAt 1 = .ok (.ifCond .lt 58, 3) := by decide +kernel
theorem dX4_lookAt_4 : decode cX4_lookAt 4 = .ok (.iload_n 1, 1) := by decide +kernel
theorem dX4_lookAt_5 : decode cX4_lookAt 5 = .ok (.aload_n 0, 1) := by decide +kernel
theorem dX4_lookAt_6 : decode cX4_lookAt 6 = .ok (.getfield 12, 3) := by decide +kernel
theorem dX4_lookAt_9 : decode cX4_lookAt 9 = .ok (.getfield 67, 3) := by decide +kernel
theorem dX4_lookAt_12 : decode cX4_lookAt 12 = .ok (.if_icmp .ge 47, 3) := by decide +kernel
theorem dX4_lookAt_15 : decode cX4_lookAt 15 = .ok (.aload_n 0, 1) := by decide +kernel
theorem dX4_lookAt_16 : decode cX4_lookAt 16 = .ok (.iload_n 1, 1) := by decide +kernel
theorem dX4_lookAt_17 : decode cX4_lookAt 17 = .ok (.putfield 70, 3) := by decide +kernel
theorem dX4_lookAt_20 : decode cX4_lookAt 20 = .ok (.aload_n 0, 1) := by decide +kernel
theorem dX4_lookAt_21 : decode cX4_lookAt 21 = .ok (.aload_n 0, 1) := by decide +kernel
theorem dX4_lookAt_22 : decode cX4_lookAt 22 = .ok (.getfield 12, 3) := by decide +kernel
theorem dX4_lookAt_25 : decode cX4_lookAt 25 = .ok (.getfield 73, 3) := by decide +kernel
theorem dX4_lookAt_28 : decode cX4_lookAt 28 = .ok (.iload_n 1, 1) := by decide +kernel
theorem dX4_lookAt_29 : decode cX4_lookAt 29 = .ok (.iaload, 1) := by decide +kernel
theorem dX4_lookAt_30 : decode cX4_lookAt 30 = .ok (.putfield 42, 3) := by decide +kernel
theorem dX4_lookAt_33 : decode cX4_lookAt 33 = .ok (.aload_n 0, 1) := by decide +kernel
theorem dX4_lookAt_34 : decode cX4_lookAt 34 = .ok (.aload_n 0, 1) := by decide +kernel
theorem dX4_lookAt_35 : decode cX4_lookAt 35 = .ok (.getfield 12, 3) := by decide +kernel
theorem dX4_lookAt_38 : decode cX4_lookAt 38 = .ok (.getfield 77, 3) := by decide +kernel
theorem dX4_lookAt_41 : decode cX4_lookAt 41 = .ok (.iload_n 1, 1) := by decide +kernel
theorem dX4_lookAt_42 : decode cX4_lookAt 42 = .ok (.iaload, 1) := by decide +kernel
theorem dX4_lookAt_43 : decode cX4_lookAt 43 = .ok (.putfield 80, 3) := by decide +kernel
theorem dX4_lookAt_46 : decode cX4_lookAt 46 = .ok (.aload_n 0, 1) := by decide +kernel
theorem dX4_lookAt_47 : decode cX4_lookAt 47 = .ok (.aload_n 0, 1) := by decide +kernel
theorem dX4_lookAt_48 : decode cX4_lookAt 48 = .ok (.getfield 12, 3) := by decide +kernel
theorem dX4_lookAt_51 : decode cX4_lookAt 51 = .ok (.getfield 83, 3) := by decide +kernel
theorem dX4_lookAt_54 : decode cX4_lookAt 54 = .ok (.iload_n 1, 1) := by decide +kernel
theorem dX4_lookAt_55 : decode cX4_lookAt 55 = .ok (.laload, 1) := by decide +kernel
theorem dX4_lookAt_56 : decode cX4_lookAt 56 = .ok (.putfield 87, 3) := by decide +kernel
theorem dX4_lookAt_59 : decode cX4_lookAt 59 = .ok (.return_, 1) := by decide +kernel
theorem dX4_readText_0 : decode cX4_readText 0 = .ok (.aload_n 0, 1) := by decide +kernel
theorem dX4_readText_1 : decode cX4_readText 1 = .ok (.getfield 12, 3) := by decide +kernel
theorem dX4_readText_4 : decode cX4_readText 4 = .ok (.aload_n 1, 1) := by decide +kernel
theorem dX4_readText_5 : decode cX4_readText 5 = .ok (.iload_n 2, 1) := by decide +kernel
theorem dX4_readText_6 : decode cX4_readText 6 = .ok (.invokevirtual 29, 3) := by decide +kernel
theorem dX4_readText_9 : decode cX4_readText 9 = .ok (.aload_n 0, 1) := by decide +kernel
theorem dX4_readText_10 : decode cX4_readText 10 = .ok (.aload_n 3, 1) := by decide +kernel
theorem dX4_readText_11 : decode cX4_readText 11 = .ok (.putfield 25, 3) := by decide +kernel
theorem dX4_readText_14 : decode cX4_readText 14 = .ok (.aload_n 0, 1) := by decide +kernel
theorem dX4_readText_15 : decode cX4_readText 15 = .ok (.getfield 25, 3) := by decide +kernel
theorem dX4_readText_18 : decode cX4_readText 18 = .ok (.invokevirtual 33, 3) := by decide +kernel
theorem dX4_readText_21 : decode cX4_readText 21 = .ok (.aload_n 0, 1) := by decide +kernel
theorem dX4_readText_22 : decode cX4_readText 22 = .ok (.iconst 0, 1) := by decide +kernel
theorem dX4_readText_23 : decode cX4_readText 23 = .ok (.putfield 18, 3) := by decide +kernel
theorem dX4_readText_26 : decode cX4_readText 26 = .ok (.aload_n 0, 1) := by decide +kernel
theorem dX4_readText_27 : decode cX4_readText 27 = .ok (.iconst (-1), 1) := by decide +kernel
theorem dX4_readText_28 : decode cX4_readText 28 = .ok (.putfield 22, 3) := by decide +kernel
theorem dX4_readText_31 : decode cX4_readText 31 = .ok (.aload_n 0, 1) := by decide +kernel
theorem dX4_readText_32 : decode cX4_readText 32 = .ok (.iconst 0, 1) := by decide +kernel
theorem dX4_readText_33 : decode cX4_readText 33 = .ok (.invokevirtual 38, 3) := by decide +kernel
theorem dX4_readText_36 : decode cX4_readText 36 = .ok (.iconst 1, 1) := by decide +kernel
theorem dX4_readText_37 : decode cX4_readText 37 = .ok (.istore 4, 2) := by decide +kernel
theorem dX4_readText_39 : decode cX4_readText 39 = .ok (.iconst 0, 1) := by decide +kernel
theorem dX4_readText_40 : decode cX4_readText 40 = .ok (.istore 5, 2) := by decide +kernel
theorem dX4_readText_42 : decode cX4_readText 42 = .ok (.iload 4, 2) := by decide +kernel
theorem dX4_readText_44 : decode cX4_readText 44 = .ok (.ifCond .eq 114, 3) := by decide +kernel
theorem dX4_readText_47 : decode cX4_readText 47 = .ok (.iload 5, 2) := by decide +kernel
theorem dX4_readText_49 : decode cX4_readText 49 = .ok (.sipush 700, 3) := by decide +kernel
theorem dX4_readText_52 : decode cX4_readText 52 = .ok (.if_icmp .ge 106, 3) := by decide +kernel
theorem dX4_readText_55 : decode cX4_readText 55 = .ok (.aload_n 0, 1) := by decide +kernel
theorem dX4_readText_56 : decode cX4_readText 56 = .ok (.getfield 42, 3) := by decide +kernel
theorem dX4_readText_59 : decode cX4_readText 59 = .ok (.iconst 1, 1) := by decide +kernel
theorem dX4_readText_60 : decode cX4_readText 60 = .ok (.if_icmp .eq 98, 3) := by decide +kernel
theorem dX4_readText_63 : decode cX4_readText 63 = .ok (.aload_n 0, 1) := by decide +kernel
theorem dX4_readText_64 : decode cX4_readText 64 = .ok (.getfield 42, 3) := by decide +kernel
theorem dX4_readText_67 : decode cX4_readText 67 = .ok (.tableswitch 78 8 12 #[33, 42, 51, 60, 69], 33) := by decide +kernel
theorem dX4_readText_100 : decode cX4_readText 100 = .ok (.aload_n 0, 1) := by decide +kernel
theorem dX4_readText_101 : decode cX4_readText 101 = .ok (.invokevirtual 47, 3) := by decide +kernel
theorem dX4_readText_104 : decode cX4_readText 104 = .ok (.istore 4, 2) := by decide +kernel
theorem dX4_readText_106 : decode cX4_readText 106 = .ok (.goto 46, 3) := by decide +kernel
theorem dX4_readText_109 : decode cX4_readText 109 = .ok (.aload_n 0, 1) := by decide +kernel
theorem dX4_readText_110 : decode cX4_readText 110 = .ok (.invokevirtual 51, 3) := by decide +kernel
theorem dX4_readText_113 : decode cX4_readText 113 = .ok (.istore 4, 2) := by decide +kernel
theorem dX4_readText_115 : decode cX4_readText 115 = .ok (.goto 37, 3) := by decide +kernel
theorem dX4_readText_118 : decode cX4_readText 118 = .ok (.aload_n 0, 1) := by decide +kernel
theorem dX4_readText_119 : decode cX4_readText 119 = .ok (.invokevirtual 54, 3) := by decide +kernel
theorem dX4_readText_122 : decode cX4_readText 122 = .ok (.istore 4, 2) := by decide +kernel
theorem dX4_readText_124 : decode cX4_readText 124 = .ok (.goto 28, 3) := by decide +kernel
theorem dX4_readText_127 : decode cX4_readText 127 = .ok (.aload_n 0, 1) := by decide +kernel
theorem dX4_readText_128 : decode cX4_readText 128 = .ok (.invokevirtual 57, 3) := by decide +kernel
theorem dX4_readText_131 : decode cX4_readText 131 = .ok (.istore 4, 2) := by decide +kernel
theorem dX4_readText_133 : decode cX4_readText 133 = .ok (.goto 19, 3) := by decide +kernel
theorem dX4_readText_136 : decode cX4_readText 136 = .ok (.aload_n 0, 1) := by decide +kernel
theorem dX4_readText_137 : decode cX4_readText 137 = .ok (.invokevirtual 60, 3) := by decide +kernel
theorem dX4_readText_140 : decode cX4_readText 140 = .ok (.istore 4, 2) := by decide +kernel
theorem dX4_readText_142 : decode cX4_readText 142 = .ok (.goto 10, 3) := by decide +kernel
theorem dX4_readText_145 : decode cX4_readText 145 = .ok (.aload_n 0, 1) := by decide +kernel
theorem dX4_readText_146 : decode cX4_readText 146 = .ok (.iconst 2, 1) := by decide +kernel
theorem dX4_readText_147 : decode cX4_readText 147 = .ok (.invokevirtual 63, 3) := by decide +kernel
theorem dX4_readText_150 : decode cX4_readText 150 = .ok (.istore 4, 2) := by decide +kernel
theorem dX4_readText_152 : decode cX4_readText 152 = .ok (.iinc 5 1, 3) := by decide +kernel
theorem dX4_readText_155 : decode cX4_readText 155 = .ok (.goto (-113), 3) := by decide +kernel
theorem dX4_readText_158 : decode cX4_readText 158 = .ok (.iload 4, 2) := by decide +kernel
theorem dX4_readText_160 : decode cX4_readText 160 = .ok (.ireturn, 1) := by decide +kernel
theorem dX5_add_0 : decode cX5_add 0 = .ok (.aload_n 0, 1) := by decide +kernel
theorem dX5_add_1 : decode cX5_add 1 = .ok (.getfield 22, 3) := by decide +kernel
theorem dX5_add_4 : decode cX5_add 4 = .ok (.aload_n 0, 1) := by decide +kernel
theorem dX5_add_5 : decode cX5_add 5 = .ok (.getfield 9, 3) := by decide +kernel
theorem dX5_add_8 : decode cX5_add 8 = .ok (.arraylength, 1) := by decide +kernel
theorem dX5_add_9 : decode cX5_add 9 = .ok (.if_icmp .ge 43, 3) := by decide +kernel
theorem dX5_add_12 : decode cX5_add 12 = .ok (.aload_n 0, 1) := by decide +kernel
theorem dX5_add_13 : decode cX5_add 13 = .ok (.getfield 9, 3) := by decide +kernel
theorem dX5_add_16 : decode cX5_add 16 = .ok (.aload_n 0, 1) := by decide +kernel
theorem dX5_add_17 : decode cX5_add 17 = .ok (.getfield 22, 3) := by decide +kernel
theorem dX5_add_20 : decode cX5_add 20 = .ok (.iload_n 1, 1) := by decide +kernel
theorem dX5_add_21 : decode cX5_add 21 = .ok (.iastore, 1) := by decide +kernel
theorem dX5_add_22 : decode cX5_add 22 = .ok (.aload_n 0, 1) := by decide +kernel
theorem dX5_add_23 : decode cX5_add 23 = .ok (.getfield 15, 3) := by decide +kernel
theorem dX5_add_26 : decode cX5_add 26 = .ok (.aload_n 0, 1) := by decide +kernel
theorem dX5_add_27 : decode cX5_add 27 = .ok (.getfield 22, 3) := by decide +kernel
theorem dX5_add_30 : decode cX5_add 30 = .ok (.iload_n 2, 1) := by decide +kernel
theorem dX5_add_31 : decode cX5_add 31 = .ok (.iastore, 1) := by decide +kernel
theorem dX5_add_32 : decode cX5_add 32 = .ok (.aload_n 0, 1) := by decide +kernel
theorem dX5_add_33 : decode cX5_add 33 = .ok (.getfield 18, 3) := by decide +kernel
theorem dX5_add_36 : decode cX5_add 36 = .ok (.aload_n 0, 1) := by decide +kernel
theorem dX5_add_37 : decode cX5_add 37 = .ok (.getfield 22, 3) := by decide +kernel
theorem dX5_add_40 : decode cX5_add 40 = .ok (.lload_n 3, 1) := by decide +kernel
theorem dX5_add_41 : decode cX5_add 41 = .ok (.lastore, 1) := by decide +kernel
theorem dX5_add_42 : decode cX5_add 42 = .ok (.aload_n 0, 1) := by decide +kernel
theorem dX5_add_43 : decode cX5_add 43 = .ok (.dup, 1) := by decide +kernel
theorem dX5_add_44 : decode cX5_add 44 = .ok (.getfield 22, 3) := by decide +kernel
theorem dX5_add_47 : decode cX5_add 47 = .ok (.iconst 1, 1) := by decide +kernel
theorem dX5_add_48 : decode cX5_add 48 = .ok (.iadd, 1) := by decide +kernel
theorem dX5_add_49 : decode cX5_add 49 = .ok (.putfield 22, 3) := by decide +kernel
theorem dX5_add_52 : decode cX5_add 52 = .ok (.return_, 1) := by decide +kernel
theorem dX5_markKeywords_0 : decode cX5_markKeywords 0 = .ok (.bipush 8, 2) := by decide +kernel
theorem dX5_markKeywords_2 : decode cX5_markKeywords 2 = .ok (.istore_n 1, 1) := by decide +kernel
theorem dX5_markKeywords_3 : decode cX5_markKeywords 3 = .ok (.iload_n 1, 1) := by decide +kernel
theorem dX5_markKeywords_4 : decode cX5_markKeywords 4 = .ok (.bipush 22, 2) := by decide +kernel
theorem dX5_markKeywords_6 : decode cX5_markKeywords 6 = .ok (.if_icmp .gt 66, 3) := by decide +kernel
theorem dX5_markKeywords_9 : decode cX5_markKeywords 9 = .ok (.iload_n 1, 1) := by decide +kernel
theorem dX5_markKeywords_10 : decode cX5_markKeywords 10 = .ok (.invokestatic 55, 3) := by decide +kernel
theorem dX5_markKeywords_13 : decode cX5_markKeywords 13 = .ok (.invokestatic 59, 3) := by decide +kernel
theorem dX5_markKeywords_16 : decode cX5_markKeywords 16 = .ok (.lstore_n 2, 1) := by decide +kernel
theorem dX5_markKeywords_17 : decode cX5_markKeywords 17 = .ok (.iconst 0, 1) := by decide +kernel
theorem dX5_markKeywords_18 : decode cX5_markKeywords 18 = .ok (.istore 4, 2) := by decide +kernel
theorem dX5_markKeywords_20 : decode cX5_markKeywords 20 = .ok (.iload 4, 2) := by decide +kernel
theorem dX5_markKeywords_22 : decode cX5_markKeywords 22 = .ok (.aload_n 0, 1) := by decide +kernel
theorem dX5_markKeywords_23 : decode cX5_markKeywords 23 = .ok (.getfield 22, 3) := by decide +kernel
theorem dX5_markKeywords_26 : decode cX5_markKeywords 26 = .ok (.if_icmp .ge 40, 3) := by decide +kernel
theorem dX5_markKeywords_29 : decode cX5_markKeywords 29 = .ok (.aload_n 0, 1) := by decide +kernel
theorem dX5_markKeywords_30 : decode cX5_markKeywords 30 = .ok (.getfield 9, 3) := by decide +kernel
theorem dX5_markKeywords_33 : decode cX5_markKeywords 33 = .ok (.iload 4, 2) := by decide +kernel
theorem dX5_markKeywords_35 : decode cX5_markKeywords 35 = .ok (.iaload, 1) := by decide +kernel
theorem dX5_markKeywords_36 : decode cX5_markKeywords 36 = .ok (.iconst 4, 1) := by decide +kernel
theorem dX5_markKeywords_37 : decode cX5_markKeywords 37 = .ok (.if_icmp .ne 23, 3) := by decide +kernel
theorem dX5_markKeywords_40 : decode cX5_markKeywords 40 = .ok (.aload_n 0, 1) := by decide +kernel
theorem dX5_markKeywords_41 : decode cX5_markKeywords 41 = .ok (.getfield 18, 3) := by decide +kernel
theorem dX5_markKeywords_44 : decode cX5_markKeywords 44 = .ok (.iload 4, 2) := by decide +kernel
theorem dX5_markKeywords_46 : decode cX5_markKeywords 46 = .ok (.laload, 1) := by decide +kernel
theorem dX5_markKeywords_47 : decode cX5_markKeywords 47 = .ok (.lload_n 2, 1) := by decide +kernel
theorem dX5_markKeywords_48 : decode cX5_markKeywords 48 = .ok (.lcmp, 1) := by decide +kernel
theorem dX5_markKeywords_49 : decode cX5_markKeywords 49 = .ok (.ifCond .ne 11, 3) := by decide +kernel
theorem dX5_markKeywords_52 : decode cX5_markKeywords 52 = .ok (.aload_n 0, 1) := by decide +kernel
theorem dX5_markKeywords_53 : decode cX5_markKeywords 53 = .ok (.getfield 9, 3) := by decide +kernel
theorem dX5_markKeywords_56 : decode cX5_markKeywords 56 = .ok (.iload 4, 2) := by decide +kernel
theorem dX5_markKeywords_58 : decode cX5_markKeywords 58 = .ok (.iload_n 1, 1) := by decide +kernel
theorem dX5_markKeywords_59 : decode cX5_markKeywords 59 = .ok (.iastore, 1) := by decide +kernel
theorem dX5_markKeywords_60 : decode cX5_markKeywords 60 = .ok (.iinc 4 1, 3) := by decide +kernel
theorem dX5_markKeywords_63 : decode cX5_markKeywords 63 = .ok (.goto (-43), 3) := by decide +kernel
theorem dX5_markKeywords_66 : decode cX5_markKeywords 66 = .ok (.iinc 1 1, 3) := by decide +kernel
theorem dX5_markKeywords_69 : decode cX5_markKeywords 69 = .ok (.goto (-66), 3) := by decide +kernel
theorem dX5_markKeywords_72 : decode cX5_markKeywords 72 = .ok (.return_, 1) := by decide +kernel
theorem dX5_split_0 : decode cX5_split 0 = .ok (.aload_n 0, 1) := by decide +kernel
theorem dX5_split_1 : decode cX5_split 1 = .ok (.iconst 0, 1) := by decide +kernel
theorem dX5_split_2 : decode cX5_split 2 = .ok (.putfield 22, 3) := by decide +kernel
theorem dX5_split_5 : decode cX5_split 5 = .ok (.iconst 0, 1) := by decide +kernel
theorem dX5_split_6 : decode cX5_split 6 = .ok (.istore_n 3, 1) := by decide +kernel
theorem dX5_split_7 : decode cX5_split 7 = .ok (.iconst 0, 1) := by decide +kernel
theorem dX5_split_8 : decode cX5_split 8 = .ok (.istore 4, 2) := by decide +kernel
theorem dX5_split_10 : decode cX5_split 10 = .ok (.iconst 0, 1) := by decide +kernel
theorem dX5_split_11 : decode cX5_split 11 = .ok (.istore 5, 2) := by decide +kernel
theorem dX5_split_13 : decode cX5_split 13 = .ok (.iload 5, 2) := by decide +kernel
theorem dX5_split_15 : decode cX5_split 15 = .ok (.iload_n 2, 1) := by decide +kernel
theorem dX5_split_16 : decode cX5_split 16 = .ok (.if_icmp .ge 110, 3) := by decide +kernel
theorem dX5_split_19 : decode cX5_split 19 = .ok (.iload 5, 2) := by decide +kernel
theorem dX5_split_21 : decode cX5_split 21 = .ok (.aload_n 1, 1) := by decide +kernel
theorem dX5_split_22 : decode cX5_split 22 = .ok (.arraylength, 1) := by decide +kernel
theorem dX5_split_23 : decode cX5_split 23 = .ok (.if_icmp .ge 103, 3) := by decide +kernel
theorem dX5_split_26 : decode cX5_split 26 = .ok (.aload_n 1, 1) := by decide +kernel
theorem dX5_split_27 : decode cX5_split 27 = .ok (.iload 5, 2) := by decide +kernel
theorem dX5_split_29 : decode cX5_split 29 = .ok (.caload, 1) := by decide +kernel
theorem dX5_split_30 : decode cX5_split 30 = .ok (.invokestatic 28, 3) := by decide +kernel
theorem dX5_split_33 : decode cX5_split 33 = .ok (.istore 6, 2) := by decide +kernel
theorem dX5_split_35 : decode cX5_split 35 = .ok (.iload 6, 2) := by decide +kernel
theorem dX5_split_37 : decode cX5_split 37 = .ok (.iload 4, 2) := by decide +kernel
theorem dX5_split_39 : decode cX5_split 39 = .ok (.if_icmp .ne 19, 3) := by decide +kernel
theorem dX5_split_42 : decode cX5_split 42 = .ok (.iload 6, 2) := by decide +kernel
theorem dX5_split_44 : decode cX5_split 44 = .ok (.iconst 4, 1) := by decide +kernel
theorem dX5_split_45 : decode cX5_split 45 = .ok (.if_icmp .eq 9, 3) := by decide +kernel
theorem dX5_split_48 : decode cX5_split 48 = .ok (.iload 6, 2) := by decide +kernel
theorem dX5_split_50 : decode cX5_split 50 = .ok (.iconst 3, 1) := by decide +kernel
theorem dX5_split_51 : decode cX5_split 51 = .ok (.if_icmp .ne 7, 3) := by decide +kernel
theorem dX5_split_54 : decode cX5_split 54 = .ok (.iconst 1, 1) := by decide +kernel
theorem dX5_split_55 : decode cX5_split 55 = .ok (.goto 4, 3) := by decide +kernel
theorem dX5_split_58 : decode cX5_split 58 = .ok (.iconst 0, 1) := by decide +kernel
theorem dX5_split_59 : decode cX5_split 59 = .ok (.istore 7, 2) := by decide +kernel
theorem dX5_split_61 : decode cX5_split 61 = .ok (.iload 7, 2) := by decide +kernel
theorem dX5_split_63 : decode cX5_split 63 = .ok (.ifCond .eq 9, 3) := by decide +kernel
theorem dX5_split_66 : decode cX5_split 66 = .ok (.iload_n 3, 1) := by decide +kernel
theorem dX5_split_67 : decode cX5_split 67 = .ok (.iconst 1, 1) := by decide +kernel
theorem dX5_split_68 : decode cX5_split 68 = .ok (.iadd, 1) := by decide +kernel
theorem dX5_split_69 : decode cX5_split 69 = .ok (.goto 4, 3) := by decide +kernel
theorem dX5_split_72 : decode cX5_split 72 = .ok (.iconst 1, 1) := by decide +kernel
theorem dX5_split_73 : decode cX5_split 73 = .ok (.istore_n 3, 1) := by decide +kernel
theorem dX5_split_74 : decode cX5_split 74 = .ok (.iload 7, 2) := by decide +kernel
theorem dX5_split_76 : decode cX5_split 76 = .ok (.ifCond .eq 17, 3) := by decide +kernel
theorem dX5_split_79 : decode cX5_split 79 = .ok (.aload_n 0, 1) := by decide +kernel
theorem dX5_split_80 : decode cX5_split 80 = .ok (.iload 6, 2) := by decide +kernel
theorem dX5_split_82 : decode cX5_split 82 = .ok (.aload_n 1, 1) := by decide +kernel
theorem dX5_split_83 : decode cX5_split 83 = .ok (.iload 5, 2) := by decide +kernel
theorem dX5_split_85 : decode cX5_split 85 = .ok (.caload, 1) := by decide +kernel
theorem dX5_split_86 : decode cX5_split 86 = .ok (.iload_n 3, 1) := by decide +kernel
theorem dX5_split_87 : decode cX5_split 87 = .ok (.invokevirtual 32, 3) := by decide +kernel
theorem dX5_split_90 : decode cX5_split 90 = .ok (.goto 26, 3) := by decide +kernel
theorem dX5_split_93 : decode cX5_split 93 = .ok (.iload 6, 2) := by decide +kernel
theorem dX5_split_95 : decode cX5_split 95 = .ok (.ifCond .eq 21, 3) := by decide +kernel
theorem dX5_split_98 : decode cX5_split 98 = .ok (.aload_n 0, 1) := by decide +kernel
theorem dX5_split_99 : decode cX5_split 99 = .ok (.iload 6, 2) := by decide +kernel
theorem dX5_split_101 : decode cX5_split 101 = .ok (.iload 5, 2) := by decide +kernel
theorem dX5_split_103 : decode cX5_split 103 = .ok (.iload 6, 2) := by decide +kernel
theorem dX5_split_105 : decode cX5_split 105 = .ok (.lconst 0, 1) := by decide +kernel
theorem dX5_split_106 : decode cX5_split 106 = .ok (.aload_n 1, 1) := by decide +kernel
theorem dX5_split_107 : decode cX5_split 107 = .ok (.iload 5, 2) := by decide +kernel
theorem dX5_split_109 : decode cX5_split 109 = .ok (.caload, 1) := by decide +kernel
theorem dX5_split_110 : decode cX5_split 110 = .ok (.invokestatic 36, 3) := by decide +kernel
theorem dX5_split_113 : decode cX5_split 113 = .ok (.invokevirtual 40, 3) := by decide +kernel
theorem dX5_split_116 : decode cX5_split 116 = .ok (.iload 6, 2) := by decide +kernel
theorem dX5_split_118 : decode cX5_split 118 = .ok (.istore 4, 2) := by decide +kernel
theorem dX5_split_120 : decode cX5_split 120 = .ok (.iinc 5 1, 3) := by decide +kernel
theorem dX5_split_123 : decode cX5_split 123 = .ok (.goto (-110), 3) := by decide +kernel
theorem dX5_split_126 : decode cX5_split 126 = .ok (.aload_n 0, 1) := by decide +kernel
theorem dX5_split_127 : decode cX5_split 127 = .ok (.iconst 1, 1) := by decide +kernel
theorem dX5_split_128 : decode cX5_split 128 = .ok (.iload_n 2, 1) := by decide +kernel
theorem dX5_split_129 : decode cX5_split 129 = .ok (.lconst 0, 1) := by decide +kernel
theorem dX5_split_130 : decode cX5_split 130 = .ok (.invokevirtual 40, 3) := by decide +kernel
theorem dX5_split_133 : decode cX5_split 133 = .ok (.aload_n 0, 1) := by decide +kernel
theorem dX5_split_134 : decode cX5_split 134 = .ok (.invokevirtual 44, 3) := by decide +kernel
theorem dX5_split_137 : decode cX5_split 137 = .ok (.return_, 1) := by decide +kernel
theorem dX7_spelling_0 : decode cX7_spelling 0 = .ok (.iload_n 0, 1) := by decide +kernel
theorem dX7_spelling_1 : decode cX7_spelling 1 = .ok (.tableswitch 120 8 22 #[75, 78, 81, 84, 87, 90, 93, 96, 99, 102, 105, 108, 111, 114, 117], 75) := by decide +kernel
theorem dX7_spelling_76 : decode cX7_spelling 76 = .ok (.ldc 9, 2) := by decide +kernel
theorem dX7_spelling_78 : decode cX7_spelling 78 = .ok (.areturn, 1) := by decide +kernel
theorem dX7_spelling_79 : decode cX7_spelling 79 = .ok (.ldc 11, 2) := by decide +kernel
theorem dX7_spelling_81 : decode cX7_spelling 81 = .ok (.areturn, 1) := by decide +kernel
theorem dX7_spelling_82 : decode cX7_spelling 82 = .ok (.ldc 13, 2) := by decide +kernel
theorem dX7_spelling_84 : decode cX7_spelling 84 = .ok (.areturn, 1) := by decide +kernel
theorem dX7_spelling_85 : decode cX7_spelling 85 = .ok (.ldc 15, 2) := by decide +kernel
theorem dX7_spelling_87 : decode cX7_spelling 87 = .ok (.areturn, 1) := by decide +kernel
theorem dX7_spelling_88 : decode cX7_spelling 88 = .ok (.ldc 17, 2) := by decide +kernel
theorem dX7_spelling_90 : decode cX7_spelling 90 = .ok (.areturn, 1) := by decide +kernel
theorem dX7_spelling_91 : decode cX7_spelling 91 = .ok (.ldc 19, 2) := by decide +kernel
theorem dX7_spelling_93 : decode cX7_spelling 93 = .ok (.areturn, 1) := by decide +kernel
theorem dX7_spelling_94 : decode cX7_spelling 94 = .ok (.ldc 21, 2) := by decide +kernel
theorem dX7_spelling_96 : decode cX7_spelling 96 = .ok (.areturn, 1) := by decide +kernel
theorem dX7_spelling_97 : decode cX7_spelling 97 = .ok (.ldc 23, 2) := by decide +kernel
theorem dX7_spelling_99 : decode cX7_spelling 99 = .ok (.areturn, 1) := by decide +kernel
theorem dX7_spelling_100 : decode cX7_spelling 100 = .ok (.ldc 25, 2) := by decide +kernel
theorem dX7_spelling_102 : decode cX7_spelling 102 = .ok (.areturn, 1) := by decide +kernel
theorem dX7_spelling_103 : decode cX7_spelling 103 = .ok (.ldc 27, 2) := by decide +kernel
theorem dX7_spelling_105 : decode cX7_spelling 105 = .ok (.areturn, 1) := by decide +kernel
theorem dX7_spelling_106 : decode cX7_spelling 106 = .ok (.ldc 29, 2) := by decide +kernel
theorem dX7_spelling_108 : decode cX7_spelling 108 = .ok (.areturn, 1) := by decide +kernel
theorem dX7_spelling_109 : decode cX7_spelling 109 = .ok (.ldc 31, 2) := by decide +kernel
theorem dX7_spelling_111 : decode cX7_spelling 111 = .ok (.areturn, 1) := by decide +kernel
theorem dX7_spelling_112 : decode cX7_spelling 112 = .ok (.ldc 33, 2) := by decide +kernel
theorem dX7_spelling_114 : decode cX7_spelling 114 = .ok (.areturn, 1) := by decide +kernel
theorem dX7_spelling_115 : decode cX7_spelling 115 = .ok (.ldc 35, 2) := by decide +kernel
theorem dX7_spelling_117 : decode cX7_spelling 117 = .ok (.areturn, 1) := by decide +kernel
theorem dX7_spelling_118 : decode cX7_spelling 118 = .ok (.ldc 37, 2) := by decide +kernel
theorem dX7_spelling_120 : decode cX7_spelling 120 = .ok (.areturn, 1) := by decide +kernel
theorem dX7_spelling_121 : decode cX7_spelling 121 = .ok (.ldc 39, 2) := by decide +kernel
theorem dX7_spelling_123 : decode cX7_spelling 123 = .ok (.areturn, 1) := by decide +kernel
theorem dX8_packed_0 : decode cX8_packed 0 = .ok (.lconst 0, 1) := by decide +kernel
theorem dX8_packed_1 : decode cX8_packed 1 = .ok (.lstore_n 1, 1) := by decide +kernel
theorem dX8_packed_2 : decode cX8_packed 2 = .ok (.iconst 0, 1) := by decide +kernel
theorem dX8_packed_3 : decode cX8_packed 3 = .ok (.istore_n 3, 1) := by decide +kernel
theorem dX8_packed_4 : decode cX8_packed 4 = .ok (.iload_n 3, 1) := by decide +kernel
theorem dX8_packed_5 : decode cX8_packed 5 = .ok (.aload_n 0, 1) := by decide +kernel
theorem dX8_packed_6 : decode cX8_packed 6 = .ok (.invokevirtual 9, 3) := by decide +kernel
theorem dX8_packed_9 : decode cX8_packed 9 = .ok (.if_icmp .ge 19, 3) := by decide +kernel
theorem dX8_packed_12 : decode cX8_packed 12 = .ok (.lload_n 1, 1) := by decide +kernel
theorem dX8_packed_13 : decode cX8_packed 13 = .ok (.aload_n 0, 1) := by decide +kernel
theorem dX8_packed_14 : decode cX8_packed 14 = .ok (.iload_n 3, 1) := by decide +kernel
theorem dX8_packed_15 : decode cX8_packed 15 = .ok (.invokevirtual 15, 3) := by decide +kernel
theorem dX8_packed_18 : decode cX8_packed 18 = .ok (.invokestatic 19, 3) := by decide +kernel
theorem dX8_packed_21 : decode cX8_packed 21 = .ok (.lstore_n 1, 1) := by decide +kernel
theorem dX8_packed_22 : decode cX8_packed 22 = .ok (.iinc 3 1, 3) := by decide +kernel
theorem dX8_packed_25 : decode cX8_packed 25 = .ok (.goto (-21), 3) := by decide +kernel
theorem dX8_packed_28 : decode cX8_packed 28 = .ok (.lload_n 1, 1) := by decide +kernel
theorem dX8_packed_29 : decode cX8_packed 29 = .ok (.lreturn, 1) := by decide +kernel
theorem dX8_withLetter_0 : decode cX8_withLetter 0 = .ok (.lload_n 0, 1) := by decide +kernel
theorem dX8_withLetter_1 : decode cX8_withLetter 1 = .ok (.iconst 5, 1) := by decide +kernel
theorem dX8_withLetter_2 : decode cX8_withLetter 2 = .ok (.lshl, 1) := by decide +kernel
theorem dX8_withLetter_3 : decode cX8_withLetter 3 = .ok (.iload_n 2, 1) := by decide +kernel
theorem dX8_withLetter_4 : decode cX8_withLetter 4 = .ok (.bipush 97, 2) := by decide +kernel
theorem dX8_withLetter_6 : decode cX8_withLetter 6 = .ok (.isub, 1) := by decide +kernel
theorem dX8_withLetter_7 : decode cX8_withLetter 7 = .ok (.iconst 1, 1) := by decide +kernel
theorem dX8_withLetter_8 : decode cX8_withLetter 8 = .ok (.iadd, 1) := by decide +kernel
theorem dX8_withLetter_9 : decode cX8_withLetter 9 = .ok (.i2l, 1) := by decide +kernel
theorem dX8_withLetter_10 : decode cX8_withLetter 10 = .ok (.lor, 1) := by decide +kernel
theorem dX8_withLetter_11 : decode cX8_withLetter 11 = .ok (.lreturn, 1) := by decide +kernel
theorem dX9_load_0 : decode cX9_load 0 = .ok (.iload_n 1, 1) := by decide +kernel
theorem dX9_load_1 : decode cX9_load 1 = .ok (.iconst 0, 1) := by decide +kernel
theorem dX9_load_2 : decode cX9_load 2 = .ok (.aload_n 0, 1) := by decide +kernel
theorem dX9_load_3 : decode cX9_load 3 = .ok (.getfield 59, 3) := by decide +kernel
theorem dX9_load_6 : decode cX9_load 6 = .ok (.invokestatic 67, 3) := by decide +kernel
theorem dX9_load_9 : decode cX9_load 9 = .ok (.aload_n 0, 1) := by decide +kernel
theorem dX9_load_10 : decode cX9_load 10 = .ok (.getfield 28, 3) := by decide +kernel
theorem dX9_load_13 : decode cX9_load 13 = .ok (.aload_n 0, 1) := by decide +kernel
theorem dX9_load_14 : decode cX9_load 14 = .ok (.getfield 9, 3) := by decide +kernel
theorem dX9_load_17 : decode cX9_load 17 = .ok (.iload_n 1, 1) := by decide +kernel
theorem dX9_load_18 : decode cX9_load 18 = .ok (.aload_n 0, 1) := by decide +kernel
theorem dX9_load_19 : decode cX9_load 19 = .ok (.getfield 20, 3) := by decide +kernel
theorem dX9_load_22 : decode cX9_load 22 = .ok (.invokevirtual 71, 3) := by decide +kernel
theorem dX9_load_25 : decode cX9_load 25 = .ok (.istore_n 2, 1) := by decide +kernel
theorem dX9_load_26 : decode cX9_load 26 = .ok (.aload_n 0, 1) := by decide +kernel
theorem dX9_load_27 : decode cX9_load 27 = .ok (.iconst 0, 1) := by decide +kernel
theorem dX9_load_28 : decode cX9_load 28 = .ok (.putfield 59, 3) := by decide +kernel
theorem dX9_load_31 : decode cX9_load 31 = .ok (.iload_n 2, 1) := by decide +kernel
theorem dX9_load_32 : decode cX9_load 32 = .ok (.ifCond .ne 6, 3) := by decide +kernel
theorem dX9_load_35 : decode cX9_load 35 = .ok (.bipush (-3), 2) := by decide +kernel
theorem dX9_load_37 : decode cX9_load 37 = .ok (.ireturn, 1) := by decide +kernel
theorem dX9_load_38 : decode cX9_load 38 = .ok (.aload_n 0, 1) := by decide +kernel
theorem dX9_load_39 : decode cX9_load 39 = .ok (.getfield 20, 3) := by decide +kernel
theorem dX9_load_42 : decode cX9_load 42 = .ok (.astore_n 3, 1) := by decide +kernel
theorem dX9_load_43 : decode cX9_load 43 = .ok (.aload_n 0, 1) := by decide +kernel
theorem dX9_load_44 : decode cX9_load 44 = .ok (.aload_n 0, 1) := by decide +kernel
theorem dX9_load_45 : decode cX9_load 45 = .ok (.getfield 16, 3) := by decide +kernel
theorem dX9_load_48 : decode cX9_load 48 = .ok (.putfield 20, 3) := by decide +kernel
theorem dX9_load_51 : decode cX9_load 51 = .ok (.aload_n 0, 1) := by decide +kernel
theorem dX9_load_52 : decode cX9_load 52 = .ok (.aload_n 3, 1) := by decide +kernel
theorem dX9_load_53 : decode cX9_load 53 = .ok (.putfield 16, 3) := by decide +kernel
theorem dX9_load_56 : decode cX9_load 56 = .ok (.aload_n 0, 1) := by decide +kernel
theorem dX9_load_57 : decode cX9_load 57 = .ok (.getfield 35, 3) := by decide +kernel
theorem dX9_load_60 : decode cX9_load 60 = .ok (.aload_n 0, 1) := by decide +kernel
theorem dX9_load_61 : decode cX9_load 61 = .ok (.getfield 16, 3) := by decide +kernel
theorem dX9_load_64 : decode cX9_load 64 = .ok (.invokevirtual 56, 3) := by decide +kernel
theorem dX9_load_67 : decode cX9_load 67 = .ok (.aload_n 0, 1) := by decide +kernel
theorem dX9_load_68 : decode cX9_load 68 = .ok (.getfield 45, 3) := by decide +kernel
theorem dX9_load_71 : decode cX9_load 71 = .ok (.invokevirtual 75, 3) := by decide +kernel
theorem dX9_load_74 : decode cX9_load 74 = .ok (.aload_n 0, 1) := by decide +kernel
theorem dX9_load_75 : decode cX9_load 75 = .ok (.getfield 16, 3) := by decide +kernel
theorem dX9_load_78 : decode cX9_load 78 = .ok (.getfield 78, 3) := by decide +kernel
theorem dX9_load_81 : decode cX9_load 81 = .ok (.ireturn, 1) := by decide +kernel
theorem dX9_written_0 : decode cX9_written 0 = .ok (.iload_n 1, 1) := by decide +kernel
theorem dX9_written_1 : decode cX9_written 1 = .ok (.aload_n 0, 1) := by decide +kernel
theorem dX9_written_2 : decode cX9_written 2 = .ok (.getfield 52, 3) := by decide +kernel
theorem dX9_written_5 : decode cX9_written 5 = .ok (.invokevirtual 340, 3) := by decide +kernel
theorem dX9_written_8 : decode cX9_written 8 = .ok (.invokestatic 196, 3) := by decide +kernel
theorem dX9_written_11 : decode cX9_written 11 = .ok (.aload_n 0, 1) := by decide +kernel
theorem dX9_written_12 : decode cX9_written 12 = .ok (.getfield 52, 3) := by decide +kernel
theorem dX9_written_15 : decode cX9_written 15 = .ok (.iload_n 1, 1) := by decide +kernel
theorem dX9_written_16 : decode cX9_written 16 = .ok (.invokevirtual 343, 3) := by decide +kernel
theorem dX9_written_19 : decode cX9_written 19 = .ok (.ireturn, 1) := by decide +kernel
