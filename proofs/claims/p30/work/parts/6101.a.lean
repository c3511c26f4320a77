set_option maxRecDepth 20000 in
theorem ggL_load_X9_load : GoodIn wsL_load wsX9_load := goodIn_ca (goodIn_r _ [6, 7, 8, 9, 10, 11, 12, 13, 14, 15, 5, 16, 17, 18, 19, 20, 21, 22, 23, 24, 25, 26, 27, 28, 29, 30, 31, 32, 33, 34, 35, 36, 37, 38, 39, 40, 41, 42, 43, 44, 45, 46, 47, 48, 49, 50, 51, 52, 53, 54, 55, 56, 57, 58, 59, 60, 61, 62, 63, 64, 65, 66, 67, 68, 69, 70, 71, 72, 73, 74, 75, 76, 77, 78, 79, 80, 81, 82, 83, 84, 85, 86, 87, 88, 89, 90, 91, 92, 93, 94, 95, 96, 97, 98, 99, 100, 101, 102, 103, 104, 105, 106, 107, 108, 109, 110, 111, 112, 113, 114, 115, 116, 117, 118, 119, 120, 121, 122, 123, 124, 125, 126, 127, 128, 129, 130, 131, 132, 133, 134, 135, 136, 137, 138, 139, 140, 141, 142, 143, 144, 145, 146, 147, 148, 149, 150, 151, 152, 153, 154, 155, 156, 157, 158, 159, 160, 161, 162, 163, 164, 165, 166, 167, 168, 169, 170, 171, 172, 173, 174, 175, 176, 177, 178, 179, 180, 181, 182, 183, 184, 185, 186, 187, 188, 189, 190, 191, 192, 193, 194, 195, 196, 197, 198, 199, 200, 201, 202, 203, 204, 205, 206, 207, 208, 209, 210, 211, 212, 213, 214, 215, 216, 217, 218, 219, 220, 221, 222, 223, 224, 225, 226, 227, 228, 229, 230, 231, 232, 233, 234, 235, 236, 237, 238, 239, 240, 241, 242, 243, 244, 245, 246, 247, 248, 249, 250, 251, 252, 253, 254, 255, 256, 257, 258, 259, 260, 261, 262, 263, 264, 265, 266, 267, 268, 269, 270, 271, 272, 273, 274, 275, 276, 277, 278, 279, 280, 281, 282, 283, 284, 285, 286, 287, 288, 289, 290, 291, 292, 293, 294, 295, 296, 297, 298, 299, 300, 301, 302, 303, 304, 305, 306, 307, 308, 309, 310, 311, 312, 313, 314, 315, 316, 317, 318, 319, 320, 321, 322, 323, 324, 325, 326, 327, 328, 329, 330, 331, 332, 333, 334, 335, 336, 337, 338, 339, 340, 341, 342, 343, 344, 345, 346, 347, 348, 349, 350, 351, 352, 353, 354, 355, 356, 357] rfl (by decide +kernel)) (goodIn_sub (fun _ h => List.mem_cons_of_mem _ (List.mem_append_right _ h)) (by decide +kernel))
set_option maxRecDepth 20000 in
theorem gL_load_X9_load : GoodIn wsL_load (wsV RL 7 RX9 yX9_load wsX9_load) := goodIn_app (goodIn_r _ [2, 3, 4, 5] rfl (by decide +kernel)) ggL_load_X9_load
set_option maxRecDepth 20000 in
theorem ggL_proofCharacter_X9_proofCharacter : GoodIn wsL_proofCharacter wsX9_proofCharacter := goodIn_ca (goodIn_r _ [6, 7, 8, 9, 10, 5, 11, 12, 13, 14, 15, 16, 17, 18, 19, 20, 21, 22, 23, 24, 25, 26, 27, 28, 29, 30, 31, 32, 33, 34, 35, 36, 37, 38, 39, 40, 41, 42, 43, 44, 45, 46, 47, 48, 49, 50, 51, 52] rfl (by decide +kernel)) (goodIn_sub (fun _ h => List.mem_cons_of_mem _ (List.mem_append_right _ h)) (by decide +kernel))
set_option maxRecDepth 20000 in
theorem gL_proofCharacter_X9_proofCharacter : GoodIn wsL_proofCharacter (wsV RL 48 RX9 yX9_proofCharacter wsX9_proofCharacter) := goodIn_app (goodIn_r _ [2, 3, 4, 5] rfl (by decide +kernel)) ggL_proofCharacter_X9_proofCharacter
theorem dL_load_0 : decode cL_load 0 = .ok (.aload_n 2, 1) := by decide +kernel
theorem dL_load_1 : decode cL_load 1 = .ok (.iconst 0, 1) := by decide +kernel
theorem dL_load_2 : decode cL_load 2 = .ok (.aload_n 0, 1) := by decide +kernel
theorem dL_load_3 : decode cL_load 3 = .ok (.iload_n 1, 1) := by decide +kernel
theorem dL_load_4 : decode cL_load 4 = .ok (.invokevirtual 7, 3) := by decide +kernel
theorem dL_load_7 : decode cL_load 7 = .ok (.i2l, 1) := by decide +kernel
theorem dL_load_8 : decode cL_load 8 = .ok (.lastore, 1) := by decide +kernel
theorem dL_load_9 : decode cL_load 9 = .ok (.goto 6, 3) := by decide +kernel
theorem dL_load_12 : decode cL_load 12 = .ok (.astore_n 3, 1) := by decide +kernel
theorem dL_load_13 : decode cL_load 13 = .ok (.iconst 1, 1) := by decide +kernel
theorem dL_load_14 : decode cL_load 14 = .ok (.ireturn, 1) := by decide +kernel
theorem dL_load_15 : decode cL_load 15 = .ok (.iconst 0, 1) := by decide +kernel
theorem dL_load_16 : decode cL_load 16 = .ok (.ireturn, 1) := by decide +kernel
theorem dL_proofCharacter_0 : decode cL_proofCharacter 0 = .ok (.aload_n 3, 1) := by decide +kernel
theorem dL_proofCharacter_1 : decode cL_proofCharacter 1 = .ok (.iconst 0, 1) := by decide +kernel
theorem dL_proofCharacter_2 : decode cL_proofCharacter 2 = .ok (.aload_n 0, 1) := by decide +kernel
theorem dL_proofCharacter_3 : decode cL_proofCharacter 3 = .ok (.iload_n 1, 1) := by decide +kernel
theorem dL_proofCharacter_4 : decode cL_proofCharacter 4 = .ok (.iload_n 2, 1) := by decide +kernel
theorem dL_proofCharacter_5 : decode cL_proofCharacter 5 = .ok (.invokevirtual 48, 3) := by decide +kernel
theorem dL_proofCharacter_8 : decode cL_proofCharacter 8 = .ok (.i2l, 1) := by decide +kernel
theorem dL_proofCharacter_9 : decode cL_proofCharacter 9 = .ok (.lastore, 1) := by decide +kernel
theorem dL_proofCharacter_10 : decode cL_proofCharacter 10 = .ok (.goto 7, 3) := by decide +kernel
theorem dL_proofCharacter_13 : decode cL_proofCharacter 13 = .ok (.astore 4, 2) := by decide +kernel
theorem dL_proofCharacter_15 : decode cL_proofCharacter 15 = .ok (.iconst 1, 1) := by decide +kernel
theorem dL_proofCharacter_16 : decode cL_proofCharacter 16 = .ok (.ireturn, 1) := by decide +kernel
theorem dL_proofCharacter_17 : decode cL_proofCharacter 17 = .ok (.iconst 0, 1) := by decide +kernel
theorem dL_proofCharacter_18 : decode cL_proofCharacter 18 = .ok (.ireturn, 1) := by decide +kernel
