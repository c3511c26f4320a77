set_option maxRecDepth 20000 in
theorem ggX0_copyFrom_X2_copyFrom : GoodIn wsX0_copyFrom wsX2_copyFrom := goodIn_r _ [29, 30, 31, 5, 6, 7, 32, 33, 54, 55, 56] (by decide +kernel) (by decide +kernel)
set_option maxRecDepth 20000 in
theorem gX0_copyFrom_X2_copyFrom : GoodIn wsX0_copyFrom (wsV RX0 99 RX2 yX2_copyFrom wsX2_copyFrom) := goodIn_app (goodIn_of _ (by decide +kernel)) ggX0_copyFrom_X2_copyFrom
set_option maxRecDepth 20000 in
theorem ggX0_liveDays_X0_liveDay : GoodIn wsX0_liveDays wsX0_liveDay := goodIn_r _ [5, 6, 7, 8, 9, 10, 11, 12, 13, 4, 14, 15, 16, 17, 18, 19, 20, 21, 22, 23, 24, 25, 26, 27, 28, 29, 30, 31, 32, 33, 34, 35, 36, 37, 38, 39, 40, 41, 42, 43, 44, 45, 46, 47, 48, 49, 50, 51, 52, 53, 54, 55, 56, 57, 58, 59, 60, 61, 62, 63, 64, 65, 66, 67, 68, 69, 70, 71, 72, 73, 74, 75, 76, 77, 78, 79, 80, 81, 82, 83, 84, 85, 86, 87, 88, 89, 90, 91, 92, 93, 94, 95, 96, 97, 98, 99, 100, 101, 102, 103, 104, 105, 106, 107, 108, 109, 110, 111, 112, 113, 114, 115, 116, 117, 118, 119, 120, 121, 122, 123, 124, 125, 126, 127, 128, 129, 130, 131, 132, 133, 134, 135, 136, 137, 138, 139, 140, 141, 142, 143, 144, 145, 146, 147, 148, 149] (by decide +kernel) (by decide +kernel)
set_option maxRecDepth 20000 in
theorem gX0_liveDays_X0_liveDay : GoodIn wsX0_liveDays (wsV RX0 183 RX0 yX0_liveDay wsX0_liveDay) := goodIn_app (goodIn_of _ (by decide +kernel)) ggX0_liveDays_X0_liveDay
set_option maxRecDepth 20000 in
theorem ggX0_liveDay_X0_creditInterest : GoodIn wsX0_liveDay wsX0_creditInterest := goodIn_r _ [10, 11, 12, 1, 3, 13, 14, 5, 15, 16, 17, 18, 19, 20, 21, 22, 23, 24, 25, 26, 106, 107, 108, 109, 110, 111, 112, 113, 114, 115, 116, 117, 118, 119, 120, 121, 122, 123, 124, 125, 126, 127, 128] (by decide +kernel) (by decide +kernel)
set_option maxRecDepth 20000 in
theorem gX0_liveDay_X0_creditInterest : GoodIn wsX0_liveDay (wsV RX0 186 RX0 yX0_creditInterest wsX0_creditInterest) := goodIn_app (goodIn_of _ (by decide +kernel)) ggX0_liveDay_X0_creditInterest
set_option maxRecDepth 20000 in
theorem ggX0_liveDay_X0_makeDue : GoodIn wsX0_liveDay wsX0_makeDue := goodIn_r _ [30, 31, 32, 5, 33, 34, 35, 36, 37, 9, 38, 39, 40, 41, 42, 43, 44, 45, 46, 47, 48, 49, 50, 51, 52, 53, 54, 55, 56, 57, 58, 59, 60, 61, 62, 63, 64, 65, 66, 67, 68, 106, 107, 108, 109, 110, 111, 112, 113, 114, 115, 116, 117, 118, 119, 120, 121, 122, 123, 124, 125, 129, 130, 131, 132, 133, 134, 135, 136, 137, 138, 139, 140, 141, 142, 143, 144, 145] (by decide +kernel) (by decide +kernel)
set_option maxRecDepth 20000 in
theorem gX0_liveDay_X0_makeDue : GoodIn wsX0_liveDay (wsV RX0 189 RX0 yX0_makeDue wsX0_makeDue) := goodIn_app (goodIn_of _ (by decide +kernel)) ggX0_liveDay_X0_makeDue
set_option maxRecDepth 20000 in
theorem ggX0_liveDay_X0_payDue : GoodIn wsX0_liveDay wsX0_payDue := goodIn_r _ [72, 31, 73, 24, 25, 26, 74, 75, 76, 9, 77, 78, 79, 80, 81, 82, 32, 83, 84, 85, 86, 2, 87, 88, 89, 90, 91, 5, 92, 93, 94, 95, 34, 96, 97, 98, 99, 100, 53, 52, 14, 101, 102, 103, 46, 104, 105, 15, 16, 17, 18, 19, 20, 21, 22, 23, 106, 107, 108, 109, 110, 111, 112, 113, 114, 115, 116, 117, 118, 119, 120, 121, 122, 123, 124, 125, 129, 130, 131, 132, 133, 134, 135, 136, 137, 138, 139, 140, 141, 142, 143, 144, 145, 126, 127, 128] (by decide +kernel) (by decide +kernel)
set_option maxRecDepth 20000 in
theorem gX0_liveDay_X0_payDue : GoodIn wsX0_liveDay (wsV RX0 192 RX0 yX0_payDue wsX0_payDue) := goodIn_app (goodIn_of _ (by decide +kernel)) ggX0_liveDay_X0_payDue
set_option maxRecDepth 20000 in
theorem ggX0_creditInterest_X2_enter : GoodIn wsX0_creditInterest wsX2_enter := goodIn_r _ [12, 13, 14, 15, 16, 17, 18, 19, 40, 41, 42] (by decide +kernel) (by decide +kernel)
set_option maxRecDepth 20000 in
theorem gX0_creditInterest_X2_enter : GoodIn wsX0_creditInterest (wsV RX0 151 RX2 yX2_enter wsX2_enter) := goodIn_app (goodIn_of _ (by decide +kernel)) ggX0_creditInterest_X2_enter
set_option maxRecDepth 20000 in
theorem ggX0_makeDue_X0_doneSet : GoodIn wsX0_makeDue wsX0_doneSet := goodIn_r _ [10, 1, 2, 41, 42, 43, 44, 45, 46, 47, 48, 49, 50, 51, 52, 53, 54, 55, 56, 57, 58, 59, 60, 61, 62, 63, 64, 65, 66, 67, 68, 69, 70, 71, 72, 73, 74, 75, 76, 77] (by decide +kernel) (by decide +kernel)
set_option maxRecDepth 20000 in
theorem gX0_makeDue_X0_doneSet : GoodIn wsX0_makeDue (wsV RX0 123 RX0 yX0_doneSet wsX0_doneSet) := goodIn_app (goodIn_of _ (by decide +kernel)) ggX0_makeDue_X0_doneSet
theorem dX0_copyFrom_0 : decode cX0_copyFrom 0 = .ok (.aload_n 0, 1) := by decide +kernel
theorem dX0_copyFrom_1 : decode cX0_copyFrom 1 = .ok (.aload_n 1, 1) := by decide +kernel
theorem dX0_copyFrom_2 : decode cX0_copyFrom 2 = .ok (.getfield 31, 3) := by decide +kernel
theorem dX0_copyFrom_5 : decode cX0_copyFrom 5 = .ok (.putfield 31, 3) := by decide +kernel
theorem dX0_copyFrom_8 : decode cX0_copyFrom 8 = .ok (.aload_n 0, 1) := by decide +kernel
theorem dX0_copyFrom_9 : decode cX0_copyFrom 9 = .ok (.getfield 12, 3) := by decide +kernel
theorem dX0_copyFrom_12 : decode cX0_copyFrom 12 = .ok (.aload_n 1, 1) := by decide +kernel
theorem dX0_copyFrom_13 : decode cX0_copyFrom 13 = .ok (.getfield 12, 3) := by decide +kernel
theorem dX0_copyFrom_16 : decode cX0_copyFrom 16 = .ok (.invokevirtual 99, 3) := by decide +kernel
theorem dX0_copyFrom_19 : decode cX0_copyFrom 19 = .ok (.aload_n 1, 1) := by decide +kernel
theorem dX0_copyFrom_20 : decode cX0_copyFrom 20 = .ok (.getfield 18, 3) := by decide +kernel
theorem dX0_copyFrom_23 : decode cX0_copyFrom 23 = .ok (.iconst 0, 1) := by decide +kernel
theorem dX0_copyFrom_24 : decode cX0_copyFrom 24 = .ok (.aload_n 0, 1) := by decide +kernel
theorem dX0_copyFrom_25 : decode cX0_copyFrom 25 = .ok (.getfield 18, 3) := by decide +kernel
theorem dX0_copyFrom_28 : decode cX0_copyFrom 28 = .ok (.iconst 0, 1) := by decide +kernel
theorem dX0_copyFrom_29 : decode cX0_copyFrom 29 = .ok (.bipush 10, 2) := by decide +kernel
theorem dX0_copyFrom_31 : decode cX0_copyFrom 31 = .ok (.invokestatic 103, 3) := by decide +kernel
theorem dX0_copyFrom_34 : decode cX0_copyFrom 34 = .ok (.aload_n 1, 1) := by decide +kernel
theorem dX0_copyFrom_35 : decode cX0_copyFrom 35 = .ok (.getfield 22, 3) := by decide +kernel
theorem dX0_copyFrom_38 : decode cX0_copyFrom 38 = .ok (.iconst 0, 1) := by decide +kernel
theorem dX0_copyFrom_39 : decode cX0_copyFrom 39 = .ok (.aload_n 0, 1) := by decide +kernel
theorem dX0_copyFrom_40 : decode cX0_copyFrom 40 = .ok (.getfield 22, 3) := by decide +kernel
theorem dX0_copyFrom_43 : decode cX0_copyFrom 43 = .ok (.iconst 0, 1) := by decide +kernel
theorem dX0_copyFrom_44 : decode cX0_copyFrom 44 = .ok (.bipush 10, 2) := by decide +kernel
theorem dX0_copyFrom_46 : decode cX0_copyFrom 46 = .ok (.invokestatic 103, 3) := by decide +kernel
theorem dX0_copyFrom_49 : decode cX0_copyFrom 49 = .ok (.aload_n 1, 1) := by decide +kernel
theorem dX0_copyFrom_50 : decode cX0_copyFrom 50 = .ok (.getfield 25, 3) := by decide +kernel
theorem dX0_copyFrom_53 : decode cX0_copyFrom 53 = .ok (.iconst 0, 1) := by decide +kernel
theorem dX0_copyFrom_54 : decode cX0_copyFrom 54 = .ok (.aload_n 0, 1) := by decide +kernel
theorem dX0_copyFrom_55 : decode cX0_copyFrom 55 = .ok (.getfield 25, 3) := by decide +kernel
theorem dX0_copyFrom_58 : decode cX0_copyFrom 58 = .ok (.iconst 0, 1) := by decide +kernel
theorem dX0_copyFrom_59 : decode cX0_copyFrom 59 = .ok (.bipush 10, 2) := by decide +kernel
theorem dX0_copyFrom_61 : decode cX0_copyFrom 61 = .ok (.invokestatic 103, 3) := by decide +kernel
theorem dX0_copyFrom_64 : decode cX0_copyFrom 64 = .ok (.aload_n 1, 1) := by decide +kernel
theorem dX0_copyFrom_65 : decode cX0_copyFrom 65 = .ok (.getfield 28, 3) := by decide +kernel
theorem dX0_copyFrom_68 : decode cX0_copyFrom 68 = .ok (.iconst 0, 1) := by decide +kernel
theorem dX0_copyFrom_69 : decode cX0_copyFrom 69 = .ok (.aload_n 0, 1) := by decide +kernel
theorem dX0_copyFrom_70 : decode cX0_copyFrom 70 = .ok (.getfield 28, 3) := by decide +kernel
theorem dX0_copyFrom_73 : decode cX0_copyFrom 73 = .ok (.iconst 0, 1) := by decide +kernel
theorem dX0_copyFrom_74 : decode cX0_copyFrom 74 = .ok (.bipush 10, 2) := by decide +kernel
theorem dX0_copyFrom_76 : decode cX0_copyFrom 76 = .ok (.invokestatic 103, 3) := by decide +kernel
theorem dX0_copyFrom_79 : decode cX0_copyFrom 79 = .ok (.aload_n 0, 1) := by decide +kernel
theorem dX0_copyFrom_80 : decode cX0_copyFrom 80 = .ok (.aload_n 1, 1) := by decide +kernel
theorem dX0_copyFrom_81 : decode cX0_copyFrom 81 = .ok (.getfield 40, 3) := by decide +kernel
theorem dX0_copyFrom_84 : decode cX0_copyFrom 84 = .ok (.putfield 40, 3) := by decide +kernel
theorem dX0_copyFrom_87 : decode cX0_copyFrom 87 = .ok (.aload_n 0, 1) := by decide +kernel
theorem dX0_copyFrom_88 : decode cX0_copyFrom 88 = .ok (.aload_n 1, 1) := by decide +kernel
theorem dX0_copyFrom_89 : decode cX0_copyFrom 89 = .ok (.getfield 44, 3) := by decide +kernel
theorem dX0_copyFrom_92 : decode cX0_copyFrom 92 = .ok (.putfield 44, 3) := by decide +kernel
theorem dX0_copyFrom_95 : decode cX0_copyFrom 95 = .ok (.aload_n 0, 1) := by decide +kernel
theorem dX0_copyFrom_96 : decode cX0_copyFrom 96 = .ok (.aload_n 1, 1) := by decide +kernel
theorem dX0_copyFrom_97 : decode cX0_copyFrom 97 = .ok (.getfield 47, 3) := by decide +kernel
theorem dX0_copyFrom_100 : decode cX0_copyFrom 100 = .ok (.putfield 47, 3) := by decide +kernel
theorem dX0_copyFrom_103 : decode cX0_copyFrom 103 = .ok (.aload_n 0, 1) := by decide +kernel
theorem dX0_copyFrom_104 : decode cX0_copyFrom 104 = .ok (.aload_n 1, 1) := by decide +kernel
theorem dX0_copyFrom_105 : decode cX0_copyFrom 105 = .ok (.getfield 50, 3) := by decide +kernel
theorem dX0_copyFrom_108 : decode cX0_copyFrom 108 = .ok (.putfield 50, 3) := by decide +kernel
theorem dX0_copyFrom_111 : decode cX0_copyFrom 111 = .ok (.aload_n 0, 1) := by decide +kernel
theorem dX0_copyFrom_112 : decode cX0_copyFrom 112 = .ok (.aload_n 1, 1) := by decide +kernel
theorem dX0_copyFrom_113 : decode cX0_copyFrom 113 = .ok (.getfield 54, 3) := by decide +kernel
theorem dX0_copyFrom_116 : decode cX0_copyFrom 116 = .ok (.putfield 54, 3) := by decide +kernel
theorem dX0_copyFrom_119 : decode cX0_copyFrom 119 = .ok (.aload_n 0, 1) := by decide +kernel
theorem dX0_copyFrom_120 : decode cX0_copyFrom 120 = .ok (.aload_n 1, 1) := by decide +kernel
theorem dX0_copyFrom_121 : decode cX0_copyFrom 121 = .ok (.getfield 57, 3) := by decide +kernel
theorem dX0_copyFrom_124 : decode cX0_copyFrom 124 = .ok (.putfield 57, 3) := by decide +kernel
theorem dX0_copyFrom_127 : decode cX0_copyFrom 127 = .ok (.aload_n 0, 1) := by decide +kernel
theorem dX0_copyFrom_128 : decode cX0_copyFrom 128 = .ok (.aload_n 1, 1) := by decide +kernel
theorem dX0_copyFrom_129 : decode cX0_copyFrom 129 = .ok (.getfield 60, 3) := by decide +kernel
theorem dX0_copyFrom_132 : decode cX0_copyFrom 132 = .ok (.putfield 60, 3) := by decide +kernel
theorem dX0_copyFrom_135 : decode cX0_copyFrom 135 = .ok (.aload_n 0, 1) := by decide +kernel
theorem dX0_copyFrom_136 : decode cX0_copyFrom 136 = .ok (.aload_n 1, 1) := by decide +kernel
theorem dX0_copyFrom_137 : decode cX0_copyFrom 137 = .ok (.getfield 63, 3) := by decide +kernel
theorem dX0_copyFrom_140 : decode cX0_copyFrom 140 = .ok (.putfield 63, 3) := by decide +kernel
theorem dX0_copyFrom_143 : decode cX0_copyFrom 143 = .ok (.aload_n 0, 1) := by decide +kernel
theorem dX0_copyFrom_144 : decode cX0_copyFrom 144 = .ok (.aload_n 1, 1) := by decide +kernel
theorem dX0_copyFrom_145 : decode cX0_copyFrom 145 = .ok (.getfield 66, 3) := by decide +kernel
theorem dX0_copyFrom_148 : decode cX0_copyFrom 148 = .ok (.putfield 66, 3) := by decide +kernel
theorem dX0_copyFrom_151 : decode cX0_copyFrom 151 = .ok (.aload_n 0, 1) := by decide +kernel
theorem dX0_copyFrom_152 : decode cX0_copyFrom 152 = .ok (.aload_n 1, 1) := by decide +kernel
theorem dX0_copyFrom_153 : decode cX0_copyFrom 153 = .ok (.getfield 74, 3) := by decide +kernel
theorem dX0_copyFrom_156 : decode cX0_copyFrom 156 = .ok (.putfield 74, 3) := by decide +kernel
theorem dX0_copyFrom_159 : decode cX0_copyFrom 159 = .ok (.aload_n 0, 1) := by decide +kernel
theorem dX0_copyFrom_160 : decode cX0_copyFrom 160 = .ok (.aload_n 1, 1) := by decide +kernel
theorem dX0_copyFrom_161 : decode cX0_copyFrom 161 = .ok (.getfield 78, 3) := by decide +kernel
theorem dX0_copyFrom_164 : decode cX0_copyFrom 164 = .ok (.putfield 78, 3) := by decide +kernel
theorem dX0_copyFrom_167 : decode cX0_copyFrom 167 = .ok (.aload_n 0, 1) := by decide +kernel
theorem dX0_copyFrom_168 : decode cX0_copyFrom 168 = .ok (.aload_n 1, 1) := by decide +kernel
theorem dX0_copyFrom_169 : decode cX0_copyFrom 169 = .ok (.getfield 82, 3) := by decide +kernel
theorem dX0_copyFrom_172 : decode cX0_copyFrom 172 = .ok (.putfield 82, 3) := by decide +kernel
theorem dX0_copyFrom_175 : decode cX0_copyFrom 175 = .ok (.aload_n 0, 1) := by decide +kernel
theorem dX0_copyFrom_176 : decode cX0_copyFrom 176 = .ok (.aload_n 1, 1) := by decide +kernel
theorem dX0_copyFrom_177 : decode cX0_copyFrom 177 = .ok (.getfield 83, 3) := by decide +kernel
theorem dX0_copyFrom_180 : decode cX0_copyFrom 180 = .ok (.putfield 83, 3) := by decide +kernel
theorem dX0_copyFrom_183 : decode cX0_copyFrom 183 = .ok (.aload_n 0, 1) := by decide +kernel
theorem dX0_copyFrom_184 : decode cX0_copyFrom 184 = .ok (.aload_n 1, 1) := by decide +kernel
theorem dX0_copyFrom_185 : decode cX0_copyFrom 185 = .ok (.getfield 86, 3) := by decide +kernel
theorem dX0_copyFrom_188 : decode cX0_copyFrom 188 = .ok (.putfield 86, 3) := by decide +kernel
theorem dX0_copyFrom_191 : decode cX0_copyFrom 191 = .ok (.return_, 1) := by decide +kernel
theorem dX0_creditInterest_0 : decode cX0_creditInterest 0 = .ok (.ldc2_w 195, 3) := by decide +kernel
theorem dX0_creditInterest_3 : decode cX0_creditInterest 3 = .ok (.aload_n 0, 1) := by decide +kernel
theorem dX0_creditInterest_4 : decode cX0_creditInterest 4 = .ok (.getfield 78, 3) := by decide +kernel
theorem dX0_creditInterest_7 : decode cX0_creditInterest 7 = .ok (.i2l, 1) := by decide +kernel
theorem dX0_creditInterest_8 : decode cX0_creditInterest 8 = .ok (.lmul, 1) := by decide +kernel
theorem dX0_creditInterest_9 : decode cX0_creditInterest 9 = .ok (.lstore_n 1, 1) := by decide +kernel
theorem dX0_creditInterest_10 : decode cX0_creditInterest 10 = .ok (.lload_n 1, 1) := by decide +kernel
theorem dX0_creditInterest_11 : decode cX0_creditInterest 11 = .ok (.lconst 0, 1) := by decide +kernel
theorem dX0_creditInterest_12 : decode cX0_creditInterest 12 = .ok (.lcmp, 1) := by decide +kernel
theorem dX0_creditInterest_13 : decode cX0_creditInterest 13 = .ok (.ifCond .gt 4, 3) := by decide +kernel
theorem dX0_creditInterest_16 : decode cX0_creditInterest 16 = .ok (.return_, 1) := by decide +kernel
theorem dX0_creditInterest_17 : decode cX0_creditInterest 17 = .ok (.aload_n 0, 1) := by decide +kernel
theorem dX0_creditInterest_18 : decode cX0_creditInterest 18 = .ok (.getfield 57, 3) := by decide +kernel
theorem dX0_creditInterest_21 : decode cX0_creditInterest 21 = .ok (.lload_n 1, 1) := by decide +kernel
theorem dX0_creditInterest_22 : decode cX0_creditInterest 22 = .ok (.ldiv, 1) := by decide +kernel
theorem dX0_creditInterest_23 : decode cX0_creditInterest 23 = .ok (.lstore_n 3, 1) := by decide +kernel
theorem dX0_creditInterest_24 : decode cX0_creditInterest 24 = .ok (.aload_n 0, 1) := by decide +kernel
theorem dX0_creditInterest_25 : decode cX0_creditInterest 25 = .ok (.dup, 1) := by decide +kernel
theorem dX0_creditInterest_26 : decode cX0_creditInterest 26 = .ok (.getfield 57, 3) := by decide +kernel
theorem dX0_creditInterest_29 : decode cX0_creditInterest 29 = .ok (.lload_n 3, 1) := by decide +kernel
theorem dX0_creditInterest_30 : decode cX0_creditInterest 30 = .ok (.lload_n 1, 1) := by decide +kernel
theorem dX0_creditInterest_31 : decode cX0_creditInterest 31 = .ok (.lmul, 1) := by decide +kernel
theorem dX0_creditInterest_32 : decode cX0_creditInterest 32 = .ok (.lsub, 1) := by decide +kernel
theorem dX0_creditInterest_33 : decode cX0_creditInterest 33 = .ok (.putfield 57, 3) := by decide +kernel
theorem dX0_creditInterest_36 : decode cX0_creditInterest 36 = .ok (.aload_n 0, 1) := by decide +kernel
theorem dX0_creditInterest_37 : decode cX0_creditInterest 37 = .ok (.dup, 1) := by decide +kernel
theorem dX0_creditInterest_38 : decode cX0_creditInterest 38 = .ok (.getfield 50, 3) := by decide +kernel
theorem dX0_creditInterest_41 : decode cX0_creditInterest 41 = .ok (.lload_n 3, 1) := by decide +kernel
theorem dX0_creditInterest_42 : decode cX0_creditInterest 42 = .ok (.ladd, 1) := by decide +kernel
theorem dX0_creditInterest_43 : decode cX0_creditInterest 43 = .ok (.putfield 50, 3) := by decide +kernel
theorem dX0_creditInterest_46 : decode cX0_creditInterest 46 = .ok (.aload_n 0, 1) := by decide +kernel
theorem dX0_creditInterest_47 : decode cX0_creditInterest 47 = .ok (.dup, 1) := by decide +kernel
theorem dX0_creditInterest_48 : decode cX0_creditInterest 48 = .ok (.getfield 54, 3) := by decide +kernel
theorem dX0_creditInterest_51 : decode cX0_creditInterest 51 = .ok (.lload_n 3, 1) := by decide +kernel
theorem dX0_creditInterest_52 : decode cX0_creditInterest 52 = .ok (.ladd, 1) := by decide +kernel
theorem dX0_creditInterest_53 : decode cX0_creditInterest 53 = .ok (.putfield 54, 3) := by decide +kernel
theorem dX0_creditInterest_56 : decode cX0_creditInterest 56 = .ok (.aload_n 0, 1) := by decide +kernel
theorem dX0_creditInterest_57 : decode cX0_creditInterest 57 = .ok (.getfield 12, 3) := by decide +kernel
theorem dX0_creditInterest_60 : decode cX0_creditInterest 60 = .ok (.iconst 3, 1) := by decide +kernel
theorem dX0_creditInterest_61 : decode cX0_creditInterest 61 = .ok (.aload_n 0, 1) := by decide +kernel
theorem dX0_creditInterest_62 : decode cX0_creditInterest 62 = .ok (.getfield 40, 3) := by decide +kernel
theorem dX0_creditInterest_65 : decode cX0_creditInterest 65 = .ok (.lload_n 3, 1) := by decide +kernel
theorem dX0_creditInterest_66 : decode cX0_creditInterest 66 = .ok (.l2i, 1) := by decide +kernel
theorem dX0_creditInterest_67 : decode cX0_creditInterest 67 = .ok (.iconst (-1), 1) := by decide +kernel
theorem dX0_creditInterest_68 : decode cX0_creditInterest 68 = .ok (.invokevirtual 151, 3) := by decide +kernel
theorem dX0_creditInterest_71 : decode cX0_creditInterest 71 = .ok (.return_, 1) := by decide +kernel
theorem dX0_doneSet_0 : decode cX0_doneSet 0 = .ok (.iconst 0, 1) := by decide +kernel
theorem dX0_doneSet_1 : decode cX0_doneSet 1 = .ok (.istore_n 1, 1) := by decide +kernel
theorem dX0_doneSet_2 : decode cX0_doneSet 2 = .ok (.iconst 0, 1) := by decide +kernel
theorem dX0_doneSet_3 : decode cX0_doneSet 3 = .ok (.istore_n 2, 1) := by decide +kernel
theorem dX0_doneSet_4 : decode cX0_doneSet 4 = .ok (.iload_n 2, 1) := by decide +kernel
theorem dX0_doneSet_5 : decode cX0_doneSet 5 = .ok (.aload_n 0, 1) := by decide +kernel
theorem dX0_doneSet_6 : decode cX0_doneSet 6 = .ok (.getfield 31, 3) := by decide +kernel
theorem dX0_doneSet_9 : decode cX0_doneSet 9 = .ok (.getfield 109, 3) := by decide +kernel
theorem dX0_doneSet_12 : decode cX0_doneSet 12 = .ok (.if_icmp .ge 35, 3) := by decide +kernel
theorem dX0_doneSet_15 : decode cX0_doneSet 15 = .ok (.aload_n 0, 1) := by decide +kernel
theorem dX0_doneSet_16 : decode cX0_doneSet 16 = .ok (.getfield 18, 3) := by decide +kernel
theorem dX0_doneSet_19 : decode cX0_doneSet 19 = .ok (.iload_n 2, 1) := by decide +kernel
theorem dX0_doneSet_20 : decode cX0_doneSet 20 = .ok (.iaload, 1) := by decide +kernel
theorem dX0_doneSet_21 : decode cX0_doneSet 21 = .ok (.iconst 3, 1) := by decide +kernel
theorem dX0_doneSet_22 : decode cX0_doneSet 22 = .ok (.if_icmp .eq 13, 3) := by decide +kernel
theorem dX0_doneSet_25 : decode cX0_doneSet 25 = .ok (.aload_n 0, 1) := by decide +kernel
theorem dX0_doneSet_26 : decode cX0_doneSet 26 = .ok (.getfield 18, 3) := by decide +kernel
theorem dX0_doneSet_29 : decode cX0_doneSet 29 = .ok (.iload_n 2, 1) := by decide +kernel
theorem dX0_doneSet_30 : decode cX0_doneSet 30 = .ok (.iaload, 1) := by decide +kernel
theorem dX0_doneSet_31 : decode cX0_doneSet 31 = .ok (.iconst 4, 1) := by decide +kernel
theorem dX0_doneSet_32 : decode cX0_doneSet 32 = .ok (.if_icmp .ne 9, 3) := by decide +kernel
theorem dX0_doneSet_35 : decode cX0_doneSet 35 = .ok (.iload_n 1, 1) := by decide +kernel
theorem dX0_doneSet_36 : decode cX0_doneSet 36 = .ok (.iconst 1, 1) := by decide +kernel
theorem dX0_doneSet_37 : decode cX0_doneSet 37 = .ok (.iload_n 2, 1) := by decide +kernel
theorem dX0_doneSet_38 : decode cX0_doneSet 38 = .ok (.ishl, 1) := by decide +kernel
theorem dX0_doneSet_39 : decode cX0_doneSet 39 = .ok (.ior, 1) := by decide +kernel
theorem dX0_doneSet_40 : decode cX0_doneSet 40 = .ok (.istore_n 1, 1) := by decide +kernel
theorem dX0_doneSet_41 : decode cX0_doneSet 41 = .ok (.iinc 2 1, 3) := by decide +kernel
theorem dX0_doneSet_44 : decode cX0_doneSet 44 = .ok (.goto (-40), 3) := by decide +kernel
theorem dX0_doneSet_47 : decode cX0_doneSet 47 = .ok (.iload_n 1, 1) := by decide +kernel
theorem dX0_doneSet_48 : decode cX0_doneSet 48 = .ok (.ireturn, 1) := by decide +kernel
theorem dX0_isShort_0 : decode cX0_isShort 0 = .ok (.iconst 0, 1) := by decide +kernel
theorem dX0_isShort_1 : decode cX0_isShort 1 = .ok (.istore_n 1, 1) := by decide +kernel
theorem dX0_isShort_2 : decode cX0_isShort 2 = .ok (.iload_n 1, 1) := by decide +kernel
theorem dX0_isShort_3 : decode cX0_isShort 3 = .ok (.aload_n 0, 1) := by decide +kernel
theorem dX0_isShort_4 : decode cX0_isShort 4 = .ok (.getfield 31, 3) := by decide +kernel
theorem dX0_isShort_7 : decode cX0_isShort 7 = .ok (.getfield 109, 3) := by decide +kernel
theorem dX0_isShort_10 : decode cX0_isShort 10 = .ok (.if_icmp .ge 27, 3) := by decide +kernel
theorem dX0_isShort_13 : decode cX0_isShort 13 = .ok (.aload_n 0, 1) := by decide +kernel
theorem dX0_isShort_14 : decode cX0_isShort 14 = .ok (.iload_n 1, 1) := by decide +kernel
theorem dX0_isShort_15 : decode cX0_isShort 15 = .ok (.invokevirtual 141, 3) := by decide +kernel
theorem dX0_isShort_18 : decode cX0_isShort 18 = .ok (.ifCond .eq 13, 3) := by decide +kernel
theorem dX0_isShort_21 : decode cX0_isShort 21 = .ok (.aload_n 0, 1) := by decide +kernel
theorem dX0_isShort_22 : decode cX0_isShort 22 = .ok (.iload_n 1, 1) := by decide +kernel
theorem dX0_isShort_23 : decode cX0_isShort 23 = .ok (.invokevirtual 144, 3) := by decide +kernel
theorem dX0_isShort_26 : decode cX0_isShort 26 = .ok (.ifCond .le 5, 3) := by decide +kernel
theorem dX0_isShort_29 : decode cX0_isShort 29 = .ok (.iconst 1, 1) := by decide +kernel
theorem dX0_isShort_30 : decode cX0_isShort 30 = .ok (.ireturn, 1) := by decide +kernel
theorem dX0_isShort_31 : decode cX0_isShort 31 = .ok (.iinc 1 1, 3) := by decide +kernel
theorem dX0_isShort_34 : decode cX0_isShort 34 = .ok (.goto (-32), 3) := by decide +kernel
theorem dX0_isShort_37 : decode cX0_isShort 37 = .ok (.iconst 0, 1) := by decide +kernel
theorem dX0_isShort_38 : decode cX0_isShort 38 = .ok (.ireturn, 1) := by decide +kernel
theorem dX0_liveDay_0 : decode cX0_liveDay 0 = .ok (.aload_n 0, 1) := by decide +kernel
theorem dX0_liveDay_1 : decode cX0_liveDay 1 = .ok (.dup, 1) := by decide +kernel
theorem dX0_liveDay_2 : decode cX0_liveDay 2 = .ok (.getfield 57, 3) := by decide +kernel
theorem dX0_liveDay_5 : decode cX0_liveDay 5 = .ok (.aload_n 0, 1) := by decide +kernel
theorem dX0_liveDay_6 : decode cX0_liveDay 6 = .ok (.getfield 47, 3) := by decide +kernel
theorem dX0_liveDay_9 : decode cX0_liveDay 9 = .ok (.i2l, 1) := by decide +kernel
theorem dX0_liveDay_10 : decode cX0_liveDay 10 = .ok (.aload_n 0, 1) := by decide +kernel
theorem dX0_liveDay_11 : decode cX0_liveDay 11 = .ok (.getfield 50, 3) := by decide +kernel
theorem dX0_liveDay_14 : decode cX0_liveDay 14 = .ok (.ladd, 1) := by decide +kernel
theorem dX0_liveDay_15 : decode cX0_liveDay 15 = .ok (.aload_n 0, 1) := by decide +kernel
theorem dX0_liveDay_16 : decode cX0_liveDay 16 = .ok (.getfield 74, 3) := by decide +kernel
theorem dX0_liveDay_19 : decode cX0_liveDay 19 = .ok (.i2l, 1) := by decide +kernel
theorem dX0_liveDay_20 : decode cX0_liveDay 20 = .ok (.lmul, 1) := by decide +kernel
theorem dX0_liveDay_21 : decode cX0_liveDay 21 = .ok (.ladd, 1) := by decide +kernel
theorem dX0_liveDay_22 : decode cX0_liveDay 22 = .ok (.putfield 57, 3) := by decide +kernel
theorem dX0_liveDay_25 : decode cX0_liveDay 25 = .ok (.aload_n 0, 1) := by decide +kernel
theorem dX0_liveDay_26 : decode cX0_liveDay 26 = .ok (.dup, 1) := by decide +kernel
theorem dX0_liveDay_27 : decode cX0_liveDay 27 = .ok (.getfield 40, 3) := by decide +kernel
theorem dX0_liveDay_30 : decode cX0_liveDay 30 = .ok (.iconst 1, 1) := by decide +kernel
theorem dX0_liveDay_31 : decode cX0_liveDay 31 = .ok (.iadd, 1) := by decide +kernel
theorem dX0_liveDay_32 : decode cX0_liveDay 32 = .ok (.putfield 40, 3) := by decide +kernel
theorem dX0_liveDay_35 : decode cX0_liveDay 35 = .ok (.aload_n 0, 1) := by decide +kernel
theorem dX0_liveDay_36 : decode cX0_liveDay 36 = .ok (.getfield 40, 3) := by decide +kernel
theorem dX0_liveDay_39 : decode cX0_liveDay 39 = .ok (.bipush 30, 2) := by decide +kernel
theorem dX0_liveDay_41 : decode cX0_liveDay 41 = .ok (.irem, 1) := by decide +kernel
theorem dX0_liveDay_42 : decode cX0_liveDay 42 = .ok (.ifCond .ne 7, 3) := by decide +kernel
theorem dX0_liveDay_45 : decode cX0_liveDay 45 = .ok (.aload_n 0, 1) := by decide +kernel
theorem dX0_liveDay_46 : decode cX0_liveDay 46 = .ok (.invokevirtual 186, 3) := by decide +kernel
theorem dX0_liveDay_49 : decode cX0_liveDay 49 = .ok (.aload_n 0, 1) := by decide +kernel
theorem dX0_liveDay_50 : decode cX0_liveDay 50 = .ok (.invokevirtual 189, 3) := by decide +kernel
theorem dX0_liveDay_53 : decode cX0_liveDay 53 = .ok (.aload_n 0, 1) := by decide +kernel
theorem dX0_liveDay_54 : decode cX0_liveDay 54 = .ok (.invokevirtual 192, 3) := by decide +kernel
theorem dX0_liveDay_57 : decode cX0_liveDay 57 = .ok (.return_, 1) := by decide +kernel
theorem dX0_liveDays_0 : decode cX0_liveDays 0 = .ok (.iconst 0, 1) := by decide +kernel
theorem dX0_liveDays_1 : decode cX0_liveDays 1 = .ok (.istore_n 2, 1) := by decide +kernel
theorem dX0_liveDays_2 : decode cX0_liveDays 2 = .ok (.iload_n 2, 1) := by decide +kernel
theorem dX0_liveDays_3 : decode cX0_liveDays 3 = .ok (.iload_n 1, 1) := by decide +kernel
theorem dX0_liveDays_4 : decode cX0_liveDays 4 = .ok (.if_icmp .ge 13, 3) := by decide +kernel
theorem dX0_liveDays_7 : decode cX0_liveDays 7 = .ok (.aload_n 0, 1) := by decide +kernel
theorem dX0_liveDays_8 : decode cX0_liveDays 8 = .ok (.invokevirtual 183, 3) := by decide +kernel
theorem dX0_liveDays_11 : decode cX0_liveDays 11 = .ok (.iinc 2 1, 3) := by decide +kernel
theorem dX0_liveDays_14 : decode cX0_liveDays 14 = .ok (.goto (-12), 3) := by decide +kernel
theorem dX0_liveDays_17 : decode cX0_liveDays 17 = .ok (.return_, 1) := by decide +kernel
theorem dX0_makeDue_0 : decode cX0_makeDue 0 = .ok (.aload_n 0, 1) := by decide +kernel
theorem dX0_makeDue_1 : decode cX0_makeDue 1 = .ok (.invokevirtual 123, 3) := by decide +kernel
theorem dX0_makeDue_4 : decode cX0_makeDue 4 = .ok (.istore_n 1, 1) := by decide +kernel
theorem dX0_makeDue_5 : decode cX0_makeDue 5 = .ok (.iconst 0, 1) := by decide +kernel
theorem dX0_makeDue_6 : decode cX0_makeDue 6 = .ok (.istore_n 2, 1) := by decide +kernel
theorem dX0_makeDue_7 : decode cX0_makeDue 7 = .ok (.iload_n 2, 1) := by decide +kernel
theorem dX0_makeDue_8 : decode cX0_makeDue 8 = .ok (.aload_n 0, 1) := by decide +kernel
theorem dX0_makeDue_9 : decode cX0_makeDue 9 = .ok (.getfield 31, 3) := by decide +kernel
theorem dX0_makeDue_12 : decode cX0_makeDue 12 = .ok (.getfield 109, 3) := by decide +kernel
theorem dX0_makeDue_15 : decode cX0_makeDue 15 = .ok (.if_icmp .ge 52, 3) := by decide +kernel
theorem dX0_makeDue_18 : decode cX0_makeDue 18 = .ok (.aload_n 0, 1) := by decide +kernel
theorem dX0_makeDue_19 : decode cX0_makeDue 19 = .ok (.getfield 18, 3) := by decide +kernel
theorem dX0_makeDue_22 : decode cX0_makeDue 22 = .ok (.iload_n 2, 1) := by decide +kernel
theorem dX0_makeDue_23 : decode cX0_makeDue 23 = .ok (.iaload, 1) := by decide +kernel
theorem dX0_makeDue_24 : decode cX0_makeDue 24 = .ok (.ifCond .ne 37, 3) := by decide +kernel
theorem dX0_makeDue_27 : decode cX0_makeDue 27 = .ok (.aload_n 0, 1) := by decide +kernel
theorem dX0_makeDue_28 : decode cX0_makeDue 28 = .ok (.iload_n 2, 1) := by decide +kernel
theorem dX0_makeDue_29 : decode cX0_makeDue 29 = .ok (.aload_n 0, 1) := by decide +kernel
theorem dX0_makeDue_30 : decode cX0_makeDue 30 = .ok (.getfield 40, 3) := by decide +kernel
theorem dX0_makeDue_33 : decode cX0_makeDue 33 = .ok (.aload_n 0, 1) := by decide +kernel
theorem dX0_makeDue_34 : decode cX0_makeDue 34 = .ok (.getfield 83, 3) := by decide +kernel
theorem dX0_makeDue_37 : decode cX0_makeDue 37 = .ok (.iload_n 1, 1) := by decide +kernel
theorem dX0_makeDue_38 : decode cX0_makeDue 38 = .ok (.invokevirtual 127, 3) := by decide +kernel
theorem dX0_makeDue_41 : decode cX0_makeDue 41 = .ok (.ifCond .eq 20, 3) := by decide +kernel
theorem dX0_makeDue_44 : decode cX0_makeDue 44 = .ok (.aload_n 0, 1) := by decide +kernel
theorem dX0_makeDue_45 : decode cX0_makeDue 45 = .ok (.getfield 18, 3) := by decide +kernel
theorem dX0_makeDue_48 : decode cX0_makeDue 48 = .ok (.iload_n 2, 1) := by decide +kernel
theorem dX0_makeDue_49 : decode cX0_makeDue 49 = .ok (.iconst 1, 1) := by decide +kernel
theorem dX0_makeDue_50 : decode cX0_makeDue 50 = .ok (.iastore, 1) := by decide +kernel
theorem dX0_makeDue_51 : decode cX0_makeDue 51 = .ok (.aload_n 0, 1) := by decide +kernel
theorem dX0_makeDue_52 : decode cX0_makeDue 52 = .ok (.getfield 28, 3) := by decide +kernel
theorem dX0_makeDue_55 : decode cX0_makeDue 55 = .ok (.iload_n 2, 1) := by decide +kernel
theorem dX0_makeDue_56 : decode cX0_makeDue 56 = .ok (.aload_n 0, 1) := by decide +kernel
theorem dX0_makeDue_57 : decode cX0_makeDue 57 = .ok (.getfield 40, 3) := by decide +kernel
theorem dX0_makeDue_60 : decode cX0_makeDue 60 = .ok (.iastore, 1) := by decide +kernel
theorem dX0_makeDue_61 : decode cX0_makeDue 61 = .ok (.iinc 2 1, 3) := by decide +kernel
theorem dX0_makeDue_64 : decode cX0_makeDue 64 = .ok (.goto (-57), 3) := by decide +kernel
theorem dX0_makeDue_67 : decode cX0_makeDue 67 = .ok (.return_, 1) := by decide +kernel
theorem dX0_payDue_0 : decode cX0_payDue 0 = .ok (.iconst 0, 1) := by decide +kernel
theorem dX0_payDue_1 : decode cX0_payDue 1 = .ok (.istore_n 1, 1) := by decide +kernel
theorem dX0_payDue_2 : decode cX0_payDue 2 = .ok (.iload_n 1, 1) := by decide +kernel
theorem dX0_payDue_3 : decode cX0_payDue 3 = .ok (.aload_n 0, 1) := by decide +kernel
theorem dX0_payDue_4 : decode cX0_payDue 4 = .ok (.getfield 31, 3) := by decide +kernel
theorem dX0_payDue_7 : decode cX0_payDue 7 = .ok (.getfield 109, 3) := by decide +kernel
theorem dX0_payDue_10 : decode cX0_payDue 10 = .ok (.if_icmp .ge 51, 3) := by decide +kernel
theorem dX0_payDue_13 : decode cX0_payDue 13 = .ok (.aload_n 0, 1) := by decide +kernel
theorem dX0_payDue_14 : decode cX0_payDue 14 = .ok (.getfield 31, 3) := by decide +kernel
theorem dX0_payDue_17 : decode cX0_payDue 17 = .ok (.getfield 138, 3) := by decide +kernel
theorem dX0_payDue_20 : decode cX0_payDue 20 = .ok (.iload_n 1, 1) := by decide +kernel
theorem dX0_payDue_21 : decode cX0_payDue 21 = .ok (.iaload, 1) := by decide +kernel
theorem dX0_payDue_22 : decode cX0_payDue 22 = .ok (.istore_n 2, 1) := by decide +kernel
theorem dX0_payDue_23 : decode cX0_payDue 23 = .ok (.aload_n 0, 1) := by decide +kernel
theorem dX0_payDue_24 : decode cX0_payDue 24 = .ok (.iload_n 2, 1) := by decide +kernel
theorem dX0_payDue_25 : decode cX0_payDue 25 = .ok (.invokevirtual 144, 3) := by decide +kernel
theorem dX0_payDue_28 : decode cX0_payDue 28 = .ok (.aload_n 0, 1) := by decide +kernel
theorem dX0_payDue_29 : decode cX0_payDue 29 = .ok (.invokevirtual 158, 3) := by decide +kernel
theorem dX0_payDue_32 : decode cX0_payDue 32 = .ok (.invokestatic 161, 3) := by decide +kernel
theorem dX0_payDue_35 : decode cX0_payDue 35 = .ok (.istore_n 3, 1) := by decide +kernel
theorem dX0_payDue_36 : decode cX0_payDue 36 = .ok (.aload_n 0, 1) := by decide +kernel
theorem dX0_payDue_37 : decode cX0_payDue 37 = .ok (.iload_n 2, 1) := by decide +kernel
theorem dX0_payDue_38 : decode cX0_payDue 38 = .ok (.invokevirtual 141, 3) := by decide +kernel
theorem dX0_payDue_41 : decode cX0_payDue 41 = .ok (.ifCond .eq 14, 3) := by decide +kernel
theorem dX0_payDue_44 : decode cX0_payDue 44 = .ok (.iload_n 3, 1) := by decide +kernel
theorem dX0_payDue_45 : decode cX0_payDue 45 = .ok (.ifCond .le 10, 3) := by decide +kernel
theorem dX0_payDue_48 : decode cX0_payDue 48 = .ok (.aload_n 0, 1) := by decide +kernel
theorem dX0_payDue_49 : decode cX0_payDue 49 = .ok (.iload_n 2, 1) := by decide +kernel
theorem dX0_payDue_50 : decode cX0_payDue 50 = .ok (.iload_n 3, 1) := by decide +kernel
theorem dX0_payDue_51 : decode cX0_payDue 51 = .ok (.invokevirtual 177, 3) := by decide +kernel
theorem dX0_payDue_54 : decode cX0_payDue 54 = .ok (.pop, 1) := by decide +kernel
theorem dX0_payDue_55 : decode cX0_payDue 55 = .ok (.iinc 1 1, 3) := by decide +kernel
theorem dX0_payDue_58 : decode cX0_payDue 58 = .ok (.goto (-56), 3) := by decide +kernel
theorem dX0_payDue_61 : decode cX0_payDue 61 = .ok (.return_, 1) := by decide +kernel
theorem dX0_payments_0 : decode cX0_payments 0 = .ok (.aload_n 0, 1) := by decide +kernel
theorem dX0_payments_1 : decode cX0_payments 1 = .ok (.getfield 60, 3) := by decide +kernel
theorem dX0_payments_4 : decode cX0_payments 4 = .ok (.aload_n 0, 1) := by decide +kernel
theorem dX0_payments_5 : decode cX0_payments 5 = .ok (.getfield 63, 3) := by decide +kernel
theorem dX0_payments_8 : decode cX0_payments 8 = .ok (.iadd, 1) := by decide +kernel
theorem dX0_payments_9 : decode cX0_payments 9 = .ok (.ireturn, 1) := by decide +kernel
theorem dX2_copyFrom_0 : decode cX2_copyFrom 0 = .ok (.aload_n 1, 1) := by decide +kernel
theorem dX2_copyFrom_1 : decode cX2_copyFrom 1 = .ok (.getfield 11, 3) := by decide +kernel
theorem dX2_copyFrom_4 : decode cX2_copyFrom 4 = .ok (.iconst 0, 1) := by decide +kernel
theorem dX2_copyFrom_5 : decode cX2_copyFrom 5 = .ok (.aload_n 0, 1) := by decide +kernel
theorem dX2_copyFrom_6 : decode cX2_copyFrom 6 = .ok (.getfield 11, 3) := by decide +kernel
theorem dX2_copyFrom_9 : decode cX2_copyFrom 9 = .ok (.iconst 0, 1) := by decide +kernel
theorem dX2_copyFrom_10 : decode cX2_copyFrom 10 = .ok (.aload_n 0, 1) := by decide +kernel
theorem dX2_copyFrom_11 : decode cX2_copyFrom 11 = .ok (.getfield 11, 3) := by decide +kernel
theorem dX2_copyFrom_14 : decode cX2_copyFrom 14 = .ok (.arraylength, 1) := by decide +kernel
theorem dX2_copyFrom_15 : decode cX2_copyFrom 15 = .ok (.invokestatic 22, 3) := by decide +kernel
theorem dX2_copyFrom_18 : decode cX2_copyFrom 18 = .ok (.aload_n 0, 1) := by decide +kernel
theorem dX2_copyFrom_19 : decode cX2_copyFrom 19 = .ok (.aload_n 1, 1) := by decide +kernel
theorem dX2_copyFrom_20 : decode cX2_copyFrom 20 = .ok (.getfield 15, 3) := by decide +kernel
theorem dX2_copyFrom_23 : decode cX2_copyFrom 23 = .ok (.putfield 15, 3) := by decide +kernel
theorem dX2_copyFrom_26 : decode cX2_copyFrom 26 = .ok (.aload_n 0, 1) := by decide +kernel
theorem dX2_copyFrom_27 : decode cX2_copyFrom 27 = .ok (.aload_n 1, 1) := by decide +kernel
theorem dX2_copyFrom_28 : decode cX2_copyFrom 28 = .ok (.getfield 19, 3) := by decide +kernel
theorem dX2_copyFrom_31 : decode cX2_copyFrom 31 = .ok (.putfield 19, 3) := by decide +kernel
theorem dX2_copyFrom_34 : decode cX2_copyFrom 34 = .ok (.return_, 1) := by decide +kernel
theorem dX2_enter_0 : decode cX2_enter 0 = .ok (.iload_n 3, 1) := by decide +kernel
theorem dX2_enter_1 : decode cX2_enter 1 = .ok (.ifCond .gt 4, 3) := by decide +kernel
theorem dX2_enter_4 : decode cX2_enter 4 = .ok (.return_, 1) := by decide +kernel
theorem dX2_enter_5 : decode cX2_enter 5 = .ok (.aload_n 0, 1) := by decide +kernel
theorem dX2_enter_6 : decode cX2_enter 6 = .ok (.getfield 15, 3) := by decide +kernel
theorem dX2_enter_9 : decode cX2_enter 9 = .ok (.iconst 4, 1) := by decide +kernel
theorem dX2_enter_10 : decode cX2_enter 10 = .ok (.imul, 1) := by decide +kernel
theorem dX2_enter_11 : decode cX2_enter 11 = .ok (.istore 5, 2) := by decide +kernel
theorem dX2_enter_13 : decode cX2_enter 13 = .ok (.aload_n 0, 1) := by decide +kernel
theorem dX2_enter_14 : decode cX2_enter 14 = .ok (.getfield 11, 3) := by decide +kernel
theorem dX2_enter_17 : decode cX2_enter 17 = .ok (.iload 5, 2) := by decide +kernel
theorem dX2_enter_19 : decode cX2_enter 19 = .ok (.iconst 0, 1) := by decide +kernel
theorem dX2_enter_20 : decode cX2_enter 20 = .ok (.iadd, 1) := by decide +kernel
theorem dX2_enter_21 : decode cX2_enter 21 = .ok (.iload_n 1, 1) := by decide +kernel
theorem dX2_enter_22 : decode cX2_enter 22 = .ok (.iastore, 1) := by decide +kernel
theorem dX2_enter_23 : decode cX2_enter 23 = .ok (.aload_n 0, 1) := by decide +kernel
theorem dX2_enter_24 : decode cX2_enter 24 = .ok (.getfield 11, 3) := by decide +kernel
theorem dX2_enter_27 : decode cX2_enter 27 = .ok (.iload 5, 2) := by decide +kernel
theorem dX2_enter_29 : decode cX2_enter 29 = .ok (.iconst 1, 1) := by decide +kernel
theorem dX2_enter_30 : decode cX2_enter 30 = .ok (.iadd, 1) := by decide +kernel
theorem dX2_enter_31 : decode cX2_enter 31 = .ok (.iload_n 2, 1) := by decide +kernel
theorem dX2_enter_32 : decode cX2_enter 32 = .ok (.iastore, 1) := by decide +kernel
theorem dX2_enter_33 : decode cX2_enter 33 = .ok (.aload_n 0, 1) := by decide +kernel
theorem dX2_enter_34 : decode cX2_enter 34 = .ok (.getfield 11, 3) := by decide +kernel
theorem dX2_enter_37 : decode cX2_enter 37 = .ok (.iload 5, 2) := by decide +kernel
theorem dX2_enter_39 : decode cX2_enter 39 = .ok (.iconst 2, 1) := by decide +kernel
theorem dX2_enter_40 : decode cX2_enter 40 = .ok (.iadd, 1) := by decide +kernel
theorem dX2_enter_41 : decode cX2_enter 41 = .ok (.iload_n 3, 1) := by decide +kernel
theorem dX2_enter_42 : decode cX2_enter 42 = .ok (.iastore, 1) := by decide +kernel
theorem dX2_enter_43 : decode cX2_enter 43 = .ok (.aload_n 0, 1) := by decide +kernel
theorem dX2_enter_44 : decode cX2_enter 44 = .ok (.getfield 11, 3) := by decide +kernel
theorem dX2_enter_47 : decode cX2_enter 47 = .ok (.iload 5, 2) := by decide +kernel
theorem dX2_enter_49 : decode cX2_enter 49 = .ok (.iconst 3, 1) := by decide +kernel
theorem dX2_enter_50 : decode cX2_enter 50 = .ok (.iadd, 1) := by decide +kernel
theorem dX2_enter_51 : decode cX2_enter 51 = .ok (.iload 4, 2) := by decide +kernel
theorem dX2_enter_53 : decode cX2_enter 53 = .ok (.iastore, 1) := by decide +kernel
theorem dX2_enter_54 : decode cX2_enter 54 = .ok (.aload_n 0, 1) := by decide +kernel
theorem dX2_enter_55 : decode cX2_enter 55 = .ok (.aload_n 0, 1) := by decide +kernel
theorem dX2_enter_56 : decode cX2_enter 56 = .ok (.getfield 15, 3) := by decide +kernel
theorem dX2_enter_59 : decode cX2_enter 59 = .ok (.iconst 1, 1) := by decide +kernel
theorem dX2_enter_60 : decode cX2_enter 60 = .ok (.iadd, 1) := by decide +kernel
theorem dX2_enter_61 : decode cX2_enter 61 = .ok (.bipush 60, 2) := by decide +kernel
theorem dX2_enter_63 : decode cX2_enter 63 = .ok (.irem, 1) := by decide +kernel
theorem dX2_enter_64 : decode cX2_enter 64 = .ok (.putfield 15, 3) := by decide +kernel
theorem dX2_enter_67 : decode cX2_enter 67 = .ok (.aload_n 0, 1) := by decide +kernel
theorem dX2_enter_68 : decode cX2_enter 68 = .ok (.aload_n 0, 1) := by decide +kernel
theorem dX2_enter_69 : decode cX2_enter 69 = .ok (.getfield 19, 3) := by decide +kernel
theorem dX2_enter_72 : decode cX2_enter 72 = .ok (.iconst 1, 1) := by decide +kernel
theorem dX2_enter_73 : decode cX2_enter 73 = .ok (.iadd, 1) := by decide +kernel
theorem dX2_enter_74 : decode cX2_enter 74 = .ok (.bipush 60, 2) := by decide +kernel
theorem dX2_enter_76 : decode cX2_enter 76 = .ok (.invokestatic 28, 3) := by decide +kernel
theorem dX2_enter_79 : decode cX2_enter 79 = .ok (.putfield 19, 3) := by decide +kernel
theorem dX2_enter_82 : decode cX2_enter 82 = .ok (.return_, 1) := by decide +kernel
