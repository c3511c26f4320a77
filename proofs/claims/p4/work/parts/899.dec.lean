set_option maxRecDepth 20000 in
theorem ggX10_load_X10_advance : GoodIn wsX10_load wsX10_advance := goodIn_r _ [25, 4, 26, 27, 28, 11, 29, 30, 31, 32, 33, 34, 17, 35, 3, 36, 37, 38, 39, 40, 41, 42, 43, 44, 45, 46, 47, 167, 168, 169, 170, 171, 172, 173, 174, 175, 176, 177, 178, 179, 180, 181, 182, 183, 184, 185, 186, 187, 188, 189, 190, 191, 192, 193, 194, 195, 196, 197, 198, 199, 200, 201, 202, 203, 204, 205] rfl (by decide +kernel)
set_option maxRecDepth 20000 in
theorem gX10_load_X10_advance : GoodIn wsX10_load (wsV RX10 159 RX10 yX10_advance wsX10_advance) := goodIn_app (goodIn_r _ [22, 23, 24, 17] rfl (by decide +kernel)) ggX10_load_X10_advance
set_option maxRecDepth 20000 in
theorem ggX10_load_X10_between : GoodIn wsX10_load wsX10_between := goodIn_r _ [18] rfl (by decide +kernel)
set_option maxRecDepth 20000 in
theorem gX10_load_X10_between : GoodIn wsX10_load (va_wsS RX10 152 yX10_between wsX10_between) := goodIn_app (goodIn_r _ [15, 16, 17] rfl (by decide +kernel)) ggX10_load_X10_between
set_option maxRecDepth 20000 in
theorem ggX10_load_X10_closed : GoodIn wsX10_load wsX10_closed := goodIn_r _ [153, 119, 120, 121, 17, 122, 11, 36, 26, 22, 23, 24, 25, 4, 27, 28, 29, 30, 31, 32, 33, 34, 35, 3, 37, 38, 39, 40, 41, 42, 43, 44, 45, 46, 47, 52, 53, 54, 55, 5, 6, 167, 168, 169, 170, 171, 172, 173, 174, 175, 176, 177, 178, 179, 180, 181, 182, 183, 184, 185, 186, 187, 188, 189, 190, 191, 192, 193, 194, 195, 196, 197, 198, 199, 200, 201, 202, 203, 204, 205] rfl (by decide +kernel)
set_option maxRecDepth 20000 in
theorem gX10_load_X10_closed : GoodIn wsX10_load (wsV RX10 252 RX10 yX10_closed wsX10_closed) := goodIn_app (goodIn_r _ [150, 151, 152, 17] rfl (by decide +kernel)) ggX10_load_X10_closed
set_option maxRecDepth 20000 in
theorem ggX10_load_X10_reset : GoodIn wsX10_load wsX10_reset := goodIn_r _ [21] rfl (by decide +kernel)
set_option maxRecDepth 20000 in
theorem gX10_load_X10_reset : GoodIn wsX10_load (va_wsS RX10 76 yX10_reset wsX10_reset) := goodIn_app (goodIn_r _ [19, 20, 17] rfl (by decide +kernel)) ggX10_load_X10_reset
set_option maxRecDepth 20000 in
theorem ggX10_load_X10_statement : GoodIn wsX10_load wsX10_statement := goodIn_r _ [51, 11, 27, 52, 53, 54, 17, 55, 5, 26, 6, 56, 57, 58, 59, 31, 22, 23, 24, 25, 4, 28, 29, 30, 32, 33, 34, 35, 3, 36, 37, 38, 39, 40, 41, 42, 43, 44, 45, 46, 47, 60, 61, 62, 63, 10, 64, 65, 66, 67, 68, 15, 16, 18, 69, 70, 71, 72, 73, 74, 75, 76, 8, 77, 78, 79, 80, 81, 82, 83, 84, 85, 86, 9, 87, 88, 89, 90, 91, 92, 93, 94, 95, 96, 97, 98, 99, 100, 101, 102, 103, 104, 105, 106, 107, 108, 109, 110, 111, 112, 113, 114, 7, 115, 116, 117, 118, 119, 120, 121, 122, 123, 124, 125, 126, 127, 128, 129, 130, 131, 132, 133, 134, 135, 136, 137, 138, 139, 140, 141, 142, 143, 144, 145, 146, 147, 148, 149, 167, 168, 169, 170, 171, 172, 173, 174, 175, 176, 177, 178, 179, 180, 181, 182, 183, 184, 185, 186, 187, 188, 189, 190, 191, 192, 193, 194, 195, 196, 197, 198, 199, 200, 201, 202, 203, 204, 205] rfl (by decide +kernel)
set_option maxRecDepth 20000 in
theorem gX10_load_X10_statement : GoodIn wsX10_load (wsV RX10 249 RX10 yX10_statement wsX10_statement) := goodIn_app (goodIn_r _ [48, 49, 50, 17] rfl (by decide +kernel)) ggX10_load_X10_statement
set_option maxRecDepth 20000 in
theorem ggX10_load_X10_takeOver : GoodIn wsX10_load wsX10_takeOver := goodIn_r _ [157, 10, 14, 158, 85, 159, 139, 160, 86, 9, 161, 109, 162, 163, 164, 165, 17, 166, 167, 168, 169, 170, 171, 172, 173, 174, 175, 176, 177, 178, 179, 180, 181, 182, 183, 184, 185, 186, 187, 188, 189, 190, 191, 192, 193, 194, 195, 196, 197, 198, 199, 200, 201, 202, 203, 204, 205] rfl (by decide +kernel)
set_option maxRecDepth 20000 in
theorem gX10_load_X10_takeOver : GoodIn wsX10_load (wsV RX10 258 RX10 yX10_takeOver wsX10_takeOver) := goodIn_app (goodIn_r _ [154, 155, 156, 17] rfl (by decide +kernel)) ggX10_load_X10_takeOver
theorem dX10_load_0 : decode cX10_load 0 = .ok (.aload_n 0, 1) := by decide +kernel
theorem dX10_load_1 : decode cX10_load 1 = .ok (.iload_n 1, 1) := by decide +kernel
theorem dX10_load_2 : decode cX10_load 2 = .ok (.i2l, 1) := by decide +kernel
theorem dX10_load_3 : decode cX10_load 3 = .ok (.lconst 0, 1) := by decide +kernel
theorem dX10_load_4 : decode cX10_load 4 = .ok (.aload_n 0, 1) := by decide +kernel
theorem dX10_load_5 : decode cX10_load 5 = .ok (.getfield 90, 3) := by decide +kernel
theorem dX10_load_8 : decode cX10_load 8 = .ok (.i2l, 1) := by decide +kernel
theorem dX10_load_9 : decode cX10_load 9 = .ok (.invokestatic 152, 3) := by decide +kernel
theorem dX10_load_12 : decode cX10_load 12 = .ok (.ifCond .eq 7, 3) := by decide +kernel
theorem dX10_load_15 : decode cX10_load 15 = .ok (.iconst 0, 1) := by decide +kernel
theorem dX10_load_16 : decode cX10_load 16 = .ok (.goto 4, 3) := by decide +kernel
theorem dX10_load_19 : decode cX10_load 19 = .ok (.iconst 1, 1) := by decide +kernel
theorem dX10_load_20 : decode cX10_load 20 = .ok (.putfield 80, 3) := by decide +kernel
theorem dX10_load_23 : decode cX10_load 23 = .ok (.aload_n 0, 1) := by decide +kernel
theorem dX10_load_24 : decode cX10_load 24 = .ok (.getfield 80, 3) := by decide +kernel
theorem dX10_load_27 : decode cX10_load 27 = .ok (.ifCond .le 5, 3) := by decide +kernel
theorem dX10_load_30 : decode cX10_load 30 = .ok (.iconst 0, 1) := by decide +kernel
theorem dX10_load_31 : decode cX10_load 31 = .ok (.ireturn, 1) := by decide +kernel
theorem dX10_load_32 : decode cX10_load 32 = .ok (.aload_n 0, 1) := by decide +kernel
theorem dX10_load_33 : decode cX10_load 33 = .ok (.iload_n 1, 1) := by decide +kernel
theorem dX10_load_34 : decode cX10_load 34 = .ok (.putfield 107, 3) := by decide +kernel
theorem dX10_load_37 : decode cX10_load 37 = .ok (.aload_n 0, 1) := by decide +kernel
theorem dX10_load_38 : decode cX10_load 38 = .ok (.iconst 0, 1) := by decide +kernel
theorem dX10_load_39 : decode cX10_load 39 = .ok (.putfield 90, 3) := by decide +kernel
theorem dX10_load_42 : decode cX10_load 42 = .ok (.aload_n 0, 1) := by decide +kernel
theorem dX10_load_43 : decode cX10_load 43 = .ok (.iconst 0, 1) := by decide +kernel
theorem dX10_load_44 : decode cX10_load 44 = .ok (.putfield 110, 3) := by decide +kernel
theorem dX10_load_47 : decode cX10_load 47 = .ok (.aload_n 0, 1) := by decide +kernel
theorem dX10_load_48 : decode cX10_load 48 = .ok (.iconst 0, 1) := by decide +kernel
theorem dX10_load_49 : decode cX10_load 49 = .ok (.putfield 143, 3) := by decide +kernel
theorem dX10_load_52 : decode cX10_load 52 = .ok (.aload_n 0, 1) := by decide +kernel
theorem dX10_load_53 : decode cX10_load 53 = .ok (.iconst (-1), 1) := by decide +kernel
theorem dX10_load_54 : decode cX10_load 54 = .ok (.putfield 146, 3) := by decide +kernel
theorem dX10_load_57 : decode cX10_load 57 = .ok (.aload_n 0, 1) := by decide +kernel
theorem dX10_load_58 : decode cX10_load 58 = .ok (.iconst 0, 1) := by decide +kernel
theorem dX10_load_59 : decode cX10_load 59 = .ok (.putfield 182, 3) := by decide +kernel
theorem dX10_load_62 : decode cX10_load 62 = .ok (.aload_n 0, 1) := by decide +kernel
theorem dX10_load_63 : decode cX10_load 63 = .ok (.iconst 0, 1) := by decide +kernel
theorem dX10_load_64 : decode cX10_load 64 = .ok (.putfield 226, 3) := by decide +kernel
theorem dX10_load_67 : decode cX10_load 67 = .ok (.aload_n 0, 1) := by decide +kernel
theorem dX10_load_68 : decode cX10_load 68 = .ok (.iconst 0, 1) := by decide +kernel
theorem dX10_load_69 : decode cX10_load 69 = .ok (.putfield 167, 3) := by decide +kernel
theorem dX10_load_72 : decode cX10_load 72 = .ok (.aload_n 0, 1) := by decide +kernel
theorem dX10_load_73 : decode cX10_load 73 = .ok (.getfield 13, 3) := by decide +kernel
theorem dX10_load_76 : decode cX10_load 76 = .ok (.invokestatic 76, 3) := by decide +kernel
theorem dX10_load_79 : decode cX10_load 79 = .ok (.aload_n 0, 1) := by decide +kernel
theorem dX10_load_80 : decode cX10_load 80 = .ok (.invokevirtual 159, 3) := by decide +kernel
theorem dX10_load_83 : decode cX10_load 83 = .ok (.pop, 1) := by decide +kernel
theorem dX10_load_84 : decode cX10_load 84 = .ok (.iconst 1, 1) := by decide +kernel
theorem dX10_load_85 : decode cX10_load 85 = .ok (.istore_n 2, 1) := by decide +kernel
theorem dX10_load_86 : decode cX10_load 86 = .ok (.iload_n 2, 1) := by decide +kernel
theorem dX10_load_87 : decode cX10_load 87 = .ok (.ifCond .eq 33, 3) := by decide +kernel
theorem dX10_load_90 : decode cX10_load 90 = .ok (.aload_n 0, 1) := by decide +kernel
theorem dX10_load_91 : decode cX10_load 91 = .ok (.getfield 126, 3) := by decide +kernel
theorem dX10_load_94 : decode cX10_load 94 = .ok (.ifCond .eq 26, 3) := by decide +kernel
theorem dX10_load_97 : decode cX10_load 97 = .ok (.aload_n 0, 1) := by decide +kernel
theorem dX10_load_98 : decode cX10_load 98 = .ok (.invokevirtual 249, 3) := by decide +kernel
theorem dX10_load_101 : decode cX10_load 101 = .ok (.ifCond .eq 14, 3) := by decide +kernel
theorem dX10_load_104 : decode cX10_load 104 = .ok (.aload_n 0, 1) := by decide +kernel
theorem dX10_load_105 : decode cX10_load 105 = .ok (.invokevirtual 252, 3) := by decide +kernel
theorem dX10_load_108 : decode cX10_load 108 = .ok (.ifCond .eq 7, 3) := by decide +kernel
theorem dX10_load_111 : decode cX10_load 111 = .ok (.iconst 1, 1) := by decide +kernel
theorem dX10_load_112 : decode cX10_load 112 = .ok (.goto 4, 3) := by decide +kernel
theorem dX10_load_115 : decode cX10_load 115 = .ok (.iconst 0, 1) := by decide +kernel
theorem dX10_load_116 : decode cX10_load 116 = .ok (.istore_n 2, 1) := by decide +kernel
theorem dX10_load_117 : decode cX10_load 117 = .ok (.goto (-31), 3) := by decide +kernel
theorem dX10_load_120 : decode cX10_load 120 = .ok (.aload_n 0, 1) := by decide +kernel
theorem dX10_load_121 : decode cX10_load 121 = .ok (.aload_n 0, 1) := by decide +kernel
theorem dX10_load_122 : decode cX10_load 122 = .ok (.getfield 143, 3) := by decide +kernel
theorem dX10_load_125 : decode cX10_load 125 = .ok (.putfield 255, 3) := by decide +kernel
theorem dX10_load_128 : decode cX10_load 128 = .ok (.aload_n 0, 1) := by decide +kernel
theorem dX10_load_129 : decode cX10_load 129 = .ok (.aload_n 0, 1) := by decide +kernel
theorem dX10_load_130 : decode cX10_load 130 = .ok (.getfield 146, 3) := by decide +kernel
theorem dX10_load_133 : decode cX10_load 133 = .ok (.putfield 29, 3) := by decide +kernel
theorem dX10_load_136 : decode cX10_load 136 = .ok (.iload_n 2, 1) := by decide +kernel
theorem dX10_load_137 : decode cX10_load 137 = .ok (.ifCond .ne 6, 3) := by decide +kernel
theorem dX10_load_140 : decode cX10_load 140 = .ok (.bipush (-3), 2) := by decide +kernel
theorem dX10_load_142 : decode cX10_load 142 = .ok (.ireturn, 1) := by decide +kernel
theorem dX10_load_143 : decode cX10_load 143 = .ok (.aload_n 0, 1) := by decide +kernel
theorem dX10_load_144 : decode cX10_load 144 = .ok (.invokevirtual 258, 3) := by decide +kernel
theorem dX10_load_147 : decode cX10_load 147 = .ok (.aload_n 0, 1) := by decide +kernel
theorem dX10_load_148 : decode cX10_load 148 = .ok (.getfield 7, 3) := by decide +kernel
theorem dX10_load_151 : decode cX10_load 151 = .ok (.bipush 13, 2) := by decide +kernel
theorem dX10_load_153 : decode cX10_load 153 = .ok (.iaload, 1) := by decide +kernel
theorem dX10_load_154 : decode cX10_load 154 = .ok (.ireturn, 1) := by decide +kernel
