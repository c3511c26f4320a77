/-- a copied part of a row -/
def Cpy (i : Nat) (f g : Nat → Int32) : Prop := ∀ j, j < i → g j = f j
theorem Cpy.step {i : Nat} {f g : Nat → Int32} (hi : i < 326) (h : Cpy i f g) : Cpy (i + 1) f (upd g (nI i).toNatClampNeg (f (nI i).toNatClampNeg)) := by
  rw [nI_clamp (by omega)]
  intro j hj
  by_cases e : j = i
  · subst e; exact pk_us
  · exact (pk_un e).trans (h j (by omega))
theorem Cpy.zs {f g : Nat → Int32} (h : Cpy 326 f g) (hz : Zs f) : Zs g := ⟨(h 1 (by decide)).trans hz.1, fun j h1 h2 => (h j h1).trans (hz.2 j h1 h2)⟩
/-- the spaces among the first n bytes -/
def sp (bs : List Int32) (n : Nat) : Nat := (bs.take n).countP (fun b => b == 32)
theorem sp_succ {bs : List Int32} {n : Nat} (h : n < bs.length) : sp bs (n + 1) = sp bs n + (if bs.getD n 0 = 32 then 1 else 0) := by
  have e : bs.getD n 0 = bs[n] := by rw [List.getD_eq_getElem?_getD, List.getElem?_eq_getElem h]; rfl
  unfold sp
  rw [List.take_succ_eq_append_getElem h, List.countP_append, e]
  congr 1
  by_cases q : bs[n] = 32
  · rw [if_pos q]; simp [List.countP_cons, q]
  · rw [if_neg q]; simp [List.countP_cons, q]
theorem sp_le (bs : List Int32) (n : Nat) : sp bs n ≤ bs.length := Nat.le_trans List.countP_le_length (by rw [List.length_take]; omega)
theorem sp_no {bs : List Int32} {n : Nat} (h : n < bs.length) (c : ¬ bs.getD n 0 = 32) : sp bs (n + 1) = sp bs n := by rw [sp_succ h, if_neg c]; rfl
theorem sp_yes {bs : List Int32} {n : Nat} (h : n < bs.length) (c : bs.getD n 0 = 32) : sp bs (n + 1) = sp bs n + 1 := by rw [sp_succ h, if_pos c]
theorem sp_noI {bs : List Int32} {n : Nat} (h : n < bs.length) (c : ¬ bs.getD n 0 = 32) : nI (sp bs n) + 0 = nI (sp bs (n + 1)) := by rw [sp_no h c, Int32.add_zero]
theorem sp_yesI {bs : List Int32} {n : Nat} (h : n < bs.length) (c : bs.getD n 0 = 32) : nI (sp bs n) + 1 = nI (sp bs (n + 1)) := by rw [sp_yes h c]; exact nI_1 _
theorem sp_eq {a b : Nat} (h : a ≤ b) (hb : b < 2 ^ 31) (c : nI b ≤ nI a) : a = b := by
  rcases Nat.lt_or_ge a b with q | q
  · exact absurd c (Int32.not_le.mpr (nI_lt q hb))
  · exact Nat.le_antisymm h q
theorem sp_lt {a b : Nat} (h : a ≤ b) (c : ¬ nI b ≤ nI a) : a < b := by
  rcases Nat.lt_or_ge a b with q | q
  · exact q
  · exact absurd (by rw [Nat.le_antisymm h q]; exact Int32.le_refl _) c
set_option maxRecDepth 20000 in
theorem ggX10_init_X10_wordAt : GoodIn wsX10_init wsX10_wordAt := goodIn_r _ [29, 30, 31, 32, 33, 34, 35, 36, 37, 38, 39, 40, 41, 42, 43, 44, 45, 46, 47, 48, 49, 50, 51, 52, 53, 54, 55, 56, 57, 58, 59, 60, 61, 62, 63, 64, 65, 66, 67, 68, 69, 70, 71, 72, 115, 116, 117, 118] (by decide +kernel) (by decide +kernel)
set_option maxRecDepth 20000 in
theorem gX10_init_X10_wordAt : GoodIn wsX10_init (va_wsS RX10 72 yX10_wordAt wsX10_wordAt) := goodIn_app (goodIn_of _ (by decide +kernel)) ggX10_init_X10_wordAt
set_option maxRecDepth 20000 in
theorem ggX10_init_X10_reset : GoodIn wsX10_init wsX10_reset := goodIn_r _ [75] (by decide +kernel) (by decide +kernel)
set_option maxRecDepth 20000 in
theorem gX10_init_X10_reset : GoodIn wsX10_init (va_wsS RX10 76 yX10_reset wsX10_reset) := goodIn_app (goodIn_of _ (by decide +kernel)) ggX10_init_X10_reset
set_option maxRecDepth 20000 in
theorem ggX10_wordAt_J0_charAt_5068e : GoodIn wsX10_wordAt wsJ0_charAt_5068e := goodIn_r _ [7, 8, 9, 10, 11, 6, 12, 13, 14, 15, 16, 17, 18, 19, 20, 21, 22, 23, 24, 25, 26, 27, 28, 29, 30, 31, 32, 33, 34, 35, 36, 37, 38, 39, 40, 41, 42, 43, 44, 45, 46, 47] (by decide +kernel) (by decide +kernel)
set_option maxRecDepth 20000 in
theorem gX10_wordAt_J0_charAt_5068e : GoodIn wsX10_wordAt (wsV RX10 97 RJ0 yJ0_charAt_5068e wsJ0_charAt_5068e) := goodIn_app (goodIn_of _ (by decide +kernel)) ggX10_wordAt_J0_charAt_5068e
set_option maxRecDepth 20000 in
theorem ggX10_advance_X10_byteAt : GoodIn wsX10_advance wsX10_byteAt := goodIn_r _ [13, 14, 15, 27, 28, 29, 30, 31, 32, 33, 34, 35, 36, 37, 38, 39, 40, 41, 42, 43, 44, 45, 46, 47, 48, 49, 50, 51, 52, 53, 54, 55, 56, 57, 58, 59, 60, 61, 62, 63, 64, 65] (by decide +kernel) (by decide +kernel)
set_option maxRecDepth 20000 in
theorem gX10_advance_X10_byteAt : GoodIn wsX10_advance (wsV RX10 113 RX10 yX10_byteAt wsX10_byteAt) := goodIn_app (goodIn_of _ (by decide +kernel)) ggX10_advance_X10_byteAt
set_option maxRecDepth 20000 in
theorem ggX10_takeOver_X10_copy : GoodIn wsX10_takeOver wsX10_copy := goodIn_r _ [17] (by decide +kernel) (by decide +kernel)
set_option maxRecDepth 20000 in
theorem gX10_takeOver_X10_copy : GoodIn wsX10_takeOver (va_wsS RX10 245 yX10_copy wsX10_copy) := goodIn_app (goodIn_of _ (by decide +kernel)) ggX10_takeOver_X10_copy
set_option maxRecDepth 20000 in
theorem ggX10_load_X10_between : GoodIn wsX10_load wsX10_between := goodIn_r _ [18] (by decide +kernel) (by decide +kernel)
set_option maxRecDepth 20000 in
theorem gX10_load_X10_between : GoodIn wsX10_load (va_wsS RX10 152 yX10_between wsX10_between) := goodIn_app (goodIn_of _ (by decide +kernel)) ggX10_load_X10_between
set_option maxRecDepth 20000 in
theorem ggX10_load_X10_reset : GoodIn wsX10_load wsX10_reset := goodIn_r _ [21] (by decide +kernel) (by decide +kernel)
set_option maxRecDepth 20000 in
theorem gX10_load_X10_reset : GoodIn wsX10_load (va_wsS RX10 76 yX10_reset wsX10_reset) := goodIn_app (goodIn_of _ (by decide +kernel)) ggX10_load_X10_reset
set_option maxRecDepth 20000 in
theorem ggX10_load_X10_advance : GoodIn wsX10_load wsX10_advance := goodIn_r _ [25, 4, 26, 27, 28, 11, 29, 30, 31, 32, 33, 34, 17, 35, 3, 36, 37, 38, 39, 40, 41, 42, 43, 44, 45, 46, 47, 167, 168, 169, 170, 171, 172, 173, 174, 175, 176, 177, 178, 179, 180, 181, 182, 183, 184, 185, 186, 187, 188, 189, 190, 191, 192, 193, 194, 195, 196, 197, 198, 199, 200, 201, 202, 203, 204, 205] (by decide +kernel) (by decide +kernel)
set_option maxRecDepth 20000 in
theorem gX10_load_X10_advance : GoodIn wsX10_load (wsV RX10 159 RX10 yX10_advance wsX10_advance) := goodIn_app (goodIn_of _ (by decide +kernel)) ggX10_load_X10_advance
set_option maxRecDepth 20000 in
theorem ggX10_load_X10_takeOver : GoodIn wsX10_load wsX10_takeOver := goodIn_r _ [157, 10, 14, 158, 85, 159, 139, 160, 86, 9, 161, 109, 162, 163, 164, 165, 17, 166, 167, 168, 169, 170, 171, 172, 173, 174, 175, 176, 177, 178, 179, 180, 181, 182, 183, 184, 185, 186, 187, 188, 189, 190, 191, 192, 193, 194, 195, 196, 197, 198, 199, 200, 201, 202, 203, 204, 205] (by decide +kernel) (by decide +kernel)
set_option maxRecDepth 20000 in
theorem gX10_load_X10_takeOver : GoodIn wsX10_load (wsV RX10 258 RX10 yX10_takeOver wsX10_takeOver) := goodIn_app (goodIn_of _ (by decide +kernel)) ggX10_load_X10_takeOver
theorem dX10_advance_0 : decode cX10_advance 0 = .ok (.aload_n 0, 1) := by decide +kernel
theorem dX10_advance_1 : decode cX10_advance 1 = .ok (.aload_n 0, 1) := by decide +kernel
theorem dX10_advance_2 : decode cX10_advance 2 = .ok (.getfield 110, 3) := by decide +kernel
theorem dX10_advance_5 : decode cX10_advance 5 = .ok (.invokevirtual 113, 3) := by decide +kernel
theorem dX10_advance_8 : decode cX10_advance 8 = .ok (.bipush 32, 2) := by decide +kernel
theorem dX10_advance_10 : decode cX10_advance 10 = .ok (.if_icmp .eq 16, 3) := by decide +kernel
theorem dX10_advance_13 : decode cX10_advance 13 = .ok (.aload_n 0, 1) := by decide +kernel
theorem dX10_advance_14 : decode cX10_advance 14 = .ok (.aload_n 0, 1) := by decide +kernel
theorem dX10_advance_15 : decode cX10_advance 15 = .ok (.getfield 110, 3) := by decide +kernel
theorem dX10_advance_18 : decode cX10_advance 18 = .ok (.invokevirtual 113, 3) := by decide +kernel
theorem dX10_advance_21 : decode cX10_advance 21 = .ok (.bipush 10, 2) := by decide +kernel
theorem dX10_advance_23 : decode cX10_advance 23 = .ok (.if_icmp .ne 16, 3) := by decide +kernel
theorem dX10_advance_26 : decode cX10_advance 26 = .ok (.aload_n 0, 1) := by decide +kernel
theorem dX10_advance_27 : decode cX10_advance 27 = .ok (.dup, 1) := by decide +kernel
theorem dX10_advance_28 : decode cX10_advance 28 = .ok (.getfield 110, 3) := by decide +kernel
theorem dX10_advance_31 : decode cX10_advance 31 = .ok (.iconst 1, 1) := by decide +kernel
theorem dX10_advance_32 : decode cX10_advance 32 = .ok (.iadd, 1) := by decide +kernel
theorem dX10_advance_33 : decode cX10_advance 33 = .ok (.putfield 110, 3) := by decide +kernel
theorem dX10_advance_36 : decode cX10_advance 36 = .ok (.goto (-36), 3) := by decide +kernel
theorem dX10_advance_39 : decode cX10_advance 39 = .ok (.aload_n 0, 1) := by decide +kernel
theorem dX10_advance_40 : decode cX10_advance 40 = .ok (.aload_n 0, 1) := by decide +kernel
theorem dX10_advance_41 : decode cX10_advance 41 = .ok (.getfield 110, 3) := by decide +kernel
theorem dX10_advance_44 : decode cX10_advance 44 = .ok (.putfield 117, 3) := by decide +kernel
theorem dX10_advance_47 : decode cX10_advance 47 = .ok (.aload_n 0, 1) := by decide +kernel
theorem dX10_advance_48 : decode cX10_advance 48 = .ok (.iconst (-1), 1) := by decide +kernel
theorem dX10_advance_49 : decode cX10_advance 49 = .ok (.putfield 120, 3) := by decide +kernel
theorem dX10_advance_52 : decode cX10_advance 52 = .ok (.aload_n 0, 1) := by decide +kernel
theorem dX10_advance_53 : decode cX10_advance 53 = .ok (.lconst 0, 1) := by decide +kernel
theorem dX10_advance_54 : decode cX10_advance 54 = .ok (.putfield 123, 3) := by decide +kernel
theorem dX10_advance_57 : decode cX10_advance 57 = .ok (.aload_n 0, 1) := by decide +kernel
theorem dX10_advance_58 : decode cX10_advance 58 = .ok (.aload_n 0, 1) := by decide +kernel
theorem dX10_advance_59 : decode cX10_advance 59 = .ok (.getfield 110, 3) := by decide +kernel
theorem dX10_advance_62 : decode cX10_advance 62 = .ok (.invokevirtual 113, 3) := by decide +kernel
theorem dX10_advance_65 : decode cX10_advance 65 = .ok (.istore_n 1, 1) := by decide +kernel
theorem dX10_advance_66 : decode cX10_advance 66 = .ok (.iload_n 1, 1) := by decide +kernel
theorem dX10_advance_67 : decode cX10_advance 67 = .ok (.iconst (-1), 1) := by decide +kernel
theorem dX10_advance_68 : decode cX10_advance 68 = .ok (.if_icmp .ne 11, 3) := by decide +kernel
theorem dX10_advance_71 : decode cX10_advance 71 = .ok (.aload_n 0, 1) := by decide +kernel
theorem dX10_advance_72 : decode cX10_advance 72 = .ok (.iconst 0, 1) := by decide +kernel
theorem dX10_advance_73 : decode cX10_advance 73 = .ok (.putfield 126, 3) := by decide +kernel
theorem dX10_advance_76 : decode cX10_advance 76 = .ok (.goto 278, 3) := by decide +kernel
theorem dX10_advance_79 : decode cX10_advance 79 = .ok (.iload_n 1, 1) := by decide +kernel
theorem dX10_advance_80 : decode cX10_advance 80 = .ok (.invokestatic 129, 3) := by decide +kernel
theorem dX10_advance_83 : decode cX10_advance 83 = .ok (.ifCond .eq 127, 3) := by decide +kernel
theorem dX10_advance_86 : decode cX10_advance 86 = .ok (.aload_n 0, 1) := by decide +kernel
theorem dX10_advance_87 : decode cX10_advance 87 = .ok (.aload_n 0, 1) := by decide +kernel
theorem dX10_advance_88 : decode cX10_advance 88 = .ok (.getfield 110, 3) := by decide +kernel
theorem dX10_advance_91 : decode cX10_advance 91 = .ok (.invokevirtual 113, 3) := by decide +kernel
theorem dX10_advance_94 : decode cX10_advance 94 = .ok (.invokestatic 129, 3) := by decide +kernel
theorem dX10_advance_97 : decode cX10_advance 97 = .ok (.ifCond .eq 63, 3) := by decide +kernel
theorem dX10_advance_100 : decode cX10_advance 100 = .ok (.aload_n 0, 1) := by decide +kernel
theorem dX10_advance_101 : decode cX10_advance 101 = .ok (.aload_n 0, 1) := by decide +kernel
theorem dX10_advance_102 : decode cX10_advance 102 = .ok (.getfield 110, 3) := by decide +kernel
theorem dX10_advance_105 : decode cX10_advance 105 = .ok (.aload_n 0, 1) := by decide +kernel
theorem dX10_advance_106 : decode cX10_advance 106 = .ok (.getfield 117, 3) := by decide +kernel
theorem dX10_advance_109 : decode cX10_advance 109 = .ok (.isub, 1) := by decide +kernel
theorem dX10_advance_110 : decode cX10_advance 110 = .ok (.bipush 9, 2) := by decide +kernel
theorem dX10_advance_112 : decode cX10_advance 112 = .ok (.if_icmp .ge 28, 3) := by decide +kernel
theorem dX10_advance_115 : decode cX10_advance 115 = .ok (.ldc2_w 103, 3) := by decide +kernel
theorem dX10_advance_118 : decode cX10_advance 118 = .ok (.aload_n 0, 1) := by decide +kernel
theorem dX10_advance_119 : decode cX10_advance 119 = .ok (.getfield 123, 3) := by decide +kernel
theorem dX10_advance_122 : decode cX10_advance 122 = .ok (.lmul, 1) := by decide +kernel
theorem dX10_advance_123 : decode cX10_advance 123 = .ok (.aload_n 0, 1) := by decide +kernel
theorem dX10_advance_124 : decode cX10_advance 124 = .ok (.aload_n 0, 1) := by decide +kernel
theorem dX10_advance_125 : decode cX10_advance 125 = .ok (.getfield 110, 3) := by decide +kernel
theorem dX10_advance_128 : decode cX10_advance 128 = .ok (.invokevirtual 113, 3) := by decide +kernel
theorem dX10_advance_131 : decode cX10_advance 131 = .ok (.i2l, 1) := by decide +kernel
theorem dX10_advance_132 : decode cX10_advance 132 = .ok (.ladd, 1) := by decide +kernel
theorem dX10_advance_133 : decode cX10_advance 133 = .ok (.ldc2_w 105, 3) := by decide +kernel
theorem dX10_advance_136 : decode cX10_advance 136 = .ok (.lsub, 1) := by decide +kernel
theorem dX10_advance_137 : decode cX10_advance 137 = .ok (.goto 7, 3) := by decide +kernel
theorem dX10_advance_140 : decode cX10_advance 140 = .ok (.aload_n 0, 1) := by decide +kernel
theorem dX10_advance_141 : decode cX10_advance 141 = .ok (.getfield 123, 3) := by decide +kernel
theorem dX10_advance_144 : decode cX10_advance 144 = .ok (.putfield 123, 3) := by decide +kernel
theorem dX10_advance_147 : decode cX10_advance 147 = .ok (.aload_n 0, 1) := by decide +kernel
theorem dX10_advance_148 : decode cX10_advance 148 = .ok (.dup, 1) := by decide +kernel
theorem dX10_advance_149 : decode cX10_advance 149 = .ok (.getfield 110, 3) := by decide +kernel
theorem dX10_advance_152 : decode cX10_advance 152 = .ok (.iconst 1, 1) := by decide +kernel
theorem dX10_advance_153 : decode cX10_advance 153 = .ok (.iadd, 1) := by decide +kernel
theorem dX10_advance_154 : decode cX10_advance 154 = .ok (.putfield 110, 3) := by decide +kernel
theorem dX10_advance_157 : decode cX10_advance 157 = .ok (.goto (-71), 3) := by decide +kernel
theorem dX10_advance_160 : decode cX10_advance 160 = .ok (.aload_n 0, 1) := by decide +kernel
theorem dX10_advance_161 : decode cX10_advance 161 = .ok (.aload_n 0, 1) := by decide +kernel
theorem dX10_advance_162 : decode cX10_advance 162 = .ok (.getfield 110, 3) := by decide +kernel
theorem dX10_advance_165 : decode cX10_advance 165 = .ok (.aload_n 0, 1) := by decide +kernel
theorem dX10_advance_166 : decode cX10_advance 166 = .ok (.getfield 117, 3) := by decide +kernel
theorem dX10_advance_169 : decode cX10_advance 169 = .ok (.isub, 1) := by decide +kernel
theorem dX10_advance_170 : decode cX10_advance 170 = .ok (.bipush 9, 2) := by decide +kernel
theorem dX10_advance_172 : decode cX10_advance 172 = .ok (.if_icmp .le 7, 3) := by decide +kernel
theorem dX10_advance_175 : decode cX10_advance 175 = .ok (.iconst 1, 1) := by decide +kernel
theorem dX10_advance_176 : decode cX10_advance 176 = .ok (.goto 4, 3) := by decide +kernel
theorem dX10_advance_179 : decode cX10_advance 179 = .ok (.iconst 2, 1) := by decide +kernel
theorem dX10_advance_180 : decode cX10_advance 180 = .ok (.putfield 126, 3) := by decide +kernel
theorem dX10_advance_183 : decode cX10_advance 183 = .ok (.aload_n 0, 1) := by decide +kernel
theorem dX10_advance_184 : decode cX10_advance 184 = .ok (.aload_n 0, 1) := by decide +kernel
theorem dX10_advance_185 : decode cX10_advance 185 = .ok (.getfield 126, 3) := by decide +kernel
theorem dX10_advance_188 : decode cX10_advance 188 = .ok (.iconst 2, 1) := by decide +kernel
theorem dX10_advance_189 : decode cX10_advance 189 = .ok (.if_icmp .ne 14, 3) := by decide +kernel
theorem dX10_advance_192 : decode cX10_advance 192 = .ok (.aload_n 0, 1) := by decide +kernel
theorem dX10_advance_193 : decode cX10_advance 193 = .ok (.aload_n 0, 1) := by decide +kernel
theorem dX10_advance_194 : decode cX10_advance 194 = .ok (.getfield 123, 3) := by decide +kernel
theorem dX10_advance_197 : decode cX10_advance 197 = .ok (.invokevirtual 133, 3) := by decide +kernel
theorem dX10_advance_200 : decode cX10_advance 200 = .ok (.goto 4, 3) := by decide +kernel
theorem dX10_advance_203 : decode cX10_advance 203 = .ok (.iconst (-1), 1) := by decide +kernel
theorem dX10_advance_204 : decode cX10_advance 204 = .ok (.putfield 120, 3) := by decide +kernel
theorem dX10_advance_207 : decode cX10_advance 207 = .ok (.goto 147, 3) := by decide +kernel
theorem dX10_advance_210 : decode cX10_advance 210 = .ok (.iload_n 1, 1) := by decide +kernel
theorem dX10_advance_211 : decode cX10_advance 211 = .ok (.invokestatic 137, 3) := by decide +kernel
theorem dX10_advance_214 : decode cX10_advance 214 = .ok (.ifCond .eq 103, 3) := by decide +kernel
theorem dX10_advance_217 : decode cX10_advance 217 = .ok (.aload_n 0, 1) := by decide +kernel
theorem dX10_advance_218 : decode cX10_advance 218 = .ok (.iconst 0, 1) := by decide +kernel
theorem dX10_advance_219 : decode cX10_advance 219 = .ok (.putfield 140, 3) := by decide +kernel
theorem dX10_advance_222 : decode cX10_advance 222 = .ok (.aload_n 0, 1) := by decide +kernel
theorem dX10_advance_223 : decode cX10_advance 223 = .ok (.aload_n 0, 1) := by decide +kernel
theorem dX10_advance_224 : decode cX10_advance 224 = .ok (.getfield 110, 3) := by decide +kernel
theorem dX10_advance_227 : decode cX10_advance 227 = .ok (.invokevirtual 113, 3) := by decide +kernel
theorem dX10_advance_230 : decode cX10_advance 230 = .ok (.invokestatic 137, 3) := by decide +kernel
theorem dX10_advance_233 : decode cX10_advance 233 = .ok (.ifCond .eq 59, 3) := by decide +kernel
theorem dX10_advance_236 : decode cX10_advance 236 = .ok (.aload_n 0, 1) := by decide +kernel
theorem dX10_advance_237 : decode cX10_advance 237 = .ok (.aload_n 0, 1) := by decide +kernel
theorem dX10_advance_238 : decode cX10_advance 238 = .ok (.getfield 110, 3) := by decide +kernel
theorem dX10_advance_241 : decode cX10_advance 241 = .ok (.aload_n 0, 1) := by decide +kernel
theorem dX10_advance_242 : decode cX10_advance 242 = .ok (.getfield 117, 3) := by decide +kernel
theorem dX10_advance_245 : decode cX10_advance 245 = .ok (.isub, 1) := by decide +kernel
theorem dX10_advance_246 : decode cX10_advance 246 = .ok (.iconst 5, 1) := by decide +kernel
theorem dX10_advance_247 : decode cX10_advance 247 = .ok (.if_icmp .ge 25, 3) := by decide +kernel
theorem dX10_advance_250 : decode cX10_advance 250 = .ok (.bipush 10, 2) := by decide +kernel
theorem dX10_advance_252 : decode cX10_advance 252 = .ok (.aload_n 0, 1) := by decide +kernel
theorem dX10_advance_253 : decode cX10_advance 253 = .ok (.getfield 140, 3) := by decide +kernel
theorem dX10_advance_256 : decode cX10_advance 256 = .ok (.imul, 1) := by decide +kernel
theorem dX10_advance_257 : decode cX10_advance 257 = .ok (.aload_n 0, 1) := by decide +kernel
theorem dX10_advance_258 : decode cX10_advance 258 = .ok (.aload_n 0, 1) := by decide +kernel
theorem dX10_advance_259 : decode cX10_advance 259 = .ok (.getfield 110, 3) := by decide +kernel
theorem dX10_advance_262 : decode cX10_advance 262 = .ok (.invokevirtual 113, 3) := by decide +kernel
theorem dX10_advance_265 : decode cX10_advance 265 = .ok (.iadd, 1) := by decide +kernel
theorem dX10_advance_266 : decode cX10_advance 266 = .ok (.bipush 48, 2) := by decide +kernel
theorem dX10_advance_268 : decode cX10_advance 268 = .ok (.isub, 1) := by decide +kernel
theorem dX10_advance_269 : decode cX10_advance 269 = .ok (.goto 7, 3) := by decide +kernel
theorem dX10_advance_272 : decode cX10_advance 272 = .ok (.aload_n 0, 1) := by decide +kernel
theorem dX10_advance_273 : decode cX10_advance 273 = .ok (.getfield 140, 3) := by decide +kernel
theorem dX10_advance_276 : decode cX10_advance 276 = .ok (.putfield 140, 3) := by decide +kernel
theorem dX10_advance_279 : decode cX10_advance 279 = .ok (.aload_n 0, 1) := by decide +kernel
theorem dX10_advance_280 : decode cX10_advance 280 = .ok (.dup, 1) := by decide +kernel
theorem dX10_advance_281 : decode cX10_advance 281 = .ok (.getfield 110, 3) := by decide +kernel
theorem dX10_advance_284 : decode cX10_advance 284 = .ok (.iconst 1, 1) := by decide +kernel
theorem dX10_advance_285 : decode cX10_advance 285 = .ok (.iadd, 1) := by decide +kernel
theorem dX10_advance_286 : decode cX10_advance 286 = .ok (.putfield 110, 3) := by decide +kernel
theorem dX10_advance_289 : decode cX10_advance 289 = .ok (.goto (-67), 3) := by decide +kernel
theorem dX10_advance_292 : decode cX10_advance 292 = .ok (.aload_n 0, 1) := by decide +kernel
theorem dX10_advance_293 : decode cX10_advance 293 = .ok (.aload_n 0, 1) := by decide +kernel
theorem dX10_advance_294 : decode cX10_advance 294 = .ok (.getfield 110, 3) := by decide +kernel
theorem dX10_advance_297 : decode cX10_advance 297 = .ok (.aload_n 0, 1) := by decide +kernel
theorem dX10_advance_298 : decode cX10_advance 298 = .ok (.getfield 117, 3) := by decide +kernel
theorem dX10_advance_301 : decode cX10_advance 301 = .ok (.isub, 1) := by decide +kernel
theorem dX10_advance_302 : decode cX10_advance 302 = .ok (.iconst 5, 1) := by decide +kernel
theorem dX10_advance_303 : decode cX10_advance 303 = .ok (.if_icmp .le 7, 3) := by decide +kernel
theorem dX10_advance_306 : decode cX10_advance 306 = .ok (.iconst 1, 1) := by decide +kernel
theorem dX10_advance_307 : decode cX10_advance 307 = .ok (.goto 4, 3) := by decide +kernel
theorem dX10_advance_310 : decode cX10_advance 310 = .ok (.iconst 3, 1) := by decide +kernel
theorem dX10_advance_311 : decode cX10_advance 311 = .ok (.putfield 126, 3) := by decide +kernel
theorem dX10_advance_314 : decode cX10_advance 314 = .ok (.goto 40, 3) := by decide +kernel
theorem dX10_advance_317 : decode cX10_advance 317 = .ok (.aload_n 0, 1) := by decide +kernel
theorem dX10_advance_318 : decode cX10_advance 318 = .ok (.dup, 1) := by decide +kernel
theorem dX10_advance_319 : decode cX10_advance 319 = .ok (.getfield 110, 3) := by decide +kernel
theorem dX10_advance_322 : decode cX10_advance 322 = .ok (.iconst 1, 1) := by decide +kernel
theorem dX10_advance_323 : decode cX10_advance 323 = .ok (.iadd, 1) := by decide +kernel
theorem dX10_advance_324 : decode cX10_advance 324 = .ok (.putfield 110, 3) := by decide +kernel
theorem dX10_advance_327 : decode cX10_advance 327 = .ok (.aload_n 0, 1) := by decide +kernel
theorem dX10_advance_328 : decode cX10_advance 328 = .ok (.iload_n 1, 1) := by decide +kernel
theorem dX10_advance_329 : decode cX10_advance 329 = .ok (.bipush 59, 2) := by decide +kernel
theorem dX10_advance_331 : decode cX10_advance 331 = .ok (.if_icmp .eq 15, 3) := by decide +kernel
theorem dX10_advance_334 : decode cX10_advance 334 = .ok (.iload_n 1, 1) := by decide +kernel
theorem dX10_advance_335 : decode cX10_advance 335 = .ok (.bipush 40, 2) := by decide +kernel
theorem dX10_advance_337 : decode cX10_advance 337 = .ok (.if_icmp .eq 9, 3) := by decide +kernel
theorem dX10_advance_340 : decode cX10_advance 340 = .ok (.iload_n 1, 1) := by decide +kernel
theorem dX10_advance_341 : decode cX10_advance 341 = .ok (.bipush 41, 2) := by decide +kernel
theorem dX10_advance_343 : decode cX10_advance 343 = .ok (.if_icmp .ne 7, 3) := by decide +kernel
theorem dX10_advance_346 : decode cX10_advance 346 = .ok (.iconst 4, 1) := by decide +kernel
theorem dX10_advance_347 : decode cX10_advance 347 = .ok (.goto 4, 3) := by decide +kernel
theorem dX10_advance_350 : decode cX10_advance 350 = .ok (.iconst 1, 1) := by decide +kernel
theorem dX10_advance_351 : decode cX10_advance 351 = .ok (.putfield 126, 3) := by decide +kernel
theorem dX10_advance_354 : decode cX10_advance 354 = .ok (.iconst 1, 1) := by decide +kernel
theorem dX10_advance_355 : decode cX10_advance 355 = .ok (.ireturn, 1) := by decide +kernel
theorem dX10_byteAt_0 : decode cX10_byteAt 0 = .ok (.iload_n 1, 1) := by decide +kernel
theorem dX10_byteAt_1 : decode cX10_byteAt 1 = .ok (.aload_n 0, 1) := by decide +kernel
theorem dX10_byteAt_2 : decode cX10_byteAt 2 = .ok (.getfield 107, 3) := by decide +kernel
theorem dX10_byteAt_5 : decode cX10_byteAt 5 = .ok (.if_icmp .ge 12, 3) := by decide +kernel
theorem dX10_byteAt_8 : decode cX10_byteAt 8 = .ok (.aload_n 0, 1) := by decide +kernel
theorem dX10_byteAt_9 : decode cX10_byteAt 9 = .ok (.getfield 26, 3) := by decide +kernel
theorem dX10_byteAt_12 : decode cX10_byteAt 12 = .ok (.iload_n 1, 1) := by decide +kernel
theorem dX10_byteAt_13 : decode cX10_byteAt 13 = .ok (.iaload, 1) := by decide +kernel
theorem dX10_byteAt_14 : decode cX10_byteAt 14 = .ok (.goto 4, 3) := by decide +kernel
theorem dX10_byteAt_17 : decode cX10_byteAt 17 = .ok (.iconst (-1), 1) := by decide +kernel
theorem dX10_byteAt_18 : decode cX10_byteAt 18 = .ok (.ireturn, 1) := by decide +kernel
theorem dX10_init_0 : decode cX10_init 0 = .ok (.aload_n 0, 1) := by decide +kernel
theorem dX10_init_1 : decode cX10_init 1 = .ok (.invokespecial 1, 3) := by decide +kernel
theorem dX10_init_4 : decode cX10_init 4 = .ok (.aload_n 0, 1) := by decide +kernel
theorem dX10_init_5 : decode cX10_init 5 = .ok (.sipush 326, 3) := by decide +kernel
theorem dX10_init_8 : decode cX10_init 8 = .ok (.newarray .int, 2) := by decide +kernel
theorem dX10_init_10 : decode cX10_init 10 = .ok (.putfield 7, 3) := by decide +kernel
theorem dX10_init_13 : decode cX10_init 13 = .ok (.aload_n 0, 1) := by decide +kernel
theorem dX10_init_14 : decode cX10_init 14 = .ok (.sipush 326, 3) := by decide +kernel
theorem dX10_init_17 : decode cX10_init 17 = .ok (.newarray .int, 2) := by decide +kernel
theorem dX10_init_19 : decode cX10_init 19 = .ok (.putfield 13, 3) := by decide +kernel
theorem dX10_init_22 : decode cX10_init 22 = .ok (.aload_n 0, 1) := by decide +kernel
theorem dX10_init_23 : decode cX10_init 23 = .ok (.sipush 326, 3) := by decide +kernel
theorem dX10_init_26 : decode cX10_init 26 = .ok (.newarray .int, 2) := by decide +kernel
theorem dX10_init_28 : decode cX10_init 28 = .ok (.putfield 16, 3) := by decide +kernel
theorem dX10_init_31 : decode cX10_init 31 = .ok (.aload_n 0, 1) := by decide +kernel
theorem dX10_init_32 : decode cX10_init 32 = .ok (.sipush 3260, 3) := by decide +kernel
theorem dX10_init_35 : decode cX10_init 35 = .ok (.newarray .int, 2) := by decide +kernel
theorem dX10_init_37 : decode cX10_init 37 = .ok (.putfield 19, 3) := by decide +kernel
theorem dX10_init_40 : decode cX10_init 40 = .ok (.aload_n 0, 1) := by decide +kernel
theorem dX10_init_41 : decode cX10_init 41 = .ok (.bipush 10, 2) := by decide +kernel
theorem dX10_init_43 : decode cX10_init 43 = .ok (.newarray .long, 2) := by decide +kernel
theorem dX10_init_45 : decode cX10_init 45 = .ok (.putfield 22, 3) := by decide +kernel
theorem dX10_init_48 : decode cX10_init 48 = .ok (.aload_n 0, 1) := by decide +kernel
theorem dX10_init_49 : decode cX10_init 49 = .ok (.sipush 700, 3) := by decide +kernel
theorem dX10_init_52 : decode cX10_init 52 = .ok (.newarray .int, 2) := by decide +kernel
theorem dX10_init_54 : decode cX10_init 54 = .ok (.putfield 26, 3) := by decide +kernel
theorem dX10_init_57 : decode cX10_init 57 = .ok (.aload_n 0, 1) := by decide +kernel
theorem dX10_init_58 : decode cX10_init 58 = .ok (.iconst (-1), 1) := by decide +kernel
theorem dX10_init_59 : decode cX10_init 59 = .ok (.putfield 29, 3) := by decide +kernel
theorem dX10_init_62 : decode cX10_init 62 = .ok (.aload_n 0, 1) := by decide +kernel
theorem dX10_init_63 : decode cX10_init 63 = .ok (.bipush 15, 2) := by decide +kernel
theorem dX10_init_65 : decode cX10_init 65 = .ok (.newarray .long, 2) := by decide +kernel
theorem dX10_init_67 : decode cX10_init 67 = .ok (.putfield 33, 3) := by decide +kernel
theorem dX10_init_70 : decode cX10_init 70 = .ok (.aload_n 0, 1) := by decide +kernel
theorem dX10_init_71 : decode cX10_init 71 = .ok (.bipush 10, 2) := by decide +kernel
theorem dX10_init_73 : decode cX10_init 73 = .ok (.newarray .long, 2) := by decide +kernel
theorem dX10_init_75 : decode cX10_init 75 = .ok (.putfield 36, 3) := by decide +kernel
theorem dX10_init_78 : decode cX10_init 78 = .ok (.aload_n 0, 1) := by decide +kernel
theorem dX10_init_79 : decode cX10_init 79 = .ok (.bipush 10, 2) := by decide +kernel
theorem dX10_init_81 : decode cX10_init 81 = .ok (.newarray .long, 2) := by decide +kernel
theorem dX10_init_83 : decode cX10_init 83 = .ok (.putfield 39, 3) := by decide +kernel
theorem dX10_init_86 : decode cX10_init 86 = .ok (.aload_n 0, 1) := by decide +kernel
theorem dX10_init_87 : decode cX10_init 87 = .ok (.bipush 8, 2) := by decide +kernel
theorem dX10_init_89 : decode cX10_init 89 = .ok (.newarray .long, 2) := by decide +kernel
theorem dX10_init_91 : decode cX10_init 91 = .ok (.putfield 42, 3) := by decide +kernel
theorem dX10_init_94 : decode cX10_init 94 = .ok (.aload_n 0, 1) := by decide +kernel
theorem dX10_init_95 : decode cX10_init 95 = .ok (.bipush 8, 2) := by decide +kernel
theorem dX10_init_97 : decode cX10_init 97 = .ok (.newarray .long, 2) := by decide +kernel
theorem dX10_init_99 : decode cX10_init 99 = .ok (.putfield 45, 3) := by decide +kernel
theorem dX10_init_102 : decode cX10_init 102 = .ok (.aload_n 0, 1) := by decide +kernel
theorem dX10_init_103 : decode cX10_init 103 = .ok (.sipush 400, 3) := by decide +kernel
theorem dX10_init_106 : decode cX10_init 106 = .ok (.newarray .int, 2) := by decide +kernel
theorem dX10_init_108 : decode cX10_init 108 = .ok (.putfield 48, 3) := by decide +kernel
theorem dX10_init_111 : decode cX10_init 111 = .ok (.aload_n 0, 1) := by decide +kernel
theorem dX10_init_112 : decode cX10_init 112 = .ok (.sipush 400, 3) := by decide +kernel
theorem dX10_init_115 : decode cX10_init 115 = .ok (.newarray .int, 2) := by decide +kernel
theorem dX10_init_117 : decode cX10_init 117 = .ok (.putfield 51, 3) := by decide +kernel
theorem dX10_init_120 : decode cX10_init 120 = .ok (.aload_n 0, 1) := by decide +kernel
theorem dX10_init_121 : decode cX10_init 121 = .ok (.bipush 11, 2) := by decide +kernel
theorem dX10_init_123 : decode cX10_init 123 = .ok (.newarray .int, 2) := by decide +kernel
theorem dX10_init_125 : decode cX10_init 125 = .ok (.putfield 54, 3) := by decide +kernel
theorem dX10_init_128 : decode cX10_init 128 = .ok (.aload_n 0, 1) := by decide +kernel
theorem dX10_init_129 : decode cX10_init 129 = .ok (.bipush 11, 2) := by decide +kernel
theorem dX10_init_131 : decode cX10_init 131 = .ok (.newarray .int, 2) := by decide +kernel
theorem dX10_init_133 : decode cX10_init 133 = .ok (.putfield 57, 3) := by decide +kernel
theorem dX10_init_136 : decode cX10_init 136 = .ok (.aload_n 0, 1) := by decide +kernel
theorem dX10_init_137 : decode cX10_init 137 = .ok (.sipush 400, 3) := by decide +kernel
theorem dX10_init_140 : decode cX10_init 140 = .ok (.newarray .boolean, 2) := by decide +kernel
theorem dX10_init_142 : decode cX10_init 142 = .ok (.putfield 60, 3) := by decide +kernel
theorem dX10_init_145 : decode cX10_init 145 = .ok (.aload_n 0, 1) := by decide +kernel
theorem dX10_init_146 : decode cX10_init 146 = .ok (.bipush 10, 2) := by decide +kernel
theorem dX10_init_148 : decode cX10_init 148 = .ok (.newarray .int, 2) := by decide +kernel
theorem dX10_init_150 : decode cX10_init 150 = .ok (.putfield 64, 3) := by decide +kernel
theorem dX10_init_153 : decode cX10_init 153 = .ok (.aload_n 0, 1) := by decide +kernel
theorem dX10_init_154 : decode cX10_init 154 = .ok (.bipush 100, 2) := by decide +kernel
theorem dX10_init_156 : decode cX10_init 156 = .ok (.newarray .int, 2) := by decide +kernel
theorem dX10_init_158 : decode cX10_init 158 = .ok (.putfield 67, 3) := by decide +kernel
theorem dX10_init_161 : decode cX10_init 161 = .ok (.iconst 0, 1) := by decide +kernel
theorem dX10_init_162 : decode cX10_init 162 = .ok (.istore_n 1, 1) := by decide +kernel
theorem dX10_init_163 : decode cX10_init 163 = .ok (.iload_n 1, 1) := by decide +kernel
theorem dX10_init_164 : decode cX10_init 164 = .ok (.bipush 15, 2) := by decide +kernel
theorem dX10_init_166 : decode cX10_init 166 = .ok (.if_icmp .ge 21, 3) := by decide +kernel
theorem dX10_init_169 : decode cX10_init 169 = .ok (.aload_n 0, 1) := by decide +kernel
theorem dX10_init_170 : decode cX10_init 170 = .ok (.getfield 33, 3) := by decide +kernel
theorem dX10_init_173 : decode cX10_init 173 = .ok (.iload_n 1, 1) := by decide +kernel
theorem dX10_init_174 : decode cX10_init 174 = .ok (.ldc 70, 2) := by decide +kernel
theorem dX10_init_176 : decode cX10_init 176 = .ok (.iload_n 1, 1) := by decide +kernel
theorem dX10_init_177 : decode cX10_init 177 = .ok (.invokestatic 72, 3) := by decide +kernel
theorem dX10_init_180 : decode cX10_init 180 = .ok (.lastore, 1) := by decide +kernel
theorem dX10_init_181 : decode cX10_init 181 = .ok (.iinc 1 1, 3) := by decide +kernel
theorem dX10_init_184 : decode cX10_init 184 = .ok (.goto (-21), 3) := by decide +kernel
theorem dX10_init_187 : decode cX10_init 187 = .ok (.aload_n 0, 1) := by decide +kernel
theorem dX10_init_188 : decode cX10_init 188 = .ok (.getfield 7, 3) := by decide +kernel
theorem dX10_init_191 : decode cX10_init 191 = .ok (.invokestatic 76, 3) := by decide +kernel
theorem dX10_init_194 : decode cX10_init 194 = .ok (.return_, 1) := by decide +kernel
theorem dX10_load_0 : decode cX10_load 0 = .ok (.aload_n 0, 1) := by decide +kernel
theorem dX10_load_1 : decode cX10_load 1 = .ok (.iload_n 1, 1) := by decide +kernel
theorem dX10_load_2 : decode cX10_load 2 = .ok (.i2l, 1) := by decide +kernel
theorem dX10_load_3 : decode cX10_load 3 = .ok (.lconst 0, 1) := by decide +kernel
theorem dX10_load_4 : decode cX10_load 4 = .ok (.aload_n 0, 1) := by decide +kernel
theorem dX10_load_5 : decode cX10_load 5 = .ok (.getfield 90, 3) := by decide +kernel
theorem dX10_load_8 : decode cX10_load 8 = .ok (.i2l, 1) := by decide +kernel
theorem dX10_load_9 : decode cX10_load 9 = .ok (.invokestatic 152, 3) := by decide +kernel
theorem dX10_load_12 : decode cX10_load 12 = .ok (.ifCond .eq 7, 3) := by decide +kernel
theorem dX10_load_15 : decode cX10_load 15 = .ok (.iconst 0, 1) := by decide +kernel
theorem dX10_load_16 : decode cX10_load 16 = .ok (.goto 4, 3) := by decide +kernel
theorem dX10_load_19 : decode cX10_load 19 = .ok (.iconst 1, 1) := by decide +kernel
theorem dX10_load_20 : decode cX10_load 20 = .ok (.putfield 80, 3) := by decide +kernel
theorem dX10_load_23 : decode cX10_load 23 = .ok (.aload_n 0, 1) := by decide +kernel
theorem dX10_load_24 : decode cX10_load 24 = .ok (.getfield 80, 3) := by decide +kernel
theorem dX10_load_27 : decode cX10_load 27 = .ok (.ifCond .le 5, 3) := by decide +kernel
theorem dX10_load_30 : decode cX10_load 30 = .ok (.iconst 0, 1) := by decide +kernel
theorem dX10_load_31 : decode cX10_load 31 = .ok (.ireturn, 1) := by decide +kernel
theorem dX10_load_32 : decode cX10_load 32 = .ok (.aload_n 0, 1) := by decide +kernel
theorem dX10_load_33 : decode cX10_load 33 = .ok (.iload_n 1, 1) := by decide +kernel
theorem dX10_load_34 : decode cX10_load 34 = .ok (.putfield 107, 3) := by decide +kernel
theorem dX10_load_37 : decode cX10_load 37 = .ok (.aload_n 0, 1) := by decide +kernel
theorem dX10_load_38 : decode cX10_load 38 = .ok (.iconst 0, 1) := by decide +kernel
theorem dX10_load_39 : decode cX10_load 39 = .ok (.putfield 90, 3) := by decide +kernel
theorem dX10_load_42 : decode cX10_load 42 = .ok (.aload_n 0, 1) := by decide +kernel
theorem dX10_load_43 : decode cX10_load 43 = .ok (.iconst 0, 1) := by decide +kernel
theorem dX10_load_44 : decode cX10_load 44 = .ok (.putfield 110, 3) := by decide +kernel
theorem dX10_load_47 : decode cX10_load 47 = .ok (.aload_n 0, 1) := by decide +kernel
theorem dX10_load_48 : decode cX10_load 48 = .ok (.iconst 0, 1) := by decide +kernel
theorem dX10_load_49 : decode cX10_load 49 = .ok (.putfield 143, 3) := by decide +kernel
theorem dX10_load_52 : decode cX10_load 52 = .ok (.aload_n 0, 1) := by decide +kernel
theorem dX10_load_53 : decode cX10_load 53 = .ok (.iconst (-1), 1) := by decide +kernel
theorem dX10_load_54 : decode cX10_load 54 = .ok (.putfield 146, 3) := by decide +kernel
theorem dX10_load_57 : decode cX10_load 57 = .ok (.aload_n 0, 1) := by decide +kernel
theorem dX10_load_58 : decode cX10_load 58 = .ok (.iconst 0, 1) := by decide +kernel
theorem dX10_load_59 : decode cX10_load 59 = .ok (.putfield 182, 3) := by decide +kernel
theorem dX10_load_62 : decode cX10_load 62 = .ok (.aload_n 0, 1) := by decide +kernel
theorem dX10_load_63 : decode cX10_load 63 = .ok (.iconst 0, 1) := by decide +kernel
theorem dX10_load_64 : decode cX10_load 64 = .ok (.putfield 226, 3) := by decide +kernel
theorem dX10_load_67 : decode cX10_load 67 = .ok (.aload_n 0, 1) := by decide +kernel
theorem dX10_load_68 : decode cX10_load 68 = .ok (.iconst 0, 1) := by decide +kernel
theorem dX10_load_69 : decode cX10_load 69 = .ok (.putfield 167, 3) := by decide +kernel
theorem dX10_load_72 : decode cX10_load 72 = .ok (.aload_n 0, 1) := by decide +kernel
theorem dX10_load_73 : decode cX10_load 73 = .ok (.getfield 13, 3) := by decide +kernel
theorem dX10_load_76 : decode cX10_load 76 = .ok (.invokestatic 76, 3) := by decide +kernel
theorem dX10_load_79 : decode cX10_load 79 = .ok (.aload_n 0, 1) := by decide +kernel
theorem dX10_load_80 : decode cX10_load 80 = .ok (.invokevirtual 159, 3) := by decide +kernel
theorem dX10_load_83 : decode cX10_load 83 = .ok (.pop, 1) := by decide +kernel
theorem dX10_load_84 : decode cX10_load 84 = .ok (.iconst 1, 1) := by decide +kernel
theorem dX10_load_85 : decode cX10_load 85 = .ok (.istore_n 2, 1) := by decide +kernel
theorem dX10_load_86 : decode cX10_load 86 = .ok (.iload_n 2, 1) := by decide +kernel
theorem dX10_load_87 : decode cX10_load 87 = .ok (.ifCond .eq 33, 3) := by decide +kernel
theorem dX10_load_90 : decode cX10_load 90 = .ok (.aload_n 0, 1) := by decide +kernel
theorem dX10_load_91 : decode cX10_load 91 = .ok (.getfield 126, 3) := by decide +kernel
theorem dX10_load_94 : decode cX10_load 94 = .ok (.ifCond .eq 26, 3) := by decide +kernel
theorem dX10_load_97 : decode cX10_load 97 = .ok (.aload_n 0, 1) := by decide +kernel
theorem dX10_load_98 : decode cX10_load 98 = .ok (.invokevirtual 249, 3) := by decide +kernel
theorem dX10_load_101 : decode cX10_load 101 = .ok (.ifCond .eq 14, 3) := by decide +kernel
theorem dX10_load_104 : decode cX10_load 104 = .ok (.aload_n 0, 1) := by decide +kernel
theorem dX10_load_105 : decode cX10_load 105 = .ok (.invokevirtual 252, 3) := by decide +kernel
theorem dX10_load_108 : decode cX10_load 108 = .ok (.ifCond .eq 7, 3) := by decide +kernel
theorem dX10_load_111 : decode cX10_load 111 = .ok (.iconst 1, 1) := by decide +kernel
theorem dX10_load_112 : decode cX10_load 112 = .ok (.goto 4, 3) := by decide +kernel
theorem dX10_load_115 : decode cX10_load 115 = .ok (.iconst 0, 1) := by decide +kernel
theorem dX10_load_116 : decode cX10_load 116 = .ok (.istore_n 2, 1) := by decide +kernel
theorem dX10_load_117 : decode cX10_load 117 = .ok (.goto (-31), 3) := by decide +kernel
theorem dX10_load_120 : decode cX10_load 120 = .ok (.aload_n 0, 1) := by decide +kernel
theorem dX10_load_121 : decode cX10_load 121 = .ok (.aload_n 0, 1) := by decide +kernel
theorem dX10_load_122 : decode cX10_load 122 = .ok (.getfield 143, 3) := by decide +kernel
theorem dX10_load_125 : decode cX10_load 125 = .ok (.putfield 255, 3) := by decide +kernel
theorem dX10_load_128 : decode cX10_load 128 = .ok (.aload_n 0, 1) := by decide +kernel
theorem dX10_load_129 : decode cX10_load 129 = .ok (.aload_n 0, 1) := by decide +kernel
theorem dX10_load_130 : decode cX10_load 130 = .ok (.getfield 146, 3) := by decide +kernel
theorem dX10_load_133 : decode cX10_load 133 = .ok (.putfield 29, 3) := by decide +kernel
theorem dX10_load_136 : decode cX10_load 136 = .ok (.iload_n 2, 1) := by decide +kernel
theorem dX10_load_137 : decode cX10_load 137 = .ok (.ifCond .ne 6, 3) := by decide +kernel
theorem dX10_load_140 : decode cX10_load 140 = .ok (.bipush (-3), 2) := by decide +kernel
theorem dX10_load_142 : decode cX10_load 142 = .ok (.ireturn, 1) := by decide +kernel
theorem dX10_load_143 : decode cX10_load 143 = .ok (.aload_n 0, 1) := by decide +kernel
theorem dX10_load_144 : decode cX10_load 144 = .ok (.invokevirtual 258, 3) := by decide +kernel
theorem dX10_load_147 : decode cX10_load 147 = .ok (.aload_n 0, 1) := by decide +kernel
theorem dX10_load_148 : decode cX10_load 148 = .ok (.getfield 7, 3) := by decide +kernel
theorem dX10_load_151 : decode cX10_load 151 = .ok (.bipush 13, 2) := by decide +kernel
theorem dX10_load_153 : decode cX10_load 153 = .ok (.iaload, 1) := by decide +kernel
theorem dX10_load_154 : decode cX10_load 154 = .ok (.ireturn, 1) := by decide +kernel
theorem dX10_takeOver_0 : decode cX10_takeOver 0 = .ok (.aload_n 0, 1) := by decide +kernel
theorem dX10_takeOver_1 : decode cX10_takeOver 1 = .ok (.getfield 13, 3) := by decide +kernel
theorem dX10_takeOver_4 : decode cX10_takeOver 4 = .ok (.aload_n 0, 1) := by decide +kernel
theorem dX10_takeOver_5 : decode cX10_takeOver 5 = .ok (.getfield 7, 3) := by decide +kernel
theorem dX10_takeOver_8 : decode cX10_takeOver 8 = .ok (.invokestatic 245, 3) := by decide +kernel
theorem dX10_takeOver_11 : decode cX10_takeOver 11 = .ok (.iconst 0, 1) := by decide +kernel
theorem dX10_takeOver_12 : decode cX10_takeOver 12 = .ok (.istore_n 1, 1) := by decide +kernel
theorem dX10_takeOver_13 : decode cX10_takeOver 13 = .ok (.iload_n 1, 1) := by decide +kernel
theorem dX10_takeOver_14 : decode cX10_takeOver 14 = .ok (.bipush 10, 2) := by decide +kernel
theorem dX10_takeOver_16 : decode cX10_takeOver 16 = .ok (.if_icmp .ge 21, 3) := by decide +kernel
theorem dX10_takeOver_19 : decode cX10_takeOver 19 = .ok (.aload_n 0, 1) := by decide +kernel
theorem dX10_takeOver_20 : decode cX10_takeOver 20 = .ok (.getfield 36, 3) := by decide +kernel
theorem dX10_takeOver_23 : decode cX10_takeOver 23 = .ok (.iload_n 1, 1) := by decide +kernel
theorem dX10_takeOver_24 : decode cX10_takeOver 24 = .ok (.aload_n 0, 1) := by decide +kernel
theorem dX10_takeOver_25 : decode cX10_takeOver 25 = .ok (.getfield 39, 3) := by decide +kernel
theorem dX10_takeOver_28 : decode cX10_takeOver 28 = .ok (.iload_n 1, 1) := by decide +kernel
theorem dX10_takeOver_29 : decode cX10_takeOver 29 = .ok (.laload, 1) := by decide +kernel
theorem dX10_takeOver_30 : decode cX10_takeOver 30 = .ok (.lastore, 1) := by decide +kernel
theorem dX10_takeOver_31 : decode cX10_takeOver 31 = .ok (.iinc 1 1, 3) := by decide +kernel
theorem dX10_takeOver_34 : decode cX10_takeOver 34 = .ok (.goto (-21), 3) := by decide +kernel
theorem dX10_takeOver_37 : decode cX10_takeOver 37 = .ok (.iconst 0, 1) := by decide +kernel
theorem dX10_takeOver_38 : decode cX10_takeOver 38 = .ok (.istore_n 1, 1) := by decide +kernel
theorem dX10_takeOver_39 : decode cX10_takeOver 39 = .ok (.iload_n 1, 1) := by decide +kernel
theorem dX10_takeOver_40 : decode cX10_takeOver 40 = .ok (.bipush 8, 2) := by decide +kernel
theorem dX10_takeOver_42 : decode cX10_takeOver 42 = .ok (.if_icmp .ge 21, 3) := by decide +kernel
theorem dX10_takeOver_45 : decode cX10_takeOver 45 = .ok (.aload_n 0, 1) := by decide +kernel
theorem dX10_takeOver_46 : decode cX10_takeOver 46 = .ok (.getfield 42, 3) := by decide +kernel
theorem dX10_takeOver_49 : decode cX10_takeOver 49 = .ok (.iload_n 1, 1) := by decide +kernel
theorem dX10_takeOver_50 : decode cX10_takeOver 50 = .ok (.aload_n 0, 1) := by decide +kernel
theorem dX10_takeOver_51 : decode cX10_takeOver 51 = .ok (.getfield 45, 3) := by decide +kernel
theorem dX10_takeOver_54 : decode cX10_takeOver 54 = .ok (.iload_n 1, 1) := by decide +kernel
theorem dX10_takeOver_55 : decode cX10_takeOver 55 = .ok (.laload, 1) := by decide +kernel
theorem dX10_takeOver_56 : decode cX10_takeOver 56 = .ok (.lastore, 1) := by decide +kernel
theorem dX10_takeOver_57 : decode cX10_takeOver 57 = .ok (.iinc 1 1, 3) := by decide +kernel
theorem dX10_takeOver_60 : decode cX10_takeOver 60 = .ok (.goto (-21), 3) := by decide +kernel
theorem dX10_takeOver_63 : decode cX10_takeOver 63 = .ok (.iconst 0, 1) := by decide +kernel
theorem dX10_takeOver_64 : decode cX10_takeOver 64 = .ok (.istore_n 1, 1) := by decide +kernel
theorem dX10_takeOver_65 : decode cX10_takeOver 65 = .ok (.iload_n 1, 1) := by decide +kernel
theorem dX10_takeOver_66 : decode cX10_takeOver 66 = .ok (.bipush 10, 2) := by decide +kernel
theorem dX10_takeOver_68 : decode cX10_takeOver 68 = .ok (.if_icmp .gt 21, 3) := by decide +kernel
theorem dX10_takeOver_71 : decode cX10_takeOver 71 = .ok (.aload_n 0, 1) := by decide +kernel
theorem dX10_takeOver_72 : decode cX10_takeOver 72 = .ok (.getfield 54, 3) := by decide +kernel
theorem dX10_takeOver_75 : decode cX10_takeOver 75 = .ok (.iload_n 1, 1) := by decide +kernel
theorem dX10_takeOver_76 : decode cX10_takeOver 76 = .ok (.aload_n 0, 1) := by decide +kernel
theorem dX10_takeOver_77 : decode cX10_takeOver 77 = .ok (.getfield 57, 3) := by decide +kernel
theorem dX10_takeOver_80 : decode cX10_takeOver 80 = .ok (.iload_n 1, 1) := by decide +kernel
theorem dX10_takeOver_81 : decode cX10_takeOver 81 = .ok (.iaload, 1) := by decide +kernel
theorem dX10_takeOver_82 : decode cX10_takeOver 82 = .ok (.iastore, 1) := by decide +kernel
theorem dX10_takeOver_83 : decode cX10_takeOver 83 = .ok (.iinc 1 1, 3) := by decide +kernel
theorem dX10_takeOver_86 : decode cX10_takeOver 86 = .ok (.goto (-21), 3) := by decide +kernel
theorem dX10_takeOver_89 : decode cX10_takeOver 89 = .ok (.iconst 0, 1) := by decide +kernel
theorem dX10_takeOver_90 : decode cX10_takeOver 90 = .ok (.istore_n 1, 1) := by decide +kernel
theorem dX10_takeOver_91 : decode cX10_takeOver 91 = .ok (.iload_n 1, 1) := by decide +kernel
theorem dX10_takeOver_92 : decode cX10_takeOver 92 = .ok (.aload_n 0, 1) := by decide +kernel
theorem dX10_takeOver_93 : decode cX10_takeOver 93 = .ok (.getfield 167, 3) := by decide +kernel
theorem dX10_takeOver_96 : decode cX10_takeOver 96 = .ok (.if_icmp .ge 21, 3) := by decide +kernel
theorem dX10_takeOver_99 : decode cX10_takeOver 99 = .ok (.aload_n 0, 1) := by decide +kernel
theorem dX10_takeOver_100 : decode cX10_takeOver 100 = .ok (.getfield 48, 3) := by decide +kernel
theorem dX10_takeOver_103 : decode cX10_takeOver 103 = .ok (.iload_n 1, 1) := by decide +kernel
theorem dX10_takeOver_104 : decode cX10_takeOver 104 = .ok (.aload_n 0, 1) := by decide +kernel
theorem dX10_takeOver_105 : decode cX10_takeOver 105 = .ok (.getfield 51, 3) := by decide +kernel
theorem dX10_takeOver_108 : decode cX10_takeOver 108 = .ok (.iload_n 1, 1) := by decide +kernel
theorem dX10_takeOver_109 : decode cX10_takeOver 109 = .ok (.iaload, 1) := by decide +kernel
theorem dX10_takeOver_110 : decode cX10_takeOver 110 = .ok (.iastore, 1) := by decide +kernel
theorem dX10_takeOver_111 : decode cX10_takeOver 111 = .ok (.iinc 1 1, 3) := by decide +kernel
theorem dX10_takeOver_114 : decode cX10_takeOver 114 = .ok (.goto (-23), 3) := by decide +kernel
theorem dX10_takeOver_117 : decode cX10_takeOver 117 = .ok (.aload_n 0, 1) := by decide +kernel
theorem dX10_takeOver_118 : decode cX10_takeOver 118 = .ok (.lconst 0, 1) := by decide +kernel
theorem dX10_takeOver_119 : decode cX10_takeOver 119 = .ok (.putfield 86, 3) := by decide +kernel
theorem dX10_takeOver_122 : decode cX10_takeOver 122 = .ok (.aload_n 0, 1) := by decide +kernel
theorem dX10_takeOver_123 : decode cX10_takeOver 123 = .ok (.iconst 0, 1) := by decide +kernel
theorem dX10_takeOver_124 : decode cX10_takeOver 124 = .ok (.putfield 83, 3) := by decide +kernel
theorem dX10_takeOver_127 : decode cX10_takeOver 127 = .ok (.return_, 1) := by decide +kernel
theorem dX10_wordAt_0 : decode cX10_wordAt 0 = .ok (.iconst 0, 1) := by decide +kernel
theorem dX10_wordAt_1 : decode cX10_wordAt 1 = .ok (.istore_n 2, 1) := by decide +kernel
theorem dX10_wordAt_2 : decode cX10_wordAt 2 = .ok (.iconst 0, 1) := by decide +kernel
theorem dX10_wordAt_3 : decode cX10_wordAt 3 = .ok (.istore_n 3, 1) := by decide +kernel
theorem dX10_wordAt_4 : decode cX10_wordAt 4 = .ok (.iload_n 3, 1) := by decide +kernel
theorem dX10_wordAt_5 : decode cX10_wordAt 5 = .ok (.iload_n 1, 1) := by decide +kernel
theorem dX10_wordAt_6 : decode cX10_wordAt 6 = .ok (.if_icmp .ge 27, 3) := by decide +kernel
theorem dX10_wordAt_9 : decode cX10_wordAt 9 = .ok (.iload_n 3, 1) := by decide +kernel
theorem dX10_wordAt_10 : decode cX10_wordAt 10 = .ok (.aload_n 0, 1) := by decide +kernel
theorem dX10_wordAt_11 : decode cX10_wordAt 11 = .ok (.iload_n 2, 1) := by decide +kernel
theorem dX10_wordAt_12 : decode cX10_wordAt 12 = .ok (.invokevirtual 97, 3) := by decide +kernel
theorem dX10_wordAt_15 : decode cX10_wordAt 15 = .ok (.bipush 32, 2) := by decide +kernel
theorem dX10_wordAt_17 : decode cX10_wordAt 17 = .ok (.if_icmp .ne 7, 3) := by decide +kernel
theorem dX10_wordAt_20 : decode cX10_wordAt 20 = .ok (.iconst 1, 1) := by decide +kernel
theorem dX10_wordAt_21 : decode cX10_wordAt 21 = .ok (.goto 4, 3) := by decide +kernel
theorem dX10_wordAt_24 : decode cX10_wordAt 24 = .ok (.iconst 0, 1) := by decide +kernel
theorem dX10_wordAt_25 : decode cX10_wordAt 25 = .ok (.iadd, 1) := by decide +kernel
theorem dX10_wordAt_26 : decode cX10_wordAt 26 = .ok (.istore_n 3, 1) := by decide +kernel
theorem dX10_wordAt_27 : decode cX10_wordAt 27 = .ok (.iinc 2 1, 3) := by decide +kernel
theorem dX10_wordAt_30 : decode cX10_wordAt 30 = .ok (.goto (-26), 3) := by decide +kernel
theorem dX10_wordAt_33 : decode cX10_wordAt 33 = .ok (.lconst 0, 1) := by decide +kernel
theorem dX10_wordAt_34 : decode cX10_wordAt 34 = .ok (.lstore_n 3, 1) := by decide +kernel
theorem dX10_wordAt_35 : decode cX10_wordAt 35 = .ok (.iload_n 2, 1) := by decide +kernel
theorem dX10_wordAt_36 : decode cX10_wordAt 36 = .ok (.istore 5, 2) := by decide +kernel
theorem dX10_wordAt_38 : decode cX10_wordAt 38 = .ok (.aload_n 0, 1) := by decide +kernel
theorem dX10_wordAt_39 : decode cX10_wordAt 39 = .ok (.iload 5, 2) := by decide +kernel
theorem dX10_wordAt_41 : decode cX10_wordAt 41 = .ok (.invokevirtual 97, 3) := by decide +kernel
theorem dX10_wordAt_44 : decode cX10_wordAt 44 = .ok (.bipush 32, 2) := by decide +kernel
theorem dX10_wordAt_46 : decode cX10_wordAt 46 = .ok (.if_icmp .eq 27, 3) := by decide +kernel
theorem dX10_wordAt_49 : decode cX10_wordAt 49 = .ok (.ldc2_w 103, 3) := by decide +kernel
theorem dX10_wordAt_52 : decode cX10_wordAt 52 = .ok (.lload_n 3, 1) := by decide +kernel
theorem dX10_wordAt_53 : decode cX10_wordAt 53 = .ok (.lmul, 1) := by decide +kernel
theorem dX10_wordAt_54 : decode cX10_wordAt 54 = .ok (.aload_n 0, 1) := by decide +kernel
theorem dX10_wordAt_55 : decode cX10_wordAt 55 = .ok (.iload 5, 2) := by decide +kernel
theorem dX10_wordAt_57 : decode cX10_wordAt 57 = .ok (.invokevirtual 97, 3) := by decide +kernel
theorem dX10_wordAt_60 : decode cX10_wordAt 60 = .ok (.i2l, 1) := by decide +kernel
theorem dX10_wordAt_61 : decode cX10_wordAt 61 = .ok (.ladd, 1) := by decide +kernel
theorem dX10_wordAt_62 : decode cX10_wordAt 62 = .ok (.ldc2_w 105, 3) := by decide +kernel
theorem dX10_wordAt_65 : decode cX10_wordAt 65 = .ok (.lsub, 1) := by decide +kernel
theorem dX10_wordAt_66 : decode cX10_wordAt 66 = .ok (.lstore_n 3, 1) := by decide +kernel
theorem dX10_wordAt_67 : decode cX10_wordAt 67 = .ok (.iinc 5 1, 3) := by decide +kernel
theorem dX10_wordAt_70 : decode cX10_wordAt 70 = .ok (.goto (-32), 3) := by decide +kernel
theorem dX10_wordAt_73 : decode cX10_wordAt 73 = .ok (.lload_n 3, 1) := by decide +kernel
theorem dX10_wordAt_74 : decode cX10_wordAt 74 = .ok (.lreturn, 1) := by decide +kernel
