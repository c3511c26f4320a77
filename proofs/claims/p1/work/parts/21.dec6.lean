theorem lg_lt {x y : Int64} : lg_cmp x y < 0 ↔ x < y := by
  unfold lg_cmp
  simp only [gt_iff_lt, Int64.lt_iff_toInt_lt, ← Int64.toInt_inj]
  repeat' split
  all_goals first | (constructor <;> intro h <;> first | (exact absurd h (by decide)) | omega | decide) | skip
theorem lg_gt {x y : Int64} : 0 < lg_cmp x y ↔ y < x := by
  unfold lg_cmp
  simp only [gt_iff_lt, Int64.lt_iff_toInt_lt, ← Int64.toInt_inj]
  repeat' split
  all_goals first | (constructor <;> intro h <;> first | (exact absurd h (by decide)) | omega | decide) | skip
theorem any_out (x : Int64) : x < 0 ∨ -1 < x := by
  rw [Int64.lt_iff_toInt_lt, Int64.lt_iff_toInt_lt]
  have a0 : (0 : Int64).toInt = 0 := by decide
  have a1 : (-1 : Int64).toInt = -1 := by decide
  omega
theorem any_out1 (x : Int64) : x < 1 ∨ 0 < x := by
  rw [Int64.lt_iff_toInt_lt, Int64.lt_iff_toInt_lt]
  have a0 : (0 : Int64).toInt = 0 := by decide
  have a1 : (1 : Int64).toInt = 1 := by decide
  omega
/-- the row of a fresh account -/
def Zs (f : Nat → Int32) : Prop := f 1 = 365 ∧ ∀ j, j < 326 → j ≠ 1 → f j = 0
/-- the same, on any day -/
def Zd (f : Nat → Int32) : Prop := f 1 = 365 ∧ ∀ j, j < 326 → j ≠ 1 → j ≠ 4 → f j = 0
def Z5 (f : Nat → Int32) : Prop := ∀ j, j < 326 → j ≠ 1 → j ≠ 5 → f j = 0
def Zq (x : Int32) (f : Nat → Int32) : Prop := f 15 = 0 ∧ f 6 = x
def Six (x : Int32) (f : Nat → Int32) : Prop := f 6 = x
def Nul (i : Nat) (f : Nat → Int32) : Prop := ∀ j, j < i → f j = 0
theorem Zs.d {f : Nat → Int32} (h : Zs f) : Zd f := ⟨h.1, fun j h1 h2 _ => h.2 j h1 h2⟩
theorem Zd.day {f : Nat → Int32} (h : Zd f) (y : Int32) : Zd (upd f 4 y) := ⟨(pk_un (by decide)).trans h.1, fun j h1 h2 h3 => (pk_un h3).trans (h.2 j h1 h2 h3)⟩
theorem Zd.zero {f : Nat → Int32} (h : Zd f) (k : Nat) (hk : 1 ≠ k) : Zd (upd f k 0) := ⟨(pk_un hk).trans h.1, fun j h1 h2 h3 => by
  by_cases e : j = k
  · subst e; exact pk_us
  · exact (pk_un e).trans (h.2 j h1 h2 h3)⟩
theorem Zs.five {f : Nat → Int32} (h : Zs f) (y : Int32) : Z5 (upd f 5 y) := fun j h1 h2 h3 => (pk_un h3).trans (h.2 j h1 h2)
theorem Z5.six {f : Nat → Int32} (h : Z5 f) (y : Int32) : Zq y (upd f 6 y) := ⟨(pk_un (by decide)).trans (h 15 (by decide) (by decide) (by decide)), pk_us⟩
theorem Zq.put {x : Int32} {f : Nat → Int32} (h : Zq x f) (k : Nat) (y : Int32) (h1 : 15 ≠ k) (h2 : 6 ≠ k) : Zq x (upd f k y) := ⟨(pk_un h1).trans h.1, (pk_un h2).trans h.2⟩
theorem Zq.last {x : Int32} {f : Nat → Int32} (h : Zq x f) (y : Int32) : Six x (upd f 15 y) := (pk_un (by decide)).trans h.2
theorem Nul.step {i : Nat} {f : Nat → Int32} (hi : i < 326) (h : Nul i f) : Nul (i + 1) (upd f (nI i).toNatClampNeg 0) := by
  rw [nI_clamp (by omega)]
  intro j hj
  by_cases e : j = i
  · subst e; exact pk_us
  · exact (pk_un e).trans (h j (by omega))
theorem Nul.zs {f : Nat → Int32} (h : Nul 326 f) : Zs (upd f 1 365) := ⟨pk_us, fun j h1 h2 => (pk_un h2).trans (h j h1)⟩
theorem in_0 {i : Nat} {N : Nat} (h : i < N) (hN : N < 2 ^ 31) : vp_in (0 + nI i) N := by rw [Int32.zero_add]; exact vp_in_nI h hN
theorem dep_lel {a : Int32} (h : ¬ 99999 < a) : ¬ 0 < lg_cmp (0 + a.toInt64) 9999999 := by
  rw [lg_gt, Int64.zero_add, Int64.lt_iff_toInt_lt, Int32.toInt_toInt64]
  rw [Int32.lt_iff_toInt_lt] at h
  have a1 : (99999 : Int32).toInt = 99999 := by decide
  have a0 : (9999999 : Int64).toInt = 9999999 := by decide
  omega
theorem dep_ne {a : Int32} (h : ¬ a < 1) : ¬ a = 0 := fun e => h (by rw [e]; decide)
theorem in_l {a lo hi : Int32} {lo' hi' : Int64} (e1 : lo'.toInt = lo.toInt) (e2 : hi'.toInt = hi.toInt) (h1 : ¬ a < lo) (h2 : ¬ hi < a) : ¬ a.toInt64 < lo' ∧ ¬ hi' < a.toInt64 := by
  rw [Int32.lt_iff_toInt_lt] at h1 h2
  rw [Int64.lt_iff_toInt_lt, Int64.lt_iff_toInt_lt, Int32.toInt_toInt64]
  omega
theorem out_l {a lo hi : Int32} {lo' hi' : Int64} (e1 : lo'.toInt = lo.toInt) (e2 : hi'.toInt = hi.toInt) (h : a < lo ∨ hi < a) : a.toInt64 < lo' ∨ hi' < a.toInt64 := by
  rw [Int32.lt_iff_toInt_lt, Int32.lt_iff_toInt_lt] at h
  rw [Int64.lt_iff_toInt_lt, Int64.lt_iff_toInt_lt, Int32.toInt_toInt64]
  omega
set_option maxRecDepth 20000 in
theorem ggX10_isMilestone_X10_between : GoodIn wsX10_isMilestone wsX10_between := goodIn_r _ [5] (by decide +kernel) (by decide +kernel)
set_option maxRecDepth 20000 in
theorem gX10_isMilestone_X10_between : GoodIn wsX10_isMilestone (va_wsS RX10 152 yX10_between wsX10_between) := goodIn_app (goodIn_of _ (by decide +kernel)) ggX10_isMilestone_X10_between
set_option maxRecDepth 20000 in
theorem ggX10_becomeDue_X10_doneSet : GoodIn wsX10_becomeDue wsX10_doneSet := goodIn_r _ [6, 1, 7, 8, 9, 5, 10, 27, 28, 29, 30, 31, 32, 33, 34, 35, 36, 37, 38, 39, 40, 41, 42, 43, 44, 45, 46, 47, 48, 49, 50, 51, 52, 53, 54, 55, 56, 57, 58, 59, 60, 61, 62, 63, 64, 65] (by decide +kernel) (by decide +kernel)
set_option maxRecDepth 20000 in
theorem gX10_becomeDue_X10_doneSet : GoodIn wsX10_becomeDue (wsV RX10 284 RX10 yX10_doneSet wsX10_doneSet) := goodIn_app (goodIn_of _ (by decide +kernel)) ggX10_becomeDue_X10_doneSet
set_option maxRecDepth 20000 in
theorem ggX10_payDue_X10_dueWith : GoodIn wsX10_payDue wsX10_dueWith := goodIn_r _ [10, 11, 12, 13, 14, 9, 15, 16, 17, 18, 19, 56, 57, 58, 59, 60, 61, 62, 63, 64, 65, 66, 67, 68, 69, 70, 71, 72, 73, 74, 75, 76, 77, 78, 79, 80, 81, 82, 83, 84, 85, 86, 87, 88, 89, 90, 91, 92, 93, 94] (by decide +kernel) (by decide +kernel)
set_option maxRecDepth 20000 in
theorem gX10_payDue_X10_dueWith : GoodIn wsX10_payDue (wsV RX10 295 RX10 yX10_dueWith wsX10_dueWith) := goodIn_app (goodIn_of _ (by decide +kernel)) ggX10_payDue_X10_dueWith
set_option maxRecDepth 20000 in
theorem ggX10_available_X10_availableNow : GoodIn wsX10_available wsX10_availableNow := goodIn_r _ [6, 7, 8, 9, 10, 5, 11, 12, 13, 14, 15, 16, 17, 18, 19, 20, 21, 22, 23, 24, 25, 26, 27, 28, 29, 30, 31, 32, 33, 34, 35, 36, 37, 38, 39, 40, 41, 42, 43, 44, 45, 46, 47, 48, 49, 50] (by decide +kernel) (by decide +kernel)
set_option maxRecDepth 20000 in
theorem gX10_available_X10_availableNow : GoodIn wsX10_available (wsV RX10 298 RX10 yX10_availableNow wsX10_availableNow) := goodIn_app (goodIn_of _ (by decide +kernel)) ggX10_available_X10_availableNow
set_option maxRecDepth 20000 in
theorem ggX10_state_X10_isMilestone : GoodIn wsX10_state wsX10_isMilestone := goodIn_r _ [5, 6, 7, 8, 4, 9, 19, 20, 21, 22, 23, 24, 25, 26, 27, 28, 29, 30, 31, 32, 33, 34, 35, 36, 37, 38, 39, 40, 41, 42, 43, 44, 45, 46, 47, 48, 49, 50, 51, 52, 53, 54, 55, 56, 57] (by decide +kernel) (by decide +kernel)
set_option maxRecDepth 20000 in
theorem gX10_state_X10_isMilestone : GoodIn wsX10_state (wsV RX10 330 RX10 yX10_isMilestone wsX10_isMilestone) := goodIn_app (goodIn_of _ (by decide +kernel)) ggX10_state_X10_isMilestone
set_option maxRecDepth 20000 in
theorem ggX10_state_X10_good : GoodIn wsX10_state wsX10_good := goodIn_r _ [13, 14, 19, 20, 21, 22, 23, 24, 25, 26, 27, 28, 29, 30, 31, 32, 33, 34, 35, 36, 37, 38, 39, 40, 41, 42, 43, 44, 45, 46, 47, 48, 49, 50, 51, 52, 53, 54, 55, 56, 57] (by decide +kernel) (by decide +kernel)
set_option maxRecDepth 20000 in
theorem gX10_state_X10_good : GoodIn wsX10_state (wsV RX10 333 RX10 yX10_good wsX10_good) := goodIn_app (goodIn_of _ (by decide +kernel)) ggX10_state_X10_good
set_option maxRecDepth 20000 in
theorem ggX10_paid_X10_isMilestone : GoodIn wsX10_paid wsX10_isMilestone := goodIn_r _ [5, 6, 7, 8, 4, 9, 19, 20, 21, 22, 23, 24, 25, 26, 27, 28, 29, 30, 31, 32, 33, 34, 35, 36, 37, 38, 39, 40, 41, 42, 43, 44, 45, 46, 47, 48, 49, 50, 51, 52, 53, 54, 55, 56, 57] (by decide +kernel) (by decide +kernel)
set_option maxRecDepth 20000 in
theorem gX10_paid_X10_isMilestone : GoodIn wsX10_paid (wsV RX10 330 RX10 yX10_isMilestone wsX10_isMilestone) := goodIn_app (goodIn_of _ (by decide +kernel)) ggX10_paid_X10_isMilestone
set_option maxRecDepth 20000 in
theorem ggX10_paid_X10_good : GoodIn wsX10_paid wsX10_good := goodIn_r _ [13, 14, 19, 20, 21, 22, 23, 24, 25, 26, 27, 28, 29, 30, 31, 32, 33, 34, 35, 36, 37, 38, 39, 40, 41, 42, 43, 44, 45, 46, 47, 48, 49, 50, 51, 52, 53, 54, 55, 56, 57] (by decide +kernel) (by decide +kernel)
set_option maxRecDepth 20000 in
theorem gX10_paid_X10_good : GoodIn wsX10_paid (wsV RX10 333 RX10 yX10_good wsX10_good) := goodIn_app (goodIn_of _ (by decide +kernel)) ggX10_paid_X10_good
set_option maxRecDepth 20000 in
theorem ggX10_remaining_X10_isMilestone : GoodIn wsX10_remaining wsX10_isMilestone := goodIn_r _ [5, 6, 7, 8, 4, 9, 27, 28, 29, 30, 31, 32, 33, 34, 35, 36, 37, 38, 39, 40, 41, 42, 43, 44, 45, 46, 47, 48, 49, 50, 51, 52, 53, 54, 55, 56, 57, 58, 59, 60, 61, 62, 63, 64, 65] (by decide +kernel) (by decide +kernel)
set_option maxRecDepth 20000 in
theorem gX10_remaining_X10_isMilestone : GoodIn wsX10_remaining (wsV RX10 330 RX10 yX10_isMilestone wsX10_isMilestone) := goodIn_app (goodIn_of _ (by decide +kernel)) ggX10_remaining_X10_isMilestone
set_option maxRecDepth 20000 in
theorem ggX10_remaining_X10_good : GoodIn wsX10_remaining wsX10_good := goodIn_r _ [13, 14, 27, 28, 29, 30, 31, 32, 33, 34, 35, 36, 37, 38, 39, 40, 41, 42, 43, 44, 45, 46, 47, 48, 49, 50, 51, 52, 53, 54, 55, 56, 57, 58, 59, 60, 61, 62, 63, 64, 65] (by decide +kernel) (by decide +kernel)
set_option maxRecDepth 20000 in
theorem gX10_remaining_X10_good : GoodIn wsX10_remaining (wsV RX10 333 RX10 yX10_good wsX10_good) := goodIn_app (goodIn_of _ (by decide +kernel)) ggX10_remaining_X10_good
set_option maxRecDepth 20000 in
theorem ggX10_frozen_X10_isMilestone : GoodIn wsX10_frozen wsX10_isMilestone := goodIn_r _ [5, 6, 7, 8, 4, 9, 19, 20, 21, 22, 23, 24, 25, 26, 27, 28, 29, 30, 31, 32, 33, 34, 35, 36, 37, 38, 39, 40, 41, 42, 43, 44, 45, 46, 47, 48, 49, 50, 51, 52, 53, 54, 55, 56, 57] (by decide +kernel) (by decide +kernel)
set_option maxRecDepth 20000 in
theorem gX10_frozen_X10_isMilestone : GoodIn wsX10_frozen (wsV RX10 330 RX10 yX10_isMilestone wsX10_isMilestone) := goodIn_app (goodIn_of _ (by decide +kernel)) ggX10_frozen_X10_isMilestone
set_option maxRecDepth 20000 in
theorem ggX10_frozen_X10_good : GoodIn wsX10_frozen wsX10_good := goodIn_r _ [13, 14, 19, 20, 21, 22, 23, 24, 25, 26, 27, 28, 29, 30, 31, 32, 33, 34, 35, 36, 37, 38, 39, 40, 41, 42, 43, 44, 45, 46, 47, 48, 49, 50, 51, 52, 53, 54, 55, 56, 57] (by decide +kernel) (by decide +kernel)
set_option maxRecDepth 20000 in
theorem gX10_frozen_X10_good : GoodIn wsX10_frozen (wsV RX10 333 RX10 yX10_good wsX10_good) := goodIn_app (goodIn_of _ (by decide +kernel)) ggX10_frozen_X10_good
set_option maxRecDepth 20000 in
theorem ggX10_dueDay_X10_isMilestone : GoodIn wsX10_dueDay wsX10_isMilestone := goodIn_r _ [5, 6, 7, 8, 4, 9, 19, 20, 21, 22, 23, 24, 25, 26, 27, 28, 29, 30, 31, 32, 33, 34, 35, 36, 37, 38, 39, 40, 41, 42, 43, 44, 45, 46, 47, 48, 49, 50, 51, 52, 53, 54, 55, 56, 57] (by decide +kernel) (by decide +kernel)
set_option maxRecDepth 20000 in
theorem gX10_dueDay_X10_isMilestone : GoodIn wsX10_dueDay (wsV RX10 330 RX10 yX10_isMilestone wsX10_isMilestone) := goodIn_app (goodIn_of _ (by decide +kernel)) ggX10_dueDay_X10_isMilestone
set_option maxRecDepth 20000 in
theorem ggX10_dueDay_X10_good : GoodIn wsX10_dueDay wsX10_good := goodIn_r _ [13, 14, 19, 20, 21, 22, 23, 24, 25, 26, 27, 28, 29, 30, 31, 32, 33, 34, 35, 36, 37, 38, 39, 40, 41, 42, 43, 44, 45, 46, 47, 48, 49, 50, 51, 52, 53, 54, 55, 56, 57] (by decide +kernel) (by decide +kernel)
set_option maxRecDepth 20000 in
theorem gX10_dueDay_X10_good : GoodIn wsX10_dueDay (wsV RX10 333 RX10 yX10_good wsX10_good) := goodIn_app (goodIn_of _ (by decide +kernel)) ggX10_dueDay_X10_good
set_option maxRecDepth 20000 in
theorem ggX10_holds_X10_isMilestone : GoodIn wsX10_holds wsX10_isMilestone := goodIn_r _ [5, 6, 7, 8, 4, 9, 39, 40, 41, 42, 43, 44, 45, 46, 47, 48, 49, 50, 51, 52, 53, 54, 55, 56, 57, 58, 59, 60, 61, 62, 63, 64, 65, 66, 67, 68, 69, 70, 71, 72, 73, 74, 75, 76, 77] (by decide +kernel) (by decide +kernel)
set_option maxRecDepth 20000 in
theorem gX10_holds_X10_isMilestone : GoodIn wsX10_holds (wsV RX10 330 RX10 yX10_isMilestone wsX10_isMilestone) := goodIn_app (goodIn_of _ (by decide +kernel)) ggX10_holds_X10_isMilestone
set_option maxRecDepth 20000 in
theorem ggX10_holds_X10_good : GoodIn wsX10_holds wsX10_good := goodIn_r _ [13, 14, 39, 40, 41, 42, 43, 44, 45, 46, 47, 48, 49, 50, 51, 52, 53, 54, 55, 56, 57, 58, 59, 60, 61, 62, 63, 64, 65, 66, 67, 68, 69, 70, 71, 72, 73, 74, 75, 76, 77] (by decide +kernel) (by decide +kernel)
set_option maxRecDepth 20000 in
theorem gX10_holds_X10_good : GoodIn wsX10_holds (wsV RX10 333 RX10 yX10_good wsX10_good) := goodIn_app (goodIn_of _ (by decide +kernel)) ggX10_holds_X10_good
set_option maxRecDepth 20000 in
theorem ggX10_dayByClock_X10_isMilestone : GoodIn wsX10_dayByClock wsX10_isMilestone := goodIn_r _ [6, 1, 7, 8, 5, 9, 35, 36, 37, 38, 39, 40, 41, 42, 43, 44, 45, 46, 47, 48, 49, 50, 51, 52, 53, 54, 55, 56, 57, 58, 59, 60, 61, 62, 63, 64, 65, 66, 67, 68, 69, 70, 71, 72, 73] (by decide +kernel) (by decide +kernel)
set_option maxRecDepth 20000 in
theorem gX10_dayByClock_X10_isMilestone : GoodIn wsX10_dayByClock (wsV RX10 330 RX10 yX10_isMilestone wsX10_isMilestone) := goodIn_app (goodIn_of _ (by decide +kernel)) ggX10_dayByClock_X10_isMilestone
set_option maxRecDepth 20000 in
theorem ggX10_dayByClock_X10_good : GoodIn wsX10_dayByClock wsX10_good := goodIn_r _ [13, 14, 35, 36, 37, 38, 39, 40, 41, 42, 43, 44, 45, 46, 47, 48, 49, 50, 51, 52, 53, 54, 55, 56, 57, 58, 59, 60, 61, 62, 63, 64, 65, 66, 67, 68, 69, 70, 71, 72, 73] (by decide +kernel) (by decide +kernel)
set_option maxRecDepth 20000 in
theorem gX10_dayByClock_X10_good : GoodIn wsX10_dayByClock (wsV RX10 333 RX10 yX10_good wsX10_good) := goodIn_app (goodIn_of _ (by decide +kernel)) ggX10_dayByClock_X10_good
set_option maxRecDepth 20000 in
theorem ggX10_missingProofs_X10_isMilestone : GoodIn wsX10_missingProofs wsX10_isMilestone := goodIn_r _ [6, 1, 7, 8, 5, 9, 38, 39, 40, 41, 42, 43, 44, 45, 46, 47, 48, 49, 50, 51, 52, 53, 54, 55, 56, 57, 58, 59, 60, 61, 62, 63, 64, 65, 66, 67, 68, 69, 70, 71, 72, 73, 74, 75, 76] (by decide +kernel) (by decide +kernel)
set_option maxRecDepth 20000 in
theorem gX10_missingProofs_X10_isMilestone : GoodIn wsX10_missingProofs (wsV RX10 330 RX10 yX10_isMilestone wsX10_isMilestone) := goodIn_app (goodIn_of _ (by decide +kernel)) ggX10_missingProofs_X10_isMilestone
set_option maxRecDepth 20000 in
theorem ggX10_missingProofs_X10_good : GoodIn wsX10_missingProofs wsX10_good := goodIn_r _ [13, 14, 38, 39, 40, 41, 42, 43, 44, 45, 46, 47, 48, 49, 50, 51, 52, 53, 54, 55, 56, 57, 58, 59, 60, 61, 62, 63, 64, 65, 66, 67, 68, 69, 70, 71, 72, 73, 74, 75, 76] (by decide +kernel) (by decide +kernel)
set_option maxRecDepth 20000 in
theorem gX10_missingProofs_X10_good : GoodIn wsX10_missingProofs (wsV RX10 333 RX10 yX10_good wsX10_good) := goodIn_app (goodIn_of _ (by decide +kernel)) ggX10_missingProofs_X10_good
set_option maxRecDepth 20000 in
theorem ggX10_graceLeft_X10_isMilestone : GoodIn wsX10_graceLeft wsX10_isMilestone := goodIn_r _ [10, 1, 11, 12, 9, 13, 23, 24, 25, 26, 27, 28, 29, 30, 31, 32, 33, 34, 35, 36, 37, 38, 39, 40, 41, 42, 43, 44, 45, 46, 47, 48, 49, 50, 51, 52, 53, 54, 55, 56, 57, 58, 59, 60, 61] (by decide +kernel) (by decide +kernel)
set_option maxRecDepth 20000 in
theorem gX10_graceLeft_X10_isMilestone : GoodIn wsX10_graceLeft (wsV RX10 330 RX10 yX10_isMilestone wsX10_isMilestone) := goodIn_app (goodIn_of _ (by decide +kernel)) ggX10_graceLeft_X10_isMilestone
set_option maxRecDepth 20000 in
theorem ggX10_graceLeft_X10_good : GoodIn wsX10_graceLeft wsX10_good := goodIn_r _ [17, 18, 23, 24, 25, 26, 27, 28, 29, 30, 31, 32, 33, 34, 35, 36, 37, 38, 39, 40, 41, 42, 43, 44, 45, 46, 47, 48, 49, 50, 51, 52, 53, 54, 55, 56, 57, 58, 59, 60, 61] (by decide +kernel) (by decide +kernel)
set_option maxRecDepth 20000 in
theorem gX10_graceLeft_X10_good : GoodIn wsX10_graceLeft (wsV RX10 333 RX10 yX10_good wsX10_good) := goodIn_app (goodIn_of _ (by decide +kernel)) ggX10_graceLeft_X10_good
set_option maxRecDepth 20000 in
theorem ggX10_isProof_X10_between : GoodIn wsX10_isProof wsX10_between := goodIn_r _ [5] (by decide +kernel) (by decide +kernel)
set_option maxRecDepth 20000 in
theorem gX10_isProof_X10_between : GoodIn wsX10_isProof (va_wsS RX10 152 yX10_between wsX10_between) := goodIn_app (goodIn_of _ (by decide +kernel)) ggX10_isProof_X10_between
set_option maxRecDepth 20000 in
theorem ggX10_isSubmitted_X10_isProof : GoodIn wsX10_isSubmitted wsX10_isProof := goodIn_r _ [6, 1, 7, 8, 5, 9, 15, 16, 17, 18, 19, 20, 21, 22, 23, 24, 25, 26, 27, 28, 29, 30, 31, 32, 33, 34, 35, 36, 37, 38, 39, 40, 41, 42, 43, 44, 45, 46, 47, 48, 49, 50, 51, 52, 53] (by decide +kernel) (by decide +kernel)
set_option maxRecDepth 20000 in
theorem gX10_isSubmitted_X10_isProof : GoodIn wsX10_isSubmitted (wsV RX10 348 RX10 yX10_isProof wsX10_isProof) := goodIn_app (goodIn_of _ (by decide +kernel)) ggX10_isSubmitted_X10_isProof
set_option maxRecDepth 20000 in
theorem ggX10_isSubmitted_X10_good : GoodIn wsX10_isSubmitted wsX10_good := goodIn_r _ [13, 14, 15, 16, 17, 18, 19, 20, 21, 22, 23, 24, 25, 26, 27, 28, 29, 30, 31, 32, 33, 34, 35, 36, 37, 38, 39, 40, 41, 42, 43, 44, 45, 46, 47, 48, 49, 50, 51, 52, 53] (by decide +kernel) (by decide +kernel)
set_option maxRecDepth 20000 in
theorem gX10_isSubmitted_X10_good : GoodIn wsX10_isSubmitted (wsV RX10 333 RX10 yX10_good wsX10_good) := goodIn_app (goodIn_of _ (by decide +kernel)) ggX10_isSubmitted_X10_good
set_option maxRecDepth 20000 in
theorem ggX10_proofCharacter_X10_isProof : GoodIn wsX10_proofCharacter wsX10_isProof := goodIn_r _ [7, 8, 9, 10, 6, 11, 19, 20, 21, 22, 23, 24, 25, 26, 27, 28, 29, 30, 31, 32, 33, 34, 35, 36, 37, 38, 39, 40, 41, 42, 43, 44, 45, 46, 47, 48, 49, 50, 51, 52, 53, 54, 55, 56, 57] (by decide +kernel) (by decide +kernel)
set_option maxRecDepth 20000 in
theorem gX10_proofCharacter_X10_isProof : GoodIn wsX10_proofCharacter (wsV RX10 348 RX10 yX10_isProof wsX10_isProof) := goodIn_app (goodIn_of _ (by decide +kernel)) ggX10_proofCharacter_X10_isProof
set_option maxRecDepth 20000 in
theorem ggX10_wouldHold_X10_between : GoodIn wsX10_wouldHold wsX10_between := goodIn_r _ [5] (by decide +kernel) (by decide +kernel)
set_option maxRecDepth 20000 in
theorem gX10_wouldHold_X10_between : GoodIn wsX10_wouldHold (va_wsS RX10 152 yX10_between wsX10_between) := goodIn_app (goodIn_of _ (by decide +kernel)) ggX10_wouldHold_X10_between
set_option maxRecDepth 20000 in
theorem ggX10_wouldHold_X10_isMilestone : GoodIn wsX10_wouldHold wsX10_isMilestone := goodIn_r _ [9, 1, 2, 3, 4, 5, 35, 36, 37, 38, 39, 40, 41, 42, 43, 44, 45, 46, 47, 48, 49, 50, 51, 52, 53, 54, 55, 56, 57, 58, 59, 60, 61, 62, 63, 64, 65, 66, 67, 68, 69, 70, 71, 72, 73] (by decide +kernel) (by decide +kernel)
set_option maxRecDepth 20000 in
theorem gX10_wouldHold_X10_isMilestone : GoodIn wsX10_wouldHold (wsV RX10 330 RX10 yX10_isMilestone wsX10_isMilestone) := goodIn_app (goodIn_of _ (by decide +kernel)) ggX10_wouldHold_X10_isMilestone
set_option maxRecDepth 20000 in
theorem ggX10_wouldHold_X10_good_ : GoodIn wsX10_wouldHold wsX10_good_ := goodIn_r _ [13, 14, 35, 36, 37, 38, 39, 40, 41, 42, 43, 44, 45, 46, 47, 48, 49, 50, 51, 52, 53, 54, 55, 56, 57, 58, 59, 60, 61, 62, 63, 64, 65, 66, 67, 68, 69, 70, 71, 72, 73] (by decide +kernel) (by decide +kernel)
set_option maxRecDepth 20000 in
theorem gX10_wouldHold_X10_good_ : GoodIn wsX10_wouldHold (wsV RX10 358 RX10 yX10_good_ wsX10_good_) := goodIn_app (goodIn_of _ (by decide +kernel)) ggX10_wouldHold_X10_good_
set_option maxRecDepth 20000 in
theorem ggX10_dueAt_X10_dueWith : GoodIn wsX10_dueAt wsX10_dueWith := goodIn_r _ [5, 6, 7, 8, 9, 4, 10, 11, 12, 13, 14, 20, 21, 22, 23, 24, 25, 26, 27, 28, 29, 30, 31, 32, 33, 34, 35, 36, 37, 38, 39, 40, 41, 42, 43, 44, 45, 46, 47, 48, 49, 50, 51, 52, 53, 54, 55, 56, 57, 58] (by decide +kernel) (by decide +kernel)
set_option maxRecDepth 20000 in
theorem gX10_dueAt_X10_dueWith : GoodIn wsX10_dueAt (wsV RX10 295 RX10 yX10_dueWith wsX10_dueWith) := goodIn_app (goodIn_of _ (by decide +kernel)) ggX10_dueAt_X10_dueWith
set_option maxRecDepth 20000 in
theorem ggX10_dueAt_X10_good : GoodIn wsX10_dueAt wsX10_good := goodIn_r _ [18, 19, 20, 21, 22, 23, 24, 25, 26, 27, 28, 29, 30, 31, 32, 33, 34, 35, 36, 37, 38, 39, 40, 41, 42, 43, 44, 45, 46, 47, 48, 49, 50, 51, 52, 53, 54, 55, 56, 57, 58] (by decide +kernel) (by decide +kernel)
set_option maxRecDepth 20000 in
theorem gX10_dueAt_X10_good : GoodIn wsX10_dueAt (wsV RX10 333 RX10 yX10_good wsX10_good) := goodIn_app (goodIn_of _ (by decide +kernel)) ggX10_dueAt_X10_good
set_option maxRecDepth 20000 in
theorem ggX10_nextDue_X10_dueWith : GoodIn wsX10_nextDue wsX10_dueWith := goodIn_r _ [6, 7, 8, 9, 10, 5, 11, 12, 13, 14, 15, 16, 17, 18, 19, 20, 21, 22, 23, 24, 25, 26, 27, 28, 29, 30, 31, 32, 33, 34, 35, 36, 37, 38, 39, 40, 41, 42, 43, 44, 45, 46, 47, 48, 49, 50, 51, 52, 53, 54] (by decide +kernel) (by decide +kernel)
set_option maxRecDepth 20000 in
theorem gX10_nextDue_X10_dueWith : GoodIn wsX10_nextDue (wsV RX10 295 RX10 yX10_dueWith wsX10_dueWith) := goodIn_app (goodIn_of _ (by decide +kernel)) ggX10_nextDue_X10_dueWith
set_option maxRecDepth 20000 in
theorem ggX10_isTrial_X10_between : GoodIn wsX10_isTrial wsX10_between := goodIn_r _ [5] (by decide +kernel) (by decide +kernel)
set_option maxRecDepth 20000 in
theorem gX10_isTrial_X10_between : GoodIn wsX10_isTrial (va_wsS RX10 152 yX10_between wsX10_between) := goodIn_app (goodIn_of _ (by decide +kernel)) ggX10_isTrial_X10_between
set_option maxRecDepth 20000 in
theorem ggX10_paidAfter_X10_isMilestone : GoodIn wsX10_paidAfter wsX10_isMilestone := goodIn_r _ [5, 6, 7, 8, 4, 9, 122, 123, 124, 125, 126, 127, 128, 129, 130, 131, 132, 133, 134, 135, 136, 137, 138, 139, 140, 141, 142, 143, 144, 145, 146, 147, 148, 149, 150, 151, 152, 153, 154, 155, 156, 157, 158, 159, 160] (by decide +kernel) (by decide +kernel)
set_option maxRecDepth 20000 in
theorem gX10_paidAfter_X10_isMilestone : GoodIn wsX10_paidAfter (wsV RX10 330 RX10 yX10_isMilestone wsX10_isMilestone) := goodIn_app (goodIn_of _ (by decide +kernel)) ggX10_paidAfter_X10_isMilestone
set_option maxRecDepth 20000 in
theorem ggX10_paidAfter_X10_isTrial : GoodIn wsX10_paidAfter wsX10_isTrial := goodIn_r _ [12, 13, 7, 8, 4, 9] (by decide +kernel) (by decide +kernel)
set_option maxRecDepth 20000 in
theorem gX10_paidAfter_X10_isTrial : GoodIn wsX10_paidAfter (va_wsS RX10 363 yX10_isTrial wsX10_isTrial) := goodIn_app (goodIn_of _ (by decide +kernel)) ggX10_paidAfter_X10_isTrial
set_option maxRecDepth 20000 in
theorem ggX10_paidAfter_X10_good_ : GoodIn wsX10_paidAfter wsX10_good_ := goodIn_r _ [17, 18, 122, 123, 124, 125, 126, 127, 128, 129, 130, 131, 132, 133, 134, 135, 136, 137, 138, 139, 140, 141, 142, 143, 144, 145, 146, 147, 148, 149, 150, 151, 152, 153, 154, 155, 156, 157, 158, 159, 160] (by decide +kernel) (by decide +kernel)
set_option maxRecDepth 20000 in
theorem gX10_paidAfter_X10_good_ : GoodIn wsX10_paidAfter (wsV RX10 358 RX10 yX10_good_ wsX10_good_) := goodIn_app (goodIn_of _ (by decide +kernel)) ggX10_paidAfter_X10_good_
set_option maxRecDepth 20000 in
theorem ggX10_daysUntilClosed_X10_isMilestone : GoodIn wsX10_daysUntilClosed wsX10_isMilestone := goodIn_r _ [5, 6, 7, 8, 4, 9, 114, 115, 116, 117, 118, 119, 120, 121, 122, 123, 124, 125, 126, 127, 128, 129, 130, 131, 132, 133, 134, 135, 136, 137, 138, 139, 140, 141, 142, 143, 144, 145, 146, 147, 148, 149, 150, 151, 152] (by decide +kernel) (by decide +kernel)
set_option maxRecDepth 20000 in
theorem gX10_daysUntilClosed_X10_isMilestone : GoodIn wsX10_daysUntilClosed (wsV RX10 330 RX10 yX10_isMilestone wsX10_isMilestone) := goodIn_app (goodIn_of _ (by decide +kernel)) ggX10_daysUntilClosed_X10_isMilestone
set_option maxRecDepth 20000 in
theorem ggX10_daysUntilClosed_X10_good : GoodIn wsX10_daysUntilClosed wsX10_good := goodIn_r _ [13, 14, 114, 115, 116, 117, 118, 119, 120, 121, 122, 123, 124, 125, 126, 127, 128, 129, 130, 131, 132, 133, 134, 135, 136, 137, 138, 139, 140, 141, 142, 143, 144, 145, 146, 147, 148, 149, 150, 151, 152] (by decide +kernel) (by decide +kernel)
set_option maxRecDepth 20000 in
theorem gX10_daysUntilClosed_X10_good : GoodIn wsX10_daysUntilClosed (wsV RX10 333 RX10 yX10_good wsX10_good) := goodIn_app (goodIn_of _ (by decide +kernel)) ggX10_daysUntilClosed_X10_good
set_option maxRecDepth 20000 in
theorem ggX10_canSplit_X10_isMilestone : GoodIn wsX10_canSplit wsX10_isMilestone := goodIn_r _ [6, 7, 8, 9, 5, 10, 19, 20, 21, 22, 23, 24, 25, 26, 27, 28, 29, 30, 31, 32, 33, 34, 35, 36, 37, 38, 39, 40, 41, 42, 43, 44, 45, 46, 47, 48, 49, 50, 51, 52, 53, 54, 55, 56, 57] (by decide +kernel) (by decide +kernel)
set_option maxRecDepth 20000 in
theorem gX10_canSplit_X10_isMilestone : GoodIn wsX10_canSplit (wsV RX10 330 RX10 yX10_isMilestone wsX10_isMilestone) := goodIn_app (goodIn_of _ (by decide +kernel)) ggX10_canSplit_X10_isMilestone
set_option maxRecDepth 20000 in
theorem ggX10_canSplit_X10_good_ : GoodIn wsX10_canSplit wsX10_good_ := goodIn_r _ [14, 1, 19, 20, 21, 22, 23, 24, 25, 26, 27, 28, 29, 30, 31, 32, 33, 34, 35, 36, 37, 38, 39, 40, 41, 42, 43, 44, 45, 46, 47, 48, 49, 50, 51, 52, 53, 54, 55, 56, 57] (by decide +kernel) (by decide +kernel)
set_option maxRecDepth 20000 in
theorem gX10_canSplit_X10_good_ : GoodIn wsX10_canSplit (wsV RX10 358 RX10 yX10_good_ wsX10_good_) := goodIn_app (goodIn_of _ (by decide +kernel)) ggX10_canSplit_X10_good_
set_option maxRecDepth 20000 in
theorem ggX10_isShare_X10_between : GoodIn wsX10_isShare wsX10_between := goodIn_r _ [5] (by decide +kernel) (by decide +kernel)
set_option maxRecDepth 20000 in
theorem gX10_isShare_X10_between : GoodIn wsX10_isShare (va_wsS RX10 152 yX10_between wsX10_between) := goodIn_app (goodIn_of _ (by decide +kernel)) ggX10_isShare_X10_between
set_option maxRecDepth 20000 in
theorem ggX10_splitPayment_X10_isShare : GoodIn wsX10_splitPayment wsX10_isShare := goodIn_r _ [4, 5, 6, 7, 3, 8] (by decide +kernel) (by decide +kernel)
set_option maxRecDepth 20000 in
theorem gX10_splitPayment_X10_isShare : GoodIn wsX10_splitPayment (va_wsS RX10 378 yX10_isShare wsX10_isShare) := goodIn_app (goodIn_of _ (by decide +kernel)) ggX10_splitPayment_X10_isShare
set_option maxRecDepth 20000 in
theorem ggX10_splitPayment_X10_canSplit : GoodIn wsX10_splitPayment wsX10_canSplit := goodIn_r _ [12, 13, 14, 15, 16, 3, 17, 18, 6, 7, 8, 19, 20, 21, 22, 23, 24, 25, 26, 51, 52, 53, 54, 55, 56, 57, 58, 59, 60, 61, 62, 63, 64, 65, 66, 67, 68, 69, 70, 71, 72, 73, 74, 75, 76, 77, 78, 79, 80, 81, 82, 83, 84, 85, 86, 87, 88, 89] (by decide +kernel) (by decide +kernel)
set_option maxRecDepth 20000 in
theorem gX10_splitPayment_X10_canSplit : GoodIn wsX10_splitPayment (wsV RX10 381 RX10 yX10_canSplit wsX10_canSplit) := goodIn_app (goodIn_of _ (by decide +kernel)) ggX10_splitPayment_X10_canSplit
set_option maxRecDepth 20000 in
theorem ggX10_shareFor_X10_between : GoodIn wsX10_shareFor wsX10_between := goodIn_r _ [5] (by decide +kernel) (by decide +kernel)
set_option maxRecDepth 20000 in
theorem gX10_shareFor_X10_between : GoodIn wsX10_shareFor (va_wsS RX10 152 yX10_between wsX10_between) := goodIn_app (goodIn_of _ (by decide +kernel)) ggX10_shareFor_X10_between
set_option maxRecDepth 20000 in
theorem ggX10_shareFor_X10_canSplit : GoodIn wsX10_shareFor wsX10_canSplit := goodIn_r _ [9, 10, 11, 12, 13, 4, 14, 15, 2, 3, 5, 16, 17, 18, 19, 20, 21, 22, 23, 54, 55, 56, 57, 58, 59, 60, 61, 62, 63, 64, 65, 66, 67, 68, 69, 70, 71, 72, 73, 74, 75, 76, 77, 78, 79, 80, 81, 82, 83, 84, 85, 86, 87, 88, 89, 90, 91, 92] (by decide +kernel) (by decide +kernel)
set_option maxRecDepth 20000 in
theorem gX10_shareFor_X10_canSplit : GoodIn wsX10_shareFor (wsV RX10 381 RX10 yX10_canSplit wsX10_canSplit) := goodIn_app (goodIn_of _ (by decide +kernel)) ggX10_shareFor_X10_canSplit
set_option maxRecDepth 20000 in
theorem ggX10_submit_X10_isProof : GoodIn wsX10_submit wsX10_isProof := goodIn_r _ [6, 1, 7, 8, 5, 9, 23, 24, 25, 26, 27, 28, 29, 30, 31, 32, 33, 34, 35, 36, 37, 38, 39, 40, 41, 42, 43, 44, 45, 46, 47, 48, 49, 50, 51, 52, 53, 54, 55, 56, 57, 58, 59, 60, 61] (by decide +kernel) (by decide +kernel)
set_option maxRecDepth 20000 in
theorem gX10_submit_X10_isProof : GoodIn wsX10_submit (wsV RX10 348 RX10 yX10_isProof wsX10_isProof) := goodIn_app (goodIn_of _ (by decide +kernel)) ggX10_submit_X10_isProof
set_option maxRecDepth 20000 in
theorem ggX10_submit_X10_good : GoodIn wsX10_submit wsX10_good := goodIn_r _ [13, 14, 23, 24, 25, 26, 27, 28, 29, 30, 31, 32, 33, 34, 35, 36, 37, 38, 39, 40, 41, 42, 43, 44, 45, 46, 47, 48, 49, 50, 51, 52, 53, 54, 55, 56, 57, 58, 59, 60, 61] (by decide +kernel) (by decide +kernel)
set_option maxRecDepth 20000 in
theorem gX10_submit_X10_good : GoodIn wsX10_submit (wsV RX10 333 RX10 yX10_good wsX10_good) := goodIn_app (goodIn_of _ (by decide +kernel)) ggX10_submit_X10_good
set_option maxRecDepth 20000 in
theorem ggX10_approve_X10_isMilestone : GoodIn wsX10_approve wsX10_isMilestone := goodIn_r _ [5, 6, 7, 8, 4, 9, 55, 56, 57, 58, 59, 60, 61, 62, 63, 64, 65, 66, 67, 68, 69, 70, 71, 72, 73, 74, 75, 76, 77, 78, 79, 80, 81, 82, 83, 84, 85, 86, 87, 88, 89, 90, 91, 92, 93] (by decide +kernel) (by decide +kernel)
set_option maxRecDepth 20000 in
theorem gX10_approve_X10_isMilestone : GoodIn wsX10_approve (wsV RX10 330 RX10 yX10_isMilestone wsX10_isMilestone) := goodIn_app (goodIn_of _ (by decide +kernel)) ggX10_approve_X10_isMilestone
set_option maxRecDepth 20000 in
theorem ggX10_approve_X10_good_ : GoodIn wsX10_approve wsX10_good_ := goodIn_r _ [21, 22, 55, 56, 57, 58, 59, 60, 61, 62, 63, 64, 65, 66, 67, 68, 69, 70, 71, 72, 73, 74, 75, 76, 77, 78, 79, 80, 81, 82, 83, 84, 85, 86, 87, 88, 89, 90, 91, 92, 93] (by decide +kernel) (by decide +kernel)
set_option maxRecDepth 20000 in
theorem gX10_approve_X10_good_ : GoodIn wsX10_approve (wsV RX10 358 RX10 yX10_good_ wsX10_good_) := goodIn_app (goodIn_of _ (by decide +kernel)) ggX10_approve_X10_good_
set_option maxRecDepth 20000 in
theorem ggX10_pay_X10_isMilestone : GoodIn wsX10_pay wsX10_isMilestone := goodIn_r _ [6, 7, 8, 9, 5, 10, 63, 64, 65, 66, 67, 68, 69, 70, 71, 72, 73, 74, 75, 76, 77, 78, 79, 80, 81, 82, 83, 84, 85, 86, 87, 88, 89, 90, 91, 92, 93, 94, 95, 96, 97, 98, 99, 100, 101] (by decide +kernel) (by decide +kernel)
set_option maxRecDepth 20000 in
theorem gX10_pay_X10_isMilestone : GoodIn wsX10_pay (wsV RX10 330 RX10 yX10_isMilestone wsX10_isMilestone) := goodIn_app (goodIn_of _ (by decide +kernel)) ggX10_pay_X10_isMilestone
set_option maxRecDepth 20000 in
theorem ggX10_pay_X10_good_ : GoodIn wsX10_pay wsX10_good_ := goodIn_r _ [26, 1, 63, 64, 65, 66, 67, 68, 69, 70, 71, 72, 73, 74, 75, 76, 77, 78, 79, 80, 81, 82, 83, 84, 85, 86, 87, 88, 89, 90, 91, 92, 93, 94, 95, 96, 97, 98, 99, 100, 101] (by decide +kernel) (by decide +kernel)
set_option maxRecDepth 20000 in
theorem gX10_pay_X10_good_ : GoodIn wsX10_pay (wsV RX10 358 RX10 yX10_good_ wsX10_good_) := goodIn_app (goodIn_of _ (by decide +kernel)) ggX10_pay_X10_good_
set_option maxRecDepth 20000 in
theorem ggX10_dispute_X10_isMilestone : GoodIn wsX10_dispute wsX10_isMilestone := goodIn_r _ [9, 10, 11, 12, 8, 13, 51, 52, 53, 54, 55, 56, 57, 58, 59, 60, 61, 62, 63, 64, 65, 66, 67, 68, 69, 70, 71, 72, 73, 74, 75, 76, 77, 78, 79, 80, 81, 82, 83, 84, 85, 86, 87, 88, 89] (by decide +kernel) (by decide +kernel)
set_option maxRecDepth 20000 in
theorem gX10_dispute_X10_isMilestone : GoodIn wsX10_dispute (wsV RX10 330 RX10 yX10_isMilestone wsX10_isMilestone) := goodIn_app (goodIn_of _ (by decide +kernel)) ggX10_dispute_X10_isMilestone
set_option maxRecDepth 20000 in
theorem ggX10_dispute_X10_good_ : GoodIn wsX10_dispute wsX10_good_ := goodIn_r _ [25, 26, 51, 52, 53, 54, 55, 56, 57, 58, 59, 60, 61, 62, 63, 64, 65, 66, 67, 68, 69, 70, 71, 72, 73, 74, 75, 76, 77, 78, 79, 80, 81, 82, 83, 84, 85, 86, 87, 88, 89] (by decide +kernel) (by decide +kernel)
set_option maxRecDepth 20000 in
theorem gX10_dispute_X10_good_ : GoodIn wsX10_dispute (wsV RX10 358 RX10 yX10_good_ wsX10_good_) := goodIn_app (goodIn_of _ (by decide +kernel)) ggX10_dispute_X10_good_
set_option maxRecDepth 20000 in
theorem ggX10_withdraw_X10_isMilestone : GoodIn wsX10_withdraw wsX10_isMilestone := goodIn_r _ [5, 6, 7, 8, 4, 9, 35, 36, 37, 38, 39, 40, 41, 42, 43, 44, 45, 46, 47, 48, 49, 50, 51, 52, 53, 54, 55, 56, 57, 58, 59, 60, 61, 62, 63, 64, 65, 66, 67, 68, 69, 70, 71, 72, 73] (by decide +kernel) (by decide +kernel)
set_option maxRecDepth 20000 in
theorem gX10_withdraw_X10_isMilestone : GoodIn wsX10_withdraw (wsV RX10 330 RX10 yX10_isMilestone wsX10_isMilestone) := goodIn_app (goodIn_of _ (by decide +kernel)) ggX10_withdraw_X10_isMilestone
set_option maxRecDepth 20000 in
theorem ggX10_withdraw_X10_good_ : GoodIn wsX10_withdraw wsX10_good_ := goodIn_r _ [17, 18, 35, 36, 37, 38, 39, 40, 41, 42, 43, 44, 45, 46, 47, 48, 49, 50, 51, 52, 53, 54, 55, 56, 57, 58, 59, 60, 61, 62, 63, 64, 65, 66, 67, 68, 69, 70, 71, 72, 73] (by decide +kernel) (by decide +kernel)
set_option maxRecDepth 20000 in
theorem gX10_withdraw_X10_good_ : GoodIn wsX10_withdraw (wsV RX10 358 RX10 yX10_good_ wsX10_good_) := goodIn_app (goodIn_of _ (by decide +kernel)) ggX10_withdraw_X10_good_
set_option maxRecDepth 20000 in
theorem ggX10_resolve_X10_isShare : GoodIn wsX10_resolve wsX10_isShare := goodIn_r _ [4, 5, 6, 7, 3, 8] (by decide +kernel) (by decide +kernel)
set_option maxRecDepth 20000 in
theorem gX10_resolve_X10_isShare : GoodIn wsX10_resolve (va_wsS RX10 378 yX10_isShare wsX10_isShare) := goodIn_app (goodIn_of _ (by decide +kernel)) ggX10_resolve_X10_isShare
set_option maxRecDepth 20000 in
theorem ggX10_resolve_X10_canSplit : GoodIn wsX10_resolve wsX10_canSplit := goodIn_r _ [12, 13, 14, 15, 16, 3, 17, 18, 6, 7, 8, 19, 20, 21, 22, 23, 24, 25, 26, 79, 80, 81, 82, 83, 84, 85, 86, 87, 88, 89, 90, 91, 92, 93, 94, 95, 96, 97, 98, 99, 100, 101, 102, 103, 104, 105, 106, 107, 108, 109, 110, 111, 112, 113, 114, 115, 116, 117] (by decide +kernel) (by decide +kernel)
set_option maxRecDepth 20000 in
theorem gX10_resolve_X10_canSplit : GoodIn wsX10_resolve (wsV RX10 381 RX10 yX10_canSplit wsX10_canSplit) := goodIn_app (goodIn_of _ (by decide +kernel)) ggX10_resolve_X10_canSplit
set_option maxRecDepth 20000 in
theorem ggX10_cancel_X10_isMilestone : GoodIn wsX10_cancel wsX10_isMilestone := goodIn_r _ [5, 6, 7, 8, 4, 9, 43, 44, 45, 46, 47, 48, 49, 50, 51, 52, 53, 54, 55, 56, 57, 58, 59, 60, 61, 62, 63, 64, 65, 66, 67, 68, 69, 70, 71, 72, 73, 74, 75, 76, 77, 78, 79, 80, 81] (by decide +kernel) (by decide +kernel)
set_option maxRecDepth 20000 in
theorem gX10_cancel_X10_isMilestone : GoodIn wsX10_cancel (wsV RX10 330 RX10 yX10_isMilestone wsX10_isMilestone) := goodIn_app (goodIn_of _ (by decide +kernel)) ggX10_cancel_X10_isMilestone
set_option maxRecDepth 20000 in
theorem ggX10_cancel_X10_good_ : GoodIn wsX10_cancel wsX10_good_ := goodIn_r _ [21, 22, 43, 44, 45, 46, 47, 48, 49, 50, 51, 52, 53, 54, 55, 56, 57, 58, 59, 60, 61, 62, 63, 64, 65, 66, 67, 68, 69, 70, 71, 72, 73, 74, 75, 76, 77, 78, 79, 80, 81] (by decide +kernel) (by decide +kernel)
set_option maxRecDepth 20000 in
theorem gX10_cancel_X10_good_ : GoodIn wsX10_cancel (wsV RX10 358 RX10 yX10_good_ wsX10_good_) := goodIn_app (goodIn_of _ (by decide +kernel)) ggX10_cancel_X10_good_
set_option maxRecDepth 20000 in
theorem ggX10_payInterest_X10_between : GoodIn wsX10_payInterest wsX10_between := goodIn_r _ [5] (by decide +kernel) (by decide +kernel)
set_option maxRecDepth 20000 in
theorem gX10_payInterest_X10_between : GoodIn wsX10_payInterest (va_wsS RX10 152 yX10_between wsX10_between) := goodIn_app (goodIn_of _ (by decide +kernel)) ggX10_payInterest_X10_between
set_option maxRecDepth 20000 in
theorem ggX10_payInterest_X10_good : GoodIn wsX10_payInterest wsX10_good := goodIn_r _ [9, 10, 22, 23, 24, 25, 26, 27, 28, 29, 30, 31, 32, 33, 34, 35, 36, 37, 38, 39, 40, 41, 42, 43, 44, 45, 46, 47, 48, 49, 50, 51, 52, 53, 54, 55, 56, 57, 58, 59, 60] (by decide +kernel) (by decide +kernel)
set_option maxRecDepth 20000 in
theorem gX10_payInterest_X10_good : GoodIn wsX10_payInterest (wsV RX10 333 RX10 yX10_good wsX10_good) := goodIn_app (goodIn_of _ (by decide +kernel)) ggX10_payInterest_X10_good
set_option maxRecDepth 20000 in
theorem ggX10_write_X10_isMilestone : GoodIn wsX10_write wsX10_isMilestone := goodIn_r _ [7, 8, 9, 10, 6, 11, 93, 94, 95, 96, 97, 98, 99, 100, 101, 102, 103, 104, 105, 106, 107, 108, 109, 110, 111, 112, 113, 114, 115, 116, 117, 118, 119, 120, 121, 122, 123, 124, 125, 126, 127, 128, 129, 130, 131] (by decide +kernel) (by decide +kernel)
set_option maxRecDepth 20000 in
theorem gX10_write_X10_isMilestone : GoodIn wsX10_write (wsV RX10 330 RX10 yX10_isMilestone wsX10_isMilestone) := goodIn_app (goodIn_of _ (by decide +kernel)) ggX10_write_X10_isMilestone
set_option maxRecDepth 20000 in
theorem ggX10_write_X10_good : GoodIn wsX10_write wsX10_good := goodIn_r _ [15, 16, 93, 94, 95, 96, 97, 98, 99, 100, 101, 102, 103, 104, 105, 106, 107, 108, 109, 110, 111, 112, 113, 114, 115, 116, 117, 118, 119, 120, 121, 122, 123, 124, 125, 126, 127, 128, 129, 130, 131] (by decide +kernel) (by decide +kernel)
set_option maxRecDepth 20000 in
theorem gX10_write_X10_good : GoodIn wsX10_write (wsV RX10 333 RX10 yX10_good wsX10_good) := goodIn_app (goodIn_of _ (by decide +kernel)) ggX10_write_X10_good
set_option maxRecDepth 20000 in
theorem ggX10_written_X10_between : GoodIn wsX10_written wsX10_between := goodIn_r _ [6] (by decide +kernel) (by decide +kernel)
set_option maxRecDepth 20000 in
theorem gX10_written_X10_between : GoodIn wsX10_written (va_wsS RX10 152 yX10_between wsX10_between) := goodIn_app (goodIn_of _ (by decide +kernel)) ggX10_written_X10_between
set_option maxRecDepth 20000 in
theorem ggX10_written_X10_good : GoodIn wsX10_written wsX10_good := goodIn_r _ [10, 11, 12, 13, 14, 15, 16, 17, 18, 19, 20, 21, 22, 23, 24, 25, 26, 27, 28, 29, 30, 31, 32, 33, 34, 35, 36, 37, 38, 39, 40, 41, 42, 43, 44, 45, 46, 47, 48, 49, 50] (by decide +kernel) (by decide +kernel)
set_option maxRecDepth 20000 in
theorem gX10_written_X10_good : GoodIn wsX10_written (wsV RX10 333 RX10 yX10_good wsX10_good) := goodIn_app (goodIn_of _ (by decide +kernel)) ggX10_written_X10_good
set_option maxRecDepth 20000 in
theorem ggX10_entry_X10_between : GoodIn wsX10_entry wsX10_between := goodIn_r _ [6] (by decide +kernel) (by decide +kernel)
set_option maxRecDepth 20000 in
theorem gX10_entry_X10_between : GoodIn wsX10_entry (va_wsS RX10 152 yX10_between wsX10_between) := goodIn_app (goodIn_of _ (by decide +kernel)) ggX10_entry_X10_between
set_option maxRecDepth 20000 in
theorem ggX10_entry_X10_good_ : GoodIn wsX10_entry wsX10_good_ := goodIn_r _ [10, 11, 16, 17, 18, 19, 20, 21, 22, 23, 24, 25, 26, 27, 28, 29, 30, 31, 32, 33, 34, 35, 36, 37, 38, 39, 40, 41, 42, 43, 44, 45, 46, 47, 48, 49, 50, 51, 52, 53, 54] (by decide +kernel) (by decide +kernel)
set_option maxRecDepth 20000 in
theorem gX10_entry_X10_good_ : GoodIn wsX10_entry (wsV RX10 358 RX10 yX10_good_ wsX10_good_) := goodIn_app (goodIn_of _ (by decide +kernel)) ggX10_entry_X10_good_
set_option maxRecDepth 20000 in
theorem ggX10_totalOn_X10_between : GoodIn wsX10_totalOn wsX10_between := goodIn_r _ [5] (by decide +kernel) (by decide +kernel)
set_option maxRecDepth 20000 in
theorem gX10_totalOn_X10_between : GoodIn wsX10_totalOn (va_wsS RX10 152 yX10_between wsX10_between) := goodIn_app (goodIn_of _ (by decide +kernel)) ggX10_totalOn_X10_between
set_option maxRecDepth 20000 in
theorem ggX10_totalOn_X10_good : GoodIn wsX10_totalOn wsX10_good := goodIn_r _ [9, 10, 20, 21, 22, 23, 24, 25, 26, 27, 28, 29, 30, 31, 32, 33, 34, 35, 36, 37, 38, 39, 40, 41, 42, 43, 44, 45, 46, 47, 48, 49, 50, 51, 52, 53, 54, 55, 56, 57, 58] (by decide +kernel) (by decide +kernel)
set_option maxRecDepth 20000 in
theorem gX10_totalOn_X10_good : GoodIn wsX10_totalOn (wsV RX10 333 RX10 yX10_good wsX10_good) := goodIn_app (goodIn_of _ (by decide +kernel)) ggX10_totalOn_X10_good
set_option maxRecDepth 20000 in
theorem ggX10_totalOn_X10_sumOn : GoodIn wsX10_totalOn wsX10_sumOn := goodIn_r _ [14, 15, 16, 17, 18, 4, 19, 20, 21, 22, 23, 24, 25, 26, 27, 28, 29, 30, 31, 32, 33, 34, 35, 36, 37, 38, 39, 40, 41, 42, 43, 44, 45, 46, 47, 48, 49, 50, 51, 52, 53, 54, 55, 56, 57, 58] (by decide +kernel) (by decide +kernel)
set_option maxRecDepth 20000 in
theorem gX10_totalOn_X10_sumOn : GoodIn wsX10_totalOn (wsV RX10 453 RX10 yX10_sumOn wsX10_sumOn) := goodIn_app (goodIn_of _ (by decide +kernel)) ggX10_totalOn_X10_sumOn
theorem dX10_accruedParts_0 : decode cX10_accruedParts 0 = .ok (.aload_n 0, 1) := by decide +kernel
theorem dX10_accruedParts_1 : decode cX10_accruedParts 1 = .ok (.iconst 0, 1) := by decide +kernel
theorem dX10_accruedParts_2 : decode cX10_accruedParts 2 = .ok (.putfield 80, 3) := by decide +kernel
theorem dX10_accruedParts_5 : decode cX10_accruedParts 5 = .ok (.aload_n 0, 1) := by decide +kernel
theorem dX10_accruedParts_6 : decode cX10_accruedParts 6 = .ok (.getfield 86, 3) := by decide +kernel
theorem dX10_accruedParts_9 : decode cX10_accruedParts 9 = .ok (.lreturn, 1) := by decide +kernel
theorem dX10_approve_0 : decode cX10_approve 0 = .ok (.aload_n 0, 1) := by decide +kernel
theorem dX10_approve_1 : decode cX10_approve 1 = .ok (.aload_n 0, 1) := by decide +kernel
theorem dX10_approve_2 : decode cX10_approve 2 = .ok (.iload_n 1, 1) := by decide +kernel
theorem dX10_approve_3 : decode cX10_approve 3 = .ok (.invokevirtual 330, 3) := by decide +kernel
theorem dX10_approve_6 : decode cX10_approve 6 = .ok (.aload_n 0, 1) := by decide +kernel
theorem dX10_approve_7 : decode cX10_approve 7 = .ok (.iload_n 1, 1) := by decide +kernel
theorem dX10_approve_8 : decode cX10_approve 8 = .ok (.invokevirtual 330, 3) := by decide +kernel
theorem dX10_approve_11 : decode cX10_approve 11 = .ok (.ifCond .eq 15, 3) := by decide +kernel
theorem dX10_approve_14 : decode cX10_approve 14 = .ok (.aload_n 0, 1) := by decide +kernel
theorem dX10_approve_15 : decode cX10_approve 15 = .ok (.iload_n 1, 1) := by decide +kernel
theorem dX10_approve_16 : decode cX10_approve 16 = .ok (.invokevirtual 265, 3) := by decide +kernel
theorem dX10_approve_19 : decode cX10_approve 19 = .ok (.ifCond .ne 7, 3) := by decide +kernel
theorem dX10_approve_22 : decode cX10_approve 22 = .ok (.iconst 1, 1) := by decide +kernel
theorem dX10_approve_23 : decode cX10_approve 23 = .ok (.goto 4, 3) := by decide +kernel
theorem dX10_approve_26 : decode cX10_approve 26 = .ok (.iconst 0, 1) := by decide +kernel
theorem dX10_approve_27 : decode cX10_approve 27 = .ok (.invokevirtual 358, 3) := by decide +kernel
theorem dX10_approve_30 : decode cX10_approve 30 = .ok (.ifCond .ne 5, 3) := by decide +kernel
theorem dX10_approve_33 : decode cX10_approve 33 = .ok (.iconst 0, 1) := by decide +kernel
theorem dX10_approve_34 : decode cX10_approve 34 = .ok (.ireturn, 1) := by decide +kernel
theorem dX10_approve_35 : decode cX10_approve 35 = .ok (.aload_n 0, 1) := by decide +kernel
theorem dX10_approve_36 : decode cX10_approve 36 = .ok (.invokevirtual 395, 3) := by decide +kernel
theorem dX10_approve_39 : decode cX10_approve 39 = .ok (.aload_n 0, 1) := by decide +kernel
theorem dX10_approve_40 : decode cX10_approve 40 = .ok (.iload_n 1, 1) := by decide +kernel
theorem dX10_approve_41 : decode cX10_approve 41 = .ok (.iconst 5, 1) := by decide +kernel
theorem dX10_approve_42 : decode cX10_approve 42 = .ok (.iconst 1, 1) := by decide +kernel
theorem dX10_approve_43 : decode cX10_approve 43 = .ok (.invokevirtual 273, 3) := by decide +kernel
theorem dX10_approve_46 : decode cX10_approve 46 = .ok (.aload_n 0, 1) := by decide +kernel
theorem dX10_approve_47 : decode cX10_approve 47 = .ok (.iload_n 1, 1) := by decide +kernel
theorem dX10_approve_48 : decode cX10_approve 48 = .ok (.invokevirtual 337, 3) := by decide +kernel
theorem dX10_approve_51 : decode cX10_approve 51 = .ok (.ireturn, 1) := by decide +kernel
theorem dX10_areAllClosed_0 : decode cX10_areAllClosed 0 = .ok (.iconst 1, 1) := by decide +kernel
theorem dX10_areAllClosed_1 : decode cX10_areAllClosed 1 = .ok (.istore_n 1, 1) := by decide +kernel
theorem dX10_areAllClosed_2 : decode cX10_areAllClosed 2 = .ok (.iconst 0, 1) := by decide +kernel
theorem dX10_areAllClosed_3 : decode cX10_areAllClosed 3 = .ok (.istore_n 2, 1) := by decide +kernel
theorem dX10_areAllClosed_4 : decode cX10_areAllClosed 4 = .ok (.iload_n 2, 1) := by decide +kernel
theorem dX10_areAllClosed_5 : decode cX10_areAllClosed 5 = .ok (.aload_n 0, 1) := by decide +kernel
theorem dX10_areAllClosed_6 : decode cX10_areAllClosed 6 = .ok (.getfield 7, 3) := by decide +kernel
theorem dX10_areAllClosed_9 : decode cX10_areAllClosed 9 = .ok (.bipush 13, 2) := by decide +kernel
theorem dX10_areAllClosed_11 : decode cX10_areAllClosed 11 = .ok (.iaload, 1) := by decide +kernel
theorem dX10_areAllClosed_12 : decode cX10_areAllClosed 12 = .ok (.if_icmp .ge 27, 3) := by decide +kernel
theorem dX10_areAllClosed_15 : decode cX10_areAllClosed 15 = .ok (.iload_n 1, 1) := by decide +kernel
theorem dX10_areAllClosed_16 : decode cX10_areAllClosed 16 = .ok (.ifCond .eq 15, 3) := by decide +kernel
theorem dX10_areAllClosed_19 : decode cX10_areAllClosed 19 = .ok (.aload_n 0, 1) := by decide +kernel
theorem dX10_areAllClosed_20 : decode cX10_areAllClosed 20 = .ok (.iload_n 2, 1) := by decide +kernel
theorem dX10_areAllClosed_21 : decode cX10_areAllClosed 21 = .ok (.invokevirtual 265, 3) := by decide +kernel
theorem dX10_areAllClosed_24 : decode cX10_areAllClosed 24 = .ok (.ifCond .eq 7, 3) := by decide +kernel
theorem dX10_areAllClosed_27 : decode cX10_areAllClosed 27 = .ok (.iconst 1, 1) := by decide +kernel
theorem dX10_areAllClosed_28 : decode cX10_areAllClosed 28 = .ok (.goto 4, 3) := by decide +kernel
theorem dX10_areAllClosed_31 : decode cX10_areAllClosed 31 = .ok (.iconst 0, 1) := by decide +kernel
theorem dX10_areAllClosed_32 : decode cX10_areAllClosed 32 = .ok (.istore_n 1, 1) := by decide +kernel
theorem dX10_areAllClosed_33 : decode cX10_areAllClosed 33 = .ok (.iinc 2 1, 3) := by decide +kernel
theorem dX10_areAllClosed_36 : decode cX10_areAllClosed 36 = .ok (.goto (-32), 3) := by decide +kernel
theorem dX10_areAllClosed_39 : decode cX10_areAllClosed 39 = .ok (.iload_n 1, 1) := by decide +kernel
theorem dX10_areAllClosed_40 : decode cX10_areAllClosed 40 = .ok (.ireturn, 1) := by decide +kernel
theorem dX10_available_0 : decode cX10_available 0 = .ok (.aload_n 0, 1) := by decide +kernel
theorem dX10_available_1 : decode cX10_available 1 = .ok (.iconst 0, 1) := by decide +kernel
theorem dX10_available_2 : decode cX10_available 2 = .ok (.putfield 80, 3) := by decide +kernel
theorem dX10_available_5 : decode cX10_available 5 = .ok (.aload_n 0, 1) := by decide +kernel
theorem dX10_available_6 : decode cX10_available 6 = .ok (.invokevirtual 298, 3) := by decide +kernel
theorem dX10_available_9 : decode cX10_available 9 = .ok (.ireturn, 1) := by decide +kernel
theorem dX10_availableNow_0 : decode cX10_availableNow 0 = .ok (.aload_n 0, 1) := by decide +kernel
theorem dX10_availableNow_1 : decode cX10_availableNow 1 = .ok (.getfield 7, 3) := by decide +kernel
theorem dX10_availableNow_4 : decode cX10_availableNow 4 = .ok (.bipush 6, 2) := by decide +kernel
theorem dX10_availableNow_6 : decode cX10_availableNow 6 = .ok (.iaload, 1) := by decide +kernel
theorem dX10_availableNow_7 : decode cX10_availableNow 7 = .ok (.istore_n 1, 1) := by decide +kernel
theorem dX10_availableNow_8 : decode cX10_availableNow 8 = .ok (.iconst 0, 1) := by decide +kernel
theorem dX10_availableNow_9 : decode cX10_availableNow 9 = .ok (.istore_n 2, 1) := by decide +kernel
theorem dX10_availableNow_10 : decode cX10_availableNow 10 = .ok (.iload_n 2, 1) := by decide +kernel
theorem dX10_availableNow_11 : decode cX10_availableNow 11 = .ok (.aload_n 0, 1) := by decide +kernel
theorem dX10_availableNow_12 : decode cX10_availableNow 12 = .ok (.getfield 7, 3) := by decide +kernel
theorem dX10_availableNow_15 : decode cX10_availableNow 15 = .ok (.bipush 13, 2) := by decide +kernel
theorem dX10_availableNow_17 : decode cX10_availableNow 17 = .ok (.iaload, 1) := by decide +kernel
theorem dX10_availableNow_18 : decode cX10_availableNow 18 = .ok (.if_icmp .ge 18, 3) := by decide +kernel
theorem dX10_availableNow_21 : decode cX10_availableNow 21 = .ok (.iload_n 1, 1) := by decide +kernel
theorem dX10_availableNow_22 : decode cX10_availableNow 22 = .ok (.aload_n 0, 1) := by decide +kernel
theorem dX10_availableNow_23 : decode cX10_availableNow 23 = .ok (.iload_n 2, 1) := by decide +kernel
theorem dX10_availableNow_24 : decode cX10_availableNow 24 = .ok (.iconst 3, 1) := by decide +kernel
theorem dX10_availableNow_25 : decode cX10_availableNow 25 = .ok (.invokevirtual 261, 3) := by decide +kernel
theorem dX10_availableNow_28 : decode cX10_availableNow 28 = .ok (.isub, 1) := by decide +kernel
theorem dX10_availableNow_29 : decode cX10_availableNow 29 = .ok (.istore_n 1, 1) := by decide +kernel
theorem dX10_availableNow_30 : decode cX10_availableNow 30 = .ok (.iinc 2 1, 3) := by decide +kernel
theorem dX10_availableNow_33 : decode cX10_availableNow 33 = .ok (.goto (-23), 3) := by decide +kernel
theorem dX10_availableNow_36 : decode cX10_availableNow 36 = .ok (.iload_n 1, 1) := by decide +kernel
theorem dX10_availableNow_37 : decode cX10_availableNow 37 = .ok (.ireturn, 1) := by decide +kernel
theorem dX10_becomeDue_0 : decode cX10_becomeDue 0 = .ok (.aload_n 0, 1) := by decide +kernel
theorem dX10_becomeDue_1 : decode cX10_becomeDue 1 = .ok (.invokevirtual 284, 3) := by decide +kernel
theorem dX10_becomeDue_4 : decode cX10_becomeDue 4 = .ok (.istore_n 1, 1) := by decide +kernel
theorem dX10_becomeDue_5 : decode cX10_becomeDue 5 = .ok (.iconst 0, 1) := by decide +kernel
theorem dX10_becomeDue_6 : decode cX10_becomeDue 6 = .ok (.istore_n 2, 1) := by decide +kernel
theorem dX10_becomeDue_7 : decode cX10_becomeDue 7 = .ok (.iload_n 2, 1) := by decide +kernel
theorem dX10_becomeDue_8 : decode cX10_becomeDue 8 = .ok (.aload_n 0, 1) := by decide +kernel
theorem dX10_becomeDue_9 : decode cX10_becomeDue 9 = .ok (.getfield 7, 3) := by decide +kernel
theorem dX10_becomeDue_12 : decode cX10_becomeDue 12 = .ok (.bipush 13, 2) := by decide +kernel
theorem dX10_becomeDue_14 : decode cX10_becomeDue 14 = .ok (.iaload, 1) := by decide +kernel
theorem dX10_becomeDue_15 : decode cX10_becomeDue 15 = .ok (.if_icmp .ge 59, 3) := by decide +kernel
theorem dX10_becomeDue_18 : decode cX10_becomeDue 18 = .ok (.aload_n 0, 1) := by decide +kernel
theorem dX10_becomeDue_19 : decode cX10_becomeDue 19 = .ok (.iload_n 2, 1) := by decide +kernel
theorem dX10_becomeDue_20 : decode cX10_becomeDue 20 = .ok (.iconst 2, 1) := by decide +kernel
theorem dX10_becomeDue_21 : decode cX10_becomeDue 21 = .ok (.invokevirtual 261, 3) := by decide +kernel
theorem dX10_becomeDue_24 : decode cX10_becomeDue 24 = .ok (.ifCond .ne 44, 3) := by decide +kernel
theorem dX10_becomeDue_27 : decode cX10_becomeDue 27 = .ok (.aload_n 0, 1) := by decide +kernel
theorem dX10_becomeDue_28 : decode cX10_becomeDue 28 = .ok (.iload_n 2, 1) := by decide +kernel
theorem dX10_becomeDue_29 : decode cX10_becomeDue 29 = .ok (.aload_n 0, 1) := by decide +kernel
theorem dX10_becomeDue_30 : decode cX10_becomeDue 30 = .ok (.getfield 7, 3) := by decide +kernel
theorem dX10_becomeDue_33 : decode cX10_becomeDue 33 = .ok (.iconst 4, 1) := by decide +kernel
theorem dX10_becomeDue_34 : decode cX10_becomeDue 34 = .ok (.iaload, 1) := by decide +kernel
theorem dX10_becomeDue_35 : decode cX10_becomeDue 35 = .ok (.aload_n 0, 1) := by decide +kernel
theorem dX10_becomeDue_36 : decode cX10_becomeDue 36 = .ok (.getfield 7, 3) := by decide +kernel
theorem dX10_becomeDue_39 : decode cX10_becomeDue 39 = .ok (.bipush 12, 2) := by decide +kernel
theorem dX10_becomeDue_41 : decode cX10_becomeDue 41 = .ok (.iaload, 1) := by decide +kernel
theorem dX10_becomeDue_42 : decode cX10_becomeDue 42 = .ok (.iload_n 1, 1) := by decide +kernel
theorem dX10_becomeDue_43 : decode cX10_becomeDue 43 = .ok (.invokevirtual 288, 3) := by decide +kernel
theorem dX10_becomeDue_46 : decode cX10_becomeDue 46 = .ok (.ifCond .eq 22, 3) := by decide +kernel
theorem dX10_becomeDue_49 : decode cX10_becomeDue 49 = .ok (.aload_n 0, 1) := by decide +kernel
theorem dX10_becomeDue_50 : decode cX10_becomeDue 50 = .ok (.iload_n 2, 1) := by decide +kernel
theorem dX10_becomeDue_51 : decode cX10_becomeDue 51 = .ok (.iconst 2, 1) := by decide +kernel
theorem dX10_becomeDue_52 : decode cX10_becomeDue 52 = .ok (.iconst 1, 1) := by decide +kernel
theorem dX10_becomeDue_53 : decode cX10_becomeDue 53 = .ok (.invokevirtual 273, 3) := by decide +kernel
theorem dX10_becomeDue_56 : decode cX10_becomeDue 56 = .ok (.aload_n 0, 1) := by decide +kernel
theorem dX10_becomeDue_57 : decode cX10_becomeDue 57 = .ok (.iload_n 2, 1) := by decide +kernel
theorem dX10_becomeDue_58 : decode cX10_becomeDue 58 = .ok (.iconst 4, 1) := by decide +kernel
theorem dX10_becomeDue_59 : decode cX10_becomeDue 59 = .ok (.aload_n 0, 1) := by decide +kernel
theorem dX10_becomeDue_60 : decode cX10_becomeDue 60 = .ok (.getfield 7, 3) := by decide +kernel
theorem dX10_becomeDue_63 : decode cX10_becomeDue 63 = .ok (.iconst 4, 1) := by decide +kernel
theorem dX10_becomeDue_64 : decode cX10_becomeDue 64 = .ok (.iaload, 1) := by decide +kernel
theorem dX10_becomeDue_65 : decode cX10_becomeDue 65 = .ok (.invokevirtual 273, 3) := by decide +kernel
theorem dX10_becomeDue_68 : decode cX10_becomeDue 68 = .ok (.iinc 2 1, 3) := by decide +kernel
theorem dX10_becomeDue_71 : decode cX10_becomeDue 71 = .ok (.goto (-64), 3) := by decide +kernel
theorem dX10_becomeDue_74 : decode cX10_becomeDue 74 = .ok (.return_, 1) := by decide +kernel
theorem dX10_between_0 : decode cX10_between 0 = .ok (.lload_n 0, 1) := by decide +kernel
theorem dX10_between_1 : decode cX10_between 1 = .ok (.lload_n 2, 1) := by decide +kernel
theorem dX10_between_2 : decode cX10_between 2 = .ok (.lcmp, 1) := by decide +kernel
theorem dX10_between_3 : decode cX10_between 3 = .ok (.ifCond .lt 14, 3) := by decide +kernel
theorem dX10_between_6 : decode cX10_between 6 = .ok (.lload_n 0, 1) := by decide +kernel
theorem dX10_between_7 : decode cX10_between 7 = .ok (.lload 4, 2) := by decide +kernel
theorem dX10_between_9 : decode cX10_between 9 = .ok (.lcmp, 1) := by decide +kernel
theorem dX10_between_10 : decode cX10_between 10 = .ok (.ifCond .gt 7, 3) := by decide +kernel
theorem dX10_between_13 : decode cX10_between 13 = .ok (.iconst 1, 1) := by decide +kernel
theorem dX10_between_14 : decode cX10_between 14 = .ok (.goto 4, 3) := by decide +kernel
theorem dX10_between_17 : decode cX10_between 17 = .ok (.iconst 0, 1) := by decide +kernel
theorem dX10_between_18 : decode cX10_between 18 = .ok (.ireturn, 1) := by decide +kernel
theorem dX10_busiestDay_0 : decode cX10_busiestDay 0 = .ok (.aload_n 0, 1) := by decide +kernel
theorem dX10_busiestDay_1 : decode cX10_busiestDay 1 = .ok (.iconst 0, 1) := by decide +kernel
theorem dX10_busiestDay_2 : decode cX10_busiestDay 2 = .ok (.putfield 80, 3) := by decide +kernel
theorem dX10_busiestDay_5 : decode cX10_busiestDay 5 = .ok (.iconst (-1), 1) := by decide +kernel
theorem dX10_busiestDay_6 : decode cX10_busiestDay 6 = .ok (.istore_n 1, 1) := by decide +kernel
theorem dX10_busiestDay_7 : decode cX10_busiestDay 7 = .ok (.lconst 0, 1) := by decide +kernel
theorem dX10_busiestDay_8 : decode cX10_busiestDay 8 = .ok (.lstore_n 2, 1) := by decide +kernel
theorem dX10_busiestDay_9 : decode cX10_busiestDay 9 = .ok (.iconst 0, 1) := by decide +kernel
theorem dX10_busiestDay_10 : decode cX10_busiestDay 10 = .ok (.istore 4, 2) := by decide +kernel
theorem dX10_busiestDay_12 : decode cX10_busiestDay 12 = .ok (.iload 4, 2) := by decide +kernel
theorem dX10_busiestDay_14 : decode cX10_busiestDay 14 = .ok (.aload_n 0, 1) := by decide +kernel
theorem dX10_busiestDay_15 : decode cX10_busiestDay 15 = .ok (.getfield 7, 3) := by decide +kernel
theorem dX10_busiestDay_18 : decode cX10_busiestDay 18 = .ok (.bipush 15, 2) := by decide +kernel
theorem dX10_busiestDay_20 : decode cX10_busiestDay 20 = .ok (.iaload, 1) := by decide +kernel
theorem dX10_busiestDay_21 : decode cX10_busiestDay 21 = .ok (.if_icmp .ge 40, 3) := by decide +kernel
theorem dX10_busiestDay_24 : decode cX10_busiestDay 24 = .ok (.aload_n 0, 1) := by decide +kernel
theorem dX10_busiestDay_25 : decode cX10_busiestDay 25 = .ok (.iload 4, 2) := by decide +kernel
theorem dX10_busiestDay_27 : decode cX10_busiestDay 27 = .ok (.iconst 1, 1) := by decide +kernel
theorem dX10_busiestDay_28 : decode cX10_busiestDay 28 = .ok (.invokevirtual 448, 3) := by decide +kernel
theorem dX10_busiestDay_31 : decode cX10_busiestDay 31 = .ok (.istore 5, 2) := by decide +kernel
theorem dX10_busiestDay_33 : decode cX10_busiestDay 33 = .ok (.aload_n 0, 1) := by decide +kernel
theorem dX10_busiestDay_34 : decode cX10_busiestDay 34 = .ok (.iload 5, 2) := by decide +kernel
theorem dX10_busiestDay_36 : decode cX10_busiestDay 36 = .ok (.iconst 1, 1) := by decide +kernel
theorem dX10_busiestDay_37 : decode cX10_busiestDay 37 = .ok (.invokevirtual 453, 3) := by decide +kernel
theorem dX10_busiestDay_40 : decode cX10_busiestDay 40 = .ok (.lstore 6, 2) := by decide +kernel
theorem dX10_busiestDay_42 : decode cX10_busiestDay 42 = .ok (.lload 6, 2) := by decide +kernel
theorem dX10_busiestDay_44 : decode cX10_busiestDay 44 = .ok (.lload_n 2, 1) := by decide +kernel
theorem dX10_busiestDay_45 : decode cX10_busiestDay 45 = .ok (.lcmp, 1) := by decide +kernel
theorem dX10_busiestDay_46 : decode cX10_busiestDay 46 = .ok (.ifCond .le 9, 3) := by decide +kernel
theorem dX10_busiestDay_49 : decode cX10_busiestDay 49 = .ok (.iload 5, 2) := by decide +kernel
theorem dX10_busiestDay_51 : decode cX10_busiestDay 51 = .ok (.istore_n 1, 1) := by decide +kernel
theorem dX10_busiestDay_52 : decode cX10_busiestDay 52 = .ok (.lload 6, 2) := by decide +kernel
theorem dX10_busiestDay_54 : decode cX10_busiestDay 54 = .ok (.lstore_n 2, 1) := by decide +kernel
theorem dX10_busiestDay_55 : decode cX10_busiestDay 55 = .ok (.iinc 4 1, 3) := by decide +kernel
theorem dX10_busiestDay_58 : decode cX10_busiestDay 58 = .ok (.goto (-46), 3) := by decide +kernel
theorem dX10_busiestDay_61 : decode cX10_busiestDay 61 = .ok (.iload_n 1, 1) := by decide +kernel
theorem dX10_busiestDay_62 : decode cX10_busiestDay 62 = .ok (.ireturn, 1) := by decide +kernel
theorem dX10_canSplit_0 : decode cX10_canSplit 0 = .ok (.aload_n 0, 1) := by decide +kernel
theorem dX10_canSplit_1 : decode cX10_canSplit 1 = .ok (.aload_n 0, 1) := by decide +kernel
theorem dX10_canSplit_2 : decode cX10_canSplit 2 = .ok (.iload_n 1, 1) := by decide +kernel
theorem dX10_canSplit_3 : decode cX10_canSplit 3 = .ok (.invokevirtual 330, 3) := by decide +kernel
theorem dX10_canSplit_6 : decode cX10_canSplit 6 = .ok (.iload_n 2, 1) := by decide +kernel
theorem dX10_canSplit_7 : decode cX10_canSplit 7 = .ok (.invokevirtual 358, 3) := by decide +kernel
theorem dX10_canSplit_10 : decode cX10_canSplit 10 = .ok (.ifCond .eq 22, 3) := by decide +kernel
theorem dX10_canSplit_13 : decode cX10_canSplit 13 = .ok (.aload_n 0, 1) := by decide +kernel
theorem dX10_canSplit_14 : decode cX10_canSplit 14 = .ok (.aload_n 0, 1) := by decide +kernel
theorem dX10_canSplit_15 : decode cX10_canSplit 15 = .ok (.iload_n 1, 1) := by decide +kernel
theorem dX10_canSplit_16 : decode cX10_canSplit 16 = .ok (.iconst 2, 1) := by decide +kernel
theorem dX10_canSplit_17 : decode cX10_canSplit 17 = .ok (.invokevirtual 261, 3) := by decide +kernel
theorem dX10_canSplit_20 : decode cX10_canSplit 20 = .ok (.iconst 2, 1) := by decide +kernel
theorem dX10_canSplit_21 : decode cX10_canSplit 21 = .ok (.if_icmp .ne 7, 3) := by decide +kernel
theorem dX10_canSplit_24 : decode cX10_canSplit 24 = .ok (.iconst 0, 1) := by decide +kernel
theorem dX10_canSplit_25 : decode cX10_canSplit 25 = .ok (.goto 4, 3) := by decide +kernel
theorem dX10_canSplit_28 : decode cX10_canSplit 28 = .ok (.iconst 3, 1) := by decide +kernel
theorem dX10_canSplit_29 : decode cX10_canSplit 29 = .ok (.putfield 80, 3) := by decide +kernel
theorem dX10_canSplit_32 : decode cX10_canSplit 32 = .ok (.aload_n 0, 1) := by decide +kernel
theorem dX10_canSplit_33 : decode cX10_canSplit 33 = .ok (.getfield 80, 3) := by decide +kernel
theorem dX10_canSplit_36 : decode cX10_canSplit 36 = .ok (.ifCond .ne 7, 3) := by decide +kernel
theorem dX10_canSplit_39 : decode cX10_canSplit 39 = .ok (.iconst 1, 1) := by decide +kernel
theorem dX10_canSplit_40 : decode cX10_canSplit 40 = .ok (.goto 4, 3) := by decide +kernel
theorem dX10_canSplit_43 : decode cX10_canSplit 43 = .ok (.iconst 0, 1) := by decide +kernel
theorem dX10_canSplit_44 : decode cX10_canSplit 44 = .ok (.ireturn, 1) := by decide +kernel
theorem dX10_cancel_0 : decode cX10_cancel 0 = .ok (.aload_n 0, 1) := by decide +kernel
theorem dX10_cancel_1 : decode cX10_cancel 1 = .ok (.iload_n 1, 1) := by decide +kernel
theorem dX10_cancel_2 : decode cX10_cancel 2 = .ok (.invokevirtual 330, 3) := by decide +kernel
theorem dX10_cancel_5 : decode cX10_cancel 5 = .ok (.istore_n 2, 1) := by decide +kernel
theorem dX10_cancel_6 : decode cX10_cancel 6 = .ok (.aload_n 0, 1) := by decide +kernel
theorem dX10_cancel_7 : decode cX10_cancel 7 = .ok (.iload_n 2, 1) := by decide +kernel
theorem dX10_cancel_8 : decode cX10_cancel 8 = .ok (.iload_n 2, 1) := by decide +kernel
theorem dX10_cancel_9 : decode cX10_cancel 9 = .ok (.ifCond .eq 15, 3) := by decide +kernel
theorem dX10_cancel_12 : decode cX10_cancel 12 = .ok (.aload_n 0, 1) := by decide +kernel
theorem dX10_cancel_13 : decode cX10_cancel 13 = .ok (.iload_n 1, 1) := by decide +kernel
theorem dX10_cancel_14 : decode cX10_cancel 14 = .ok (.invokevirtual 398, 3) := by decide +kernel
theorem dX10_cancel_17 : decode cX10_cancel 17 = .ok (.ifCond .eq 7, 3) := by decide +kernel
theorem dX10_cancel_20 : decode cX10_cancel 20 = .ok (.iconst 1, 1) := by decide +kernel
theorem dX10_cancel_21 : decode cX10_cancel 21 = .ok (.goto 4, 3) := by decide +kernel
theorem dX10_cancel_24 : decode cX10_cancel 24 = .ok (.iconst 0, 1) := by decide +kernel
theorem dX10_cancel_25 : decode cX10_cancel 25 = .ok (.invokevirtual 358, 3) := by decide +kernel
theorem dX10_cancel_28 : decode cX10_cancel 28 = .ok (.ifCond .ne 5, 3) := by decide +kernel
theorem dX10_cancel_31 : decode cX10_cancel 31 = .ok (.iconst 0, 1) := by decide +kernel
theorem dX10_cancel_32 : decode cX10_cancel 32 = .ok (.ireturn, 1) := by decide +kernel
theorem dX10_cancel_33 : decode cX10_cancel 33 = .ok (.aload_n 0, 1) := by decide +kernel
theorem dX10_cancel_34 : decode cX10_cancel 34 = .ok (.invokevirtual 395, 3) := by decide +kernel
theorem dX10_cancel_37 : decode cX10_cancel 37 = .ok (.aload_n 0, 1) := by decide +kernel
theorem dX10_cancel_38 : decode cX10_cancel 38 = .ok (.iload_n 1, 1) := by decide +kernel
theorem dX10_cancel_39 : decode cX10_cancel 39 = .ok (.invokevirtual 277, 3) := by decide +kernel
theorem dX10_cancel_42 : decode cX10_cancel 42 = .ok (.istore_n 3, 1) := by decide +kernel
theorem dX10_cancel_43 : decode cX10_cancel 43 = .ok (.aload_n 0, 1) := by decide +kernel
theorem dX10_cancel_44 : decode cX10_cancel 44 = .ok (.iload_n 1, 1) := by decide +kernel
theorem dX10_cancel_45 : decode cX10_cancel 45 = .ok (.iconst 2, 1) := by decide +kernel
theorem dX10_cancel_46 : decode cX10_cancel 46 = .ok (.iconst 5, 1) := by decide +kernel
theorem dX10_cancel_47 : decode cX10_cancel 47 = .ok (.invokevirtual 273, 3) := by decide +kernel
theorem dX10_cancel_50 : decode cX10_cancel 50 = .ok (.iload_n 3, 1) := by decide +kernel
theorem dX10_cancel_51 : decode cX10_cancel 51 = .ok (.ireturn, 1) := by decide +kernel
theorem dX10_closedCount_0 : decode cX10_closedCount 0 = .ok (.aload_n 0, 1) := by decide +kernel
theorem dX10_closedCount_1 : decode cX10_closedCount 1 = .ok (.iconst 0, 1) := by decide +kernel
theorem dX10_closedCount_2 : decode cX10_closedCount 2 = .ok (.putfield 80, 3) := by decide +kernel
theorem dX10_closedCount_5 : decode cX10_closedCount 5 = .ok (.iconst 0, 1) := by decide +kernel
theorem dX10_closedCount_6 : decode cX10_closedCount 6 = .ok (.istore_n 1, 1) := by decide +kernel
theorem dX10_closedCount_7 : decode cX10_closedCount 7 = .ok (.iconst 0, 1) := by decide +kernel
theorem dX10_closedCount_8 : decode cX10_closedCount 8 = .ok (.istore_n 2, 1) := by decide +kernel
theorem dX10_closedCount_9 : decode cX10_closedCount 9 = .ok (.iload_n 2, 1) := by decide +kernel
theorem dX10_closedCount_10 : decode cX10_closedCount 10 = .ok (.aload_n 0, 1) := by decide +kernel
theorem dX10_closedCount_11 : decode cX10_closedCount 11 = .ok (.getfield 7, 3) := by decide +kernel
theorem dX10_closedCount_14 : decode cX10_closedCount 14 = .ok (.bipush 13, 2) := by decide +kernel
theorem dX10_closedCount_16 : decode cX10_closedCount 16 = .ok (.iaload, 1) := by decide +kernel
theorem dX10_closedCount_17 : decode cX10_closedCount 17 = .ok (.if_icmp .ge 25, 3) := by decide +kernel
theorem dX10_closedCount_20 : decode cX10_closedCount 20 = .ok (.iload_n 1, 1) := by decide +kernel
theorem dX10_closedCount_21 : decode cX10_closedCount 21 = .ok (.aload_n 0, 1) := by decide +kernel
theorem dX10_closedCount_22 : decode cX10_closedCount 22 = .ok (.iload_n 2, 1) := by decide +kernel
theorem dX10_closedCount_23 : decode cX10_closedCount 23 = .ok (.invokevirtual 265, 3) := by decide +kernel
theorem dX10_closedCount_26 : decode cX10_closedCount 26 = .ok (.ifCond .eq 7, 3) := by decide +kernel
theorem dX10_closedCount_29 : decode cX10_closedCount 29 = .ok (.iconst 1, 1) := by decide +kernel
theorem dX10_closedCount_30 : decode cX10_closedCount 30 = .ok (.goto 4, 3) := by decide +kernel
theorem dX10_closedCount_33 : decode cX10_closedCount 33 = .ok (.iconst 0, 1) := by decide +kernel
theorem dX10_closedCount_34 : decode cX10_closedCount 34 = .ok (.iadd, 1) := by decide +kernel
theorem dX10_closedCount_35 : decode cX10_closedCount 35 = .ok (.istore_n 1, 1) := by decide +kernel
theorem dX10_closedCount_36 : decode cX10_closedCount 36 = .ok (.iinc 2 1, 3) := by decide +kernel
theorem dX10_closedCount_39 : decode cX10_closedCount 39 = .ok (.goto (-30), 3) := by decide +kernel
theorem dX10_closedCount_42 : decode cX10_closedCount 42 = .ok (.iload_n 1, 1) := by decide +kernel
theorem dX10_closedCount_43 : decode cX10_closedCount 43 = .ok (.ireturn, 1) := by decide +kernel
theorem dX10_credited_0 : decode cX10_credited 0 = .ok (.aload_n 0, 1) := by decide +kernel
theorem dX10_credited_1 : decode cX10_credited 1 = .ok (.iconst 0, 1) := by decide +kernel
theorem dX10_credited_2 : decode cX10_credited 2 = .ok (.putfield 80, 3) := by decide +kernel
theorem dX10_credited_5 : decode cX10_credited 5 = .ok (.aload_n 0, 1) := by decide +kernel
theorem dX10_credited_6 : decode cX10_credited 6 = .ok (.getfield 7, 3) := by decide +kernel
theorem dX10_credited_9 : decode cX10_credited 9 = .ok (.bipush 8, 2) := by decide +kernel
theorem dX10_credited_11 : decode cX10_credited 11 = .ok (.iaload, 1) := by decide +kernel
theorem dX10_credited_12 : decode cX10_credited 12 = .ok (.ireturn, 1) := by decide +kernel
theorem dX10_day_0 : decode cX10_day 0 = .ok (.aload_n 0, 1) := by decide +kernel
theorem dX10_day_1 : decode cX10_day 1 = .ok (.iconst 0, 1) := by decide +kernel
theorem dX10_day_2 : decode cX10_day 2 = .ok (.putfield 80, 3) := by decide +kernel
theorem dX10_day_5 : decode cX10_day 5 = .ok (.aload_n 0, 1) := by decide +kernel
theorem dX10_day_6 : decode cX10_day 6 = .ok (.getfield 7, 3) := by decide +kernel
theorem dX10_day_9 : decode cX10_day 9 = .ok (.iconst 4, 1) := by decide +kernel
theorem dX10_day_10 : decode cX10_day 10 = .ok (.iaload, 1) := by decide +kernel
theorem dX10_day_11 : decode cX10_day 11 = .ok (.ireturn, 1) := by decide +kernel
theorem dX10_dayByClock_0 : decode cX10_dayByClock 0 = .ok (.aload_n 0, 1) := by decide +kernel
theorem dX10_dayByClock_1 : decode cX10_dayByClock 1 = .ok (.aload_n 0, 1) := by decide +kernel
theorem dX10_dayByClock_2 : decode cX10_dayByClock 2 = .ok (.iload_n 1, 1) := by decide +kernel
theorem dX10_dayByClock_3 : decode cX10_dayByClock 3 = .ok (.invokevirtual 330, 3) := by decide +kernel
theorem dX10_dayByClock_6 : decode cX10_dayByClock 6 = .ok (.invokevirtual 333, 3) := by decide +kernel
theorem dX10_dayByClock_9 : decode cX10_dayByClock 9 = .ok (.ifCond .ne 5, 3) := by decide +kernel
theorem dX10_dayByClock_12 : decode cX10_dayByClock 12 = .ok (.iconst 0, 1) := by decide +kernel
theorem dX10_dayByClock_13 : decode cX10_dayByClock 13 = .ok (.ireturn, 1) := by decide +kernel
theorem dX10_dayByClock_14 : decode cX10_dayByClock 14 = .ok (.aload_n 0, 1) := by decide +kernel
theorem dX10_dayByClock_15 : decode cX10_dayByClock 15 = .ok (.invokevirtual 284, 3) := by decide +kernel
theorem dX10_dayByClock_18 : decode cX10_dayByClock 18 = .ok (.istore_n 2, 1) := by decide +kernel
theorem dX10_dayByClock_19 : decode cX10_dayByClock 19 = .ok (.aload_n 0, 1) := by decide +kernel
theorem dX10_dayByClock_20 : decode cX10_dayByClock 20 = .ok (.getfield 7, 3) := by decide +kernel
theorem dX10_dayByClock_23 : decode cX10_dayByClock 23 = .ok (.iconst 4, 1) := by decide +kernel
theorem dX10_dayByClock_24 : decode cX10_dayByClock 24 = .ok (.iaload, 1) := by decide +kernel
theorem dX10_dayByClock_25 : decode cX10_dayByClock 25 = .ok (.istore_n 3, 1) := by decide +kernel
theorem dX10_dayByClock_26 : decode cX10_dayByClock 26 = .ok (.iload_n 3, 1) := by decide +kernel
theorem dX10_dayByClock_27 : decode cX10_dayByClock 27 = .ok (.aload_n 0, 1) := by decide +kernel
theorem dX10_dayByClock_28 : decode cX10_dayByClock 28 = .ok (.getfield 7, 3) := by decide +kernel
theorem dX10_dayByClock_31 : decode cX10_dayByClock 31 = .ok (.iconst 4, 1) := by decide +kernel
theorem dX10_dayByClock_32 : decode cX10_dayByClock 32 = .ok (.iaload, 1) := by decide +kernel
theorem dX10_dayByClock_33 : decode cX10_dayByClock 33 = .ok (.sipush 400, 3) := by decide +kernel
theorem dX10_dayByClock_36 : decode cX10_dayByClock 36 = .ok (.iadd, 1) := by decide +kernel
theorem dX10_dayByClock_37 : decode cX10_dayByClock 37 = .ok (.if_icmp .gt 28, 3) := by decide +kernel
theorem dX10_dayByClock_40 : decode cX10_dayByClock 40 = .ok (.aload_n 0, 1) := by decide +kernel
theorem dX10_dayByClock_41 : decode cX10_dayByClock 41 = .ok (.iload_n 1, 1) := by decide +kernel
theorem dX10_dayByClock_42 : decode cX10_dayByClock 42 = .ok (.iload_n 3, 1) := by decide +kernel
theorem dX10_dayByClock_43 : decode cX10_dayByClock 43 = .ok (.aload_n 0, 1) := by decide +kernel
theorem dX10_dayByClock_44 : decode cX10_dayByClock 44 = .ok (.getfield 7, 3) := by decide +kernel
theorem dX10_dayByClock_47 : decode cX10_dayByClock 47 = .ok (.bipush 12, 2) := by decide +kernel
theorem dX10_dayByClock_49 : decode cX10_dayByClock 49 = .ok (.iaload, 1) := by decide +kernel
theorem dX10_dayByClock_50 : decode cX10_dayByClock 50 = .ok (.iload_n 2, 1) := by decide +kernel
theorem dX10_dayByClock_51 : decode cX10_dayByClock 51 = .ok (.invokevirtual 288, 3) := by decide +kernel
theorem dX10_dayByClock_54 : decode cX10_dayByClock 54 = .ok (.ifCond .eq 5, 3) := by decide +kernel
theorem dX10_dayByClock_57 : decode cX10_dayByClock 57 = .ok (.iload_n 3, 1) := by decide +kernel
theorem dX10_dayByClock_58 : decode cX10_dayByClock 58 = .ok (.ireturn, 1) := by decide +kernel
theorem dX10_dayByClock_59 : decode cX10_dayByClock 59 = .ok (.iinc 3 1, 3) := by decide +kernel
theorem dX10_dayByClock_62 : decode cX10_dayByClock 62 = .ok (.goto (-36), 3) := by decide +kernel
theorem dX10_dayByClock_65 : decode cX10_dayByClock 65 = .ok (.iconst (-1), 1) := by decide +kernel
theorem dX10_dayByClock_66 : decode cX10_dayByClock 66 = .ok (.ireturn, 1) := by decide +kernel
theorem dX10_daysUntilClosed_0 : decode cX10_daysUntilClosed 0 = .ok (.aload_n 0, 1) := by decide +kernel
theorem dX10_daysUntilClosed_1 : decode cX10_daysUntilClosed 1 = .ok (.aload_n 0, 1) := by decide +kernel
theorem dX10_daysUntilClosed_2 : decode cX10_daysUntilClosed 2 = .ok (.iload_n 1, 1) := by decide +kernel
theorem dX10_daysUntilClosed_3 : decode cX10_daysUntilClosed 3 = .ok (.invokevirtual 330, 3) := by decide +kernel
theorem dX10_daysUntilClosed_6 : decode cX10_daysUntilClosed 6 = .ok (.invokevirtual 333, 3) := by decide +kernel
theorem dX10_daysUntilClosed_9 : decode cX10_daysUntilClosed 9 = .ok (.ifCond .ne 5, 3) := by decide +kernel
theorem dX10_daysUntilClosed_12 : decode cX10_daysUntilClosed 12 = .ok (.iconst 0, 1) := by decide +kernel
theorem dX10_daysUntilClosed_13 : decode cX10_daysUntilClosed 13 = .ok (.ireturn, 1) := by decide +kernel
theorem dX10_daysUntilClosed_14 : decode cX10_daysUntilClosed 14 = .ok (.aload_n 0, 1) := by decide +kernel
theorem dX10_daysUntilClosed_15 : decode cX10_daysUntilClosed 15 = .ok (.invokevirtual 366, 3) := by decide +kernel
theorem dX10_daysUntilClosed_18 : decode cX10_daysUntilClosed 18 = .ok (.iconst 0, 1) := by decide +kernel
theorem dX10_daysUntilClosed_19 : decode cX10_daysUntilClosed 19 = .ok (.istore_n 2, 1) := by decide +kernel
theorem dX10_daysUntilClosed_20 : decode cX10_daysUntilClosed 20 = .ok (.iload_n 2, 1) := by decide +kernel
theorem dX10_daysUntilClosed_21 : decode cX10_daysUntilClosed 21 = .ok (.bipush 120, 2) := by decide +kernel
theorem dX10_daysUntilClosed_23 : decode cX10_daysUntilClosed 23 = .ok (.if_icmp .ge 21, 3) := by decide +kernel
theorem dX10_daysUntilClosed_26 : decode cX10_daysUntilClosed 26 = .ok (.aload_n 0, 1) := by decide +kernel
theorem dX10_daysUntilClosed_27 : decode cX10_daysUntilClosed 27 = .ok (.iload_n 1, 1) := by decide +kernel
theorem dX10_daysUntilClosed_28 : decode cX10_daysUntilClosed 28 = .ok (.invokevirtual 265, 3) := by decide +kernel
theorem dX10_daysUntilClosed_31 : decode cX10_daysUntilClosed 31 = .ok (.ifCond .ne 13, 3) := by decide +kernel
theorem dX10_daysUntilClosed_34 : decode cX10_daysUntilClosed 34 = .ok (.aload_n 0, 1) := by decide +kernel
theorem dX10_daysUntilClosed_35 : decode cX10_daysUntilClosed 35 = .ok (.invokevirtual 324, 3) := by decide +kernel
theorem dX10_daysUntilClosed_38 : decode cX10_daysUntilClosed 38 = .ok (.iinc 2 1, 3) := by decide +kernel
theorem dX10_daysUntilClosed_41 : decode cX10_daysUntilClosed 41 = .ok (.goto (-21), 3) := by decide +kernel
theorem dX10_daysUntilClosed_44 : decode cX10_daysUntilClosed 44 = .ok (.aload_n 0, 1) := by decide +kernel
theorem dX10_daysUntilClosed_45 : decode cX10_daysUntilClosed 45 = .ok (.iload_n 1, 1) := by decide +kernel
theorem dX10_daysUntilClosed_46 : decode cX10_daysUntilClosed 46 = .ok (.invokevirtual 265, 3) := by decide +kernel
theorem dX10_daysUntilClosed_49 : decode cX10_daysUntilClosed 49 = .ok (.istore_n 3, 1) := by decide +kernel
theorem dX10_daysUntilClosed_50 : decode cX10_daysUntilClosed 50 = .ok (.aload_n 0, 1) := by decide +kernel
theorem dX10_daysUntilClosed_51 : decode cX10_daysUntilClosed 51 = .ok (.invokevirtual 372, 3) := by decide +kernel
theorem dX10_daysUntilClosed_54 : decode cX10_daysUntilClosed 54 = .ok (.iload_n 3, 1) := by decide +kernel
theorem dX10_daysUntilClosed_55 : decode cX10_daysUntilClosed 55 = .ok (.ifCond .eq 7, 3) := by decide +kernel
theorem dX10_daysUntilClosed_58 : decode cX10_daysUntilClosed 58 = .ok (.iload_n 2, 1) := by decide +kernel
theorem dX10_daysUntilClosed_59 : decode cX10_daysUntilClosed 59 = .ok (.goto 4, 3) := by decide +kernel
theorem dX10_daysUntilClosed_62 : decode cX10_daysUntilClosed 62 = .ok (.iconst (-1), 1) := by decide +kernel
theorem dX10_daysUntilClosed_63 : decode cX10_daysUntilClosed 63 = .ok (.ireturn, 1) := by decide +kernel
theorem dX10_deposited_0 : decode cX10_deposited 0 = .ok (.aload_n 0, 1) := by decide +kernel
theorem dX10_deposited_1 : decode cX10_deposited 1 = .ok (.iconst 0, 1) := by decide +kernel
theorem dX10_deposited_2 : decode cX10_deposited 2 = .ok (.putfield 80, 3) := by decide +kernel
theorem dX10_deposited_5 : decode cX10_deposited 5 = .ok (.aload_n 0, 1) := by decide +kernel
theorem dX10_deposited_6 : decode cX10_deposited 6 = .ok (.getfield 7, 3) := by decide +kernel
theorem dX10_deposited_9 : decode cX10_deposited 9 = .ok (.iconst 5, 1) := by decide +kernel
theorem dX10_deposited_10 : decode cX10_deposited 10 = .ok (.iaload, 1) := by decide +kernel
theorem dX10_deposited_11 : decode cX10_deposited 11 = .ok (.ireturn, 1) := by decide +kernel
theorem dX10_dispute_0 : decode cX10_dispute 0 = .ok (.aload_n 0, 1) := by decide +kernel
theorem dX10_dispute_1 : decode cX10_dispute 1 = .ok (.iload_n 1, 1) := by decide +kernel
theorem dX10_dispute_2 : decode cX10_dispute 2 = .ok (.invokevirtual 330, 3) := by decide +kernel
theorem dX10_dispute_5 : decode cX10_dispute 5 = .ok (.istore_n 2, 1) := by decide +kernel
theorem dX10_dispute_6 : decode cX10_dispute 6 = .ok (.aload_n 0, 1) := by decide +kernel
theorem dX10_dispute_7 : decode cX10_dispute 7 = .ok (.iload_n 2, 1) := by decide +kernel
theorem dX10_dispute_8 : decode cX10_dispute 8 = .ok (.iload_n 2, 1) := by decide +kernel
theorem dX10_dispute_9 : decode cX10_dispute 9 = .ok (.ifCond .eq 15, 3) := by decide +kernel
theorem dX10_dispute_12 : decode cX10_dispute 12 = .ok (.aload_n 0, 1) := by decide +kernel
theorem dX10_dispute_13 : decode cX10_dispute 13 = .ok (.iload_n 1, 1) := by decide +kernel
theorem dX10_dispute_14 : decode cX10_dispute 14 = .ok (.invokevirtual 398, 3) := by decide +kernel
theorem dX10_dispute_17 : decode cX10_dispute 17 = .ok (.ifCond .eq 7, 3) := by decide +kernel
theorem dX10_dispute_20 : decode cX10_dispute 20 = .ok (.iconst 1, 1) := by decide +kernel
theorem dX10_dispute_21 : decode cX10_dispute 21 = .ok (.goto 4, 3) := by decide +kernel
theorem dX10_dispute_24 : decode cX10_dispute 24 = .ok (.iconst 0, 1) := by decide +kernel
theorem dX10_dispute_25 : decode cX10_dispute 25 = .ok (.invokevirtual 358, 3) := by decide +kernel
theorem dX10_dispute_28 : decode cX10_dispute 28 = .ok (.ifCond .ne 5, 3) := by decide +kernel
theorem dX10_dispute_31 : decode cX10_dispute 31 = .ok (.iconst 0, 1) := by decide +kernel
theorem dX10_dispute_32 : decode cX10_dispute 32 = .ok (.ireturn, 1) := by decide +kernel
theorem dX10_dispute_33 : decode cX10_dispute 33 = .ok (.aload_n 0, 1) := by decide +kernel
theorem dX10_dispute_34 : decode cX10_dispute 34 = .ok (.invokevirtual 395, 3) := by decide +kernel
theorem dX10_dispute_37 : decode cX10_dispute 37 = .ok (.aload_n 0, 1) := by decide +kernel
theorem dX10_dispute_38 : decode cX10_dispute 38 = .ok (.iload_n 1, 1) := by decide +kernel
theorem dX10_dispute_39 : decode cX10_dispute 39 = .ok (.invokevirtual 277, 3) := by decide +kernel
theorem dX10_dispute_42 : decode cX10_dispute 42 = .ok (.aload_n 0, 1) := by decide +kernel
theorem dX10_dispute_43 : decode cX10_dispute 43 = .ok (.invokevirtual 298, 3) := by decide +kernel
theorem dX10_dispute_46 : decode cX10_dispute 46 = .ok (.invokestatic 301, 3) := by decide +kernel
theorem dX10_dispute_49 : decode cX10_dispute 49 = .ok (.istore_n 3, 1) := by decide +kernel
theorem dX10_dispute_50 : decode cX10_dispute 50 = .ok (.aload_n 0, 1) := by decide +kernel
theorem dX10_dispute_51 : decode cX10_dispute 51 = .ok (.iload_n 1, 1) := by decide +kernel
theorem dX10_dispute_52 : decode cX10_dispute 52 = .ok (.iconst 3, 1) := by decide +kernel
theorem dX10_dispute_53 : decode cX10_dispute 53 = .ok (.iload_n 3, 1) := by decide +kernel
theorem dX10_dispute_54 : decode cX10_dispute 54 = .ok (.invokevirtual 273, 3) := by decide +kernel
theorem dX10_dispute_57 : decode cX10_dispute 57 = .ok (.aload_n 0, 1) := by decide +kernel
theorem dX10_dispute_58 : decode cX10_dispute 58 = .ok (.iload_n 1, 1) := by decide +kernel
theorem dX10_dispute_59 : decode cX10_dispute 59 = .ok (.iconst 2, 1) := by decide +kernel
theorem dX10_dispute_60 : decode cX10_dispute 60 = .ok (.iconst 2, 1) := by decide +kernel
theorem dX10_dispute_61 : decode cX10_dispute 61 = .ok (.invokevirtual 273, 3) := by decide +kernel
theorem dX10_dispute_64 : decode cX10_dispute 64 = .ok (.iload_n 3, 1) := by decide +kernel
theorem dX10_dispute_65 : decode cX10_dispute 65 = .ok (.ireturn, 1) := by decide +kernel
theorem dX10_doneSet_0 : decode cX10_doneSet 0 = .ok (.iconst 0, 1) := by decide +kernel
theorem dX10_doneSet_1 : decode cX10_doneSet 1 = .ok (.istore_n 1, 1) := by decide +kernel
theorem dX10_doneSet_2 : decode cX10_doneSet 2 = .ok (.iconst 0, 1) := by decide +kernel
theorem dX10_doneSet_3 : decode cX10_doneSet 3 = .ok (.istore_n 2, 1) := by decide +kernel
theorem dX10_doneSet_4 : decode cX10_doneSet 4 = .ok (.iload_n 2, 1) := by decide +kernel
theorem dX10_doneSet_5 : decode cX10_doneSet 5 = .ok (.aload_n 0, 1) := by decide +kernel
theorem dX10_doneSet_6 : decode cX10_doneSet 6 = .ok (.getfield 7, 3) := by decide +kernel
theorem dX10_doneSet_9 : decode cX10_doneSet 9 = .ok (.bipush 13, 2) := by decide +kernel
theorem dX10_doneSet_11 : decode cX10_doneSet 11 = .ok (.iaload, 1) := by decide +kernel
theorem dX10_doneSet_12 : decode cX10_doneSet 12 = .ok (.if_icmp .ge 39, 3) := by decide +kernel
theorem dX10_doneSet_15 : decode cX10_doneSet 15 = .ok (.iload_n 1, 1) := by decide +kernel
theorem dX10_doneSet_16 : decode cX10_doneSet 16 = .ok (.aload_n 0, 1) := by decide +kernel
theorem dX10_doneSet_17 : decode cX10_doneSet 17 = .ok (.iload_n 2, 1) := by decide +kernel
theorem dX10_doneSet_18 : decode cX10_doneSet 18 = .ok (.iconst 2, 1) := by decide +kernel
theorem dX10_doneSet_19 : decode cX10_doneSet 19 = .ok (.invokevirtual 261, 3) := by decide +kernel
theorem dX10_doneSet_22 : decode cX10_doneSet 22 = .ok (.iconst 3, 1) := by decide +kernel
theorem dX10_doneSet_23 : decode cX10_doneSet 23 = .ok (.if_icmp .eq 13, 3) := by decide +kernel
theorem dX10_doneSet_26 : decode cX10_doneSet 26 = .ok (.aload_n 0, 1) := by decide +kernel
theorem dX10_doneSet_27 : decode cX10_doneSet 27 = .ok (.iload_n 2, 1) := by decide +kernel
theorem dX10_doneSet_28 : decode cX10_doneSet 28 = .ok (.iconst 2, 1) := by decide +kernel
theorem dX10_doneSet_29 : decode cX10_doneSet 29 = .ok (.invokevirtual 261, 3) := by decide +kernel
theorem dX10_doneSet_32 : decode cX10_doneSet 32 = .ok (.iconst 4, 1) := by decide +kernel
theorem dX10_doneSet_33 : decode cX10_doneSet 33 = .ok (.if_icmp .ne 9, 3) := by decide +kernel
theorem dX10_doneSet_36 : decode cX10_doneSet 36 = .ok (.iconst 1, 1) := by decide +kernel
theorem dX10_doneSet_37 : decode cX10_doneSet 37 = .ok (.iload_n 2, 1) := by decide +kernel
theorem dX10_doneSet_38 : decode cX10_doneSet 38 = .ok (.ishl, 1) := by decide +kernel
theorem dX10_doneSet_39 : decode cX10_doneSet 39 = .ok (.goto 4, 3) := by decide +kernel
theorem dX10_doneSet_42 : decode cX10_doneSet 42 = .ok (.iconst 0, 1) := by decide +kernel
theorem dX10_doneSet_43 : decode cX10_doneSet 43 = .ok (.ior, 1) := by decide +kernel
theorem dX10_doneSet_44 : decode cX10_doneSet 44 = .ok (.istore_n 1, 1) := by decide +kernel
theorem dX10_doneSet_45 : decode cX10_doneSet 45 = .ok (.iinc 2 1, 3) := by decide +kernel
theorem dX10_doneSet_48 : decode cX10_doneSet 48 = .ok (.goto (-44), 3) := by decide +kernel
theorem dX10_doneSet_51 : decode cX10_doneSet 51 = .ok (.iload_n 1, 1) := by decide +kernel
theorem dX10_doneSet_52 : decode cX10_doneSet 52 = .ok (.ireturn, 1) := by decide +kernel
theorem dX10_dueAt_0 : decode cX10_dueAt 0 = .ok (.iload_n 1, 1) := by decide +kernel
theorem dX10_dueAt_1 : decode cX10_dueAt 1 = .ok (.ifCond .ge 7, 3) := by decide +kernel
theorem dX10_dueAt_4 : decode cX10_dueAt 4 = .ok (.iconst (-1), 1) := by decide +kernel
theorem dX10_dueAt_5 : decode cX10_dueAt 5 = .ok (.goto 8, 3) := by decide +kernel
theorem dX10_dueAt_8 : decode cX10_dueAt 8 = .ok (.aload_n 0, 1) := by decide +kernel
theorem dX10_dueAt_9 : decode cX10_dueAt 9 = .ok (.iload_n 1, 1) := by decide +kernel
theorem dX10_dueAt_10 : decode cX10_dueAt 10 = .ok (.invokevirtual 295, 3) := by decide +kernel
theorem dX10_dueAt_13 : decode cX10_dueAt 13 = .ok (.istore_n 2, 1) := by decide +kernel
theorem dX10_dueAt_14 : decode cX10_dueAt 14 = .ok (.aload_n 0, 1) := by decide +kernel
theorem dX10_dueAt_15 : decode cX10_dueAt 15 = .ok (.iload_n 2, 1) := by decide +kernel
theorem dX10_dueAt_16 : decode cX10_dueAt 16 = .ok (.iconst (-1), 1) := by decide +kernel
theorem dX10_dueAt_17 : decode cX10_dueAt 17 = .ok (.if_icmp .eq 7, 3) := by decide +kernel
theorem dX10_dueAt_20 : decode cX10_dueAt 20 = .ok (.iconst 1, 1) := by decide +kernel
theorem dX10_dueAt_21 : decode cX10_dueAt 21 = .ok (.goto 4, 3) := by decide +kernel
theorem dX10_dueAt_24 : decode cX10_dueAt 24 = .ok (.iconst 0, 1) := by decide +kernel
theorem dX10_dueAt_25 : decode cX10_dueAt 25 = .ok (.invokevirtual 333, 3) := by decide +kernel
theorem dX10_dueAt_28 : decode cX10_dueAt 28 = .ok (.ifCond .eq 7, 3) := by decide +kernel
theorem dX10_dueAt_31 : decode cX10_dueAt 31 = .ok (.iload_n 2, 1) := by decide +kernel
theorem dX10_dueAt_32 : decode cX10_dueAt 32 = .ok (.goto 4, 3) := by decide +kernel
theorem dX10_dueAt_35 : decode cX10_dueAt 35 = .ok (.iconst 0, 1) := by decide +kernel
theorem dX10_dueAt_36 : decode cX10_dueAt 36 = .ok (.ireturn, 1) := by decide +kernel
theorem dX10_dueDay_0 : decode cX10_dueDay 0 = .ok (.aload_n 0, 1) := by decide +kernel
theorem dX10_dueDay_1 : decode cX10_dueDay 1 = .ok (.aload_n 0, 1) := by decide +kernel
theorem dX10_dueDay_2 : decode cX10_dueDay 2 = .ok (.iload_n 1, 1) := by decide +kernel
theorem dX10_dueDay_3 : decode cX10_dueDay 3 = .ok (.invokevirtual 330, 3) := by decide +kernel
theorem dX10_dueDay_6 : decode cX10_dueDay 6 = .ok (.invokevirtual 333, 3) := by decide +kernel
theorem dX10_dueDay_9 : decode cX10_dueDay 9 = .ok (.ifCond .eq 12, 3) := by decide +kernel
theorem dX10_dueDay_12 : decode cX10_dueDay 12 = .ok (.aload_n 0, 1) := by decide +kernel
theorem dX10_dueDay_13 : decode cX10_dueDay 13 = .ok (.iload_n 1, 1) := by decide +kernel
theorem dX10_dueDay_14 : decode cX10_dueDay 14 = .ok (.iconst 4, 1) := by decide +kernel
theorem dX10_dueDay_15 : decode cX10_dueDay 15 = .ok (.invokevirtual 261, 3) := by decide +kernel
theorem dX10_dueDay_18 : decode cX10_dueDay 18 = .ok (.goto 4, 3) := by decide +kernel
theorem dX10_dueDay_21 : decode cX10_dueDay 21 = .ok (.iconst 0, 1) := by decide +kernel
theorem dX10_dueDay_22 : decode cX10_dueDay 22 = .ok (.ireturn, 1) := by decide +kernel
theorem dX10_dueWith_0 : decode cX10_dueWith 0 = .ok (.iconst 0, 1) := by decide +kernel
theorem dX10_dueWith_1 : decode cX10_dueWith 1 = .ok (.istore_n 2, 1) := by decide +kernel
theorem dX10_dueWith_2 : decode cX10_dueWith 2 = .ok (.iload_n 2, 1) := by decide +kernel
theorem dX10_dueWith_3 : decode cX10_dueWith 3 = .ok (.aload_n 0, 1) := by decide +kernel
theorem dX10_dueWith_4 : decode cX10_dueWith 4 = .ok (.getfield 7, 3) := by decide +kernel
theorem dX10_dueWith_7 : decode cX10_dueWith 7 = .ok (.bipush 13, 2) := by decide +kernel
theorem dX10_dueWith_9 : decode cX10_dueWith 9 = .ok (.iaload, 1) := by decide +kernel
theorem dX10_dueWith_10 : decode cX10_dueWith 10 = .ok (.if_icmp .ge 30, 3) := by decide +kernel
theorem dX10_dueWith_13 : decode cX10_dueWith 13 = .ok (.aload_n 0, 1) := by decide +kernel
theorem dX10_dueWith_14 : decode cX10_dueWith 14 = .ok (.iload_n 2, 1) := by decide +kernel
theorem dX10_dueWith_15 : decode cX10_dueWith 15 = .ok (.iconst 2, 1) := by decide +kernel
theorem dX10_dueWith_16 : decode cX10_dueWith 16 = .ok (.invokevirtual 261, 3) := by decide +kernel
theorem dX10_dueWith_19 : decode cX10_dueWith 19 = .ok (.iconst 1, 1) := by decide +kernel
theorem dX10_dueWith_20 : decode cX10_dueWith 20 = .ok (.if_icmp .ne 14, 3) := by decide +kernel
theorem dX10_dueWith_23 : decode cX10_dueWith 23 = .ok (.aload_n 0, 1) := by decide +kernel
theorem dX10_dueWith_24 : decode cX10_dueWith 24 = .ok (.iload_n 2, 1) := by decide +kernel
theorem dX10_dueWith_25 : decode cX10_dueWith 25 = .ok (.invokevirtual 292, 3) := by decide +kernel
theorem dX10_dueWith_28 : decode cX10_dueWith 28 = .ok (.iload_n 1, 1) := by decide +kernel
theorem dX10_dueWith_29 : decode cX10_dueWith 29 = .ok (.if_icmp .ne 5, 3) := by decide +kernel
theorem dX10_dueWith_32 : decode cX10_dueWith 32 = .ok (.iload_n 2, 1) := by decide +kernel
theorem dX10_dueWith_33 : decode cX10_dueWith 33 = .ok (.ireturn, 1) := by decide +kernel
theorem dX10_dueWith_34 : decode cX10_dueWith 34 = .ok (.iinc 2 1, 3) := by decide +kernel
theorem dX10_dueWith_37 : decode cX10_dueWith 37 = .ok (.goto (-35), 3) := by decide +kernel
theorem dX10_dueWith_40 : decode cX10_dueWith 40 = .ok (.iconst (-1), 1) := by decide +kernel
theorem dX10_dueWith_41 : decode cX10_dueWith 41 = .ok (.ireturn, 1) := by decide +kernel
theorem dX10_entries_0 : decode cX10_entries 0 = .ok (.aload_n 0, 1) := by decide +kernel
theorem dX10_entries_1 : decode cX10_entries 1 = .ok (.iconst 0, 1) := by decide +kernel
theorem dX10_entries_2 : decode cX10_entries 2 = .ok (.putfield 80, 3) := by decide +kernel
theorem dX10_entries_5 : decode cX10_entries 5 = .ok (.aload_n 0, 1) := by decide +kernel
theorem dX10_entries_6 : decode cX10_entries 6 = .ok (.getfield 7, 3) := by decide +kernel
theorem dX10_entries_9 : decode cX10_entries 9 = .ok (.bipush 15, 2) := by decide +kernel
theorem dX10_entries_11 : decode cX10_entries 11 = .ok (.iaload, 1) := by decide +kernel
theorem dX10_entries_12 : decode cX10_entries 12 = .ok (.ireturn, 1) := by decide +kernel
theorem dX10_entry_0 : decode cX10_entry 0 = .ok (.aload_n 0, 1) := by decide +kernel
theorem dX10_entry_1 : decode cX10_entry 1 = .ok (.iload_n 1, 1) := by decide +kernel
theorem dX10_entry_2 : decode cX10_entry 2 = .ok (.i2l, 1) := by decide +kernel
theorem dX10_entry_3 : decode cX10_entry 3 = .ok (.lconst 0, 1) := by decide +kernel
theorem dX10_entry_4 : decode cX10_entry 4 = .ok (.aload_n 0, 1) := by decide +kernel
theorem dX10_entry_5 : decode cX10_entry 5 = .ok (.getfield 7, 3) := by decide +kernel
theorem dX10_entry_8 : decode cX10_entry 8 = .ok (.bipush 15, 2) := by decide +kernel
theorem dX10_entry_10 : decode cX10_entry 10 = .ok (.iaload, 1) := by decide +kernel
theorem dX10_entry_11 : decode cX10_entry 11 = .ok (.iconst 1, 1) := by decide +kernel
theorem dX10_entry_12 : decode cX10_entry 12 = .ok (.isub, 1) := by decide +kernel
theorem dX10_entry_13 : decode cX10_entry 13 = .ok (.i2l, 1) := by decide +kernel
theorem dX10_entry_14 : decode cX10_entry 14 = .ok (.invokestatic 152, 3) := by decide +kernel
theorem dX10_entry_17 : decode cX10_entry 17 = .ok (.iload_n 2, 1) := by decide +kernel
theorem dX10_entry_18 : decode cX10_entry 18 = .ok (.i2l, 1) := by decide +kernel
theorem dX10_entry_19 : decode cX10_entry 19 = .ok (.lconst 0, 1) := by decide +kernel
theorem dX10_entry_20 : decode cX10_entry 20 = .ok (.ldc2_w 446, 3) := by decide +kernel
theorem dX10_entry_23 : decode cX10_entry 23 = .ok (.invokestatic 152, 3) := by decide +kernel
theorem dX10_entry_26 : decode cX10_entry 26 = .ok (.invokevirtual 358, 3) := by decide +kernel
theorem dX10_entry_29 : decode cX10_entry 29 = .ok (.ifCond .eq 12, 3) := by decide +kernel
theorem dX10_entry_32 : decode cX10_entry 32 = .ok (.aload_n 0, 1) := by decide +kernel
theorem dX10_entry_33 : decode cX10_entry 33 = .ok (.iload_n 1, 1) := by decide +kernel
theorem dX10_entry_34 : decode cX10_entry 34 = .ok (.iload_n 2, 1) := by decide +kernel
theorem dX10_entry_35 : decode cX10_entry 35 = .ok (.invokevirtual 448, 3) := by decide +kernel
theorem dX10_entry_38 : decode cX10_entry 38 = .ok (.goto 4, 3) := by decide +kernel
theorem dX10_entry_41 : decode cX10_entry 41 = .ok (.iconst 0, 1) := by decide +kernel
theorem dX10_entry_42 : decode cX10_entry 42 = .ok (.ireturn, 1) := by decide +kernel
theorem dX10_errorKind_0 : decode cX10_errorKind 0 = .ok (.aload_n 0, 1) := by decide +kernel
theorem dX10_errorKind_1 : decode cX10_errorKind 1 = .ok (.iconst 0, 1) := by decide +kernel
theorem dX10_errorKind_2 : decode cX10_errorKind 2 = .ok (.putfield 80, 3) := by decide +kernel
theorem dX10_errorKind_5 : decode cX10_errorKind 5 = .ok (.aload_n 0, 1) := by decide +kernel
theorem dX10_errorKind_6 : decode cX10_errorKind 6 = .ok (.getfield 255, 3) := by decide +kernel
theorem dX10_errorKind_9 : decode cX10_errorKind 9 = .ok (.ireturn, 1) := by decide +kernel
theorem dX10_errorPosition_0 : decode cX10_errorPosition 0 = .ok (.aload_n 0, 1) := by decide +kernel
theorem dX10_errorPosition_1 : decode cX10_errorPosition 1 = .ok (.iconst 0, 1) := by decide +kernel
theorem dX10_errorPosition_2 : decode cX10_errorPosition 2 = .ok (.putfield 80, 3) := by decide +kernel
theorem dX10_errorPosition_5 : decode cX10_errorPosition 5 = .ok (.aload_n 0, 1) := by decide +kernel
theorem dX10_errorPosition_6 : decode cX10_errorPosition 6 = .ok (.getfield 29, 3) := by decide +kernel
theorem dX10_errorPosition_9 : decode cX10_errorPosition 9 = .ok (.ireturn, 1) := by decide +kernel
theorem dX10_fees_0 : decode cX10_fees 0 = .ok (.aload_n 0, 1) := by decide +kernel
theorem dX10_fees_1 : decode cX10_fees 1 = .ok (.iconst 0, 1) := by decide +kernel
theorem dX10_fees_2 : decode cX10_fees 2 = .ok (.putfield 80, 3) := by decide +kernel
theorem dX10_fees_5 : decode cX10_fees 5 = .ok (.aload_n 0, 1) := by decide +kernel
theorem dX10_fees_6 : decode cX10_fees 6 = .ok (.getfield 7, 3) := by decide +kernel
theorem dX10_fees_9 : decode cX10_fees 9 = .ok (.bipush 9, 2) := by decide +kernel
theorem dX10_fees_11 : decode cX10_fees 11 = .ok (.iaload, 1) := by decide +kernel
theorem dX10_fees_12 : decode cX10_fees 12 = .ok (.ireturn, 1) := by decide +kernel
theorem dX10_frozen_0 : decode cX10_frozen 0 = .ok (.aload_n 0, 1) := by decide +kernel
theorem dX10_frozen_1 : decode cX10_frozen 1 = .ok (.aload_n 0, 1) := by decide +kernel
theorem dX10_frozen_2 : decode cX10_frozen 2 = .ok (.iload_n 1, 1) := by decide +kernel
theorem dX10_frozen_3 : decode cX10_frozen 3 = .ok (.invokevirtual 330, 3) := by decide +kernel
theorem dX10_frozen_6 : decode cX10_frozen 6 = .ok (.invokevirtual 333, 3) := by decide +kernel
theorem dX10_frozen_9 : decode cX10_frozen 9 = .ok (.ifCond .eq 12, 3) := by decide +kernel
theorem dX10_frozen_12 : decode cX10_frozen 12 = .ok (.aload_n 0, 1) := by decide +kernel
theorem dX10_frozen_13 : decode cX10_frozen 13 = .ok (.iload_n 1, 1) := by decide +kernel
theorem dX10_frozen_14 : decode cX10_frozen 14 = .ok (.iconst 3, 1) := by decide +kernel
theorem dX10_frozen_15 : decode cX10_frozen 15 = .ok (.invokevirtual 261, 3) := by decide +kernel
theorem dX10_frozen_18 : decode cX10_frozen 18 = .ok (.goto 4, 3) := by decide +kernel
theorem dX10_frozen_21 : decode cX10_frozen 21 = .ok (.iconst 0, 1) := by decide +kernel
theorem dX10_frozen_22 : decode cX10_frozen 22 = .ok (.ireturn, 1) := by decide +kernel
theorem dX10_good_0 : decode cX10_good 0 = .ok (.aload_n 0, 1) := by decide +kernel
theorem dX10_good_1 : decode cX10_good 1 = .ok (.iload_n 1, 1) := by decide +kernel
theorem dX10_good_2 : decode cX10_good 2 = .ok (.ifCond .eq 7, 3) := by decide +kernel
theorem dX10_good_5 : decode cX10_good 5 = .ok (.iconst 0, 1) := by decide +kernel
theorem dX10_good_6 : decode cX10_good 6 = .ok (.goto 4, 3) := by decide +kernel
theorem dX10_good_9 : decode cX10_good 9 = .ok (.iconst 1, 1) := by decide +kernel
theorem dX10_good_10 : decode cX10_good 10 = .ok (.putfield 80, 3) := by decide +kernel
theorem dX10_good_13 : decode cX10_good 13 = .ok (.iload_n 1, 1) := by decide +kernel
theorem dX10_good_14 : decode cX10_good 14 = .ok (.ireturn, 1) := by decide +kernel
theorem dX10_good__0 : decode cX10_good_ 0 = .ok (.aload_n 0, 1) := by decide +kernel
theorem dX10_good__1 : decode cX10_good_ 1 = .ok (.iload_n 1, 1) := by decide +kernel
theorem dX10_good__2 : decode cX10_good_ 2 = .ok (.ifCond .ne 7, 3) := by decide +kernel
theorem dX10_good__5 : decode cX10_good_ 5 = .ok (.iconst 1, 1) := by decide +kernel
theorem dX10_good__6 : decode cX10_good_ 6 = .ok (.goto 12, 3) := by decide +kernel
theorem dX10_good__9 : decode cX10_good_ 9 = .ok (.iload_n 2, 1) := by decide +kernel
theorem dX10_good__10 : decode cX10_good_ 10 = .ok (.ifCond .ne 7, 3) := by decide +kernel
theorem dX10_good__13 : decode cX10_good_ 13 = .ok (.iconst 2, 1) := by decide +kernel
theorem dX10_good__14 : decode cX10_good_ 14 = .ok (.goto 4, 3) := by decide +kernel
theorem dX10_good__17 : decode cX10_good_ 17 = .ok (.iconst 0, 1) := by decide +kernel
theorem dX10_good__18 : decode cX10_good_ 18 = .ok (.putfield 80, 3) := by decide +kernel
theorem dX10_good__21 : decode cX10_good_ 21 = .ok (.aload_n 0, 1) := by decide +kernel
theorem dX10_good__22 : decode cX10_good_ 22 = .ok (.getfield 80, 3) := by decide +kernel
theorem dX10_good__25 : decode cX10_good_ 25 = .ok (.ifCond .ne 7, 3) := by decide +kernel
theorem dX10_good__28 : decode cX10_good_ 28 = .ok (.iconst 1, 1) := by decide +kernel
theorem dX10_good__29 : decode cX10_good_ 29 = .ok (.goto 4, 3) := by decide +kernel
theorem dX10_good__32 : decode cX10_good_ 32 = .ok (.iconst 0, 1) := by decide +kernel
theorem dX10_good__33 : decode cX10_good_ 33 = .ok (.ireturn, 1) := by decide +kernel
theorem dX10_graceLeft_0 : decode cX10_graceLeft 0 = .ok (.aload_n 0, 1) := by decide +kernel
theorem dX10_graceLeft_1 : decode cX10_graceLeft 1 = .ok (.aload_n 0, 1) := by decide +kernel
theorem dX10_graceLeft_2 : decode cX10_graceLeft 2 = .ok (.iload_n 1, 1) := by decide +kernel
theorem dX10_graceLeft_3 : decode cX10_graceLeft 3 = .ok (.invokevirtual 330, 3) := by decide +kernel
theorem dX10_graceLeft_6 : decode cX10_graceLeft 6 = .ok (.invokevirtual 333, 3) := by decide +kernel
theorem dX10_graceLeft_9 : decode cX10_graceLeft 9 = .ok (.ifCond .ne 5, 3) := by decide +kernel
theorem dX10_graceLeft_12 : decode cX10_graceLeft 12 = .ok (.iconst 0, 1) := by decide +kernel
theorem dX10_graceLeft_13 : decode cX10_graceLeft 13 = .ok (.ireturn, 1) := by decide +kernel
theorem dX10_graceLeft_14 : decode cX10_graceLeft 14 = .ok (.aload_n 0, 1) := by decide +kernel
theorem dX10_graceLeft_15 : decode cX10_graceLeft 15 = .ok (.iload_n 1, 1) := by decide +kernel
theorem dX10_graceLeft_16 : decode cX10_graceLeft 16 = .ok (.iconst 2, 1) := by decide +kernel
theorem dX10_graceLeft_17 : decode cX10_graceLeft 17 = .ok (.invokevirtual 261, 3) := by decide +kernel
theorem dX10_graceLeft_20 : decode cX10_graceLeft 20 = .ok (.iconst 1, 1) := by decide +kernel
theorem dX10_graceLeft_21 : decode cX10_graceLeft 21 = .ok (.if_icmp .ne 30, 3) := by decide +kernel
theorem dX10_graceLeft_24 : decode cX10_graceLeft 24 = .ok (.iconst 0, 1) := by decide +kernel
theorem dX10_graceLeft_25 : decode cX10_graceLeft 25 = .ok (.aload_n 0, 1) := by decide +kernel
theorem dX10_graceLeft_26 : decode cX10_graceLeft 26 = .ok (.iload_n 1, 1) := by decide +kernel
theorem dX10_graceLeft_27 : decode cX10_graceLeft 27 = .ok (.iconst 4, 1) := by decide +kernel
theorem dX10_graceLeft_28 : decode cX10_graceLeft 28 = .ok (.invokevirtual 261, 3) := by decide +kernel
theorem dX10_graceLeft_31 : decode cX10_graceLeft 31 = .ok (.aload_n 0, 1) := by decide +kernel
theorem dX10_graceLeft_32 : decode cX10_graceLeft 32 = .ok (.getfield 7, 3) := by decide +kernel
theorem dX10_graceLeft_35 : decode cX10_graceLeft 35 = .ok (.iconst 3, 1) := by decide +kernel
theorem dX10_graceLeft_36 : decode cX10_graceLeft 36 = .ok (.iaload, 1) := by decide +kernel
theorem dX10_graceLeft_37 : decode cX10_graceLeft 37 = .ok (.iadd, 1) := by decide +kernel
theorem dX10_graceLeft_38 : decode cX10_graceLeft 38 = .ok (.aload_n 0, 1) := by decide +kernel
theorem dX10_graceLeft_39 : decode cX10_graceLeft 39 = .ok (.getfield 7, 3) := by decide +kernel
theorem dX10_graceLeft_42 : decode cX10_graceLeft 42 = .ok (.iconst 4, 1) := by decide +kernel
theorem dX10_graceLeft_43 : decode cX10_graceLeft 43 = .ok (.iaload, 1) := by decide +kernel
theorem dX10_graceLeft_44 : decode cX10_graceLeft 44 = .ok (.isub, 1) := by decide +kernel
theorem dX10_graceLeft_45 : decode cX10_graceLeft 45 = .ok (.invokestatic 345, 3) := by decide +kernel
theorem dX10_graceLeft_48 : decode cX10_graceLeft 48 = .ok (.goto 4, 3) := by decide +kernel
theorem dX10_graceLeft_51 : decode cX10_graceLeft 51 = .ok (.iconst (-1), 1) := by decide +kernel
theorem dX10_graceLeft_52 : decode cX10_graceLeft 52 = .ok (.ireturn, 1) := by decide +kernel
theorem dX10_holds_0 : decode cX10_holds 0 = .ok (.aload_n 0, 1) := by decide +kernel
theorem dX10_holds_1 : decode cX10_holds 1 = .ok (.aload_n 0, 1) := by decide +kernel
theorem dX10_holds_2 : decode cX10_holds 2 = .ok (.iload_n 1, 1) := by decide +kernel
theorem dX10_holds_3 : decode cX10_holds 3 = .ok (.invokevirtual 330, 3) := by decide +kernel
theorem dX10_holds_6 : decode cX10_holds 6 = .ok (.invokevirtual 333, 3) := by decide +kernel
theorem dX10_holds_9 : decode cX10_holds 9 = .ok (.ifCond .eq 15, 3) := by decide +kernel
theorem dX10_holds_12 : decode cX10_holds 12 = .ok (.aload_n 0, 1) := by decide +kernel
theorem dX10_holds_13 : decode cX10_holds 13 = .ok (.iload_n 1, 1) := by decide +kernel
theorem dX10_holds_14 : decode cX10_holds 14 = .ok (.invokevirtual 337, 3) := by decide +kernel
theorem dX10_holds_17 : decode cX10_holds 17 = .ok (.ifCond .eq 7, 3) := by decide +kernel
theorem dX10_holds_20 : decode cX10_holds 20 = .ok (.iconst 1, 1) := by decide +kernel
theorem dX10_holds_21 : decode cX10_holds 21 = .ok (.goto 4, 3) := by decide +kernel
theorem dX10_holds_24 : decode cX10_holds 24 = .ok (.iconst 0, 1) := by decide +kernel
theorem dX10_holds_25 : decode cX10_holds 25 = .ok (.ireturn, 1) := by decide +kernel
theorem dX10_interestPot_0 : decode cX10_interestPot 0 = .ok (.aload_n 0, 1) := by decide +kernel
theorem dX10_interestPot_1 : decode cX10_interestPot 1 = .ok (.iconst 0, 1) := by decide +kernel
theorem dX10_interestPot_2 : decode cX10_interestPot 2 = .ok (.putfield 80, 3) := by decide +kernel
theorem dX10_interestPot_5 : decode cX10_interestPot 5 = .ok (.aload_n 0, 1) := by decide +kernel
theorem dX10_interestPot_6 : decode cX10_interestPot 6 = .ok (.getfield 7, 3) := by decide +kernel
theorem dX10_interestPot_9 : decode cX10_interestPot 9 = .ok (.bipush 7, 2) := by decide +kernel
theorem dX10_interestPot_11 : decode cX10_interestPot 11 = .ok (.iaload, 1) := by decide +kernel
theorem dX10_interestPot_12 : decode cX10_interestPot 12 = .ok (.ireturn, 1) := by decide +kernel
theorem dX10_isMilestone_0 : decode cX10_isMilestone 0 = .ok (.iload_n 1, 1) := by decide +kernel
theorem dX10_isMilestone_1 : decode cX10_isMilestone 1 = .ok (.i2l, 1) := by decide +kernel
theorem dX10_isMilestone_2 : decode cX10_isMilestone 2 = .ok (.lconst 0, 1) := by decide +kernel
theorem dX10_isMilestone_3 : decode cX10_isMilestone 3 = .ok (.aload_n 0, 1) := by decide +kernel
theorem dX10_isMilestone_4 : decode cX10_isMilestone 4 = .ok (.getfield 7, 3) := by decide +kernel
theorem dX10_isMilestone_7 : decode cX10_isMilestone 7 = .ok (.bipush 13, 2) := by decide +kernel
theorem dX10_isMilestone_9 : decode cX10_isMilestone 9 = .ok (.iaload, 1) := by decide +kernel
theorem dX10_isMilestone_10 : decode cX10_isMilestone 10 = .ok (.iconst 1, 1) := by decide +kernel
theorem dX10_isMilestone_11 : decode cX10_isMilestone 11 = .ok (.isub, 1) := by decide +kernel
theorem dX10_isMilestone_12 : decode cX10_isMilestone 12 = .ok (.i2l, 1) := by decide +kernel
theorem dX10_isMilestone_13 : decode cX10_isMilestone 13 = .ok (.invokestatic 152, 3) := by decide +kernel
theorem dX10_isMilestone_16 : decode cX10_isMilestone 16 = .ok (.ireturn, 1) := by decide +kernel
theorem dX10_isProof_0 : decode cX10_isProof 0 = .ok (.iload_n 1, 1) := by decide +kernel
theorem dX10_isProof_1 : decode cX10_isProof 1 = .ok (.i2l, 1) := by decide +kernel
theorem dX10_isProof_2 : decode cX10_isProof 2 = .ok (.lconst 0, 1) := by decide +kernel
theorem dX10_isProof_3 : decode cX10_isProof 3 = .ok (.aload_n 0, 1) := by decide +kernel
theorem dX10_isProof_4 : decode cX10_isProof 4 = .ok (.getfield 7, 3) := by decide +kernel
theorem dX10_isProof_7 : decode cX10_isProof 7 = .ok (.bipush 14, 2) := by decide +kernel
theorem dX10_isProof_9 : decode cX10_isProof 9 = .ok (.iaload, 1) := by decide +kernel
theorem dX10_isProof_10 : decode cX10_isProof 10 = .ok (.iconst 1, 1) := by decide +kernel
theorem dX10_isProof_11 : decode cX10_isProof 11 = .ok (.isub, 1) := by decide +kernel
theorem dX10_isProof_12 : decode cX10_isProof 12 = .ok (.i2l, 1) := by decide +kernel
theorem dX10_isProof_13 : decode cX10_isProof 13 = .ok (.invokestatic 152, 3) := by decide +kernel
theorem dX10_isProof_16 : decode cX10_isProof 16 = .ok (.ireturn, 1) := by decide +kernel
theorem dX10_isShare_0 : decode cX10_isShare 0 = .ok (.iload_n 0, 1) := by decide +kernel
theorem dX10_isShare_1 : decode cX10_isShare 1 = .ok (.i2l, 1) := by decide +kernel
theorem dX10_isShare_2 : decode cX10_isShare 2 = .ok (.lconst 0, 1) := by decide +kernel
theorem dX10_isShare_3 : decode cX10_isShare 3 = .ok (.ldc2_w 343, 3) := by decide +kernel
theorem dX10_isShare_6 : decode cX10_isShare 6 = .ok (.invokestatic 152, 3) := by decide +kernel
theorem dX10_isShare_9 : decode cX10_isShare 9 = .ok (.ireturn, 1) := by decide +kernel
theorem dX10_isShort_0 : decode cX10_isShort 0 = .ok (.iconst 0, 1) := by decide +kernel
theorem dX10_isShort_1 : decode cX10_isShort 1 = .ok (.istore_n 1, 1) := by decide +kernel
theorem dX10_isShort_2 : decode cX10_isShort 2 = .ok (.iconst 0, 1) := by decide +kernel
theorem dX10_isShort_3 : decode cX10_isShort 3 = .ok (.istore_n 2, 1) := by decide +kernel
theorem dX10_isShort_4 : decode cX10_isShort 4 = .ok (.iload_n 2, 1) := by decide +kernel
theorem dX10_isShort_5 : decode cX10_isShort 5 = .ok (.aload_n 0, 1) := by decide +kernel
theorem dX10_isShort_6 : decode cX10_isShort 6 = .ok (.getfield 7, 3) := by decide +kernel
theorem dX10_isShort_9 : decode cX10_isShort 9 = .ok (.bipush 13, 2) := by decide +kernel
theorem dX10_isShort_11 : decode cX10_isShort 11 = .ok (.iaload, 1) := by decide +kernel
theorem dX10_isShort_12 : decode cX10_isShort 12 = .ok (.if_icmp .ge 35, 3) := by decide +kernel
theorem dX10_isShort_15 : decode cX10_isShort 15 = .ok (.iload_n 1, 1) := by decide +kernel
theorem dX10_isShort_16 : decode cX10_isShort 16 = .ok (.ifCond .ne 19, 3) := by decide +kernel
theorem dX10_isShort_19 : decode cX10_isShort 19 = .ok (.aload_n 0, 1) := by decide +kernel
theorem dX10_isShort_20 : decode cX10_isShort 20 = .ok (.iload_n 2, 1) := by decide +kernel
theorem dX10_isShort_21 : decode cX10_isShort 21 = .ok (.invokevirtual 306, 3) := by decide +kernel
theorem dX10_isShort_24 : decode cX10_isShort 24 = .ok (.ifCond .eq 15, 3) := by decide +kernel
theorem dX10_isShort_27 : decode cX10_isShort 27 = .ok (.aload_n 0, 1) := by decide +kernel
theorem dX10_isShort_28 : decode cX10_isShort 28 = .ok (.iload_n 2, 1) := by decide +kernel
theorem dX10_isShort_29 : decode cX10_isShort 29 = .ok (.invokevirtual 277, 3) := by decide +kernel
theorem dX10_isShort_32 : decode cX10_isShort 32 = .ok (.ifCond .le 7, 3) := by decide +kernel
theorem dX10_isShort_35 : decode cX10_isShort 35 = .ok (.iconst 1, 1) := by decide +kernel
theorem dX10_isShort_36 : decode cX10_isShort 36 = .ok (.goto 4, 3) := by decide +kernel
theorem dX10_isShort_39 : decode cX10_isShort 39 = .ok (.iconst 0, 1) := by decide +kernel
theorem dX10_isShort_40 : decode cX10_isShort 40 = .ok (.istore_n 1, 1) := by decide +kernel
theorem dX10_isShort_41 : decode cX10_isShort 41 = .ok (.iinc 2 1, 3) := by decide +kernel
theorem dX10_isShort_44 : decode cX10_isShort 44 = .ok (.goto (-40), 3) := by decide +kernel
theorem dX10_isShort_47 : decode cX10_isShort 47 = .ok (.iload_n 1, 1) := by decide +kernel
theorem dX10_isShort_48 : decode cX10_isShort 48 = .ok (.ireturn, 1) := by decide +kernel
theorem dX10_isSubmitted_0 : decode cX10_isSubmitted 0 = .ok (.aload_n 0, 1) := by decide +kernel
theorem dX10_isSubmitted_1 : decode cX10_isSubmitted 1 = .ok (.aload_n 0, 1) := by decide +kernel
theorem dX10_isSubmitted_2 : decode cX10_isSubmitted 2 = .ok (.iload_n 1, 1) := by decide +kernel
theorem dX10_isSubmitted_3 : decode cX10_isSubmitted 3 = .ok (.invokevirtual 348, 3) := by decide +kernel
theorem dX10_isSubmitted_6 : decode cX10_isSubmitted 6 = .ok (.invokevirtual 333, 3) := by decide +kernel
theorem dX10_isSubmitted_9 : decode cX10_isSubmitted 9 = .ok (.ifCond .eq 22, 3) := by decide +kernel
theorem dX10_isSubmitted_12 : decode cX10_isSubmitted 12 = .ok (.aload_n 0, 1) := by decide +kernel
theorem dX10_isSubmitted_13 : decode cX10_isSubmitted 13 = .ok (.getfield 7, 3) := by decide +kernel
theorem dX10_isSubmitted_16 : decode cX10_isSubmitted 16 = .ok (.bipush 12, 2) := by decide +kernel
theorem dX10_isSubmitted_18 : decode cX10_isSubmitted 18 = .ok (.iaload, 1) := by decide +kernel
theorem dX10_isSubmitted_19 : decode cX10_isSubmitted 19 = .ok (.iload_n 1, 1) := by decide +kernel
theorem dX10_isSubmitted_20 : decode cX10_isSubmitted 20 = .ok (.ishr, 1) := by decide +kernel
theorem dX10_isSubmitted_21 : decode cX10_isSubmitted 21 = .ok (.iconst 1, 1) := by decide +kernel
theorem dX10_isSubmitted_22 : decode cX10_isSubmitted 22 = .ok (.iand, 1) := by decide +kernel
theorem dX10_isSubmitted_23 : decode cX10_isSubmitted 23 = .ok (.iconst 1, 1) := by decide +kernel
theorem dX10_isSubmitted_24 : decode cX10_isSubmitted 24 = .ok (.if_icmp .ne 7, 3) := by decide +kernel
theorem dX10_isSubmitted_27 : decode cX10_isSubmitted 27 = .ok (.iconst 1, 1) := by decide +kernel
theorem dX10_isSubmitted_28 : decode cX10_isSubmitted 28 = .ok (.goto 4, 3) := by decide +kernel
theorem dX10_isSubmitted_31 : decode cX10_isSubmitted 31 = .ok (.iconst 0, 1) := by decide +kernel
theorem dX10_isSubmitted_32 : decode cX10_isSubmitted 32 = .ok (.ireturn, 1) := by decide +kernel
theorem dX10_isTrial_0 : decode cX10_isTrial 0 = .ok (.iload_n 0, 1) := by decide +kernel
theorem dX10_isTrial_1 : decode cX10_isTrial 1 = .ok (.i2l, 1) := by decide +kernel
theorem dX10_isTrial_2 : decode cX10_isTrial 2 = .ok (.lconst 1, 1) := by decide +kernel
theorem dX10_isTrial_3 : decode cX10_isTrial 3 = .ok (.ldc2_w 361, 3) := by decide +kernel
theorem dX10_isTrial_6 : decode cX10_isTrial 6 = .ok (.invokestatic 152, 3) := by decide +kernel
theorem dX10_isTrial_9 : decode cX10_isTrial 9 = .ok (.ireturn, 1) := by decide +kernel
theorem dX10_milestones_0 : decode cX10_milestones 0 = .ok (.aload_n 0, 1) := by decide +kernel
theorem dX10_milestones_1 : decode cX10_milestones 1 = .ok (.iconst 0, 1) := by decide +kernel
theorem dX10_milestones_2 : decode cX10_milestones 2 = .ok (.putfield 80, 3) := by decide +kernel
theorem dX10_milestones_5 : decode cX10_milestones 5 = .ok (.aload_n 0, 1) := by decide +kernel
theorem dX10_milestones_6 : decode cX10_milestones 6 = .ok (.getfield 7, 3) := by decide +kernel
theorem dX10_milestones_9 : decode cX10_milestones 9 = .ok (.bipush 13, 2) := by decide +kernel
theorem dX10_milestones_11 : decode cX10_milestones 11 = .ok (.iaload, 1) := by decide +kernel
theorem dX10_milestones_12 : decode cX10_milestones 12 = .ok (.ireturn, 1) := by decide +kernel
theorem dX10_missingProofs_0 : decode cX10_missingProofs 0 = .ok (.aload_n 0, 1) := by decide +kernel
theorem dX10_missingProofs_1 : decode cX10_missingProofs 1 = .ok (.aload_n 0, 1) := by decide +kernel
theorem dX10_missingProofs_2 : decode cX10_missingProofs 2 = .ok (.iload_n 1, 1) := by decide +kernel
theorem dX10_missingProofs_3 : decode cX10_missingProofs 3 = .ok (.invokevirtual 330, 3) := by decide +kernel
theorem dX10_missingProofs_6 : decode cX10_missingProofs 6 = .ok (.invokevirtual 333, 3) := by decide +kernel
theorem dX10_missingProofs_9 : decode cX10_missingProofs 9 = .ok (.ifCond .ne 5, 3) := by decide +kernel
theorem dX10_missingProofs_12 : decode cX10_missingProofs 12 = .ok (.iconst 0, 1) := by decide +kernel
theorem dX10_missingProofs_13 : decode cX10_missingProofs 13 = .ok (.ireturn, 1) := by decide +kernel
theorem dX10_missingProofs_14 : decode cX10_missingProofs 14 = .ok (.aload_n 0, 1) := by decide +kernel
theorem dX10_missingProofs_15 : decode cX10_missingProofs 15 = .ok (.invokevirtual 284, 3) := by decide +kernel
theorem dX10_missingProofs_18 : decode cX10_missingProofs 18 = .ok (.istore_n 2, 1) := by decide +kernel
theorem dX10_missingProofs_19 : decode cX10_missingProofs 19 = .ok (.iconst (-1), 1) := by decide +kernel
theorem dX10_missingProofs_20 : decode cX10_missingProofs 20 = .ok (.istore_n 3, 1) := by decide +kernel
theorem dX10_missingProofs_21 : decode cX10_missingProofs 21 = .ok (.iconst 0, 1) := by decide +kernel
theorem dX10_missingProofs_22 : decode cX10_missingProofs 22 = .ok (.istore 4, 2) := by decide +kernel
theorem dX10_missingProofs_24 : decode cX10_missingProofs 24 = .ok (.iload 4, 2) := by decide +kernel
theorem dX10_missingProofs_26 : decode cX10_missingProofs 26 = .ok (.iconst 1, 1) := by decide +kernel
theorem dX10_missingProofs_27 : decode cX10_missingProofs 27 = .ok (.aload_n 0, 1) := by decide +kernel
theorem dX10_missingProofs_28 : decode cX10_missingProofs 28 = .ok (.getfield 7, 3) := by decide +kernel
theorem dX10_missingProofs_31 : decode cX10_missingProofs 31 = .ok (.bipush 14, 2) := by decide +kernel
theorem dX10_missingProofs_33 : decode cX10_missingProofs 33 = .ok (.iaload, 1) := by decide +kernel
theorem dX10_missingProofs_34 : decode cX10_missingProofs 34 = .ok (.ishl, 1) := by decide +kernel
theorem dX10_missingProofs_35 : decode cX10_missingProofs 35 = .ok (.if_icmp .ge 91, 3) := by decide +kernel
theorem dX10_missingProofs_38 : decode cX10_missingProofs 38 = .ok (.iload 4, 2) := by decide +kernel
theorem dX10_missingProofs_40 : decode cX10_missingProofs 40 = .ok (.aload_n 0, 1) := by decide +kernel
theorem dX10_missingProofs_41 : decode cX10_missingProofs 41 = .ok (.getfield 7, 3) := by decide +kernel
theorem dX10_missingProofs_44 : decode cX10_missingProofs 44 = .ok (.bipush 12, 2) := by decide +kernel
theorem dX10_missingProofs_46 : decode cX10_missingProofs 46 = .ok (.iaload, 1) := by decide +kernel
theorem dX10_missingProofs_47 : decode cX10_missingProofs 47 = .ok (.iand, 1) := by decide +kernel
theorem dX10_missingProofs_48 : decode cX10_missingProofs 48 = .ok (.ifCond .ne 7, 3) := by decide +kernel
theorem dX10_missingProofs_51 : decode cX10_missingProofs 51 = .ok (.iconst 1, 1) := by decide +kernel
theorem dX10_missingProofs_52 : decode cX10_missingProofs 52 = .ok (.goto 4, 3) := by decide +kernel
theorem dX10_missingProofs_55 : decode cX10_missingProofs 55 = .ok (.iconst 0, 1) := by decide +kernel
theorem dX10_missingProofs_56 : decode cX10_missingProofs 56 = .ok (.istore 5, 2) := by decide +kernel
theorem dX10_missingProofs_58 : decode cX10_missingProofs 58 = .ok (.iload_n 3, 1) := by decide +kernel
theorem dX10_missingProofs_59 : decode cX10_missingProofs 59 = .ok (.iconst (-1), 1) := by decide +kernel
theorem dX10_missingProofs_60 : decode cX10_missingProofs 60 = .ok (.if_icmp .eq 15, 3) := by decide +kernel
theorem dX10_missingProofs_63 : decode cX10_missingProofs 63 = .ok (.iload 4, 2) := by decide +kernel
theorem dX10_missingProofs_65 : decode cX10_missingProofs 65 = .ok (.invokestatic 340, 3) := by decide +kernel
theorem dX10_missingProofs_68 : decode cX10_missingProofs 68 = .ok (.iload_n 3, 1) := by decide +kernel
theorem dX10_missingProofs_69 : decode cX10_missingProofs 69 = .ok (.invokestatic 340, 3) := by decide +kernel
theorem dX10_missingProofs_72 : decode cX10_missingProofs 72 = .ok (.if_icmp .ge 7, 3) := by decide +kernel
theorem dX10_missingProofs_75 : decode cX10_missingProofs 75 = .ok (.iconst 1, 1) := by decide +kernel
theorem dX10_missingProofs_76 : decode cX10_missingProofs 76 = .ok (.goto 4, 3) := by decide +kernel
theorem dX10_missingProofs_79 : decode cX10_missingProofs 79 = .ok (.iconst 0, 1) := by decide +kernel
theorem dX10_missingProofs_80 : decode cX10_missingProofs 80 = .ok (.istore 6, 2) := by decide +kernel
theorem dX10_missingProofs_82 : decode cX10_missingProofs 82 = .ok (.iload 5, 2) := by decide +kernel
theorem dX10_missingProofs_84 : decode cX10_missingProofs 84 = .ok (.ifCond .eq 36, 3) := by decide +kernel
theorem dX10_missingProofs_87 : decode cX10_missingProofs 87 = .ok (.iload 6, 2) := by decide +kernel
theorem dX10_missingProofs_89 : decode cX10_missingProofs 89 = .ok (.ifCond .eq 31, 3) := by decide +kernel
theorem dX10_missingProofs_92 : decode cX10_missingProofs 92 = .ok (.aload_n 0, 1) := by decide +kernel
theorem dX10_missingProofs_93 : decode cX10_missingProofs 93 = .ok (.iload_n 1, 1) := by decide +kernel
theorem dX10_missingProofs_94 : decode cX10_missingProofs 94 = .ok (.aload_n 0, 1) := by decide +kernel
theorem dX10_missingProofs_95 : decode cX10_missingProofs 95 = .ok (.getfield 7, 3) := by decide +kernel
theorem dX10_missingProofs_98 : decode cX10_missingProofs 98 = .ok (.iconst 4, 1) := by decide +kernel
theorem dX10_missingProofs_99 : decode cX10_missingProofs 99 = .ok (.iaload, 1) := by decide +kernel
theorem dX10_missingProofs_100 : decode cX10_missingProofs 100 = .ok (.aload_n 0, 1) := by decide +kernel
theorem dX10_missingProofs_101 : decode cX10_missingProofs 101 = .ok (.getfield 7, 3) := by decide +kernel
theorem dX10_missingProofs_104 : decode cX10_missingProofs 104 = .ok (.bipush 12, 2) := by decide +kernel
theorem dX10_missingProofs_106 : decode cX10_missingProofs 106 = .ok (.iaload, 1) := by decide +kernel
theorem dX10_missingProofs_107 : decode cX10_missingProofs 107 = .ok (.iload 4, 2) := by decide +kernel
theorem dX10_missingProofs_109 : decode cX10_missingProofs 109 = .ok (.ior, 1) := by decide +kernel
theorem dX10_missingProofs_110 : decode cX10_missingProofs 110 = .ok (.iload_n 2, 1) := by decide +kernel
theorem dX10_missingProofs_111 : decode cX10_missingProofs 111 = .ok (.invokevirtual 288, 3) := by decide +kernel
theorem dX10_missingProofs_114 : decode cX10_missingProofs 114 = .ok (.ifCond .eq 6, 3) := by decide +kernel
theorem dX10_missingProofs_117 : decode cX10_missingProofs 117 = .ok (.iload 4, 2) := by decide +kernel
theorem dX10_missingProofs_119 : decode cX10_missingProofs 119 = .ok (.istore_n 3, 1) := by decide +kernel
theorem dX10_missingProofs_120 : decode cX10_missingProofs 120 = .ok (.iinc 4 1, 3) := by decide +kernel
theorem dX10_missingProofs_123 : decode cX10_missingProofs 123 = .ok (.goto (-99), 3) := by decide +kernel
theorem dX10_missingProofs_126 : decode cX10_missingProofs 126 = .ok (.iload_n 3, 1) := by decide +kernel
theorem dX10_missingProofs_127 : decode cX10_missingProofs 127 = .ok (.ireturn, 1) := by decide +kernel
theorem dX10_nextDue_0 : decode cX10_nextDue 0 = .ok (.aload_n 0, 1) := by decide +kernel
theorem dX10_nextDue_1 : decode cX10_nextDue 1 = .ok (.iconst 0, 1) := by decide +kernel
theorem dX10_nextDue_2 : decode cX10_nextDue 2 = .ok (.putfield 80, 3) := by decide +kernel
theorem dX10_nextDue_5 : decode cX10_nextDue 5 = .ok (.aload_n 0, 1) := by decide +kernel
theorem dX10_nextDue_6 : decode cX10_nextDue 6 = .ok (.iconst 0, 1) := by decide +kernel
theorem dX10_nextDue_7 : decode cX10_nextDue 7 = .ok (.invokevirtual 295, 3) := by decide +kernel
theorem dX10_nextDue_10 : decode cX10_nextDue 10 = .ok (.ireturn, 1) := by decide +kernel
theorem dX10_paid_0 : decode cX10_paid 0 = .ok (.aload_n 0, 1) := by decide +kernel
theorem dX10_paid_1 : decode cX10_paid 1 = .ok (.aload_n 0, 1) := by decide +kernel
theorem dX10_paid_2 : decode cX10_paid 2 = .ok (.iload_n 1, 1) := by decide +kernel
theorem dX10_paid_3 : decode cX10_paid 3 = .ok (.invokevirtual 330, 3) := by decide +kernel
theorem dX10_paid_6 : decode cX10_paid 6 = .ok (.invokevirtual 333, 3) := by decide +kernel
theorem dX10_paid_9 : decode cX10_paid 9 = .ok (.ifCond .eq 12, 3) := by decide +kernel
theorem dX10_paid_12 : decode cX10_paid 12 = .ok (.aload_n 0, 1) := by decide +kernel
theorem dX10_paid_13 : decode cX10_paid 13 = .ok (.iload_n 1, 1) := by decide +kernel
theorem dX10_paid_14 : decode cX10_paid 14 = .ok (.iconst 1, 1) := by decide +kernel
theorem dX10_paid_15 : decode cX10_paid 15 = .ok (.invokevirtual 261, 3) := by decide +kernel
theorem dX10_paid_18 : decode cX10_paid 18 = .ok (.goto 4, 3) := by decide +kernel
theorem dX10_paid_21 : decode cX10_paid 21 = .ok (.iconst 0, 1) := by decide +kernel
theorem dX10_paid_22 : decode cX10_paid 22 = .ok (.ireturn, 1) := by decide +kernel
theorem dX10_paidAfter_0 : decode cX10_paidAfter 0 = .ok (.aload_n 0, 1) := by decide +kernel
theorem dX10_paidAfter_1 : decode cX10_paidAfter 1 = .ok (.aload_n 0, 1) := by decide +kernel
theorem dX10_paidAfter_2 : decode cX10_paidAfter 2 = .ok (.iload_n 1, 1) := by decide +kernel
theorem dX10_paidAfter_3 : decode cX10_paidAfter 3 = .ok (.invokevirtual 330, 3) := by decide +kernel
theorem dX10_paidAfter_6 : decode cX10_paidAfter 6 = .ok (.iload_n 2, 1) := by decide +kernel
theorem dX10_paidAfter_7 : decode cX10_paidAfter 7 = .ok (.invokestatic 363, 3) := by decide +kernel
theorem dX10_paidAfter_10 : decode cX10_paidAfter 10 = .ok (.invokevirtual 358, 3) := by decide +kernel
theorem dX10_paidAfter_13 : decode cX10_paidAfter 13 = .ok (.ifCond .ne 5, 3) := by decide +kernel
theorem dX10_paidAfter_16 : decode cX10_paidAfter 16 = .ok (.iconst 0, 1) := by decide +kernel
theorem dX10_paidAfter_17 : decode cX10_paidAfter 17 = .ok (.ireturn, 1) := by decide +kernel
theorem dX10_paidAfter_18 : decode cX10_paidAfter 18 = .ok (.aload_n 0, 1) := by decide +kernel
theorem dX10_paidAfter_19 : decode cX10_paidAfter 19 = .ok (.invokevirtual 366, 3) := by decide +kernel
theorem dX10_paidAfter_22 : decode cX10_paidAfter 22 = .ok (.aload_n 0, 1) := by decide +kernel
theorem dX10_paidAfter_23 : decode cX10_paidAfter 23 = .ok (.iload_n 2, 1) := by decide +kernel
theorem dX10_paidAfter_24 : decode cX10_paidAfter 24 = .ok (.invokevirtual 369, 3) := by decide +kernel
theorem dX10_paidAfter_27 : decode cX10_paidAfter 27 = .ok (.aload_n 0, 1) := by decide +kernel
theorem dX10_paidAfter_28 : decode cX10_paidAfter 28 = .ok (.iload_n 1, 1) := by decide +kernel
theorem dX10_paidAfter_29 : decode cX10_paidAfter 29 = .ok (.iconst 1, 1) := by decide +kernel
theorem dX10_paidAfter_30 : decode cX10_paidAfter 30 = .ok (.invokevirtual 261, 3) := by decide +kernel
theorem dX10_paidAfter_33 : decode cX10_paidAfter 33 = .ok (.istore_n 3, 1) := by decide +kernel
theorem dX10_paidAfter_34 : decode cX10_paidAfter 34 = .ok (.aload_n 0, 1) := by decide +kernel
theorem dX10_paidAfter_35 : decode cX10_paidAfter 35 = .ok (.invokevirtual 372, 3) := by decide +kernel
theorem dX10_paidAfter_38 : decode cX10_paidAfter 38 = .ok (.iload_n 3, 1) := by decide +kernel
theorem dX10_paidAfter_39 : decode cX10_paidAfter 39 = .ok (.ireturn, 1) := by decide +kernel
theorem dX10_pay_0 : decode cX10_pay 0 = .ok (.aload_n 0, 1) := by decide +kernel
theorem dX10_pay_1 : decode cX10_pay 1 = .ok (.iload_n 1, 1) := by decide +kernel
theorem dX10_pay_2 : decode cX10_pay 2 = .ok (.invokevirtual 330, 3) := by decide +kernel
theorem dX10_pay_5 : decode cX10_pay 5 = .ok (.istore_n 3, 1) := by decide +kernel
theorem dX10_pay_6 : decode cX10_pay 6 = .ok (.aload_n 0, 1) := by decide +kernel
theorem dX10_pay_7 : decode cX10_pay 7 = .ok (.iload_n 3, 1) := by decide +kernel
theorem dX10_pay_8 : decode cX10_pay 8 = .ok (.iload_n 3, 1) := by decide +kernel
theorem dX10_pay_9 : decode cX10_pay 9 = .ok (.ifCond .eq 22, 3) := by decide +kernel
theorem dX10_pay_12 : decode cX10_pay 12 = .ok (.iload_n 2, 1) := by decide +kernel
theorem dX10_pay_13 : decode cX10_pay 13 = .ok (.i2l, 1) := by decide +kernel
theorem dX10_pay_14 : decode cX10_pay 14 = .ok (.lconst 1, 1) := by decide +kernel
theorem dX10_pay_15 : decode cX10_pay 15 = .ok (.aload_n 0, 1) := by decide +kernel
theorem dX10_pay_16 : decode cX10_pay 16 = .ok (.iload_n 1, 1) := by decide +kernel
theorem dX10_pay_17 : decode cX10_pay 17 = .ok (.invokevirtual 277, 3) := by decide +kernel
theorem dX10_pay_20 : decode cX10_pay 20 = .ok (.i2l, 1) := by decide +kernel
theorem dX10_pay_21 : decode cX10_pay 21 = .ok (.invokestatic 152, 3) := by decide +kernel
theorem dX10_pay_24 : decode cX10_pay 24 = .ok (.ifCond .eq 7, 3) := by decide +kernel
theorem dX10_pay_27 : decode cX10_pay 27 = .ok (.iconst 1, 1) := by decide +kernel
theorem dX10_pay_28 : decode cX10_pay 28 = .ok (.goto 4, 3) := by decide +kernel
theorem dX10_pay_31 : decode cX10_pay 31 = .ok (.iconst 0, 1) := by decide +kernel
theorem dX10_pay_32 : decode cX10_pay 32 = .ok (.invokevirtual 358, 3) := by decide +kernel
theorem dX10_pay_35 : decode cX10_pay 35 = .ok (.ifCond .ne 5, 3) := by decide +kernel
theorem dX10_pay_38 : decode cX10_pay 38 = .ok (.iconst 0, 1) := by decide +kernel
theorem dX10_pay_39 : decode cX10_pay 39 = .ok (.ireturn, 1) := by decide +kernel
theorem dX10_pay_40 : decode cX10_pay 40 = .ok (.aload_n 0, 1) := by decide +kernel
theorem dX10_pay_41 : decode cX10_pay 41 = .ok (.iload_n 1, 1) := by decide +kernel
theorem dX10_pay_42 : decode cX10_pay 42 = .ok (.invokevirtual 398, 3) := by decide +kernel
theorem dX10_pay_45 : decode cX10_pay 45 = .ok (.ifCond .eq 11, 3) := by decide +kernel
theorem dX10_pay_48 : decode cX10_pay 48 = .ok (.iload_n 2, 1) := by decide +kernel
theorem dX10_pay_49 : decode cX10_pay 49 = .ok (.aload_n 0, 1) := by decide +kernel
theorem dX10_pay_50 : decode cX10_pay 50 = .ok (.invokevirtual 298, 3) := by decide +kernel
theorem dX10_pay_53 : decode cX10_pay 53 = .ok (.if_icmp .le 10, 3) := by decide +kernel
theorem dX10_pay_56 : decode cX10_pay 56 = .ok (.aload_n 0, 1) := by decide +kernel
theorem dX10_pay_57 : decode cX10_pay 57 = .ok (.iconst 3, 1) := by decide +kernel
theorem dX10_pay_58 : decode cX10_pay 58 = .ok (.putfield 80, 3) := by decide +kernel
theorem dX10_pay_61 : decode cX10_pay 61 = .ok (.iconst 0, 1) := by decide +kernel
theorem dX10_pay_62 : decode cX10_pay 62 = .ok (.ireturn, 1) := by decide +kernel
theorem dX10_pay_63 : decode cX10_pay 63 = .ok (.aload_n 0, 1) := by decide +kernel
theorem dX10_pay_64 : decode cX10_pay 64 = .ok (.invokevirtual 395, 3) := by decide +kernel
theorem dX10_pay_67 : decode cX10_pay 67 = .ok (.aload_n 0, 1) := by decide +kernel
theorem dX10_pay_68 : decode cX10_pay 68 = .ok (.iload_n 1, 1) := by decide +kernel
theorem dX10_pay_69 : decode cX10_pay 69 = .ok (.iload_n 2, 1) := by decide +kernel
theorem dX10_pay_70 : decode cX10_pay 70 = .ok (.invokevirtual 309, 3) := by decide +kernel
theorem dX10_pay_73 : decode cX10_pay 73 = .ok (.istore 4, 2) := by decide +kernel
theorem dX10_pay_75 : decode cX10_pay 75 = .ok (.aload_n 0, 1) := by decide +kernel
theorem dX10_pay_76 : decode cX10_pay 76 = .ok (.iload_n 1, 1) := by decide +kernel
theorem dX10_pay_77 : decode cX10_pay 77 = .ok (.invokevirtual 312, 3) := by decide +kernel
theorem dX10_pay_80 : decode cX10_pay 80 = .ok (.iload 4, 2) := by decide +kernel
theorem dX10_pay_82 : decode cX10_pay 82 = .ok (.ireturn, 1) := by decide +kernel
theorem dX10_payDue_0 : decode cX10_payDue 0 = .ok (.iconst 0, 1) := by decide +kernel
theorem dX10_payDue_1 : decode cX10_payDue 1 = .ok (.istore_n 1, 1) := by decide +kernel
theorem dX10_payDue_2 : decode cX10_payDue 2 = .ok (.aload_n 0, 1) := by decide +kernel
theorem dX10_payDue_3 : decode cX10_payDue 3 = .ok (.iconst 0, 1) := by decide +kernel
theorem dX10_payDue_4 : decode cX10_payDue 4 = .ok (.invokevirtual 295, 3) := by decide +kernel
theorem dX10_payDue_7 : decode cX10_payDue 7 = .ok (.istore_n 2, 1) := by decide +kernel
theorem dX10_payDue_8 : decode cX10_payDue 8 = .ok (.iload_n 2, 1) := by decide +kernel
theorem dX10_payDue_9 : decode cX10_payDue 9 = .ok (.iconst (-1), 1) := by decide +kernel
theorem dX10_payDue_10 : decode cX10_payDue 10 = .ok (.if_icmp .eq 22, 3) := by decide +kernel
theorem dX10_payDue_13 : decode cX10_payDue 13 = .ok (.aload_n 0, 1) := by decide +kernel
theorem dX10_payDue_14 : decode cX10_payDue 14 = .ok (.getfield 64, 3) := by decide +kernel
theorem dX10_payDue_17 : decode cX10_payDue 17 = .ok (.iload_n 1, 1) := by decide +kernel
theorem dX10_payDue_18 : decode cX10_payDue 18 = .ok (.iload_n 2, 1) := by decide +kernel
theorem dX10_payDue_19 : decode cX10_payDue 19 = .ok (.iastore, 1) := by decide +kernel
theorem dX10_payDue_20 : decode cX10_payDue 20 = .ok (.iinc 1 1, 3) := by decide +kernel
theorem dX10_payDue_23 : decode cX10_payDue 23 = .ok (.aload_n 0, 1) := by decide +kernel
theorem dX10_payDue_24 : decode cX10_payDue 24 = .ok (.iload_n 1, 1) := by decide +kernel
theorem dX10_payDue_25 : decode cX10_payDue 25 = .ok (.invokevirtual 295, 3) := by decide +kernel
theorem dX10_payDue_28 : decode cX10_payDue 28 = .ok (.istore_n 2, 1) := by decide +kernel
theorem dX10_payDue_29 : decode cX10_payDue 29 = .ok (.goto (-21), 3) := by decide +kernel
theorem dX10_payDue_32 : decode cX10_payDue 32 = .ok (.iconst 0, 1) := by decide +kernel
theorem dX10_payDue_33 : decode cX10_payDue 33 = .ok (.istore_n 2, 1) := by decide +kernel
theorem dX10_payDue_34 : decode cX10_payDue 34 = .ok (.iload_n 2, 1) := by decide +kernel
theorem dX10_payDue_35 : decode cX10_payDue 35 = .ok (.iload_n 1, 1) := by decide +kernel
theorem dX10_payDue_36 : decode cX10_payDue 36 = .ok (.if_icmp .ge 56, 3) := by decide +kernel
theorem dX10_payDue_39 : decode cX10_payDue 39 = .ok (.aload_n 0, 1) := by decide +kernel
theorem dX10_payDue_40 : decode cX10_payDue 40 = .ok (.getfield 64, 3) := by decide +kernel
theorem dX10_payDue_43 : decode cX10_payDue 43 = .ok (.iload_n 2, 1) := by decide +kernel
theorem dX10_payDue_44 : decode cX10_payDue 44 = .ok (.iaload, 1) := by decide +kernel
theorem dX10_payDue_45 : decode cX10_payDue 45 = .ok (.istore_n 3, 1) := by decide +kernel
theorem dX10_payDue_46 : decode cX10_payDue 46 = .ok (.aload_n 0, 1) := by decide +kernel
theorem dX10_payDue_47 : decode cX10_payDue 47 = .ok (.iload_n 3, 1) := by decide +kernel
theorem dX10_payDue_48 : decode cX10_payDue 48 = .ok (.invokevirtual 277, 3) := by decide +kernel
theorem dX10_payDue_51 : decode cX10_payDue 51 = .ok (.aload_n 0, 1) := by decide +kernel
theorem dX10_payDue_52 : decode cX10_payDue 52 = .ok (.invokevirtual 298, 3) := by decide +kernel
theorem dX10_payDue_55 : decode cX10_payDue 55 = .ok (.invokestatic 301, 3) := by decide +kernel
theorem dX10_payDue_58 : decode cX10_payDue 58 = .ok (.istore 4, 2) := by decide +kernel
theorem dX10_payDue_60 : decode cX10_payDue 60 = .ok (.aload_n 0, 1) := by decide +kernel
theorem dX10_payDue_61 : decode cX10_payDue 61 = .ok (.iload_n 3, 1) := by decide +kernel
theorem dX10_payDue_62 : decode cX10_payDue 62 = .ok (.invokevirtual 306, 3) := by decide +kernel
theorem dX10_payDue_65 : decode cX10_payDue 65 = .ok (.ifCond .eq 21, 3) := by decide +kernel
theorem dX10_payDue_68 : decode cX10_payDue 68 = .ok (.iload 4, 2) := by decide +kernel
theorem dX10_payDue_70 : decode cX10_payDue 70 = .ok (.ifCond .le 16, 3) := by decide +kernel
theorem dX10_payDue_73 : decode cX10_payDue 73 = .ok (.aload_n 0, 1) := by decide +kernel
theorem dX10_payDue_74 : decode cX10_payDue 74 = .ok (.iload_n 3, 1) := by decide +kernel
theorem dX10_payDue_75 : decode cX10_payDue 75 = .ok (.iload 4, 2) := by decide +kernel
theorem dX10_payDue_77 : decode cX10_payDue 77 = .ok (.invokevirtual 309, 3) := by decide +kernel
theorem dX10_payDue_80 : decode cX10_payDue 80 = .ok (.pop, 1) := by decide +kernel
theorem dX10_payDue_81 : decode cX10_payDue 81 = .ok (.aload_n 0, 1) := by decide +kernel
theorem dX10_payDue_82 : decode cX10_payDue 82 = .ok (.iload_n 3, 1) := by decide +kernel
theorem dX10_payDue_83 : decode cX10_payDue 83 = .ok (.invokevirtual 312, 3) := by decide +kernel
theorem dX10_payDue_86 : decode cX10_payDue 86 = .ok (.iinc 2 1, 3) := by decide +kernel
theorem dX10_payDue_89 : decode cX10_payDue 89 = .ok (.goto (-55), 3) := by decide +kernel
theorem dX10_payDue_92 : decode cX10_payDue 92 = .ok (.return_, 1) := by decide +kernel
theorem dX10_payInterest_0 : decode cX10_payInterest 0 = .ok (.aload_n 0, 1) := by decide +kernel
theorem dX10_payInterest_1 : decode cX10_payInterest 1 = .ok (.iload_n 1, 1) := by decide +kernel
theorem dX10_payInterest_2 : decode cX10_payInterest 2 = .ok (.i2l, 1) := by decide +kernel
theorem dX10_payInterest_3 : decode cX10_payInterest 3 = .ok (.lconst 1, 1) := by decide +kernel
theorem dX10_payInterest_4 : decode cX10_payInterest 4 = .ok (.aload_n 0, 1) := by decide +kernel
theorem dX10_payInterest_5 : decode cX10_payInterest 5 = .ok (.getfield 7, 3) := by decide +kernel
theorem dX10_payInterest_8 : decode cX10_payInterest 8 = .ok (.bipush 7, 2) := by decide +kernel
theorem dX10_payInterest_10 : decode cX10_payInterest 10 = .ok (.iaload, 1) := by decide +kernel
theorem dX10_payInterest_11 : decode cX10_payInterest 11 = .ok (.i2l, 1) := by decide +kernel
theorem dX10_payInterest_12 : decode cX10_payInterest 12 = .ok (.invokestatic 152, 3) := by decide +kernel
theorem dX10_payInterest_15 : decode cX10_payInterest 15 = .ok (.invokevirtual 333, 3) := by decide +kernel
theorem dX10_payInterest_18 : decode cX10_payInterest 18 = .ok (.ifCond .ne 5, 3) := by decide +kernel
theorem dX10_payInterest_21 : decode cX10_payInterest 21 = .ok (.iconst 0, 1) := by decide +kernel
theorem dX10_payInterest_22 : decode cX10_payInterest 22 = .ok (.ireturn, 1) := by decide +kernel
theorem dX10_payInterest_23 : decode cX10_payInterest 23 = .ok (.aload_n 0, 1) := by decide +kernel
theorem dX10_payInterest_24 : decode cX10_payInterest 24 = .ok (.invokevirtual 395, 3) := by decide +kernel
theorem dX10_payInterest_27 : decode cX10_payInterest 27 = .ok (.aload_n 0, 1) := by decide +kernel
theorem dX10_payInterest_28 : decode cX10_payInterest 28 = .ok (.getfield 7, 3) := by decide +kernel
theorem dX10_payInterest_31 : decode cX10_payInterest 31 = .ok (.bipush 7, 2) := by decide +kernel
theorem dX10_payInterest_33 : decode cX10_payInterest 33 = .ok (.dup2, 1) := by decide +kernel
theorem dX10_payInterest_34 : decode cX10_payInterest 34 = .ok (.iaload, 1) := by decide +kernel
theorem dX10_payInterest_35 : decode cX10_payInterest 35 = .ok (.iload_n 1, 1) := by decide +kernel
theorem dX10_payInterest_36 : decode cX10_payInterest 36 = .ok (.isub, 1) := by decide +kernel
theorem dX10_payInterest_37 : decode cX10_payInterest 37 = .ok (.iastore, 1) := by decide +kernel
theorem dX10_payInterest_38 : decode cX10_payInterest 38 = .ok (.aload_n 0, 1) := by decide +kernel
theorem dX10_payInterest_39 : decode cX10_payInterest 39 = .ok (.getfield 7, 3) := by decide +kernel
theorem dX10_payInterest_42 : decode cX10_payInterest 42 = .ok (.iconst 4, 1) := by decide +kernel
theorem dX10_payInterest_43 : decode cX10_payInterest 43 = .ok (.iload_n 1, 1) := by decide +kernel
theorem dX10_payInterest_44 : decode cX10_payInterest 44 = .ok (.iconst (-1), 1) := by decide +kernel
theorem dX10_payInterest_45 : decode cX10_payInterest 45 = .ok (.invokestatic 229, 3) := by decide +kernel
theorem dX10_payInterest_48 : decode cX10_payInterest 48 = .ok (.aload_n 0, 1) := by decide +kernel
theorem dX10_payInterest_49 : decode cX10_payInterest 49 = .ok (.getfield 7, 3) := by decide +kernel
theorem dX10_payInterest_52 : decode cX10_payInterest 52 = .ok (.bipush 7, 2) := by decide +kernel
theorem dX10_payInterest_54 : decode cX10_payInterest 54 = .ok (.iaload, 1) := by decide +kernel
theorem dX10_payInterest_55 : decode cX10_payInterest 55 = .ok (.ireturn, 1) := by decide +kernel
theorem dX10_principal_0 : decode cX10_principal 0 = .ok (.aload_n 0, 1) := by decide +kernel
theorem dX10_principal_1 : decode cX10_principal 1 = .ok (.iconst 0, 1) := by decide +kernel
theorem dX10_principal_2 : decode cX10_principal 2 = .ok (.putfield 80, 3) := by decide +kernel
theorem dX10_principal_5 : decode cX10_principal 5 = .ok (.aload_n 0, 1) := by decide +kernel
theorem dX10_principal_6 : decode cX10_principal 6 = .ok (.getfield 7, 3) := by decide +kernel
theorem dX10_principal_9 : decode cX10_principal 9 = .ok (.bipush 6, 2) := by decide +kernel
theorem dX10_principal_11 : decode cX10_principal 11 = .ok (.iaload, 1) := by decide +kernel
theorem dX10_principal_12 : decode cX10_principal 12 = .ok (.ireturn, 1) := by decide +kernel
theorem dX10_progress_0 : decode cX10_progress 0 = .ok (.aload_n 0, 1) := by decide +kernel
theorem dX10_progress_1 : decode cX10_progress 1 = .ok (.iconst 0, 1) := by decide +kernel
theorem dX10_progress_2 : decode cX10_progress 2 = .ok (.putfield 80, 3) := by decide +kernel
theorem dX10_progress_5 : decode cX10_progress 5 = .ok (.lconst 0, 1) := by decide +kernel
theorem dX10_progress_6 : decode cX10_progress 6 = .ok (.lstore_n 1, 1) := by decide +kernel
theorem dX10_progress_7 : decode cX10_progress 7 = .ok (.lconst 0, 1) := by decide +kernel
theorem dX10_progress_8 : decode cX10_progress 8 = .ok (.lstore_n 3, 1) := by decide +kernel
theorem dX10_progress_9 : decode cX10_progress 9 = .ok (.iconst 0, 1) := by decide +kernel
theorem dX10_progress_10 : decode cX10_progress 10 = .ok (.istore 5, 2) := by decide +kernel
theorem dX10_progress_12 : decode cX10_progress 12 = .ok (.iload 5, 2) := by decide +kernel
theorem dX10_progress_14 : decode cX10_progress 14 = .ok (.aload_n 0, 1) := by decide +kernel
theorem dX10_progress_15 : decode cX10_progress 15 = .ok (.getfield 7, 3) := by decide +kernel
theorem dX10_progress_18 : decode cX10_progress 18 = .ok (.bipush 13, 2) := by decide +kernel
theorem dX10_progress_20 : decode cX10_progress 20 = .ok (.iaload, 1) := by decide +kernel
theorem dX10_progress_21 : decode cX10_progress 21 = .ok (.if_icmp .ge 31, 3) := by decide +kernel
theorem dX10_progress_24 : decode cX10_progress 24 = .ok (.lload_n 1, 1) := by decide +kernel
theorem dX10_progress_25 : decode cX10_progress 25 = .ok (.aload_n 0, 1) := by decide +kernel
theorem dX10_progress_26 : decode cX10_progress 26 = .ok (.iload 5, 2) := by decide +kernel
theorem dX10_progress_28 : decode cX10_progress 28 = .ok (.iconst 1, 1) := by decide +kernel
theorem dX10_progress_29 : decode cX10_progress 29 = .ok (.invokevirtual 261, 3) := by decide +kernel
theorem dX10_progress_32 : decode cX10_progress 32 = .ok (.i2l, 1) := by decide +kernel
theorem dX10_progress_33 : decode cX10_progress 33 = .ok (.ladd, 1) := by decide +kernel
theorem dX10_progress_34 : decode cX10_progress 34 = .ok (.lstore_n 1, 1) := by decide +kernel
theorem dX10_progress_35 : decode cX10_progress 35 = .ok (.lload_n 3, 1) := by decide +kernel
theorem dX10_progress_36 : decode cX10_progress 36 = .ok (.aload_n 0, 1) := by decide +kernel
theorem dX10_progress_37 : decode cX10_progress 37 = .ok (.iload 5, 2) := by decide +kernel
theorem dX10_progress_39 : decode cX10_progress 39 = .ok (.iconst 0, 1) := by decide +kernel
theorem dX10_progress_40 : decode cX10_progress 40 = .ok (.invokevirtual 261, 3) := by decide +kernel
theorem dX10_progress_43 : decode cX10_progress 43 = .ok (.i2l, 1) := by decide +kernel
theorem dX10_progress_44 : decode cX10_progress 44 = .ok (.ladd, 1) := by decide +kernel
theorem dX10_progress_45 : decode cX10_progress 45 = .ok (.lstore_n 3, 1) := by decide +kernel
theorem dX10_progress_46 : decode cX10_progress 46 = .ok (.iinc 5 1, 3) := by decide +kernel
theorem dX10_progress_49 : decode cX10_progress 49 = .ok (.goto (-37), 3) := by decide +kernel
theorem dX10_progress_52 : decode cX10_progress 52 = .ok (.lload_n 3, 1) := by decide +kernel
theorem dX10_progress_53 : decode cX10_progress 53 = .ok (.lconst 0, 1) := by decide +kernel
theorem dX10_progress_54 : decode cX10_progress 54 = .ok (.lcmp, 1) := by decide +kernel
theorem dX10_progress_55 : decode cX10_progress 55 = .ok (.ifCond .ne 7, 3) := by decide +kernel
theorem dX10_progress_58 : decode cX10_progress 58 = .ok (.iconst 0, 1) := by decide +kernel
theorem dX10_progress_59 : decode cX10_progress 59 = .ok (.goto 11, 3) := by decide +kernel
theorem dX10_progress_62 : decode cX10_progress 62 = .ok (.lload_n 1, 1) := by decide +kernel
theorem dX10_progress_63 : decode cX10_progress 63 = .ok (.ldc2_w 343, 3) := by decide +kernel
theorem dX10_progress_66 : decode cX10_progress 66 = .ok (.lmul, 1) := by decide +kernel
theorem dX10_progress_67 : decode cX10_progress 67 = .ok (.lload_n 3, 1) := by decide +kernel
theorem dX10_progress_68 : decode cX10_progress 68 = .ok (.ldiv, 1) := by decide +kernel
theorem dX10_progress_69 : decode cX10_progress 69 = .ok (.l2i, 1) := by decide +kernel
theorem dX10_progress_70 : decode cX10_progress 70 = .ok (.ireturn, 1) := by decide +kernel
theorem dX10_proofCharacter_0 : decode cX10_proofCharacter 0 = .ok (.aload_n 0, 1) := by decide +kernel
theorem dX10_proofCharacter_1 : decode cX10_proofCharacter 1 = .ok (.aload_n 0, 1) := by decide +kernel
theorem dX10_proofCharacter_2 : decode cX10_proofCharacter 2 = .ok (.iload_n 1, 1) := by decide +kernel
theorem dX10_proofCharacter_3 : decode cX10_proofCharacter 3 = .ok (.invokevirtual 348, 3) := by decide +kernel
theorem dX10_proofCharacter_6 : decode cX10_proofCharacter 6 = .ok (.ifCond .eq 28, 3) := by decide +kernel
theorem dX10_proofCharacter_9 : decode cX10_proofCharacter 9 = .ok (.iload_n 2, 1) := by decide +kernel
theorem dX10_proofCharacter_10 : decode cX10_proofCharacter 10 = .ok (.i2l, 1) := by decide +kernel
theorem dX10_proofCharacter_11 : decode cX10_proofCharacter 11 = .ok (.lconst 0, 1) := by decide +kernel
theorem dX10_proofCharacter_12 : decode cX10_proofCharacter 12 = .ok (.aload_n 0, 1) := by decide +kernel
theorem dX10_proofCharacter_13 : decode cX10_proofCharacter 13 = .ok (.getfield 42, 3) := by decide +kernel
theorem dX10_proofCharacter_16 : decode cX10_proofCharacter 16 = .ok (.iload_n 1, 1) := by decide +kernel
theorem dX10_proofCharacter_17 : decode cX10_proofCharacter 17 = .ok (.laload, 1) := by decide +kernel
theorem dX10_proofCharacter_18 : decode cX10_proofCharacter 18 = .ok (.invokestatic 351, 3) := by decide +kernel
theorem dX10_proofCharacter_21 : decode cX10_proofCharacter 21 = .ok (.iconst 1, 1) := by decide +kernel
theorem dX10_proofCharacter_22 : decode cX10_proofCharacter 22 = .ok (.isub, 1) := by decide +kernel
theorem dX10_proofCharacter_23 : decode cX10_proofCharacter 23 = .ok (.i2l, 1) := by decide +kernel
theorem dX10_proofCharacter_24 : decode cX10_proofCharacter 24 = .ok (.invokestatic 152, 3) := by decide +kernel
theorem dX10_proofCharacter_27 : decode cX10_proofCharacter 27 = .ok (.ifCond .eq 7, 3) := by decide +kernel
theorem dX10_proofCharacter_30 : decode cX10_proofCharacter 30 = .ok (.iconst 0, 1) := by decide +kernel
theorem dX10_proofCharacter_31 : decode cX10_proofCharacter 31 = .ok (.goto 4, 3) := by decide +kernel
theorem dX10_proofCharacter_34 : decode cX10_proofCharacter 34 = .ok (.iconst 1, 1) := by decide +kernel
theorem dX10_proofCharacter_35 : decode cX10_proofCharacter 35 = .ok (.putfield 80, 3) := by decide +kernel
theorem dX10_proofCharacter_38 : decode cX10_proofCharacter 38 = .ok (.aload_n 0, 1) := by decide +kernel
theorem dX10_proofCharacter_39 : decode cX10_proofCharacter 39 = .ok (.getfield 80, 3) := by decide +kernel
theorem dX10_proofCharacter_42 : decode cX10_proofCharacter 42 = .ok (.ifCond .ne 17, 3) := by decide +kernel
theorem dX10_proofCharacter_45 : decode cX10_proofCharacter 45 = .ok (.aload_n 0, 1) := by decide +kernel
theorem dX10_proofCharacter_46 : decode cX10_proofCharacter 46 = .ok (.getfield 42, 3) := by decide +kernel
theorem dX10_proofCharacter_49 : decode cX10_proofCharacter 49 = .ok (.iload_n 1, 1) := by decide +kernel
theorem dX10_proofCharacter_50 : decode cX10_proofCharacter 50 = .ok (.laload, 1) := by decide +kernel
theorem dX10_proofCharacter_51 : decode cX10_proofCharacter 51 = .ok (.iload_n 2, 1) := by decide +kernel
theorem dX10_proofCharacter_52 : decode cX10_proofCharacter 52 = .ok (.invokestatic 354, 3) := by decide +kernel
theorem dX10_proofCharacter_55 : decode cX10_proofCharacter 55 = .ok (.i2c, 1) := by decide +kernel
theorem dX10_proofCharacter_56 : decode cX10_proofCharacter 56 = .ok (.goto 4, 3) := by decide +kernel
theorem dX10_proofCharacter_59 : decode cX10_proofCharacter 59 = .ok (.iconst 0, 1) := by decide +kernel
theorem dX10_proofCharacter_60 : decode cX10_proofCharacter 60 = .ok (.ireturn, 1) := by decide +kernel
theorem dX10_proofs_0 : decode cX10_proofs 0 = .ok (.aload_n 0, 1) := by decide +kernel
theorem dX10_proofs_1 : decode cX10_proofs 1 = .ok (.iconst 0, 1) := by decide +kernel
theorem dX10_proofs_2 : decode cX10_proofs 2 = .ok (.putfield 80, 3) := by decide +kernel
theorem dX10_proofs_5 : decode cX10_proofs 5 = .ok (.aload_n 0, 1) := by decide +kernel
theorem dX10_proofs_6 : decode cX10_proofs 6 = .ok (.getfield 7, 3) := by decide +kernel
theorem dX10_proofs_9 : decode cX10_proofs 9 = .ok (.bipush 14, 2) := by decide +kernel
theorem dX10_proofs_11 : decode cX10_proofs 11 = .ok (.iaload, 1) := by decide +kernel
theorem dX10_proofs_12 : decode cX10_proofs 12 = .ok (.ireturn, 1) := by decide +kernel
theorem dX10_received_0 : decode cX10_received 0 = .ok (.aload_n 0, 1) := by decide +kernel
theorem dX10_received_1 : decode cX10_received 1 = .ok (.iconst 0, 1) := by decide +kernel
theorem dX10_received_2 : decode cX10_received 2 = .ok (.putfield 80, 3) := by decide +kernel
theorem dX10_received_5 : decode cX10_received 5 = .ok (.aload_n 0, 1) := by decide +kernel
theorem dX10_received_6 : decode cX10_received 6 = .ok (.getfield 7, 3) := by decide +kernel
theorem dX10_received_9 : decode cX10_received 9 = .ok (.bipush 10, 2) := by decide +kernel
theorem dX10_received_11 : decode cX10_received 11 = .ok (.iaload, 1) := by decide +kernel
theorem dX10_received_12 : decode cX10_received 12 = .ok (.aload_n 0, 1) := by decide +kernel
theorem dX10_received_13 : decode cX10_received 13 = .ok (.getfield 7, 3) := by decide +kernel
theorem dX10_received_16 : decode cX10_received 16 = .ok (.bipush 9, 2) := by decide +kernel
theorem dX10_received_18 : decode cX10_received 18 = .ok (.iaload, 1) := by decide +kernel
theorem dX10_received_19 : decode cX10_received 19 = .ok (.isub, 1) := by decide +kernel
theorem dX10_received_20 : decode cX10_received 20 = .ok (.ireturn, 1) := by decide +kernel
theorem dX10_refunded_0 : decode cX10_refunded 0 = .ok (.aload_n 0, 1) := by decide +kernel
theorem dX10_refunded_1 : decode cX10_refunded 1 = .ok (.iconst 0, 1) := by decide +kernel
theorem dX10_refunded_2 : decode cX10_refunded 2 = .ok (.putfield 80, 3) := by decide +kernel
theorem dX10_refunded_5 : decode cX10_refunded 5 = .ok (.aload_n 0, 1) := by decide +kernel
theorem dX10_refunded_6 : decode cX10_refunded 6 = .ok (.getfield 7, 3) := by decide +kernel
theorem dX10_refunded_9 : decode cX10_refunded 9 = .ok (.bipush 11, 2) := by decide +kernel
theorem dX10_refunded_11 : decode cX10_refunded 11 = .ok (.iaload, 1) := by decide +kernel
theorem dX10_refunded_12 : decode cX10_refunded 12 = .ok (.ireturn, 1) := by decide +kernel
theorem dX10_remaining_0 : decode cX10_remaining 0 = .ok (.aload_n 0, 1) := by decide +kernel
theorem dX10_remaining_1 : decode cX10_remaining 1 = .ok (.aload_n 0, 1) := by decide +kernel
theorem dX10_remaining_2 : decode cX10_remaining 2 = .ok (.iload_n 1, 1) := by decide +kernel
theorem dX10_remaining_3 : decode cX10_remaining 3 = .ok (.invokevirtual 330, 3) := by decide +kernel
theorem dX10_remaining_6 : decode cX10_remaining 6 = .ok (.invokevirtual 333, 3) := by decide +kernel
theorem dX10_remaining_9 : decode cX10_remaining 9 = .ok (.ifCond .eq 11, 3) := by decide +kernel
theorem dX10_remaining_12 : decode cX10_remaining 12 = .ok (.aload_n 0, 1) := by decide +kernel
theorem dX10_remaining_13 : decode cX10_remaining 13 = .ok (.iload_n 1, 1) := by decide +kernel
theorem dX10_remaining_14 : decode cX10_remaining 14 = .ok (.invokevirtual 277, 3) := by decide +kernel
theorem dX10_remaining_17 : decode cX10_remaining 17 = .ok (.goto 4, 3) := by decide +kernel
theorem dX10_remaining_20 : decode cX10_remaining 20 = .ok (.iconst 0, 1) := by decide +kernel
theorem dX10_remaining_21 : decode cX10_remaining 21 = .ok (.ireturn, 1) := by decide +kernel
theorem dX10_resolve_0 : decode cX10_resolve 0 = .ok (.aload_n 0, 1) := by decide +kernel
theorem dX10_resolve_1 : decode cX10_resolve 1 = .ok (.iload_n 1, 1) := by decide +kernel
theorem dX10_resolve_2 : decode cX10_resolve 2 = .ok (.iload_n 2, 1) := by decide +kernel
theorem dX10_resolve_3 : decode cX10_resolve 3 = .ok (.invokestatic 378, 3) := by decide +kernel
theorem dX10_resolve_6 : decode cX10_resolve 6 = .ok (.invokevirtual 381, 3) := by decide +kernel
theorem dX10_resolve_9 : decode cX10_resolve 9 = .ok (.ifCond .ne 5, 3) := by decide +kernel
theorem dX10_resolve_12 : decode cX10_resolve 12 = .ok (.iconst 0, 1) := by decide +kernel
theorem dX10_resolve_13 : decode cX10_resolve 13 = .ok (.ireturn, 1) := by decide +kernel
theorem dX10_resolve_14 : decode cX10_resolve 14 = .ok (.aload_n 0, 1) := by decide +kernel
theorem dX10_resolve_15 : decode cX10_resolve 15 = .ok (.invokevirtual 395, 3) := by decide +kernel
theorem dX10_resolve_18 : decode cX10_resolve 18 = .ok (.aload_n 0, 1) := by decide +kernel
theorem dX10_resolve_19 : decode cX10_resolve 19 = .ok (.iload_n 1, 1) := by decide +kernel
theorem dX10_resolve_20 : decode cX10_resolve 20 = .ok (.invokevirtual 375, 3) := by decide +kernel
theorem dX10_resolve_23 : decode cX10_resolve 23 = .ok (.istore_n 3, 1) := by decide +kernel
theorem dX10_resolve_24 : decode cX10_resolve 24 = .ok (.aload_n 0, 1) := by decide +kernel
theorem dX10_resolve_25 : decode cX10_resolve 25 = .ok (.iload_n 1, 1) := by decide +kernel
theorem dX10_resolve_26 : decode cX10_resolve 26 = .ok (.iload_n 2, 1) := by decide +kernel
theorem dX10_resolve_27 : decode cX10_resolve 27 = .ok (.invokevirtual 385, 3) := by decide +kernel
theorem dX10_resolve_30 : decode cX10_resolve 30 = .ok (.istore 4, 2) := by decide +kernel
theorem dX10_resolve_32 : decode cX10_resolve 32 = .ok (.aload_n 0, 1) := by decide +kernel
theorem dX10_resolve_33 : decode cX10_resolve 33 = .ok (.iload_n 1, 1) := by decide +kernel
theorem dX10_resolve_34 : decode cX10_resolve 34 = .ok (.iconst 3, 1) := by decide +kernel
theorem dX10_resolve_35 : decode cX10_resolve 35 = .ok (.iconst 0, 1) := by decide +kernel
theorem dX10_resolve_36 : decode cX10_resolve 36 = .ok (.invokevirtual 273, 3) := by decide +kernel
theorem dX10_resolve_39 : decode cX10_resolve 39 = .ok (.aload_n 0, 1) := by decide +kernel
theorem dX10_resolve_40 : decode cX10_resolve 40 = .ok (.iload_n 1, 1) := by decide +kernel
theorem dX10_resolve_41 : decode cX10_resolve 41 = .ok (.iload 4, 2) := by decide +kernel
theorem dX10_resolve_43 : decode cX10_resolve 43 = .ok (.invokevirtual 309, 3) := by decide +kernel
theorem dX10_resolve_46 : decode cX10_resolve 46 = .ok (.pop, 1) := by decide +kernel
theorem dX10_resolve_47 : decode cX10_resolve 47 = .ok (.aload_n 0, 1) := by decide +kernel
theorem dX10_resolve_48 : decode cX10_resolve 48 = .ok (.iload_n 3, 1) := by decide +kernel
theorem dX10_resolve_49 : decode cX10_resolve 49 = .ok (.iload 4, 2) := by decide +kernel
theorem dX10_resolve_51 : decode cX10_resolve 51 = .ok (.isub, 1) := by decide +kernel
theorem dX10_resolve_52 : decode cX10_resolve 52 = .ok (.iload_n 1, 1) := by decide +kernel
theorem dX10_resolve_53 : decode cX10_resolve 53 = .ok (.invokevirtual 401, 3) := by decide +kernel
theorem dX10_resolve_56 : decode cX10_resolve 56 = .ok (.aload_n 0, 1) := by decide +kernel
theorem dX10_resolve_57 : decode cX10_resolve 57 = .ok (.iload_n 1, 1) := by decide +kernel
theorem dX10_resolve_58 : decode cX10_resolve 58 = .ok (.iconst 2, 1) := by decide +kernel
theorem dX10_resolve_59 : decode cX10_resolve 59 = .ok (.iconst 4, 1) := by decide +kernel
theorem dX10_resolve_60 : decode cX10_resolve 60 = .ok (.invokevirtual 273, 3) := by decide +kernel
theorem dX10_resolve_63 : decode cX10_resolve 63 = .ok (.iload 4, 2) := by decide +kernel
theorem dX10_resolve_65 : decode cX10_resolve 65 = .ok (.ireturn, 1) := by decide +kernel
theorem dX10_shareFor_0 : decode cX10_shareFor 0 = .ok (.aload_n 0, 1) := by decide +kernel
theorem dX10_shareFor_1 : decode cX10_shareFor 1 = .ok (.iload_n 1, 1) := by decide +kernel
theorem dX10_shareFor_2 : decode cX10_shareFor 2 = .ok (.iload_n 2, 1) := by decide +kernel
theorem dX10_shareFor_3 : decode cX10_shareFor 3 = .ok (.i2l, 1) := by decide +kernel
theorem dX10_shareFor_4 : decode cX10_shareFor 4 = .ok (.lconst 0, 1) := by decide +kernel
theorem dX10_shareFor_5 : decode cX10_shareFor 5 = .ok (.ldc2_w 388, 3) := by decide +kernel
theorem dX10_shareFor_8 : decode cX10_shareFor 8 = .ok (.invokestatic 152, 3) := by decide +kernel
theorem dX10_shareFor_11 : decode cX10_shareFor 11 = .ok (.invokevirtual 381, 3) := by decide +kernel
theorem dX10_shareFor_14 : decode cX10_shareFor 14 = .ok (.ifCond .ne 5, 3) := by decide +kernel
theorem dX10_shareFor_17 : decode cX10_shareFor 17 = .ok (.iconst 0, 1) := by decide +kernel
theorem dX10_shareFor_18 : decode cX10_shareFor 18 = .ok (.ireturn, 1) := by decide +kernel
theorem dX10_shareFor_19 : decode cX10_shareFor 19 = .ok (.iconst 0, 1) := by decide +kernel
theorem dX10_shareFor_20 : decode cX10_shareFor 20 = .ok (.istore_n 3, 1) := by decide +kernel
theorem dX10_shareFor_21 : decode cX10_shareFor 21 = .ok (.iload_n 3, 1) := by decide +kernel
theorem dX10_shareFor_22 : decode cX10_shareFor 22 = .ok (.sipush 1000, 3) := by decide +kernel
theorem dX10_shareFor_25 : decode cX10_shareFor 25 = .ok (.if_icmp .gt 32, 3) := by decide +kernel
theorem dX10_shareFor_28 : decode cX10_shareFor 28 = .ok (.aload_n 0, 1) := by decide +kernel
theorem dX10_shareFor_29 : decode cX10_shareFor 29 = .ok (.iload_n 1, 1) := by decide +kernel
theorem dX10_shareFor_30 : decode cX10_shareFor 30 = .ok (.iload_n 3, 1) := by decide +kernel
theorem dX10_shareFor_31 : decode cX10_shareFor 31 = .ok (.invokevirtual 385, 3) := by decide +kernel
theorem dX10_shareFor_34 : decode cX10_shareFor 34 = .ok (.istore 4, 2) := by decide +kernel
theorem dX10_shareFor_36 : decode cX10_shareFor 36 = .ok (.iload 4, 2) := by decide +kernel
theorem dX10_shareFor_38 : decode cX10_shareFor 38 = .ok (.aload_n 0, 1) := by decide +kernel
theorem dX10_shareFor_39 : decode cX10_shareFor 39 = .ok (.iload 4, 2) := by decide +kernel
theorem dX10_shareFor_41 : decode cX10_shareFor 41 = .ok (.invokevirtual 270, 3) := by decide +kernel
theorem dX10_shareFor_44 : decode cX10_shareFor 44 = .ok (.isub, 1) := by decide +kernel
theorem dX10_shareFor_45 : decode cX10_shareFor 45 = .ok (.iload_n 2, 1) := by decide +kernel
theorem dX10_shareFor_46 : decode cX10_shareFor 46 = .ok (.if_icmp .lt 5, 3) := by decide +kernel
theorem dX10_shareFor_49 : decode cX10_shareFor 49 = .ok (.iload_n 3, 1) := by decide +kernel
theorem dX10_shareFor_50 : decode cX10_shareFor 50 = .ok (.ireturn, 1) := by decide +kernel
theorem dX10_shareFor_51 : decode cX10_shareFor 51 = .ok (.iinc 3 1, 3) := by decide +kernel
theorem dX10_shareFor_54 : decode cX10_shareFor 54 = .ok (.goto (-33), 3) := by decide +kernel
theorem dX10_shareFor_57 : decode cX10_shareFor 57 = .ok (.iconst (-1), 1) := by decide +kernel
theorem dX10_shareFor_58 : decode cX10_shareFor 58 = .ok (.ireturn, 1) := by decide +kernel
theorem dX10_shortage_0 : decode cX10_shortage 0 = .ok (.aload_n 0, 1) := by decide +kernel
theorem dX10_shortage_1 : decode cX10_shortage 1 = .ok (.iconst 0, 1) := by decide +kernel
theorem dX10_shortage_2 : decode cX10_shortage 2 = .ok (.putfield 80, 3) := by decide +kernel
theorem dX10_shortage_5 : decode cX10_shortage 5 = .ok (.aload_n 0, 1) := by decide +kernel
theorem dX10_shortage_6 : decode cX10_shortage 6 = .ok (.getfield 7, 3) := by decide +kernel
theorem dX10_shortage_9 : decode cX10_shortage 9 = .ok (.bipush 6, 2) := by decide +kernel
theorem dX10_shortage_11 : decode cX10_shortage 11 = .ok (.iaload, 1) := by decide +kernel
theorem dX10_shortage_12 : decode cX10_shortage 12 = .ok (.ineg, 1) := by decide +kernel
theorem dX10_shortage_13 : decode cX10_shortage 13 = .ok (.istore_n 1, 1) := by decide +kernel
theorem dX10_shortage_14 : decode cX10_shortage 14 = .ok (.iconst 0, 1) := by decide +kernel
theorem dX10_shortage_15 : decode cX10_shortage 15 = .ok (.istore_n 2, 1) := by decide +kernel
theorem dX10_shortage_16 : decode cX10_shortage 16 = .ok (.iload_n 2, 1) := by decide +kernel
theorem dX10_shortage_17 : decode cX10_shortage 17 = .ok (.aload_n 0, 1) := by decide +kernel
theorem dX10_shortage_18 : decode cX10_shortage 18 = .ok (.getfield 7, 3) := by decide +kernel
theorem dX10_shortage_21 : decode cX10_shortage 21 = .ok (.bipush 13, 2) := by decide +kernel
theorem dX10_shortage_23 : decode cX10_shortage 23 = .ok (.iaload, 1) := by decide +kernel
theorem dX10_shortage_24 : decode cX10_shortage 24 = .ok (.if_icmp .ge 17, 3) := by decide +kernel
theorem dX10_shortage_27 : decode cX10_shortage 27 = .ok (.iload_n 1, 1) := by decide +kernel
theorem dX10_shortage_28 : decode cX10_shortage 28 = .ok (.aload_n 0, 1) := by decide +kernel
theorem dX10_shortage_29 : decode cX10_shortage 29 = .ok (.iload_n 2, 1) := by decide +kernel
theorem dX10_shortage_30 : decode cX10_shortage 30 = .ok (.invokevirtual 277, 3) := by decide +kernel
theorem dX10_shortage_33 : decode cX10_shortage 33 = .ok (.iadd, 1) := by decide +kernel
theorem dX10_shortage_34 : decode cX10_shortage 34 = .ok (.istore_n 1, 1) := by decide +kernel
theorem dX10_shortage_35 : decode cX10_shortage 35 = .ok (.iinc 2 1, 3) := by decide +kernel
theorem dX10_shortage_38 : decode cX10_shortage 38 = .ok (.goto (-22), 3) := by decide +kernel
theorem dX10_shortage_41 : decode cX10_shortage 41 = .ok (.iconst 0, 1) := by decide +kernel
theorem dX10_shortage_42 : decode cX10_shortage 42 = .ok (.iload_n 1, 1) := by decide +kernel
theorem dX10_shortage_43 : decode cX10_shortage 43 = .ok (.invokestatic 345, 3) := by decide +kernel
theorem dX10_shortage_46 : decode cX10_shortage 46 = .ok (.ireturn, 1) := by decide +kernel
theorem dX10_splitPayment_0 : decode cX10_splitPayment 0 = .ok (.aload_n 0, 1) := by decide +kernel
theorem dX10_splitPayment_1 : decode cX10_splitPayment 1 = .ok (.iload_n 1, 1) := by decide +kernel
theorem dX10_splitPayment_2 : decode cX10_splitPayment 2 = .ok (.iload_n 2, 1) := by decide +kernel
theorem dX10_splitPayment_3 : decode cX10_splitPayment 3 = .ok (.invokestatic 378, 3) := by decide +kernel
theorem dX10_splitPayment_6 : decode cX10_splitPayment 6 = .ok (.invokevirtual 381, 3) := by decide +kernel
theorem dX10_splitPayment_9 : decode cX10_splitPayment 9 = .ok (.ifCond .eq 12, 3) := by decide +kernel
theorem dX10_splitPayment_12 : decode cX10_splitPayment 12 = .ok (.aload_n 0, 1) := by decide +kernel
theorem dX10_splitPayment_13 : decode cX10_splitPayment 13 = .ok (.iload_n 1, 1) := by decide +kernel
theorem dX10_splitPayment_14 : decode cX10_splitPayment 14 = .ok (.iload_n 2, 1) := by decide +kernel
theorem dX10_splitPayment_15 : decode cX10_splitPayment 15 = .ok (.invokevirtual 385, 3) := by decide +kernel
theorem dX10_splitPayment_18 : decode cX10_splitPayment 18 = .ok (.goto 4, 3) := by decide +kernel
theorem dX10_splitPayment_21 : decode cX10_splitPayment 21 = .ok (.iconst 0, 1) := by decide +kernel
theorem dX10_splitPayment_22 : decode cX10_splitPayment 22 = .ok (.ireturn, 1) := by decide +kernel
theorem dX10_state_0 : decode cX10_state 0 = .ok (.aload_n 0, 1) := by decide +kernel
theorem dX10_state_1 : decode cX10_state 1 = .ok (.aload_n 0, 1) := by decide +kernel
theorem dX10_state_2 : decode cX10_state 2 = .ok (.iload_n 1, 1) := by decide +kernel
theorem dX10_state_3 : decode cX10_state 3 = .ok (.invokevirtual 330, 3) := by decide +kernel
theorem dX10_state_6 : decode cX10_state 6 = .ok (.invokevirtual 333, 3) := by decide +kernel
theorem dX10_state_9 : decode cX10_state 9 = .ok (.ifCond .eq 12, 3) := by decide +kernel
theorem dX10_state_12 : decode cX10_state 12 = .ok (.aload_n 0, 1) := by decide +kernel
theorem dX10_state_13 : decode cX10_state 13 = .ok (.iload_n 1, 1) := by decide +kernel
theorem dX10_state_14 : decode cX10_state 14 = .ok (.iconst 2, 1) := by decide +kernel
theorem dX10_state_15 : decode cX10_state 15 = .ok (.invokevirtual 261, 3) := by decide +kernel
theorem dX10_state_18 : decode cX10_state 18 = .ok (.goto 4, 3) := by decide +kernel
theorem dX10_state_21 : decode cX10_state 21 = .ok (.iconst 0, 1) := by decide +kernel
theorem dX10_state_22 : decode cX10_state 22 = .ok (.ireturn, 1) := by decide +kernel
theorem dX10_submit_0 : decode cX10_submit 0 = .ok (.aload_n 0, 1) := by decide +kernel
theorem dX10_submit_1 : decode cX10_submit 1 = .ok (.aload_n 0, 1) := by decide +kernel
theorem dX10_submit_2 : decode cX10_submit 2 = .ok (.iload_n 1, 1) := by decide +kernel
theorem dX10_submit_3 : decode cX10_submit 3 = .ok (.invokevirtual 348, 3) := by decide +kernel
theorem dX10_submit_6 : decode cX10_submit 6 = .ok (.invokevirtual 333, 3) := by decide +kernel
theorem dX10_submit_9 : decode cX10_submit 9 = .ok (.ifCond .ne 5, 3) := by decide +kernel
theorem dX10_submit_12 : decode cX10_submit 12 = .ok (.iconst 0, 1) := by decide +kernel
theorem dX10_submit_13 : decode cX10_submit 13 = .ok (.ireturn, 1) := by decide +kernel
theorem dX10_submit_14 : decode cX10_submit 14 = .ok (.aload_n 0, 1) := by decide +kernel
theorem dX10_submit_15 : decode cX10_submit 15 = .ok (.invokevirtual 395, 3) := by decide +kernel
theorem dX10_submit_18 : decode cX10_submit 18 = .ok (.aload_n 0, 1) := by decide +kernel
theorem dX10_submit_19 : decode cX10_submit 19 = .ok (.getfield 7, 3) := by decide +kernel
theorem dX10_submit_22 : decode cX10_submit 22 = .ok (.bipush 12, 2) := by decide +kernel
theorem dX10_submit_24 : decode cX10_submit 24 = .ok (.iaload, 1) := by decide +kernel
theorem dX10_submit_25 : decode cX10_submit 25 = .ok (.iload_n 1, 1) := by decide +kernel
theorem dX10_submit_26 : decode cX10_submit 26 = .ok (.ishr, 1) := by decide +kernel
theorem dX10_submit_27 : decode cX10_submit 27 = .ok (.iconst 1, 1) := by decide +kernel
theorem dX10_submit_28 : decode cX10_submit 28 = .ok (.iand, 1) := by decide +kernel
theorem dX10_submit_29 : decode cX10_submit 29 = .ok (.ifCond .ne 7, 3) := by decide +kernel
theorem dX10_submit_32 : decode cX10_submit 32 = .ok (.iconst 1, 1) := by decide +kernel
theorem dX10_submit_33 : decode cX10_submit 33 = .ok (.goto 4, 3) := by decide +kernel
theorem dX10_submit_36 : decode cX10_submit 36 = .ok (.iconst 0, 1) := by decide +kernel
theorem dX10_submit_37 : decode cX10_submit 37 = .ok (.istore_n 2, 1) := by decide +kernel
theorem dX10_submit_38 : decode cX10_submit 38 = .ok (.aload_n 0, 1) := by decide +kernel
theorem dX10_submit_39 : decode cX10_submit 39 = .ok (.getfield 7, 3) := by decide +kernel
theorem dX10_submit_42 : decode cX10_submit 42 = .ok (.bipush 12, 2) := by decide +kernel
theorem dX10_submit_44 : decode cX10_submit 44 = .ok (.dup2, 1) := by decide +kernel
theorem dX10_submit_45 : decode cX10_submit 45 = .ok (.iaload, 1) := by decide +kernel
theorem dX10_submit_46 : decode cX10_submit 46 = .ok (.iconst 1, 1) := by decide +kernel
theorem dX10_submit_47 : decode cX10_submit 47 = .ok (.iload_n 1, 1) := by decide +kernel
theorem dX10_submit_48 : decode cX10_submit 48 = .ok (.ishl, 1) := by decide +kernel
theorem dX10_submit_49 : decode cX10_submit 49 = .ok (.ior, 1) := by decide +kernel
theorem dX10_submit_50 : decode cX10_submit 50 = .ok (.iastore, 1) := by decide +kernel
theorem dX10_submit_51 : decode cX10_submit 51 = .ok (.iload_n 2, 1) := by decide +kernel
theorem dX10_submit_52 : decode cX10_submit 52 = .ok (.ireturn, 1) := by decide +kernel
theorem dX10_sumOn_0 : decode cX10_sumOn 0 = .ok (.lconst 0, 1) := by decide +kernel
theorem dX10_sumOn_1 : decode cX10_sumOn 1 = .ok (.lstore_n 3, 1) := by decide +kernel
theorem dX10_sumOn_2 : decode cX10_sumOn 2 = .ok (.iconst 0, 1) := by decide +kernel
theorem dX10_sumOn_3 : decode cX10_sumOn 3 = .ok (.istore 5, 2) := by decide +kernel
theorem dX10_sumOn_5 : decode cX10_sumOn 5 = .ok (.iload 5, 2) := by decide +kernel
theorem dX10_sumOn_7 : decode cX10_sumOn 7 = .ok (.aload_n 0, 1) := by decide +kernel
theorem dX10_sumOn_8 : decode cX10_sumOn 8 = .ok (.getfield 7, 3) := by decide +kernel
theorem dX10_sumOn_11 : decode cX10_sumOn 11 = .ok (.bipush 15, 2) := by decide +kernel
theorem dX10_sumOn_13 : decode cX10_sumOn 13 = .ok (.iaload, 1) := by decide +kernel
theorem dX10_sumOn_14 : decode cX10_sumOn 14 = .ok (.if_icmp .ge 46, 3) := by decide +kernel
theorem dX10_sumOn_17 : decode cX10_sumOn 17 = .ok (.lload_n 3, 1) := by decide +kernel
theorem dX10_sumOn_18 : decode cX10_sumOn 18 = .ok (.aload_n 0, 1) := by decide +kernel
theorem dX10_sumOn_19 : decode cX10_sumOn 19 = .ok (.iload 5, 2) := by decide +kernel
theorem dX10_sumOn_21 : decode cX10_sumOn 21 = .ok (.iconst 0, 1) := by decide +kernel
theorem dX10_sumOn_22 : decode cX10_sumOn 22 = .ok (.invokevirtual 448, 3) := by decide +kernel
theorem dX10_sumOn_25 : decode cX10_sumOn 25 = .ok (.iload_n 2, 1) := by decide +kernel
theorem dX10_sumOn_26 : decode cX10_sumOn 26 = .ok (.if_icmp .ne 25, 3) := by decide +kernel
theorem dX10_sumOn_29 : decode cX10_sumOn 29 = .ok (.aload_n 0, 1) := by decide +kernel
theorem dX10_sumOn_30 : decode cX10_sumOn 30 = .ok (.iload 5, 2) := by decide +kernel
theorem dX10_sumOn_32 : decode cX10_sumOn 32 = .ok (.iconst 1, 1) := by decide +kernel
theorem dX10_sumOn_33 : decode cX10_sumOn 33 = .ok (.invokevirtual 448, 3) := by decide +kernel
theorem dX10_sumOn_36 : decode cX10_sumOn 36 = .ok (.iload_n 1, 1) := by decide +kernel
theorem dX10_sumOn_37 : decode cX10_sumOn 37 = .ok (.if_icmp .ne 14, 3) := by decide +kernel
theorem dX10_sumOn_40 : decode cX10_sumOn 40 = .ok (.aload_n 0, 1) := by decide +kernel
theorem dX10_sumOn_41 : decode cX10_sumOn 41 = .ok (.iload 5, 2) := by decide +kernel
theorem dX10_sumOn_43 : decode cX10_sumOn 43 = .ok (.iconst 2, 1) := by decide +kernel
theorem dX10_sumOn_44 : decode cX10_sumOn 44 = .ok (.invokevirtual 448, 3) := by decide +kernel
theorem dX10_sumOn_47 : decode cX10_sumOn 47 = .ok (.i2l, 1) := by decide +kernel
theorem dX10_sumOn_48 : decode cX10_sumOn 48 = .ok (.goto 4, 3) := by decide +kernel
theorem dX10_sumOn_51 : decode cX10_sumOn 51 = .ok (.lconst 0, 1) := by decide +kernel
theorem dX10_sumOn_52 : decode cX10_sumOn 52 = .ok (.ladd, 1) := by decide +kernel
theorem dX10_sumOn_53 : decode cX10_sumOn 53 = .ok (.lstore_n 3, 1) := by decide +kernel
theorem dX10_sumOn_54 : decode cX10_sumOn 54 = .ok (.iinc 5 1, 3) := by decide +kernel
theorem dX10_sumOn_57 : decode cX10_sumOn 57 = .ok (.goto (-52), 3) := by decide +kernel
theorem dX10_sumOn_60 : decode cX10_sumOn 60 = .ok (.lload_n 3, 1) := by decide +kernel
theorem dX10_sumOn_61 : decode cX10_sumOn 61 = .ok (.lreturn, 1) := by decide +kernel
theorem dX10_thrown_0 : decode cX10_thrown 0 = .ok (.aload_n 0, 1) := by decide +kernel
theorem dX10_thrown_1 : decode cX10_thrown 1 = .ok (.getfield 80, 3) := by decide +kernel
theorem dX10_thrown_4 : decode cX10_thrown 4 = .ok (.ireturn, 1) := by decide +kernel
theorem dX10_totalOn_0 : decode cX10_totalOn 0 = .ok (.aload_n 0, 1) := by decide +kernel
theorem dX10_totalOn_1 : decode cX10_totalOn 1 = .ok (.iload_n 2, 1) := by decide +kernel
theorem dX10_totalOn_2 : decode cX10_totalOn 2 = .ok (.i2l, 1) := by decide +kernel
theorem dX10_totalOn_3 : decode cX10_totalOn 3 = .ok (.lconst 0, 1) := by decide +kernel
theorem dX10_totalOn_4 : decode cX10_totalOn 4 = .ok (.ldc2_w 451, 3) := by decide +kernel
theorem dX10_totalOn_7 : decode cX10_totalOn 7 = .ok (.invokestatic 152, 3) := by decide +kernel
theorem dX10_totalOn_10 : decode cX10_totalOn 10 = .ok (.invokevirtual 333, 3) := by decide +kernel
theorem dX10_totalOn_13 : decode cX10_totalOn 13 = .ok (.ifCond .eq 13, 3) := by decide +kernel
theorem dX10_totalOn_16 : decode cX10_totalOn 16 = .ok (.aload_n 0, 1) := by decide +kernel
theorem dX10_totalOn_17 : decode cX10_totalOn 17 = .ok (.iload_n 1, 1) := by decide +kernel
theorem dX10_totalOn_18 : decode cX10_totalOn 18 = .ok (.iload_n 2, 1) := by decide +kernel
theorem dX10_totalOn_19 : decode cX10_totalOn 19 = .ok (.invokevirtual 453, 3) := by decide +kernel
theorem dX10_totalOn_22 : decode cX10_totalOn 22 = .ok (.l2i, 1) := by decide +kernel
theorem dX10_totalOn_23 : decode cX10_totalOn 23 = .ok (.goto 4, 3) := by decide +kernel
theorem dX10_totalOn_26 : decode cX10_totalOn 26 = .ok (.iconst 0, 1) := by decide +kernel
theorem dX10_totalOn_27 : decode cX10_totalOn 27 = .ok (.ireturn, 1) := by decide +kernel
theorem dX10_undo_0 : decode cX10_undo 0 = .ok (.aload_n 0, 1) := by decide +kernel
theorem dX10_undo_1 : decode cX10_undo 1 = .ok (.iconst 0, 1) := by decide +kernel
theorem dX10_undo_2 : decode cX10_undo 2 = .ok (.putfield 80, 3) := by decide +kernel
theorem dX10_undo_5 : decode cX10_undo 5 = .ok (.aload_n 0, 1) := by decide +kernel
theorem dX10_undo_6 : decode cX10_undo 6 = .ok (.getfield 83, 3) := by decide +kernel
theorem dX10_undo_9 : decode cX10_undo 9 = .ok (.ifCond .ne 5, 3) := by decide +kernel
theorem dX10_undo_12 : decode cX10_undo 12 = .ok (.iconst (-1), 1) := by decide +kernel
theorem dX10_undo_13 : decode cX10_undo 13 = .ok (.ireturn, 1) := by decide +kernel
theorem dX10_undo_14 : decode cX10_undo 14 = .ok (.aload_n 0, 1) := by decide +kernel
theorem dX10_undo_15 : decode cX10_undo 15 = .ok (.dup, 1) := by decide +kernel
theorem dX10_undo_16 : decode cX10_undo 16 = .ok (.getfield 83, 3) := by decide +kernel
theorem dX10_undo_19 : decode cX10_undo 19 = .ok (.iconst 1, 1) := by decide +kernel
theorem dX10_undo_20 : decode cX10_undo 20 = .ok (.isub, 1) := by decide +kernel
theorem dX10_undo_21 : decode cX10_undo 21 = .ok (.putfield 83, 3) := by decide +kernel
theorem dX10_undo_24 : decode cX10_undo 24 = .ok (.iconst 0, 1) := by decide +kernel
theorem dX10_undo_25 : decode cX10_undo 25 = .ok (.istore_n 1, 1) := by decide +kernel
theorem dX10_undo_26 : decode cX10_undo 26 = .ok (.iload_n 1, 1) := by decide +kernel
theorem dX10_undo_27 : decode cX10_undo 27 = .ok (.sipush 326, 3) := by decide +kernel
theorem dX10_undo_30 : decode cX10_undo 30 = .ok (.if_icmp .ge 30, 3) := by decide +kernel
theorem dX10_undo_33 : decode cX10_undo 33 = .ok (.aload_n 0, 1) := by decide +kernel
theorem dX10_undo_34 : decode cX10_undo 34 = .ok (.getfield 7, 3) := by decide +kernel
theorem dX10_undo_37 : decode cX10_undo 37 = .ok (.iload_n 1, 1) := by decide +kernel
theorem dX10_undo_38 : decode cX10_undo 38 = .ok (.aload_n 0, 1) := by decide +kernel
theorem dX10_undo_39 : decode cX10_undo 39 = .ok (.getfield 19, 3) := by decide +kernel
theorem dX10_undo_42 : decode cX10_undo 42 = .ok (.sipush 326, 3) := by decide +kernel
theorem dX10_undo_45 : decode cX10_undo 45 = .ok (.aload_n 0, 1) := by decide +kernel
theorem dX10_undo_46 : decode cX10_undo 46 = .ok (.getfield 83, 3) := by decide +kernel
theorem dX10_undo_49 : decode cX10_undo 49 = .ok (.imul, 1) := by decide +kernel
theorem dX10_undo_50 : decode cX10_undo 50 = .ok (.iload_n 1, 1) := by decide +kernel
theorem dX10_undo_51 : decode cX10_undo 51 = .ok (.iadd, 1) := by decide +kernel
theorem dX10_undo_52 : decode cX10_undo 52 = .ok (.iaload, 1) := by decide +kernel
theorem dX10_undo_53 : decode cX10_undo 53 = .ok (.iastore, 1) := by decide +kernel
theorem dX10_undo_54 : decode cX10_undo 54 = .ok (.iinc 1 1, 3) := by decide +kernel
theorem dX10_undo_57 : decode cX10_undo 57 = .ok (.goto (-31), 3) := by decide +kernel
theorem dX10_undo_60 : decode cX10_undo 60 = .ok (.aload_n 0, 1) := by decide +kernel
theorem dX10_undo_61 : decode cX10_undo 61 = .ok (.aload_n 0, 1) := by decide +kernel
theorem dX10_undo_62 : decode cX10_undo 62 = .ok (.getfield 22, 3) := by decide +kernel
theorem dX10_undo_65 : decode cX10_undo 65 = .ok (.aload_n 0, 1) := by decide +kernel
theorem dX10_undo_66 : decode cX10_undo 66 = .ok (.getfield 83, 3) := by decide +kernel
theorem dX10_undo_69 : decode cX10_undo 69 = .ok (.laload, 1) := by decide +kernel
theorem dX10_undo_70 : decode cX10_undo 70 = .ok (.putfield 86, 3) := by decide +kernel
theorem dX10_undo_73 : decode cX10_undo 73 = .ok (.aload_n 0, 1) := by decide +kernel
theorem dX10_undo_74 : decode cX10_undo 74 = .ok (.getfield 83, 3) := by decide +kernel
theorem dX10_undo_77 : decode cX10_undo 77 = .ok (.ireturn, 1) := by decide +kernel
theorem dX10_withdraw_0 : decode cX10_withdraw 0 = .ok (.aload_n 0, 1) := by decide +kernel
theorem dX10_withdraw_1 : decode cX10_withdraw 1 = .ok (.iload_n 1, 1) := by decide +kernel
theorem dX10_withdraw_2 : decode cX10_withdraw 2 = .ok (.invokevirtual 330, 3) := by decide +kernel
theorem dX10_withdraw_5 : decode cX10_withdraw 5 = .ok (.istore_n 2, 1) := by decide +kernel
theorem dX10_withdraw_6 : decode cX10_withdraw 6 = .ok (.aload_n 0, 1) := by decide +kernel
theorem dX10_withdraw_7 : decode cX10_withdraw 7 = .ok (.iload_n 2, 1) := by decide +kernel
theorem dX10_withdraw_8 : decode cX10_withdraw 8 = .ok (.iload_n 2, 1) := by decide +kernel
theorem dX10_withdraw_9 : decode cX10_withdraw 9 = .ok (.ifCond .eq 17, 3) := by decide +kernel
theorem dX10_withdraw_12 : decode cX10_withdraw 12 = .ok (.aload_n 0, 1) := by decide +kernel
theorem dX10_withdraw_13 : decode cX10_withdraw 13 = .ok (.iload_n 1, 1) := by decide +kernel
theorem dX10_withdraw_14 : decode cX10_withdraw 14 = .ok (.iconst 2, 1) := by decide +kernel
theorem dX10_withdraw_15 : decode cX10_withdraw 15 = .ok (.invokevirtual 261, 3) := by decide +kernel
theorem dX10_withdraw_18 : decode cX10_withdraw 18 = .ok (.iconst 2, 1) := by decide +kernel
theorem dX10_withdraw_19 : decode cX10_withdraw 19 = .ok (.if_icmp .ne 7, 3) := by decide +kernel
theorem dX10_withdraw_22 : decode cX10_withdraw 22 = .ok (.iconst 1, 1) := by decide +kernel
theorem dX10_withdraw_23 : decode cX10_withdraw 23 = .ok (.goto 4, 3) := by decide +kernel
theorem dX10_withdraw_26 : decode cX10_withdraw 26 = .ok (.iconst 0, 1) := by decide +kernel
theorem dX10_withdraw_27 : decode cX10_withdraw 27 = .ok (.invokevirtual 358, 3) := by decide +kernel
theorem dX10_withdraw_30 : decode cX10_withdraw 30 = .ok (.ifCond .ne 5, 3) := by decide +kernel
theorem dX10_withdraw_33 : decode cX10_withdraw 33 = .ok (.iconst 0, 1) := by decide +kernel
theorem dX10_withdraw_34 : decode cX10_withdraw 34 = .ok (.ireturn, 1) := by decide +kernel
theorem dX10_withdraw_35 : decode cX10_withdraw 35 = .ok (.aload_n 0, 1) := by decide +kernel
theorem dX10_withdraw_36 : decode cX10_withdraw 36 = .ok (.invokevirtual 395, 3) := by decide +kernel
theorem dX10_withdraw_39 : decode cX10_withdraw 39 = .ok (.aload_n 0, 1) := by decide +kernel
theorem dX10_withdraw_40 : decode cX10_withdraw 40 = .ok (.iload_n 1, 1) := by decide +kernel
theorem dX10_withdraw_41 : decode cX10_withdraw 41 = .ok (.iconst 3, 1) := by decide +kernel
theorem dX10_withdraw_42 : decode cX10_withdraw 42 = .ok (.iconst 0, 1) := by decide +kernel
theorem dX10_withdraw_43 : decode cX10_withdraw 43 = .ok (.invokevirtual 273, 3) := by decide +kernel
theorem dX10_withdraw_46 : decode cX10_withdraw 46 = .ok (.aload_n 0, 1) := by decide +kernel
theorem dX10_withdraw_47 : decode cX10_withdraw 47 = .ok (.iload_n 1, 1) := by decide +kernel
theorem dX10_withdraw_48 : decode cX10_withdraw 48 = .ok (.iconst 2, 1) := by decide +kernel
theorem dX10_withdraw_49 : decode cX10_withdraw 49 = .ok (.iconst 0, 1) := by decide +kernel
theorem dX10_withdraw_50 : decode cX10_withdraw 50 = .ok (.invokevirtual 273, 3) := by decide +kernel
theorem dX10_withdraw_53 : decode cX10_withdraw 53 = .ok (.aload_n 0, 1) := by decide +kernel
theorem dX10_withdraw_54 : decode cX10_withdraw 54 = .ok (.invokevirtual 298, 3) := by decide +kernel
theorem dX10_withdraw_57 : decode cX10_withdraw 57 = .ok (.ireturn, 1) := by decide +kernel
theorem dX10_wouldHold_0 : decode cX10_wouldHold 0 = .ok (.iload_n 2, 1) := by decide +kernel
theorem dX10_wouldHold_1 : decode cX10_wouldHold 1 = .ok (.i2l, 1) := by decide +kernel
theorem dX10_wouldHold_2 : decode cX10_wouldHold 2 = .ok (.lconst 0, 1) := by decide +kernel
theorem dX10_wouldHold_3 : decode cX10_wouldHold 3 = .ok (.iconst 1, 1) := by decide +kernel
theorem dX10_wouldHold_4 : decode cX10_wouldHold 4 = .ok (.aload_n 0, 1) := by decide +kernel
theorem dX10_wouldHold_5 : decode cX10_wouldHold 5 = .ok (.getfield 7, 3) := by decide +kernel
theorem dX10_wouldHold_8 : decode cX10_wouldHold 8 = .ok (.bipush 13, 2) := by decide +kernel
theorem dX10_wouldHold_10 : decode cX10_wouldHold 10 = .ok (.iaload, 1) := by decide +kernel
theorem dX10_wouldHold_11 : decode cX10_wouldHold 11 = .ok (.ishl, 1) := by decide +kernel
theorem dX10_wouldHold_12 : decode cX10_wouldHold 12 = .ok (.iconst 1, 1) := by decide +kernel
theorem dX10_wouldHold_13 : decode cX10_wouldHold 13 = .ok (.isub, 1) := by decide +kernel
theorem dX10_wouldHold_14 : decode cX10_wouldHold 14 = .ok (.i2l, 1) := by decide +kernel
theorem dX10_wouldHold_15 : decode cX10_wouldHold 15 = .ok (.invokestatic 152, 3) := by decide +kernel
theorem dX10_wouldHold_18 : decode cX10_wouldHold 18 = .ok (.istore_n 3, 1) := by decide +kernel
theorem dX10_wouldHold_19 : decode cX10_wouldHold 19 = .ok (.aload_n 0, 1) := by decide +kernel
theorem dX10_wouldHold_20 : decode cX10_wouldHold 20 = .ok (.aload_n 0, 1) := by decide +kernel
theorem dX10_wouldHold_21 : decode cX10_wouldHold 21 = .ok (.iload_n 1, 1) := by decide +kernel
theorem dX10_wouldHold_22 : decode cX10_wouldHold 22 = .ok (.invokevirtual 330, 3) := by decide +kernel
theorem dX10_wouldHold_25 : decode cX10_wouldHold 25 = .ok (.iload_n 3, 1) := by decide +kernel
theorem dX10_wouldHold_26 : decode cX10_wouldHold 26 = .ok (.invokevirtual 358, 3) := by decide +kernel
theorem dX10_wouldHold_29 : decode cX10_wouldHold 29 = .ok (.ifCond .eq 34, 3) := by decide +kernel
theorem dX10_wouldHold_32 : decode cX10_wouldHold 32 = .ok (.aload_n 0, 1) := by decide +kernel
theorem dX10_wouldHold_33 : decode cX10_wouldHold 33 = .ok (.iload_n 1, 1) := by decide +kernel
theorem dX10_wouldHold_34 : decode cX10_wouldHold 34 = .ok (.aload_n 0, 1) := by decide +kernel
theorem dX10_wouldHold_35 : decode cX10_wouldHold 35 = .ok (.getfield 7, 3) := by decide +kernel
theorem dX10_wouldHold_38 : decode cX10_wouldHold 38 = .ok (.iconst 4, 1) := by decide +kernel
theorem dX10_wouldHold_39 : decode cX10_wouldHold 39 = .ok (.iaload, 1) := by decide +kernel
theorem dX10_wouldHold_40 : decode cX10_wouldHold 40 = .ok (.aload_n 0, 1) := by decide +kernel
theorem dX10_wouldHold_41 : decode cX10_wouldHold 41 = .ok (.getfield 7, 3) := by decide +kernel
theorem dX10_wouldHold_44 : decode cX10_wouldHold 44 = .ok (.bipush 12, 2) := by decide +kernel
theorem dX10_wouldHold_46 : decode cX10_wouldHold 46 = .ok (.iaload, 1) := by decide +kernel
theorem dX10_wouldHold_47 : decode cX10_wouldHold 47 = .ok (.aload_n 0, 1) := by decide +kernel
theorem dX10_wouldHold_48 : decode cX10_wouldHold 48 = .ok (.invokevirtual 284, 3) := by decide +kernel
theorem dX10_wouldHold_51 : decode cX10_wouldHold 51 = .ok (.iload_n 2, 1) := by decide +kernel
theorem dX10_wouldHold_52 : decode cX10_wouldHold 52 = .ok (.ior, 1) := by decide +kernel
theorem dX10_wouldHold_53 : decode cX10_wouldHold 53 = .ok (.invokevirtual 288, 3) := by decide +kernel
theorem dX10_wouldHold_56 : decode cX10_wouldHold 56 = .ok (.ifCond .eq 7, 3) := by decide +kernel
theorem dX10_wouldHold_59 : decode cX10_wouldHold 59 = .ok (.iconst 1, 1) := by decide +kernel
theorem dX10_wouldHold_60 : decode cX10_wouldHold 60 = .ok (.goto 4, 3) := by decide +kernel
theorem dX10_wouldHold_63 : decode cX10_wouldHold 63 = .ok (.iconst 0, 1) := by decide +kernel
theorem dX10_wouldHold_64 : decode cX10_wouldHold 64 = .ok (.ireturn, 1) := by decide +kernel
theorem dX10_write_0 : decode cX10_write 0 = .ok (.aload_n 0, 1) := by decide +kernel
theorem dX10_write_1 : decode cX10_write 1 = .ok (.aload_n 0, 1) := by decide +kernel
theorem dX10_write_2 : decode cX10_write 2 = .ok (.iload_n 1, 1) := by decide +kernel
theorem dX10_write_3 : decode cX10_write 3 = .ok (.invokevirtual 330, 3) := by decide +kernel
theorem dX10_write_6 : decode cX10_write 6 = .ok (.invokevirtual 333, 3) := by decide +kernel
theorem dX10_write_9 : decode cX10_write 9 = .ok (.ifCond .ne 5, 3) := by decide +kernel
theorem dX10_write_12 : decode cX10_write 12 = .ok (.iconst 0, 1) := by decide +kernel
theorem dX10_write_13 : decode cX10_write 13 = .ok (.ireturn, 1) := by decide +kernel
theorem dX10_write_14 : decode cX10_write 14 = .ok (.aload_n 0, 1) := by decide +kernel
theorem dX10_write_15 : decode cX10_write 15 = .ok (.iconst 0, 1) := by decide +kernel
theorem dX10_write_16 : decode cX10_write 16 = .ok (.putfield 412, 3) := by decide +kernel
theorem dX10_write_19 : decode cX10_write 19 = .ok (.iconst 0, 1) := by decide +kernel
theorem dX10_write_20 : decode cX10_write 20 = .ok (.istore_n 2, 1) := by decide +kernel
theorem dX10_write_21 : decode cX10_write 21 = .ok (.iload_n 2, 1) := by decide +kernel
theorem dX10_write_22 : decode cX10_write 22 = .ok (.aload_n 0, 1) := by decide +kernel
theorem dX10_write_23 : decode cX10_write 23 = .ok (.getfield 36, 3) := by decide +kernel
theorem dX10_write_26 : decode cX10_write 26 = .ok (.iload_n 1, 1) := by decide +kernel
theorem dX10_write_27 : decode cX10_write 27 = .ok (.laload, 1) := by decide +kernel
theorem dX10_write_28 : decode cX10_write 28 = .ok (.invokestatic 351, 3) := by decide +kernel
theorem dX10_write_31 : decode cX10_write 31 = .ok (.if_icmp .ge 23, 3) := by decide +kernel
theorem dX10_write_34 : decode cX10_write 34 = .ok (.aload_n 0, 1) := by decide +kernel
theorem dX10_write_35 : decode cX10_write 35 = .ok (.aload_n 0, 1) := by decide +kernel
theorem dX10_write_36 : decode cX10_write 36 = .ok (.getfield 36, 3) := by decide +kernel
theorem dX10_write_39 : decode cX10_write 39 = .ok (.iload_n 1, 1) := by decide +kernel
theorem dX10_write_40 : decode cX10_write 40 = .ok (.laload, 1) := by decide +kernel
theorem dX10_write_41 : decode cX10_write 41 = .ok (.iload_n 2, 1) := by decide +kernel
theorem dX10_write_42 : decode cX10_write 42 = .ok (.invokestatic 354, 3) := by decide +kernel
theorem dX10_write_45 : decode cX10_write 45 = .ok (.invokevirtual 417, 3) := by decide +kernel
theorem dX10_write_48 : decode cX10_write 48 = .ok (.iinc 2 1, 3) := by decide +kernel
theorem dX10_write_51 : decode cX10_write 51 = .ok (.goto (-30), 3) := by decide +kernel
theorem dX10_write_54 : decode cX10_write 54 = .ok (.aload_n 0, 1) := by decide +kernel
theorem dX10_write_55 : decode cX10_write 55 = .ok (.bipush 32, 2) := by decide +kernel
theorem dX10_write_57 : decode cX10_write 57 = .ok (.invokevirtual 417, 3) := by decide +kernel
theorem dX10_write_60 : decode cX10_write 60 = .ok (.aload_n 0, 1) := by decide +kernel
theorem dX10_write_61 : decode cX10_write 61 = .ok (.aload_n 0, 1) := by decide +kernel
theorem dX10_write_62 : decode cX10_write 62 = .ok (.iload_n 1, 1) := by decide +kernel
theorem dX10_write_63 : decode cX10_write 63 = .ok (.iconst 2, 1) := by decide +kernel
theorem dX10_write_64 : decode cX10_write 64 = .ok (.invokevirtual 261, 3) := by decide +kernel
theorem dX10_write_67 : decode cX10_write 67 = .ok (.invokestatic 431, 3) := by decide +kernel
theorem dX10_write_70 : decode cX10_write 70 = .ok (.invokevirtual 435, 3) := by decide +kernel
theorem dX10_write_73 : decode cX10_write 73 = .ok (.aload_n 0, 1) := by decide +kernel
theorem dX10_write_74 : decode cX10_write 74 = .ok (.bipush 32, 2) := by decide +kernel
theorem dX10_write_76 : decode cX10_write 76 = .ok (.invokevirtual 417, 3) := by decide +kernel
theorem dX10_write_79 : decode cX10_write 79 = .ok (.aload_n 0, 1) := by decide +kernel
theorem dX10_write_80 : decode cX10_write 80 = .ok (.aload_n 0, 1) := by decide +kernel
theorem dX10_write_81 : decode cX10_write 81 = .ok (.iload_n 1, 1) := by decide +kernel
theorem dX10_write_82 : decode cX10_write 82 = .ok (.iconst 1, 1) := by decide +kernel
theorem dX10_write_83 : decode cX10_write 83 = .ok (.invokevirtual 261, 3) := by decide +kernel
theorem dX10_write_86 : decode cX10_write 86 = .ok (.invokevirtual 439, 3) := by decide +kernel
theorem dX10_write_89 : decode cX10_write 89 = .ok (.aload_n 0, 1) := by decide +kernel
theorem dX10_write_90 : decode cX10_write 90 = .ok (.bipush 47, 2) := by decide +kernel
theorem dX10_write_92 : decode cX10_write 92 = .ok (.invokevirtual 417, 3) := by decide +kernel
theorem dX10_write_95 : decode cX10_write 95 = .ok (.aload_n 0, 1) := by decide +kernel
theorem dX10_write_96 : decode cX10_write 96 = .ok (.aload_n 0, 1) := by decide +kernel
theorem dX10_write_97 : decode cX10_write 97 = .ok (.iload_n 1, 1) := by decide +kernel
theorem dX10_write_98 : decode cX10_write 98 = .ok (.iconst 0, 1) := by decide +kernel
theorem dX10_write_99 : decode cX10_write 99 = .ok (.invokevirtual 261, 3) := by decide +kernel
theorem dX10_write_102 : decode cX10_write 102 = .ok (.invokevirtual 439, 3) := by decide +kernel
theorem dX10_write_105 : decode cX10_write 105 = .ok (.aload_n 0, 1) := by decide +kernel
theorem dX10_write_106 : decode cX10_write 106 = .ok (.iload_n 1, 1) := by decide +kernel
theorem dX10_write_107 : decode cX10_write 107 = .ok (.iconst 2, 1) := by decide +kernel
theorem dX10_write_108 : decode cX10_write 108 = .ok (.invokevirtual 261, 3) := by decide +kernel
theorem dX10_write_111 : decode cX10_write 111 = .ok (.iconst 1, 1) := by decide +kernel
theorem dX10_write_112 : decode cX10_write 112 = .ok (.if_icmp .ne 20, 3) := by decide +kernel
theorem dX10_write_115 : decode cX10_write 115 = .ok (.aload_n 0, 1) := by decide +kernel
theorem dX10_write_116 : decode cX10_write 116 = .ok (.ldc_w 442, 3) := by decide +kernel
theorem dX10_write_119 : decode cX10_write 119 = .ok (.invokevirtual 435, 3) := by decide +kernel
theorem dX10_write_122 : decode cX10_write 122 = .ok (.aload_n 0, 1) := by decide +kernel
theorem dX10_write_123 : decode cX10_write 123 = .ok (.aload_n 0, 1) := by decide +kernel
theorem dX10_write_124 : decode cX10_write 124 = .ok (.iload_n 1, 1) := by decide +kernel
theorem dX10_write_125 : decode cX10_write 125 = .ok (.iconst 4, 1) := by decide +kernel
theorem dX10_write_126 : decode cX10_write 126 = .ok (.invokevirtual 261, 3) := by decide +kernel
theorem dX10_write_129 : decode cX10_write 129 = .ok (.invokevirtual 439, 3) := by decide +kernel
theorem dX10_write_132 : decode cX10_write 132 = .ok (.aload_n 0, 1) := by decide +kernel
theorem dX10_write_133 : decode cX10_write 133 = .ok (.iload_n 1, 1) := by decide +kernel
theorem dX10_write_134 : decode cX10_write 134 = .ok (.iconst 2, 1) := by decide +kernel
theorem dX10_write_135 : decode cX10_write 135 = .ok (.invokevirtual 261, 3) := by decide +kernel
theorem dX10_write_138 : decode cX10_write 138 = .ok (.iconst 2, 1) := by decide +kernel
theorem dX10_write_139 : decode cX10_write 139 = .ok (.if_icmp .ne 20, 3) := by decide +kernel
theorem dX10_write_142 : decode cX10_write 142 = .ok (.aload_n 0, 1) := by decide +kernel
theorem dX10_write_143 : decode cX10_write 143 = .ok (.ldc_w 444, 3) := by decide +kernel
theorem dX10_write_146 : decode cX10_write 146 = .ok (.invokevirtual 435, 3) := by decide +kernel
theorem dX10_write_149 : decode cX10_write 149 = .ok (.aload_n 0, 1) := by decide +kernel
theorem dX10_write_150 : decode cX10_write 150 = .ok (.aload_n 0, 1) := by decide +kernel
theorem dX10_write_151 : decode cX10_write 151 = .ok (.iload_n 1, 1) := by decide +kernel
theorem dX10_write_152 : decode cX10_write 152 = .ok (.iconst 3, 1) := by decide +kernel
theorem dX10_write_153 : decode cX10_write 153 = .ok (.invokevirtual 261, 3) := by decide +kernel
theorem dX10_write_156 : decode cX10_write 156 = .ok (.invokevirtual 439, 3) := by decide +kernel
theorem dX10_write_159 : decode cX10_write 159 = .ok (.aload_n 0, 1) := by decide +kernel
theorem dX10_write_160 : decode cX10_write 160 = .ok (.getfield 412, 3) := by decide +kernel
theorem dX10_write_163 : decode cX10_write 163 = .ok (.ireturn, 1) := by decide +kernel
theorem dX10_written_0 : decode cX10_written 0 = .ok (.aload_n 0, 1) := by decide +kernel
theorem dX10_written_1 : decode cX10_written 1 = .ok (.iload_n 1, 1) := by decide +kernel
theorem dX10_written_2 : decode cX10_written 2 = .ok (.i2l, 1) := by decide +kernel
theorem dX10_written_3 : decode cX10_written 3 = .ok (.lconst 0, 1) := by decide +kernel
theorem dX10_written_4 : decode cX10_written 4 = .ok (.aload_n 0, 1) := by decide +kernel
theorem dX10_written_5 : decode cX10_written 5 = .ok (.getfield 412, 3) := by decide +kernel
theorem dX10_written_8 : decode cX10_written 8 = .ok (.iconst 1, 1) := by decide +kernel
theorem dX10_written_9 : decode cX10_written 9 = .ok (.isub, 1) := by decide +kernel
theorem dX10_written_10 : decode cX10_written 10 = .ok (.i2l, 1) := by decide +kernel
theorem dX10_written_11 : decode cX10_written 11 = .ok (.invokestatic 152, 3) := by decide +kernel
theorem dX10_written_14 : decode cX10_written 14 = .ok (.invokevirtual 333, 3) := by decide +kernel
theorem dX10_written_17 : decode cX10_written 17 = .ok (.ifCond .eq 13, 3) := by decide +kernel
theorem dX10_written_20 : decode cX10_written 20 = .ok (.aload_n 0, 1) := by decide +kernel
theorem dX10_written_21 : decode cX10_written 21 = .ok (.getfield 67, 3) := by decide +kernel
theorem dX10_written_24 : decode cX10_written 24 = .ok (.iload_n 1, 1) := by decide +kernel
theorem dX10_written_25 : decode cX10_written 25 = .ok (.iaload, 1) := by decide +kernel
theorem dX10_written_26 : decode cX10_written 26 = .ok (.i2c, 1) := by decide +kernel
theorem dX10_written_27 : decode cX10_written 27 = .ok (.goto 4, 3) := by decide +kernel
theorem dX10_written_30 : decode cX10_written 30 = .ok (.iconst 0, 1) := by decide +kernel
theorem dX10_written_31 : decode cX10_written 31 = .ok (.ireturn, 1) := by decide +kernel
