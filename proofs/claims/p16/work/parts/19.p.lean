theorem lg_lt {x y : Int64} : lg_cmp x y < 0 ↔ x < y := by
  unfold lg_cmp
  simp only [gt_iff_lt, Int64.lt_iff_toInt_lt, ← Int64.toInt_inj]
  repeat' split
  all_goals first | (constructor <;> intro h <;> first | (exact absurd h (by decide)) | omega | decide) | skip
theorem lg_gt {x y : Int64} : 0 < lg_cmp x y ↔ y < x := by
  unfold lg_cmp
  simp only [gt_iff_lt, Int64.lt_iff_toInt_lt, ← Int64.toInt_inj]
  repeat' split
  all_goals first | (constructor <;> intro h <;> first | (exact absurd h (by decide)) | omega | decide) | skip
/-- the row of a fresh account -/
def Zs (f : Nat → Int32) : Prop := f 1 = 365 ∧ ∀ j, j < 326 → j ≠ 1 → f j = 0
/-- the same, on any day -/
def Zd (f : Nat → Int32) : Prop := f 1 = 365 ∧ ∀ j, j < 326 → j ≠ 1 → j ≠ 4 → f j = 0
def Nul (i : Nat) (f : Nat → Int32) : Prop := ∀ j, j < i → f j = 0
theorem Zs.d {f : Nat → Int32} (h : Zs f) : Zd f := ⟨h.1, fun j h1 h2 _ => h.2 j h1 h2⟩
theorem Zd.day {f : Nat → Int32} (h : Zd f) (y : Int32) : Zd (upd f 4 y) := ⟨(pk_un (by decide)).trans h.1, fun j h1 h2 h3 => (pk_un h3).trans (h.2 j h1 h2 h3)⟩
theorem Zd.zero {f : Nat → Int32} (h : Zd f) (k : Nat) (hk : 1 ≠ k) : Zd (upd f k 0) := ⟨(pk_un hk).trans h.1, fun j h1 h2 h3 => by
  by_cases e : j = k
  · subst e; exact pk_us
  · exact (pk_un e).trans (h.2 j h1 h2 h3)⟩
theorem Nul.step {i : Nat} {f : Nat → Int32} (hi : i < 326) (h : Nul i f) : Nul (i + 1) (upd f (nI i).toNatClampNeg 0) := by
  rw [nI_clamp (by omega)]
  intro j hj
  by_cases e : j = i
  · subst e; exact pk_us
  · exact (pk_un e).trans (h j (by omega))
theorem Nul.zs {f : Nat → Int32} (h : Nul 326 f) : Zs (upd f 1 365) := ⟨pk_us, fun j h1 h2 => (pk_un h2).trans (h j h1)⟩
/-- the spaces among the first n bytes -/
def sp (bs : List Int32) (n : Nat) : Nat := (bs.take n).countP (fun b => b == 32)
