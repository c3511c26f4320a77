/-- the first i places hold v -/
def Zf9 (i : Nat) (v : Int32) (f : Nat → Int32) : Prop := ∀ j, j < i → f j = v
theorem Zf9.zero (v : Int32) (f : Nat → Int32) : Zf9 0 v f := fun j h => absurd h (Nat.not_lt_zero j)
theorem Zf9.step {i : Nat} {v : Int32} {f : Nat → Int32} (h : Zf9 i v f) (hi : i < 2147483648) : Zf9 (i + 1) v (upd f (nI i).toNatClampNeg v) := fun j hj => by
  rw [nI_clamp hi]
  by_cases e : j = i
  · subst e; exact pk_us
  · rw [pk_un e]; exact h j (by omega)
/-- the sum of the first deposits; the entries that they leave -/
def dcS (f : Nat → Int32) : Nat → Int32
  | 0 => 0
  | n + 1 => dcS f n + f n
def dkN (f : Nat → Int32) : Nat → Nat
  | 0 => 0
  | n + 1 => entC (dkN f n) (f n)
def De9 (f : Nat → Int32) (i : Nat) (x : Int32) : Prop := x = dcS f i
def Dk9 (f : Nat → Int32) (i k : Nat) : Prop := k = dkN f i
theorem De9.zero (f : Nat → Int32) : De9 f 0 0 := rfl
theorem De9.step {f : Nat → Int32} {i : Nat} {x : Int32} (h : De9 f i x) : De9 f (i + 1) (x + f i) := by
  unfold De9 at h ⊢
  rw [h]
  rfl
theorem Dk9.zero (f : Nat → Int32) : Dk9 f 0 0 := rfl
theorem Dk9.step {f : Nat → Int32} {i k k2 : Nat} (h : Dk9 f i k) (e : k2 = entC k (f i)) : Dk9 f (i + 1) k2 := by
  unfold Dk9 at h ⊢
  rw [e, h]
  rfl
/-- the account as a plan opens it -/
def OpnA (n : Nat) (fde : Nat → Int32) (pr pb pg i6 i7 i8 : Int32) (i9 i11 : Int64) (i12 i13 i15 i16 i17 i18 i19 : Int32) (kp : Nat) (fs fp ff fd : Nat → Int32) : Prop :=
  (i6 = 0 ∧ De9 fde n i7 ∧ De9 fde n i8 ∧ i9 = 0 ∧ i11 = 0 ∧ i12 = 0 ∧ i13 = 0 ∧ i15 = pr ∧ i16 = pb ∧ i17 = pg ∧ i18 = 0 ∧ i19 = 0) ∧ Dk9 fde n kp ∧ Zf9 10 0 fs ∧ Zf9 10 0 fp ∧ Zf9 10 0 ff ∧ Zf9 10 (-1) fd
/-- the account as it was -/
def KeepA (i6 i7 i8 : Int32) (i9 i11 : Int64) (i12 i13 i15 i16 i17 i18 i19 : Int32) (kp : Nat) (fs fp ff fd : Nat → Int32) (z6 z7 z8 : Int32) (z9 z11 : Int64) (z12 z13 z15 z16 z17 z18 z19 : Int32) (ky : Nat) (zs zp zf zd : Nat → Int32) : Prop :=
  (z6 = i6 ∧ z7 = i7 ∧ z8 = i8 ∧ z9 = i9 ∧ z11 = i11 ∧ z12 = i12 ∧ z13 = i13 ∧ z15 = i15 ∧ z16 = i16 ∧ z17 = i17 ∧ z18 = i18 ∧ z19 = i19) ∧ ky = kp ∧ zs = fs ∧ zp = fp ∧ zf = ff ∧ zd = fd
theorem KeepA.rf (i6 i7 i8 : Int32) (i9 i11 : Int64) (i12 i13 i15 i16 i17 i18 i19 : Int32) (kp : Nat) (fs fp ff fd : Nat → Int32) : KeepA i6 i7 i8 i9 i11 i12 i13 i15 i16 i17 i18 i19 kp fs fp ff fd i6 i7 i8 i9 i11 i12 i13 i15 i16 i17 i18 i19 kp fs fp ff fd :=
  ⟨⟨rfl, rfl, rfl, rfl, rfl, rfl, rfl, rfl, rfl, rfl, rfl, rfl⟩, rfl, rfl, rfl, rfl, rfl⟩
theorem Nul.row0 {f : Nat → Int32} (h : Nul 326 f) : Row0 (upd f 1 365) := ⟨pk_us, fun j hj hn => (pk_un hn).trans (h j (by omega))⟩
theorem Zs.row0 {f : Nat → Int32} (h : Zs f) : Row0 f := ⟨h.1, fun j hj hn => h.2 j (by omega) hn⟩
