theorem i_add {a b : Int32} (h1 : -2147483648 ≤ a.toInt + b.toInt) (h2 : a.toInt + b.toInt ≤ 2147483647) : (a + b).toInt = a.toInt + b.toInt := by
  rw [Int32.toInt_add]
  exact Int.bmod_eq_of_le (by omega) (by omega)
theorem i_sub {a b : Int32} (h1 : -2147483648 ≤ a.toInt - b.toInt) (h2 : a.toInt - b.toInt ≤ 2147483647) : (a - b).toInt = a.toInt - b.toInt := by
  rw [Int32.toInt_sub]
  exact Int.bmod_eq_of_le (by omega) (by omega)
theorem l_add {a b : Int64} (h1 : -9223372036854775808 ≤ a.toInt + b.toInt) (h2 : a.toInt + b.toInt ≤ 9223372036854775807) : (a + b).toInt = a.toInt + b.toInt := by
  rw [Int64.toInt_add]
  exact Int.bmod_eq_of_le (by omega) (by omega)
theorem l_sub {a b : Int64} (h1 : -9223372036854775808 ≤ a.toInt - b.toInt) (h2 : a.toInt - b.toInt ≤ 9223372036854775807) : (a - b).toInt = a.toInt - b.toInt := by
  rw [Int64.toInt_sub]
  exact Int.bmod_eq_of_le (by omega) (by omega)
theorem l_mul {a b : Int64} (h1 : -9223372036854775808 ≤ a.toInt * b.toInt) (h2 : a.toInt * b.toInt ≤ 9223372036854775807) : (a * b).toInt = a.toInt * b.toInt := by
  rw [Int64.toInt_mul]
  exact Int.bmod_eq_of_le (by omega) (by omega)
theorem i_mul {a b : Int32} (h1 : -2147483648 ≤ a.toInt * b.toInt) (h2 : a.toInt * b.toInt ≤ 2147483647) : (a * b).toInt = a.toInt * b.toInt := by
  rw [Int32.toInt_mul]
  exact Int.bmod_eq_of_le (by omega) (by omega)
theorem i_le {a b : Int32} : a ≤ b ↔ a.toInt ≤ b.toInt := Int32.le_iff_toInt_le
theorem i_lt {a b : Int32} : a < b ↔ a.toInt < b.toInt := Int32.lt_iff_toInt_lt
theorem i_inj {a b : Int32} (h : a.toInt = b.toInt) : a = b := Int32.toInt_inj.mp h
theorem l_inj {a b : Int64} (h : a.toInt = b.toInt) : a = b := Int64.toInt_inj.mp h
theorem i_w (a : Int32) : a.toInt64.toInt = a.toInt := Int32.toInt_toInt64 a
theorem i_n {n : Nat} (h : n < 2147483648) : (nI n).toInt = (n : Int) := nI_toInt h
def tI (r : Nat → Int32) (j : Nat) : Int := (r j).toInt
def fsI (f : Nat → Int) : Nat → Int
  | 0 => 0
  | n + 1 => fsI f n + f (16 + 7 * n + 3)
/-- a milestone's numbers -/
def MI9 (f : Nat → Int) (m : Nat) : Prop := 1 ≤ f (16 + 7 * m + 0) ∧ f (16 + 7 * m + 0) ≤ 99999 ∧ 0 ≤ f (16 + 7 * m + 1) ∧ f (16 + 7 * m + 1) ≤ f (16 + 7 * m + 0) ∧ 0 ≤ f (16 + 7 * m + 2) ∧ f (16 + 7 * m + 2) ≤ 5 ∧ 0 ≤ f (16 + 7 * m + 3) ∧ (f (16 + 7 * m + 2) ≠ 2 → f (16 + 7 * m + 3) = 0)
/-- the bounds of an account's numbers -/
def WI (n : Nat) (f : Nat → Int) (Q : Int) : Prop := (0 ≤ f 0 ∧ f 0 ≤ 3000) ∧ (360 ≤ f 1 ∧ f 1 ≤ 365) ∧ (0 ≤ f 4 ∧ f 4 ≤ 20000) ∧ (0 ≤ f 6 ∧ f 6 ≤ f 5 ∧ f 5 ≤ 9999999) ∧ (0 ≤ f 7 ∧ f 7 ≤ f 8 ∧ f 8 ≤ 2000000000) ∧ (0 ≤ Q ∧ Q ≤ 3650000 + 30 * (3000 * (9999999 + f 8))) ∧ fsI f n ≤ f 6 ∧ ∀ m, m < n → MI9 f m
def WFa (n : Nat) (r : Nat → Int32) (q : Int64) : Prop := WI n (tI r) q.toInt
theorem fsI_cong {f g : Nat → Int} : ∀ {n : Nat}, (∀ m, m < n → g (16 + 7 * m + 3) = f (16 + 7 * m + 3)) → fsI g n = fsI f n
  | 0, _ => rfl
  | n + 1, h => by
    show fsI g n + g (16 + 7 * n + 3) = fsI f n + f (16 + 7 * n + 3)
    rw [fsI_cong (fun m hm => h m (by omega)), h n (by omega)]
theorem fsI_pos {f : Nat → Int} : ∀ {n : Nat}, (∀ m, m < n → MI9 f m) → 0 ≤ fsI f n
  | 0, _ => Int.le_refl 0
  | n + 1, h => by
    have := fsI_pos (n := n) (fun m hm => h m (by omega))
    have := (h n (by omega)).2.2.2.2.2.2.1
    show 0 ≤ fsI f n + f (16 + 7 * n + 3)
    omega
theorem fsI_upd {f g : Nat → Int} {k : Nat} : ∀ {n : Nat}, k < n → (∀ m, m ≠ k → g (16 + 7 * m + 3) = f (16 + 7 * m + 3)) → fsI g n = fsI f n - f (16 + 7 * k + 3) + g (16 + 7 * k + 3)
  | 0, hk, _ => absurd hk (Nat.not_lt_zero k)
  | n + 1, hk, h => by
    show fsI g n + g (16 + 7 * n + 3) = fsI f n + f (16 + 7 * n + 3) - f (16 + 7 * k + 3) + g (16 + 7 * k + 3)
    by_cases e : n = k
    · subst e
      rw [fsI_cong (fun m hm => h m (by omega))]
      omega
    · rw [fsI_upd (n := n) (by omega) h, h n e]
      omega
theorem fsI_le {f : Nat → Int} {k : Nat} : ∀ {n : Nat}, k < n → (∀ m, m < n → MI9 f m) → f (16 + 7 * k + 3) ≤ fsI f n
  | 0, hk, _ => absurd hk (Nat.not_lt_zero k)
  | n + 1, hk, h => by
    show f (16 + 7 * k + 3) ≤ fsI f n + f (16 + 7 * n + 3)
    have p1 := fsI_pos (n := n) (fun m hm => h m (by omega))
    have p2 := (h n (by omega)).2.2.2.2.2.2.1
    by_cases e : n = k
    · subst e; omega
    · have := fsI_le (n := n) (by omega : k < n) (fun m hm => h m (by omega))
      omega
/-- numbers that no bound speaks of may change -/
theorem WI.cong {n : Nat} {f g : Nat → Int} {Q : Int} (h : WI n f Q) (h0 : ∀ j, j = 0 ∨ j = 1 ∨ j = 4 ∨ j = 5 ∨ j = 6 ∨ j = 7 ∨ j = 8 → g j = f j) (hm : ∀ m i, m < n → i < 4 → g (16 + 7 * m + i) = f (16 + 7 * m + i)) : WI n g Q := by
  obtain ⟨a0, a1, a4, a6, a7, aQ, aS, aM⟩ := h
  refine ⟨?_, ?_, ?_, ?_, ?_, ?_, ?_, fun m hm9 => ?_⟩
  · rw [h0 0 (by omega)]; exact a0
  · rw [h0 1 (by omega)]; exact a1
  · rw [h0 4 (by omega)]; exact a4
  · rw [h0 6 (by omega), h0 5 (by omega)]; exact a6
  · rw [h0 7 (by omega), h0 8 (by omega)]; exact a7
  · rw [h0 8 (by omega)]; exact aQ
  · rw [fsI_cong (fun m hm9 => hm m 3 hm9 (by omega)), h0 6 (by omega)]; exact aS
  · unfold MI9
    rw [hm m 0 hm9 (by omega), hm m 1 hm9 (by omega), hm m 2 hm9 (by omega), hm m 3 hm9 (by omega)]
    exact aM m hm9
theorem avR_I {n0 n : Nat} {r : Nat → Int32} {q : Int64} (h : WFa n0 r q) (hn : n ≤ n0) : (avR r n).toInt = tI r 6 - fsI (tI r) n ∧ 0 ≤ tI r 6 - fsI (tI r) n := by
  obtain ⟨a0, a1, a4, a6, a7, aQ, aS, aM⟩ := h
  have hmono : ∀ k, k ≤ n0 → fsI (tI r) k ≤ fsI (tI r) n0 := by
    intro k hk
    have g : ∀ d, k + d ≤ n0 → fsI (tI r) k ≤ fsI (tI r) (k + d) := by
      intro d
      induction d with
      | zero => intro _; exact Int.le_refl _
      | succ d ih =>
        intro hd
        have := ih (by omega)
        have := (aM (k + d) (by omega)).2.2.2.2.2.2.1
        show fsI (tI r) k ≤ fsI (tI r) (k + d) + tI r (16 + 7 * (k + d) + 3)
        omega
    have := g (n0 - k) (by omega)
    rw [show k + (n0 - k) = n0 by omega] at this
    exact this
  have key : ∀ k, k ≤ n0 → (avR r k).toInt = tI r 6 - fsI (tI r) k := by
    intro k
    induction k with
    | zero => intro _; show (r 6).toInt = (r 6).toInt - 0; omega
    | succ k ih =>
      intro hk
      have e := ih (by omega)
      have p := (aM k (by omega)).2.2.2.2.2.2.1
      have m1 := hmono (k + 1) hk
      have m2 := fsI_pos (f := tI r) (n := k) (fun m hm => aM m (by omega))
      have e3 : fsI (tI r) (k + 1) = fsI (tI r) k + tI r (16 + 7 * k + 3) := rfl
      show (avR r k - r (16 + 7 * k + 3)).toInt = _
      have e4 : (r (16 + 7 * k + 3)).toInt = tI r (16 + 7 * k + 3) := rfl
      rw [i_sub (by rw [e, e4]; omega) (by rw [e, e4]; omega), e, e4]
      omega
  refine ⟨key n hn, ?_⟩
  have := hmono n hn
  omega
theorem remR_I {n m : Nat} {r : Nat → Int32} {q : Int64} (h : WFa n r q) (hm : m < n) : (remR r m).toInt = (if 3 ≤ tI r (16 + 7 * m + 2) then 0 else tI r (16 + 7 * m + 0) - tI r (16 + 7 * m + 1)) ∧ 0 ≤ (remR r m).toInt ∧ (remR r m).toInt ≤ 99999 ∧ (remR r m).toInt ≤ tI r (16 + 7 * m + 0) - tI r (16 + 7 * m + 1) := by
  obtain ⟨a1, a2, a3, a4, a5, a6, a7, a8⟩ := h.2.2.2.2.2.2.2 m hm
  have e0 : (r (16 + 7 * m + 0)).toInt = tI r (16 + 7 * m + 0) := rfl
  have e1 : (r (16 + 7 * m + 1)).toInt = tI r (16 + 7 * m + 1) := rfl
  have e2 : (r (16 + 7 * m + 2)).toInt = tI r (16 + 7 * m + 2) := rfl
  have e3 : (3 : Int32).toInt = 3 := by decide
  by_cases c : 3 ≤ r (16 + 7 * m + 2)
  · have c2 := i_le.mp c
    rw [e3, e2] at c2
    rw [remR_0 c, if_pos c2]
    have z : (0 : Int32).toInt = 0 := by decide
    rw [z]
    omega
  · have c2 : ¬ 3 ≤ tI r (16 + 7 * m + 2) := fun q => c (i_le.mpr (by rw [e3, e2]; exact q))
    rw [remR_1 c, if_neg c2, i_sub (by rw [e0, e1]; omega) (by rw [e0, e1]; omega), e0, e1]
    omega
theorem minI_I (a b : Int32) : (minI a b).toInt = min a.toInt b.toInt := by
  unfold minI
  by_cases c : b < a
  · rw [if_pos c]
    have := i_lt.mp c
    omega
  · rw [if_neg c]
    have : ¬ b.toInt < a.toInt := fun q => c (i_lt.mpr q)
    omega
