theorem nI_mul (a b : Nat) : nI a * nI b = nI (a * b) := by
  apply Int32.toBitVec.inj
  simp [nI]
theorem nI_sub {a b : Nat} (h : b ≤ a) : nI a - nI b = nI (a - b) := by
  have e : nI a = nI (a - b) + nI b := by rw [nI_add, Nat.sub_add_cancel h]
  rw [e]
  exact Int32.add_sub_cancel _ _
theorem nI_div {a b : Nat} (ha : a < 2 ^ 31) (hb : 0 < b) (hb2 : b < 2 ^ 31) : nI a / nI b = nI (a / b) := by
  apply Int32.toInt_inj.mp
  have h1 : a / b < 2 ^ 31 := Nat.lt_of_le_of_lt (Nat.div_le_self a b) ha
  rw [Int32.toInt_div_of_ne_left _ _ (by intro e; have := congrArg Int32.toInt e; rw [nI_toInt ha] at this; have h0 : (Int32.minValue).toInt = -2147483648 := by decide
                                         omega), nI_toInt ha, nI_toInt hb2, nI_toInt h1]
  exact Int.ofNat_tdiv a b
theorem nI_rem {a b : Nat} (ha : a < 2 ^ 31) (hb : 0 < b) (hb2 : b < 2 ^ 31) : nI a - nI a / nI b * nI b = nI (a % b) := by
  rw [nI_div ha hb hb2, nI_mul, nI_sub (Nat.div_mul_le_self a b)]
  congr 1
  have := Nat.div_add_mod a b
  rw [Nat.mul_comm] at this
  omega
theorem nI_min {a b : Nat} (ha : a < 2 ^ 31) (hb : b < 2 ^ 31) : (if nI b < nI a then nI b else nI a) = nI (min a b) := by
  by_cases h : b < a
  · rw [if_pos (nI_lt h ha)]; congr 1; omega
  · rw [if_neg (nI_nlt (by omega) hb)]; congr 1; omega
theorem nI_neg {n : Nat} {k : Int32} (h : n < 2 ^ 31) (hk : k < 0) : ¬ nI n = k := fun e => nI_pos h (by rw [e]; exact hk)
theorem va_D_part {A : Nat → Prop} {X cx pl : va_W} (hD : va_D A (X ++ pl)) (is : List Nat) (hn : va_nd is = true) (hs : is.map (fun i => X[i]?) = cx.map some) : va_D A (cx ++ pl) := by
  have hl : is.length = cx.length := by have := congrArg List.length hs; simpa using this
  have hx : ∀ i ∈ is, i < X.length := fun i hi => by
    have h1 : X[i]? ∈ is.map (fun i => X[i]?) := List.mem_map.mpr ⟨i, hi, rfl⟩
    rw [hs] at h1
    obtain ⟨q, -, hq⟩ := List.mem_map.mp h1
    exact (List.getElem?_eq_some_iff.mp hq.symm).1
  refine hD.by _ (va_part is hs) (fun i j hi hj e => ?_)
  rw [List.length_append] at hi hj
  have hg : ∀ k, k < cx.length → ∃ z, is[k]? = some z ∧ z < X.length := fun k hk => by
    have hk' : k < is.length := by omega
    exact ⟨is[k], List.getElem?_eq_getElem hk', hx _ (List.getElem_mem hk')⟩
  by_cases h1 : i < cx.length <;> by_cases h2 : j < cx.length <;> simp only [h1, h2, if_true, if_false] at e
  · obtain ⟨z1, e1, -⟩ := hg i h1
    obtain ⟨z2, e2, -⟩ := hg j h2
    rw [e1, e2] at e
    simp at e
    subst e
    exact va_nd_inj is hn i j _ e1 e2
  · obtain ⟨z1, e1, q1⟩ := hg i h1
    rw [e1] at e
    simp at e
    omega
  · obtain ⟨z2, e2, q2⟩ := hg j h2
    rw [e2] at e
    simp at e
    omega
  · omega
/-- the numbers of a row are natural ones below B -/
def Rng (N B : Nat) (f : Nat → Int32) : Prop := ∀ j, j < N → ∃ n, n < B ∧ f j = nI n
theorem Rng.get {N B : Nat} {f : Nat → Int32} (h : Rng N B f) {j : Nat} (hj : j < N) : ∃ n, n < B ∧ f j = nI n := h j hj
theorem Rng.put {N B : Nat} {f : Nat → Int32} (h : Rng N B f) (k n : Nat) (hn : n < B) : Rng N B (upd f k (nI n)) := fun j hj => by
  by_cases e : j = k
  · exact ⟨n, hn, by rw [e]; exact pk_us⟩
  · obtain ⟨m, h1, h2⟩ := h j hj
    exact ⟨m, h1, (pk_un e).trans h2⟩
theorem lg_ne {x : Int64} (h : 0 < lg_cmp x 0) : x ≠ 0 := by
  intro e
  subst e
  exact absurd h (by decide)
def fu {α : Type} (f : Nat → α) (k : Nat) (v : α) : Nat → α := fun j => if j = k then v else f j
theorem fu_s {α : Type} {f : Nat → α} {k : Nat} {v : α} : fu f k v k = v := if_pos rfl
theorem fu_n {α : Type} {f : Nat → α} {k j : Nat} {v : α} (h : j ≠ k) : fu f k v j = f j := if_neg h
theorem lg_ne2 {x : Int64} (h : ¬ lg_cmp x 0 ≤ 0) : x ≠ 0 := by
  intro e
  subst e
  exact absurd (by decide) h
theorem sh1 {q : Nat} (h : q ≤ 10) : ∃ n, n ≤ 1024 ∧ (1 : Int32) <<< (nI q &&& 31) = nI n := by
  rcases (show q = 0 ∨ q = 1 ∨ q = 2 ∨ q = 3 ∨ q = 4 ∨ q = 5 ∨ q = 6 ∨ q = 7 ∨ q = 8 ∨ q = 9 ∨ q = 10 by omega) with rfl | rfl | rfl | rfl | rfl | rfl | rfl | rfl | rfl | rfl | rfl
  · exact ⟨1, by decide, by decide⟩
  · exact ⟨2, by decide, by decide⟩
  · exact ⟨4, by decide, by decide⟩
  · exact ⟨8, by decide, by decide⟩
  · exact ⟨16, by decide, by decide⟩
  · exact ⟨32, by decide, by decide⟩
  · exact ⟨64, by decide, by decide⟩
  · exact ⟨128, by decide, by decide⟩
  · exact ⟨256, by decide, by decide⟩
  · exact ⟨512, by decide, by decide⟩
  · exact ⟨1024, by decide, by decide⟩
theorem ix_eq {i : Int32} (c : ¬ i < 0) : i = nI i.toNatClampNeg := by
  obtain ⟨j, hj, e⟩ := nI_of c
  rw [e, nI_clamp hj]
theorem ix_lt {i : Int32} {n : Nat} (c1 : ¬ i < 0) (c2 : i < nI n) (hn : n < 2147483648) : i.toNatClampNeg < n := by
  obtain ⟨j, hj, e⟩ := nI_of c1
  rw [e, nI_clamp hj]
  rw [e] at c2
  exact (nI_ltI hj hn).mp c2
theorem rg_nn {v : Int32} {lo : Nat} (c : ¬ v < nI lo) (hl : lo < 2147483648) : ¬ v < 0 := fun h => c (Int32.lt_of_lt_of_le h (nI_pos' hl))
theorem rg_eq {v : Int32} {lo hi : Nat} (c : ¬ v < nI lo) (h : lo ≤ hi) (hh : hi < 2147483648) : v = nI v.toNatClampNeg := ix_eq (rg_nn c (by omega))
theorem rg_lo {v : Int32} {lo hi : Nat} (c : ¬ v < nI lo) (h : lo ≤ hi) (hh : hi < 2147483648) : lo ≤ v.toNatClampNeg := by
  obtain ⟨j, hj, e⟩ := nI_of (rg_nn c (by omega))
  rw [e, nI_clamp hj]
  rw [e] at c
  exact Nat.le_of_not_lt (fun q => c (nI_lt q (by omega)))
theorem rg_hi {v : Int32} {lo hi : Nat} (c : ¬ v < nI lo) (c2 : v ≤ nI hi) (h : lo ≤ hi) (hh : hi < 2147483648) : v.toNatClampNeg ≤ hi := by
  obtain ⟨j, hj, e⟩ := nI_of (rg_nn c (by omega))
  rw [e, nI_clamp hj]
  rw [e] at c2
  exact (nI_leI hj hh).mp c2
/-- the cells of the remembered account k -/
def memC (cA : Nat → ClassId) (q : Nat → Nat → Nat) (mp : Nat → Nat) (mi : Nat → Nat → Int32) (ml : Nat → Nat → Int64) (mn mk : Nat → Nat) (mf : Nat → Nat → Nat → Int32) (k : Nat) : va_W := [(q k 0, .inr (4, [.ref (mp k), .ref (q k 1), .ref (q k 3), .ref (q k 4), .ref (q k 5), .ref (q k 6), .int (mi k 6), .int (mi k 7), .int (mi k 8), .long (ml k 9), .long (ml k 10), .long (ml k 11), .int (mi k 12), .int (mi k 13), .int (mi k 14), .int (mi k 15), .int (mi k 16), .int (mi k 17), .int (mi k 18), .int (mi k 19)])), (q k 1, .inr (6, [.ref (q k 2), .int (nI (mn k)), .int (nI (mk k))])), (q k 2, .inl (cA 0, 240, .inl (mf k 2))), (q k 3, .inl (cA 0, 10, .inl (mf k 3))), (q k 4, .inl (cA 0, 10, .inl (mf k 4))), (q k 5, .inl (cA 0, 10, .inl (mf k 5))), (q k 6, .inl (cA 0, 10, .inl (mf k 6)))]
def memW (cA : Nat → ClassId) (q : Nat → Nat → Nat) (mp : Nat → Nat) (mi : Nat → Nat → Int32) (ml : Nat → Nat → Int64) (mn mk : Nat → Nat) (mf : Nat → Nat → Nat → Int32) : va_W := memC cA q mp mi ml mn mk mf 0 ++ memC cA q mp mi ml mn mk mf 1 ++ memC cA q mp mi ml mn mk mf 2 ++ memC cA q mp mi ml mn mk mf 3 ++ memC cA q mp mi ml mn mk mf 4 ++ memC cA q mp mi ml mn mk mf 5 ++ memC cA q mp mi ml mn mk mf 6 ++ memC cA q mp mi ml mn mk mf 7 ++ memC cA q mp mi ml mn mk mf 8 ++ memC cA q mp mi ml mn mk mf 9
/-- the remembered ledgers are in their range -/
def MB (mn mk : Nat → Nat) : Prop := ∀ k, k < 10 → mn k < 60 ∧ mk k ≤ 60
theorem MB.put {mn mk : Nat → Nat} (h : MB mn mk) (k a b : Nat) (ha : a < 60) (hb : b ≤ 60) : MB (fu mn k a) (fu mk k b) := fun j hj => by
  by_cases e : j = k
  · subst e; rw [fu_s, fu_s]; exact ⟨ha, hb⟩
  · rw [fu_n e, fu_n e]; exact h j hj
/-- the accounts that can be restored have the present plan -/
def Win (p n c : Nat) (mp : Nat → Nat) : Prop := ∀ j, j < c → mp ((n + 9 - j) % 10) = p
theorem Win.put {p n c : Nat} {mp : Nat → Nat} (hn : n < 10) (hc : c ≤ 10) (h : Win p n c mp) : Win p ((n + 1) % 10) (min (c + 1) 10) (fu mp n p) := fun j hj => by
  by_cases e : ((n + 1) % 10 + 9 - j) % 10 = n
  · rw [e, fu_s]
  · rw [fu_n e]
    have hj0 : j ≠ 0 := fun z => e (by subst z; omega)
    have := h (j - 1) (by omega)
    rw [show (n + 9 - (j - 1)) % 10 = ((n + 1) % 10 + 9 - j) % 10 by omega] at this
    exact this
theorem Win.take {p n c : Nat} {mp : Nat → Nat} (hn : n < 10) (hc : c ≤ 10) (h : Win p n c mp) (h0 : 0 < c) : mp ((n + 10 - 1) % 10) = p ∧ Win p ((n + 10 - 1) % 10) (c - 1) mp := by
  refine ⟨?_, fun j hj => ?_⟩
  · have := h 0 h0
    rw [show (n + 9 - 0) % 10 = (n + 10 - 1) % 10 by omega] at this
    exact this
  · have := h (j + 1) (by omega)
    rw [show (n + 9 - (j + 1)) % 10 = ((n + 10 - 1) % 10 + 9 - j) % 10 by omega] at this
    exact this
def FRq (q : Nat → Nat → Nat) (f : Nat → Option Nat) : Prop := ∀ k, k < 10 → f k = some (q k 0)
theorem nI_dec {a b : Nat} (h : a = b + 1) : nI a + (-1) = nI b := by
  subst h
  rw [← nI_1, Int32.add_assoc, show (1 : Int32) + -1 = 0 by decide, Int32.add_zero]
theorem nI_sub0 {a : Nat} (h : a = 0) : nI a - 1 = -1 := by
  subst h
  decide
theorem ix_in {i : Int32} {n N : Nat} (c1 : ¬ i < 0) (c2 : ¬ nI n ≤ i) (h : n ≤ N) (hN : N < 2147483648) : vp_in i N := by
  obtain ⟨j, hj, e⟩ := nI_of c1
  rw [e] at c2 ⊢
  exact vp_in_nI (Nat.lt_of_lt_of_le (Nat.lt_of_not_le (fun q => c2 (nI_le q hj))) h) hN
/-- the row of an account: milestones, proofs, entries, day, basis -/
def RI (c q e d : Nat) (f : Nat → Int32) : Prop := f 13 = nI c ∧ f 14 = nI q ∧ f 15 = nI e ∧ f 4 = nI d ∧ ∃ b, 0 < b ∧ b ≤ 365 ∧ f 1 = nI b
theorem RI.put {c q e d : Nat} {f : Nat → Int32} (h : RI c q e d f) (k : Nat) (v : Int32) (h1 : k ≠ 13) (h2 : k ≠ 14) (h3 : k ≠ 15) (h4 : k ≠ 4) (h5 : k ≠ 1) : RI c q e d (upd f k v) :=
  ⟨(pk_un h1.symm).trans h.1, (pk_un h2.symm).trans h.2.1, (pk_un h3.symm).trans h.2.2.1, (pk_un h4.symm).trans h.2.2.2.1, by obtain ⟨b, b1, b2, b3⟩ := h.2.2.2.2; exact ⟨b, b1, b2, (pk_un h5.symm).trans b3⟩⟩
theorem RI.putI {c q e d : Nat} {f : Nat → Int32} (h : RI c q e d f) (k : Nat) (v : Int32) (h1 : 16 ≤ k) (h2 : k < 2147483648) : RI c q e d (upd f (nI k).toNatClampNeg v) := by
  rw [nI_clamp h2]
  exact h.put k v (by omega) (by omega) (by omega) (by omega) (by omega)
theorem RI.ent {c q e d : Nat} {f : Nat → Int32} (h : RI c q e d f) (n : Nat) : RI c q n d (upd f 15 (nI n)) :=
  ⟨(pk_un (by decide)).trans h.1, (pk_un (by decide)).trans h.2.1, pk_us, (pk_un (by decide)).trans h.2.2.2.1, by obtain ⟨b, b1, b2, b3⟩ := h.2.2.2.2; exact ⟨b, b1, b2, (pk_un (by decide)).trans b3⟩⟩
theorem RI.day {c q e d : Nat} {f : Nat → Int32} (h : RI c q e d f) (n : Nat) : RI c q e n (upd f 4 (nI n)) :=
  ⟨(pk_un (by decide)).trans h.1, (pk_un (by decide)).trans h.2.1, (pk_un (by decide)).trans h.2.2.1, pk_us, by obtain ⟨b, b1, b2, b3⟩ := h.2.2.2.2; exact ⟨b, b1, b2, (pk_un (by decide)).trans b3⟩⟩
theorem RI.bas {c q e d : Nat} {f : Nat → Int32} (h : RI c q e d f) (n : Nat) (h1 : 0 < n) (h2 : n ≤ 365) : RI c q e d (upd f 1 (nI n)) :=
  ⟨(pk_un (by decide)).trans h.1, (pk_un (by decide)).trans h.2.1, (pk_un (by decide)).trans h.2.2.1, (pk_un (by decide)).trans h.2.2.2.1, n, h1, h2, pk_us⟩
theorem RI.same {c q e d : Nat} {f g : Nat → Int32} (h : RI c q e d f) (hg : ∀ j, j < 326 → g j = f j) : RI c q e d g :=
  ⟨(hg 13 (by decide)).trans h.1, (hg 14 (by decide)).trans h.2.1, (hg 15 (by decide)).trans h.2.2.1, (hg 4 (by decide)).trans h.2.2.2.1, by obtain ⟨b, b1, b2, b3⟩ := h.2.2.2.2; exact ⟨b, b1, b2, (hg 1 (by decide)).trans b3⟩⟩
theorem btw_nat {m : Int32} {k : Nat} (h1 : 0 ≤ m.toInt64) (h2 : m.toInt64 ≤ (nI k).toInt64) (hk : k < 2147483648) : ∃ n, n < k + 1 ∧ m = nI n := by
  rw [Int64.le_iff_toInt_le, Int32.toInt_toInt64] at h1 h2
  rw [Int32.toInt_toInt64, nI_toInt hk] at h2
  have a0 : (0 : Int64).toInt = 0 := by decide
  have a1 : (0 : Int32).toInt = 0 := by decide
  obtain ⟨j, hj, e⟩ := nI_of (x := m) (by rw [Int32.lt_iff_toInt_lt]; omega)
  rw [e, nI_toInt hj] at h2
  exact ⟨j, by omega, e⟩
theorem btw_c {m : Int32} {lo hi : Nat} {lo' hi' : Int64} (e1 : lo'.toInt = lo) (e2 : hi'.toInt = hi) (h1 : lo' ≤ m.toInt64) (h2 : m.toInt64 ≤ hi') : ∃ n, lo ≤ n ∧ n ≤ hi ∧ m = nI n := by
  rw [Int64.le_iff_toInt_le, Int32.toInt_toInt64] at h1 h2
  have a1 : (0 : Int32).toInt = 0 := by decide
  obtain ⟨j, hj, e⟩ := nI_of (x := m) (by rw [Int32.lt_iff_toInt_lt]; omega)
  rw [e, nI_toInt hj] at h1 h2
  exact ⟨j, by omega, by omega, e⟩
theorem btw_no {m : Int32} (h1 : 0 ≤ m.toInt64) (h2 : m.toInt64 ≤ -1) : False := by
  rw [Int64.le_iff_toInt_le] at h1 h2
  have a0 : (0 : Int64).toInt = 0 := by decide
  have a1 : (-1 : Int64).toInt = -1 := by decide
  omega
theorem lg_ne3 {x : Int64} (h : ¬ lg_cmp x 0 = 0) : x ≠ 0 := by
  intro e
  subst e
  exact h (by decide)
theorem lg_nlt {x y : Int64} (h : ¬ lg_cmp x y < 0) : y ≤ x := Int64.not_lt.mp (fun q => h (lg_lt.mpr q))
theorem lg_ngt {x y : Int64} (h : ¬ 0 < lg_cmp x y) : x ≤ y := Int64.not_lt.mp (fun q => h (lg_gt.mpr q))
theorem bas_ne {n : Nat} {y : Int64} (h1 : 0 < n) (h2 : n ≤ 365) (e : y = 10000 * (nI n).toInt64) : y ≠ 0 := by
  intro q
  rw [nI_l (by omega), show (10000 : Int64) = lN 10000 from rfl, lN_mul] at e
  have := congrArg Int64.toInt (e.symm.trans q)
  rw [lN_toInt (by omega)] at this
  have a0 : (0 : Int64).toInt = 0 := by decide
  omega
/-- one number of a row -/
def Elem (k n : Nat) (f : Nat → Int32) : Prop := f k = nI n
/-- a row of truth values -/
def Bit (N : Nat) (f : Nat → Int32) : Prop := ∀ j, j < N → f j = 0 ∨ f j = 1
theorem Bit.put {N : Nat} {f : Nat → Int32} (h : Bit N f) (k : Nat) {v : Int32} (hv : v = 0 ∨ v = 1) : Bit N (upd f k (vp_nar .boolean v)) := fun j hj => by
  by_cases e : j = k
  · subst e
    rw [pk_us]
    rcases hv with q | q <;> rw [q]
    · exact Or.inl rfl
    · exact Or.inr rfl
  · rw [pk_un e]; exact h j hj
/-- n codes from k on, with d values waiting, never want a value that isn't there -/
def Pfx (f : Nat → Int32) : Nat → Nat → Nat → Prop
  | 0, _, _ => True
  | n + 1, k, d => (f k = -3 ∧ 1 ≤ d ∧ Pfx f n (k + 1) d) ∨ (f k ≠ -3 ∧ f k < 0 ∧ 2 ≤ d ∧ Pfx f n (k + 1) (d - 1)) ∨ (f k ≠ -3 ∧ ¬ f k < 0 ∧ Pfx f n (k + 1) (d + 1))
theorem pfx_at {f : Nat → Int32} {b i d : Nat} (h : Pfx f (b - i) i d) (hi : i < b) : (f i = -3 ∧ 1 ≤ d ∧ Pfx f (b - (i + 1)) (i + 1) d) ∨ (f i ≠ -3 ∧ f i < 0 ∧ 2 ≤ d ∧ Pfx f (b - (i + 1)) (i + 1) (d - 1)) ∨ (f i ≠ -3 ∧ ¬ f i < 0 ∧ Pfx f (b - (i + 1)) (i + 1) (d + 1)) := by
  rw [show b - i = (b - (i + 1)) + 1 by omega] at h
  exact h
theorem pfx_not {f : Nat → Int32} {b i d : Nat} (h : Pfx f (b - i) i d) (hi : i < b) (e : f i = -3) : 1 ≤ d ∧ Pfx f (b - (i + 1)) (i + 1) d := by
  rcases pfx_at h hi with q | q | q
  · exact q.2
  · exact absurd e q.1
  · exact absurd e q.1
theorem pfx_bin {f : Nat → Int32} {b i d : Nat} (h : Pfx f (b - i) i d) (hi : i < b) (e : ¬ f i = -3) (e2 : f i < 0) : 2 ≤ d ∧ Pfx f (b - (i + 1)) (i + 1) (d - 1) := by
  rcases pfx_at h hi with q | q | q
  · exact absurd q.1 e
  · exact q.2.2
  · exact absurd e2 q.2.1
theorem pfx_push {f : Nat → Int32} {b i d : Nat} (h : Pfx f (b - i) i d) (hi : i < b) (e : ¬ f i = -3) (e2 : ¬ f i < 0) : Pfx f (b - (i + 1)) (i + 1) (d + 1) := by
  rcases pfx_at h hi with q | q | q
  · exact absurd q.1 e
  · exact absurd q.2.1 e2
  · exact q.2.2
/-- the codes of every milestone below c -/
def CW (c : Nat) (fc fq : Nat → Int32) : Prop := ∀ m, m < c → ∃ a b, a ≤ b ∧ b ≤ 400 ∧ Elem m a fq ∧ Elem (m + 1) b fq ∧ Pfx fc (b - a) a 0
def Cp (i : Nat) (f g : Nat → Int32) : Prop := ∀ j, j < i → g j = f j
theorem Cp.step {i : Nat} {f g : Nat → Int32} (hi : i < 2147483648) (h : Cp i f g) : Cp (i + 1) f (upd g (nI i).toNatClampNeg (f (nI i).toNatClampNeg)) := by
  rw [nI_clamp hi]
  intro j hj
  by_cases e : j = i
  · subst e; exact pk_us
  · exact (pk_un e).trans (h j (by omega))
theorem Nul.stepZ {i : Nat} {f : Nat → Int32} (hi : i < 326) (h : Nul i f) : Nul (i + 1) (upd f (nI i).toNatClampNeg 0) := Nul.step hi h
theorem Nul.ri {f : Nat → Int32} (h : Nul 326 f) : RI 0 0 0 0 (upd f 1 365) := ⟨(pk_un (by decide)).trans (h 13 (by decide)), (pk_un (by decide)).trans (h 14 (by decide)), (pk_un (by decide)).trans (h 15 (by decide)), (pk_un (by decide)).trans (h 4 (by decide)), 365, by decide, by decide, pk_us⟩
/-- the rows of the edits that can be undone -/
def HI (c q n : Nat) (f : Nat → Int32) : Prop := ∀ k, k < n → ∃ e d, e ≤ 60 ∧ d ≤ 9999 ∧ RI c q e d (fun i => f (326 * k + i))
def Hcp (n i : Nat) (g f0 f : Nat → Int32) : Prop := ∀ x, f x = if 326 * n ≤ x ∧ x < 326 * n + i then g (x - 326 * n) else f0 x
theorem Hcp.zero (n : Nat) (g f : Nat → Int32) : Hcp n 0 g f f := fun x => by rw [if_neg (by omega)]
theorem Hcp.step {n i : Nat} {g f0 f : Nat → Int32} (hi : 326 * n + i < 2147483648) (h : Hcp n i g f0 f) : Hcp n (i + 1) g f0 (upd f (nI (326 * n + i)).toNatClampNeg (g (nI i).toNatClampNeg)) := by
  rw [nI_clamp hi, nI_clamp (by omega)]
  intro x
  by_cases e : x = 326 * n + i
  · subst e
    rw [pk_us, if_pos (by omega), show 326 * n + i - 326 * n = i by omega]
  · rw [pk_un e, h x]
    by_cases q : 326 * n ≤ x ∧ x < 326 * n + i
    · rw [if_pos q, if_pos (by omega)]
    · rw [if_neg q, if_neg (by omega)]
theorem Hcp.hi {c q n e d : Nat} {g f0 f : Nat → Int32} (h : Hcp n 326 g f0 f) (h0 : HI c q n f0) (hg : RI c q e d g) (he : e ≤ 60) (hd : d ≤ 9999) : HI c q (n + 1) f := fun k hk => by
  by_cases q : k = n
  · subst q
    exact ⟨e, d, he, hd, hg.same (fun j hj => by rw [h, if_pos (by omega)]; congr 1; omega)⟩
  · obtain ⟨e', d', a1, a2, a3⟩ := h0 k (by omega)
    exact ⟨e', d', a1, a2, a3.same (fun j hj => by rw [h, if_neg (by omega)])⟩
def Shf (i : Nat) (f0 f : Nat → Int32) : Prop := ∀ x, f x = if x + 326 < i then f0 (x + 326) else f0 x
theorem Shf.zero (f : Nat → Int32) : Shf 326 f f := fun x => by rw [if_neg (by omega)]
theorem Shf.step {i : Nat} {f0 f : Nat → Int32} (h1 : 326 ≤ i) (h2 : i < 3260) (h : Shf i f0 f) : Shf (i + 1) f0 (upd f (nI (i - 326)).toNatClampNeg (f (nI i).toNatClampNeg)) := by
  rw [nI_clamp (by omega), nI_clamp (by omega)]
  intro x
  by_cases e : x = i - 326
  · rw [e, pk_us, if_pos (by omega), h i, if_neg (by omega), show i - 326 + 326 = i by omega]
  · rw [pk_un e, h x]
    by_cases q : x + 326 < i
    · rw [if_pos q, if_pos (by omega)]
    · rw [if_neg q, if_neg (by omega)]
theorem Shf.hi {c q n : Nat} {f0 f : Nat → Int32} (h : Shf 3260 f0 f) (h0 : HI c q n f0) (hn : n = 10) : HI c q (n - 1) f := fun k hk => by
  obtain ⟨e, d, a1, a2, a3⟩ := h0 (k + 1) (by omega)
  refine ⟨e, d, a1, a2, a3.same (fun j hj => ?_)⟩
  show f (326 * k + j) = f0 (326 * (k + 1) + j)
  rw [h, if_pos (by omega)]
  congr 1
  omega
def Ucp (i n : Nat) (f0 f : Nat → Int32) : Prop := ∀ j, j < i → f j = f0 (326 * n + j)
theorem Ucp.step {i n : Nat} {f0 f : Nat → Int32} (hi : i < 326) (hn : n < 1000) (h : Ucp i n f0 f) : Ucp (i + 1) n f0 (upd f (nI i).toNatClampNeg (f0 (nI (326 * n + i)).toNatClampNeg)) := by
  rw [nI_clamp (by omega), nI_clamp (by omega)]
  intro j hj
  by_cases e : j = i
  · subst e; exact pk_us
  · exact (pk_un e).trans (h j (by omega))
theorem Ucp.ri {c q n m : Nat} {f0 f : Nat → Int32} (h : Ucp 326 m f0 f) (h0 : HI c q n f0) (hm : m < n) : ∃ e d, e ≤ 60 ∧ d ≤ 9999 ∧ RI c q e d f := by
  obtain ⟨e, d, a1, a2, a3⟩ := h0 m hm
  exact ⟨e, d, a1, a2, a3.same (fun j hj => h j hj)⟩
theorem HI.less {c q n : Nat} {f : Nat → Int32} (h : HI c q n f) : HI c q (n - 1) f := fun k hk => h k (by omega)
theorem va_ldcwS {p : Program} {l : Launch} {e : Env} {R : Room} {s : State} {m : MethodId} {args : Array Value} {below : List Frame} {meth : Method} {c : Code} {H : Heap} {locs : List Loc} {cells slots : Nat} {Q : State → Prop} {cc : ByteArray} {pc : Nat} {ls : Array Slot} {rest : List Value} (hexec : p.tables.exec = Jvm.exec) (hb : c.code = cc) {own tx : String} {index q : Nat} (hown : s.vm.findClass own = some m.cls) (hZ : vk_R own index tx q s) (hdg : decode cc pc = .ok (.ldc_w index, 3))
    (k : W p l e R s m args below meth c H locs cells slots Q (F0 m (pc + 3) ls (.ref q :: rest))) : W p l e R s m args below meth c H locs cells slots Q (F0 m pc ls rest) := by
  intro T hT X
  obtain ⟨t, a1, b1⟩ := k T hT X
  exact ⟨t, X.ldcStringW hexec hown (text := tx) (a := q) hZ.1 hZ.2 (g := F0 m pc ls rest) rfl (by rw [hb]; exact hdg) t a1, b1⟩
theorem nar_i2c {x y : Int32} (e : y = (x.toUInt32 % 65536).toInt32) : narrow .char (.int y) = .int y := by
  rw [e]
  simp only [narrow]
  congr 1
  apply Int32.toBitVec.inj
  simp
  apply BitVec.eq_of_toNat_eq
  simp [BitVec.toNat_umod]
theorem cb_lt {x : Int32} (h : ¬ x = 0) {n : Nat} (hn : x.toBitVec.toNat ≤ n + 1) : (x &&& (x - 1)).toBitVec.toNat ≤ n := by
  have h0 : x.toBitVec.toNat ≠ 0 := fun q => h (Int32.toBitVec.inj (BitVec.eq_of_toNat_eq (by rw [q]; rfl)))
  have h1 : (x - 1).toBitVec.toNat = x.toBitVec.toNat - 1 := by
    rw [Int32.toBitVec_sub, BitVec.toNat_sub]
    have e1 : (1 : Int32).toBitVec.toNat = 1 := by decide
    rw [e1]
    have := x.toBitVec.isLt
    omega
  rw [Int32.toBitVec_and, BitVec.toNat_and, h1]
  exact Nat.le_trans Nat.and_le_right (by omega)
theorem cb_z {x : Int32} (h : x.toBitVec.toNat ≤ 0) : x = 0 := Int32.toBitVec.inj (BitVec.eq_of_toNat_eq (by rw [Nat.le_zero.mp h]; rfl))
/-- what is left of a word behind i letters -/
def LB (i : Nat) (x : Int64) : Prop := x.toInt * ((32 ^ i : Nat) : Int) ≤ 9223372036854775808
theorem LB.zero (x : Int64) : LB 0 x := by
  have := Int64.toInt_lt x
  unfold LB
  simp
  omega
theorem LB.step {i : Nat} {x y : Int64} (h : LB i x) (hx : 0 < lg_cmp x 0) (e : y = x / 32) : LB (i + 1) y := by
  have h0 := lg_gt.mp hx
  rw [Int64.lt_iff_toInt_lt] at h0
  have a0 : (0 : Int64).toInt = 0 := by decide
  have a1 : (32 : Int64).toInt = 32 := by decide
  have e1 : y.toInt = x.toInt.tdiv 32 := by
    rw [e, Int64.toInt_div_of_ne_right _ _ (by decide), a1]
  have e2 : y.toInt * 32 ≤ x.toInt := by
    rw [e1, Int.tdiv_eq_ediv_of_nonneg (by omega)]
    omega
  unfold LB at *
  rw [Nat.pow_succ]
  have p : (0 : Int) ≤ ((32 ^ i : Nat) : Int) := Int.natCast_nonneg _
  calc y.toInt * ((32 ^ i * 32 : Nat) : Int) = (y.toInt * 32) * ((32 ^ i : Nat) : Int) := by
        rw [Int.natCast_mul]
        have : ((32 : Nat) : Int) = 32 := rfl
        rw [this, Int.mul_assoc, Int.mul_comm 32]
    _ ≤ x.toInt * ((32 ^ i : Nat) : Int) := Int.mul_le_mul_of_nonneg_right e2 p
    _ ≤ _ := h
theorem LB.last {x : Int64} (h : LB 13 x) : lg_cmp x 0 ≤ 0 := by
  refine Int32.not_lt.mp (fun q => ?_)
  have h0 := lg_gt.mp q
  rw [Int64.lt_iff_toInt_lt] at h0
  have a0 : (0 : Int64).toInt = 0 := by decide
  unfold LB at h
  have e : ((32 ^ 13 : Nat) : Int) = 36893488147419103232 := by decide
  rw [e] at h
  omega
theorem dv9 (v : Int32) : v / 1000000000 ≤ 9 := by
  rw [Int32.le_iff_toInt_le, Int32.toInt_div_of_ne_right _ _ (by decide)]
  have a1 : (1000000000 : Int32).toInt = 1000000000 := by decide
  have a2 : (9 : Int32).toInt = 9 := by decide
  rw [a1, a2]
  have := Int32.toInt_lt v
  by_cases h : 0 ≤ v.toInt
  · rw [Int.tdiv_eq_ediv_of_nonneg h]
    omega
  · have h2 : v.toInt.tdiv 1000000000 = -((-v.toInt).tdiv 1000000000) := by rw [Int.neg_tdiv, Int.neg_neg]
    rw [h2, Int.tdiv_eq_ediv_of_nonneg (by omega)]
    omega
