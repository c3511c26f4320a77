theorem nI_mul (a b : Nat) : nI a * nI b = nI (a * b) := by
  apply Int32.toBitVec.inj
  simp [nI]
theorem nI_sub {a b : Nat} (h : b ≤ a) : nI a - nI b = nI (a - b) := by
  have e : nI a = nI (a - b) + nI b := by rw [nI_add, Nat.sub_add_cancel h]
  rw [e]
  exact Int32.add_sub_cancel _ _
theorem nI_div {a b : Nat} (ha : a < 2 ^ 31) (hb : 0 < b) (hb2 : b < 2 ^ 31) : nI a / nI b = nI (a / b) := by
  apply Int32.toInt_inj.mp
  have h1 : a / b < 2 ^ 31 := Nat.lt_of_le_of_lt (Nat.div_le_self a b) ha
  rw [Int32.toInt_div_of_ne_left _ _ (by intro e; have := congrArg Int32.toInt e; rw [nI_toInt ha] at this; have h0 : (Int32.minValue).toInt = -2147483648 := by decide
                                         omega), nI_toInt ha, nI_toInt hb2, nI_toInt h1]
  exact Int.ofNat_tdiv a b
theorem nI_rem {a b : Nat} (ha : a < 2 ^ 31) (hb : 0 < b) (hb2 : b < 2 ^ 31) : nI a - nI a / nI b * nI b = nI (a % b) := by
  rw [nI_div ha hb hb2, nI_mul, nI_sub (Nat.div_mul_le_self a b)]
  congr 1
  have := Nat.div_add_mod a b
  rw [Nat.mul_comm] at this
  omega
theorem nI_min {a b : Nat} (ha : a < 2 ^ 31) (hb : b < 2 ^ 31) : (if nI b < nI a then nI b else nI a) = nI (min a b) := by
  by_cases h : b < a
  · rw [if_pos (nI_lt h ha)]; congr 1; omega
  · rw [if_neg (nI_nlt (by omega) hb)]; congr 1; omega
theorem nI_neg {n : Nat} {k : Int32} (h : n < 2 ^ 31) (hk : k < 0) : ¬ nI n = k := fun e => nI_pos h (by rw [e]; exact hk)
theorem va_D_part {A : Nat → Prop} {X cx pl : va_W} (hD : va_D A (X ++ pl)) (is : List Nat) (hn : va_nd is = true) (hs : is.map (fun i => X[i]?) = cx.map some) : va_D A (cx ++ pl) := by
  have hl : is.length = cx.length := by have := congrArg List.length hs; simpa using this
  have hx : ∀ i ∈ is, i < X.length := fun i hi => by
    have h1 : X[i]? ∈ is.map (fun i => X[i]?) := List.mem_map.mpr ⟨i, hi, rfl⟩
    rw [hs] at h1
    obtain ⟨q, -, hq⟩ := List.mem_map.mp h1
    exact (List.getElem?_eq_some_iff.mp hq.symm).1
  refine hD.by _ (va_part is hs) (fun i j hi hj e => ?_)
  rw [List.length_append] at hi hj
  have hg : ∀ k, k < cx.length → ∃ z, is[k]? = some z ∧ z < X.length := fun k hk => by
    have hk' : k < is.length := by omega
    exact ⟨is[k], List.getElem?_eq_getElem hk', hx _ (List.getElem_mem hk')⟩
  by_cases h1 : i < cx.length <;> by_cases h2 : j < cx.length <;> simp only [h1, h2, if_true, if_false] at e
  · obtain ⟨z1, e1, -⟩ := hg i h1
    obtain ⟨z2, e2, -⟩ := hg j h2
    rw [e1, e2] at e
    simp at e
    subst e
    exact va_nd_inj is hn i j _ e1 e2
  · obtain ⟨z1, e1, q1⟩ := hg i h1
    rw [e1] at e
    simp at e
    omega
  · obtain ⟨z2, e2, q2⟩ := hg j h2
    rw [e2] at e
    simp at e
    omega
  · omega
/-- the numbers of a row are natural ones below B -/
def Rng (N B : Nat) (f : Nat → Int32) : Prop := ∀ j, j < N → ∃ n, n < B ∧ f j = nI n
theorem Rng.get {N B : Nat} {f : Nat → Int32} (h : Rng N B f) {j : Nat} (hj : j < N) : ∃ n, n < B ∧ f j = nI n := h j hj
theorem Rng.put {N B : Nat} {f : Nat → Int32} (h : Rng N B f) (k n : Nat) (hn : n < B) : Rng N B (upd f k (nI n)) := fun j hj => by
  by_cases e : j = k
  · exact ⟨n, hn, by rw [e]; exact pk_us⟩
  · obtain ⟨m, h1, h2⟩ := h j hj
    exact ⟨m, h1, (pk_un e).trans h2⟩
theorem lg_ne {x : Int64} (h : 0 < lg_cmp x 0) : x ≠ 0 := by
  intro e
  subst e
  exact absurd h (by decide)
def fu {α : Type} (f : Nat → α) (k : Nat) (v : α) : Nat → α := fun j => if j = k then v else f j
theorem fu_s {α : Type} {f : Nat → α} {k : Nat} {v : α} : fu f k v k = v := if_pos rfl
theorem fu_n {α : Type} {f : Nat → α} {k j : Nat} {v : α} (h : j ≠ k) : fu f k v j = f j := if_neg h
theorem lg_ne2 {x : Int64} (h : ¬ lg_cmp x 0 ≤ 0) : x ≠ 0 := by
  intro e
  subst e
  exact absurd (by decide) h
theorem sh1 {q : Nat} (h : q ≤ 10) : ∃ n, n ≤ 1024 ∧ (1 : Int32) <<< (nI q &&& 31) = nI n := by
  rcases (show q = 0 ∨ q = 1 ∨ q = 2 ∨ q = 3 ∨ q = 4 ∨ q = 5 ∨ q = 6 ∨ q = 7 ∨ q = 8 ∨ q = 9 ∨ q = 10 by omega) with rfl | rfl | rfl | rfl | rfl | rfl | rfl | rfl | rfl | rfl | rfl
  · exact ⟨1, by decide, by decide⟩
  · exact ⟨2, by decide, by decide⟩
  · exact ⟨4, by decide, by decide⟩
  · exact ⟨8, by decide, by decide⟩
  · exact ⟨16, by decide, by decide⟩
  · exact ⟨32, by decide, by decide⟩
  · exact ⟨64, by decide, by decide⟩
  · exact ⟨128, by decide, by decide⟩
  · exact ⟨256, by decide, by decide⟩
  · exact ⟨512, by decide, by decide⟩
  · exact ⟨1024, by decide, by decide⟩
theorem ix_eq {i : Int32} (c : ¬ i < 0) : i = nI i.toNatClampNeg := by
  obtain ⟨j, hj, e⟩ := nI_of c
  rw [e, nI_clamp hj]
theorem ix_lt {i : Int32} {n : Nat} (c1 : ¬ i < 0) (c2 : i < nI n) (hn : n < 2147483648) : i.toNatClampNeg < n := by
  obtain ⟨j, hj, e⟩ := nI_of c1
  rw [e, nI_clamp hj]
  rw [e] at c2
  exact (nI_ltI hj hn).mp c2
theorem rg_nn {v : Int32} {lo : Nat} (c : ¬ v < nI lo) (hl : lo < 2147483648) : ¬ v < 0 := fun h => c (Int32.lt_of_lt_of_le h (nI_pos' hl))
theorem rg_eq {v : Int32} {lo hi : Nat} (c : ¬ v < nI lo) (h : lo ≤ hi) (hh : hi < 2147483648) : v = nI v.toNatClampNeg := ix_eq (rg_nn c (by omega))
theorem rg_lo {v : Int32} {lo hi : Nat} (c : ¬ v < nI lo) (h : lo ≤ hi) (hh : hi < 2147483648) : lo ≤ v.toNatClampNeg := by
  obtain ⟨j, hj, e⟩ := nI_of (rg_nn c (by omega))
  rw [e, nI_clamp hj]
  rw [e] at c
  exact Nat.le_of_not_lt (fun q => c (nI_lt q (by omega)))
theorem rg_hi {v : Int32} {lo hi : Nat} (c : ¬ v < nI lo) (c2 : v ≤ nI hi) (h : lo ≤ hi) (hh : hi < 2147483648) : v.toNatClampNeg ≤ hi := by
  obtain ⟨j, hj, e⟩ := nI_of (rg_nn c (by omega))
  rw [e, nI_clamp hj]
  rw [e] at c2
  exact (nI_leI hj hh).mp c2
/-- the cells of the remembered account k -/
def memC (cA : Nat → ClassId) (q : Nat → Nat → Nat) (mp : Nat → Nat) (mi : Nat → Nat → Int32) (ml : Nat → Nat → Int64) (mn mk : Nat → Nat) (mf : Nat → Nat → Nat → Int32) (k : Nat) : va_W := [(q k 0, .inr (4, [.ref (mp k), .ref (q k 1), .ref (q k 3), .ref (q k 4), .ref (q k 5), .ref (q k 6), .int (mi k 6), .int (mi k 7), .int (mi k 8), .long (ml k 9), .long (ml k 10), .long (ml k 11), .int (mi k 12), .int (mi k 13), .int (mi k 14), .int (mi k 15), .int (mi k 16), .int (mi k 17), .int (mi k 18), .int (mi k 19)])), (q k 1, .inr (6, [.ref (q k 2), .int (nI (mn k)), .int (nI (mk k))])), (q k 2, .inl (cA 0, 240, .inl (mf k 2))), (q k 3, .inl (cA 0, 10, .inl (mf k 3))), (q k 4, .inl (cA 0, 10, .inl (mf k 4))), (q k 5, .inl (cA 0, 10, .inl (mf k 5))), (q k 6, .inl (cA 0, 10, .inl (mf k 6)))]
def memW (cA : Nat → ClassId) (q : Nat → Nat → Nat) (mp : Nat → Nat) (mi : Nat → Nat → Int32) (ml : Nat → Nat → Int64) (mn mk : Nat → Nat) (mf : Nat → Nat → Nat → Int32) : va_W := memC cA q mp mi ml mn mk mf 0 ++ memC cA q mp mi ml mn mk mf 1 ++ memC cA q mp mi ml mn mk mf 2 ++ memC cA q mp mi ml mn mk mf 3 ++ memC cA q mp mi ml mn mk mf 4 ++ memC cA q mp mi ml mn mk mf 5 ++ memC cA q mp mi ml mn mk mf 6 ++ memC cA q mp mi ml mn mk mf 7 ++ memC cA q mp mi ml mn mk mf 8 ++ memC cA q mp mi ml mn mk mf 9
/-- the remembered ledgers are in their range -/
def MB (mn mk : Nat → Nat) : Prop := ∀ k, k < 10 → mn k < 60 ∧ mk k ≤ 60
theorem MB.put {mn mk : Nat → Nat} (h : MB mn mk) (k a b : Nat) (ha : a < 60) (hb : b ≤ 60) : MB (fu mn k a) (fu mk k b) := fun j hj => by
  by_cases e : j = k
  · subst e; rw [fu_s, fu_s]; exact ⟨ha, hb⟩
  · rw [fu_n e, fu_n e]; exact h j hj
/-- the accounts that can be restored have the present plan -/
def Win (p n c : Nat) (mp : Nat → Nat) : Prop := ∀ j, j < c → mp ((n + 9 - j) % 10) = p
theorem Win.put {p n c : Nat} {mp : Nat → Nat} (hn : n < 10) (hc : c ≤ 10) (h : Win p n c mp) : Win p ((n + 1) % 10) (min (c + 1) 10) (fu mp n p) := fun j hj => by
  by_cases e : ((n + 1) % 10 + 9 - j) % 10 = n
  · rw [e, fu_s]
  · rw [fu_n e]
    have hj0 : j ≠ 0 := fun z => e (by subst z; omega)
    have := h (j - 1) (by omega)
    rw [show (n + 9 - (j - 1)) % 10 = ((n + 1) % 10 + 9 - j) % 10 by omega] at this
    exact this
theorem Win.take {p n c : Nat} {mp : Nat → Nat} (hn : n < 10) (hc : c ≤ 10) (h : Win p n c mp) (h0 : 0 < c) : mp ((n + 10 - 1) % 10) = p ∧ Win p ((n + 10 - 1) % 10) (c - 1) mp := by
  refine ⟨?_, fun j hj => ?_⟩
  · have := h 0 h0
    rw [show (n + 9 - 0) % 10 = (n + 10 - 1) % 10 by omega] at this
    exact this
  · have := h (j + 1) (by omega)
    rw [show (n + 9 - (j + 1)) % 10 = ((n + 10 - 1) % 10 + 9 - j) % 10 by omega] at this
    exact this
def FRq (q : Nat → Nat → Nat) (f : Nat → Option Nat) : Prop := ∀ k, k < 10 → f k = some (q k 0)
theorem nI_dec {a b : Nat} (h : a = b + 1) : nI a + (-1) = nI b := by
  subst h
  rw [← nI_1, Int32.add_assoc, show (1 : Int32) + -1 = 0 by decide, Int32.add_zero]
theorem nI_sub0 {a : Nat} (h : a = 0) : nI a - 1 = -1 := by
  subst h
  decide
theorem ix_in {i : Int32} {n N : Nat} (c1 : ¬ i < 0) (c2 : ¬ nI n ≤ i) (h : n ≤ N) (hN : N < 2147483648) : vp_in i N := by
  obtain ⟨j, hj, e⟩ := nI_of c1
  rw [e] at c2 ⊢
  exact vp_in_nI (Nat.lt_of_lt_of_le (Nat.lt_of_not_le (fun q => c2 (nI_le q hj))) h) hN
/-- the row of an account: milestones, proofs, entries, day, basis -/
def RI (c q e d : Nat) (f : Nat → Int32) : Prop := f 13 = nI c ∧ f 14 = nI q ∧ f 15 = nI e ∧ f 4 = nI d ∧ ∃ b, 0 < b ∧ b ≤ 365 ∧ f 1 = nI b
theorem RI.put {c q e d : Nat} {f : Nat → Int32} (h : RI c q e d f) (k : Nat) (v : Int32) (h1 : k ≠ 13) (h2 : k ≠ 14) (h3 : k ≠ 15) (h4 : k ≠ 4) (h5 : k ≠ 1) : RI c q e d (upd f k v) :=
  ⟨(pk_un h1.symm).trans h.1, (pk_un h2.symm).trans h.2.1, (pk_un h3.symm).trans h.2.2.1, (pk_un h4.symm).trans h.2.2.2.1, by obtain ⟨b, b1, b2, b3⟩ := h.2.2.2.2; exact ⟨b, b1, b2, (pk_un h5.symm).trans b3⟩⟩
theorem RI.putI {c q e d : Nat} {f : Nat → Int32} (h : RI c q e d f) (k : Nat) (v : Int32) (h1 : 16 ≤ k) (h2 : k < 2147483648) : RI c q e d (upd f (nI k).toNatClampNeg v) := by
  rw [nI_clamp h2]
  exact h.put k v (by omega) (by omega) (by omega) (by omega) (by omega)
theorem RI.ent {c q e d : Nat} {f : Nat → Int32} (h : RI c q e d f) (n : Nat) : RI c q n d (upd f 15 (nI n)) :=
  ⟨(pk_un (by decide)).trans h.1, (pk_un (by decide)).trans h.2.1, pk_us, (pk_un (by decide)).trans h.2.2.2.1, by obtain ⟨b, b1, b2, b3⟩ := h.2.2.2.2; exact ⟨b, b1, b2, (pk_un (by decide)).trans b3⟩⟩
theorem RI.day {c q e d : Nat} {f : Nat → Int32} (h : RI c q e d f) (n : Nat) : RI c q e n (upd f 4 (nI n)) :=
  ⟨(pk_un (by decide)).trans h.1, (pk_un (by decide)).trans h.2.1, (pk_un (by decide)).trans h.2.2.1, pk_us, by obtain ⟨b, b1, b2, b3⟩ := h.2.2.2.2; exact ⟨b, b1, b2, (pk_un (by decide)).trans b3⟩⟩
theorem RI.bas {c q e d : Nat} {f : Nat → Int32} (h : RI c q e d f) (n : Nat) (h1 : 0 < n) (h2 : n ≤ 365) : RI c q e d (upd f 1 (nI n)) :=
  ⟨(pk_un (by decide)).trans h.1, (pk_un (by decide)).trans h.2.1, (pk_un (by decide)).trans h.2.2.1, (pk_un (by decide)).trans h.2.2.2.1, n, h1, h2, pk_us⟩
theorem RI.same {c q e d : Nat} {f g : Nat → Int32} (h : RI c q e d f) (hg : ∀ j, j < 326 → g j = f j) : RI c q e d g :=
  ⟨(hg 13 (by decide)).trans h.1, (hg 14 (by decide)).trans h.2.1, (hg 15 (by decide)).trans h.2.2.1, (hg 4 (by decide)).trans h.2.2.2.1, by obtain ⟨b, b1, b2, b3⟩ := h.2.2.2.2; exact ⟨b, b1, b2, (hg 1 (by decide)).trans b3⟩⟩
theorem btw_nat {m : Int32} {k : Nat} (h1 : 0 ≤ m.toInt64) (h2 : m.toInt64 ≤ (nI k).toInt64) (hk : k < 2147483648) : ∃ n, n < k + 1 ∧ m = nI n := by
  rw [Int64.le_iff_toInt_le, Int32.toInt_toInt64] at h1 h2
  rw [Int32.toInt_toInt64, nI_toInt hk] at h2
  have a0 : (0 : Int64).toInt = 0 := by decide
  have a1 : (0 : Int32).toInt = 0 := by decide
  obtain ⟨j, hj, e⟩ := nI_of (x := m) (by rw [Int32.lt_iff_toInt_lt]; omega)
  rw [e, nI_toInt hj] at h2
  exact ⟨j, by omega, e⟩
theorem btw_c {m : Int32} {lo hi : Nat} {lo' hi' : Int64} (e1 : lo'.toInt = lo) (e2 : hi'.toInt = hi) (h1 : lo' ≤ m.toInt64) (h2 : m.toInt64 ≤ hi') : ∃ n, lo ≤ n ∧ n ≤ hi ∧ m = nI n := by
  rw [Int64.le_iff_toInt_le, Int32.toInt_toInt64] at h1 h2
  have a1 : (0 : Int32).toInt = 0 := by decide
  obtain ⟨j, hj, e⟩ := nI_of (x := m) (by rw [Int32.lt_iff_toInt_lt]; omega)
  rw [e, nI_toInt hj] at h1 h2
  exact ⟨j, by omega, by omega, e⟩
theorem btw_no {m : Int32} (h1 : 0 ≤ m.toInt64) (h2 : m.toInt64 ≤ -1) : False := by
  rw [Int64.le_iff_toInt_le] at h1 h2
  have a0 : (0 : Int64).toInt = 0 := by decide
  have a1 : (-1 : Int64).toInt = -1 := by decide
  omega
theorem lg_ne3 {x : Int64} (h : ¬ lg_cmp x 0 = 0) : x ≠ 0 := by
  intro e
  subst e
  exact h (by decide)
theorem lg_nlt {x y : Int64} (h : ¬ lg_cmp x y < 0) : y ≤ x := Int64.not_lt.mp (fun q => h (lg_lt.mpr q))
theorem lg_ngt {x y : Int64} (h : ¬ 0 < lg_cmp x y) : x ≤ y := Int64.not_lt.mp (fun q => h (lg_gt.mpr q))
theorem bas_ne {n : Nat} {y : Int64} (h1 : 0 < n) (h2 : n ≤ 365) (e : y = 10000 * (nI n).toInt64) : y ≠ 0 := by
  intro q
  rw [nI_l (by omega), show (10000 : Int64) = lN 10000 from rfl, lN_mul] at e
  have := congrArg Int64.toInt (e.symm.trans q)
  rw [lN_toInt (by omega)] at this
  have a0 : (0 : Int64).toInt = 0 := by decide
  omega
/-- one number of a row -/
def Elem (k n : Nat) (f : Nat → Int32) : Prop := f k = nI n
/-- a row of truth values -/
def Bit (N : Nat) (f : Nat → Int32) : Prop := ∀ j, j < N → f j = 0 ∨ f j = 1
theorem Bit.put {N : Nat} {f : Nat → Int32} (h : Bit N f) (k : Nat) {v : Int32} (hv : v = 0 ∨ v = 1) : Bit N (upd f k (vp_nar .boolean v)) := fun j hj => by
  by_cases e : j = k
  · subst e
    rw [pk_us]
    rcases hv with q | q <;> rw [q]
    · exact Or.inl rfl
    · exact Or.inr rfl
  · rw [pk_un e]; exact h j hj
/-- n codes from k on, with d values waiting, never want a value that isn't there -/
def Pfx (f : Nat → Int32) : Nat → Nat → Nat → Prop
  | 0, _, _ => True
  | n + 1, k, d => (f k = -3 ∧ 1 ≤ d ∧ Pfx f n (k + 1) d) ∨ (f k ≠ -3 ∧ f k < 0 ∧ 2 ≤ d ∧ Pfx f n (k + 1) (d - 1)) ∨ (f k ≠ -3 ∧ ¬ f k < 0 ∧ Pfx f n (k + 1) (d + 1))
theorem pfx_at {f : Nat → Int32} {b i d : Nat} (h : Pfx f (b - i) i d) (hi : i < b) : (f i = -3 ∧ 1 ≤ d ∧ Pfx f (b - (i + 1)) (i + 1) d) ∨ (f i ≠ -3 ∧ f i < 0 ∧ 2 ≤ d ∧ Pfx f (b - (i + 1)) (i + 1) (d - 1)) ∨ (f i ≠ -3 ∧ ¬ f i < 0 ∧ Pfx f (b - (i + 1)) (i + 1) (d + 1)) := by
  rw [show b - i = (b - (i + 1)) + 1 by omega] at h
  exact h
theorem pfx_not {f : Nat → Int32} {b i d : Nat} (h : Pfx f (b - i) i d) (hi : i < b) (e : f i = -3) : 1 ≤ d ∧ Pfx f (b - (i + 1)) (i + 1) d := by
  rcases pfx_at h hi with q | q | q
  · exact q.2
  · exact absurd e q.1
  · exact absurd e q.1
theorem pfx_bin {f : Nat → Int32} {b i d : Nat} (h : Pfx f (b - i) i d) (hi : i < b) (e : ¬ f i = -3) (e2 : f i < 0) : 2 ≤ d ∧ Pfx f (b - (i + 1)) (i + 1) (d - 1) := by
  rcases pfx_at h hi with q | q | q
  · exact absurd q.1 e
  · exact q.2.2
  · exact absurd e2 q.2.1
theorem pfx_push {f : Nat → Int32} {b i d : Nat} (h : Pfx f (b - i) i d) (hi : i < b) (e : ¬ f i = -3) (e2 : ¬ f i < 0) : Pfx f (b - (i + 1)) (i + 1) (d + 1) := by
  rcases pfx_at h hi with q | q | q
  · exact absurd q.1 e
  · exact absurd q.2.1 e2
  · exact q.2.2
/-- the codes of every milestone below c -/
def CW (c : Nat) (fc fq : Nat → Int32) : Prop := ∀ m, m < c → ∃ a b, a ≤ b ∧ b ≤ 400 ∧ Elem m a fq ∧ Elem (m + 1) b fq ∧ Pfx fc (b - a) a 0
def Cp (i : Nat) (f g : Nat → Int32) : Prop := ∀ j, j < i → g j = f j
theorem Cp.step {i : Nat} {f g : Nat → Int32} (hi : i < 2147483648) (h : Cp i f g) : Cp (i + 1) f (upd g (nI i).toNatClampNeg (f (nI i).toNatClampNeg)) := by
  rw [nI_clamp hi]
  intro j hj
  by_cases e : j = i
  · subst e; exact pk_us
  · exact (pk_un e).trans (h j (by omega))
theorem Nul.stepZ {i : Nat} {f : Nat → Int32} (hi : i < 326) (h : Nul i f) : Nul (i + 1) (upd f (nI i).toNatClampNeg 0) := Nul.step hi h
theorem Nul.ri {f : Nat → Int32} (h : Nul 326 f) : RI 0 0 0 0 (upd f 1 365) := ⟨(pk_un (by decide)).trans (h 13 (by decide)), (pk_un (by decide)).trans (h 14 (by decide)), (pk_un (by decide)).trans (h 15 (by decide)), (pk_un (by decide)).trans (h 4 (by decide)), 365, by decide, by decide, pk_us⟩
/-- the rows of the edits that can be undone -/
def HI (c q n : Nat) (f : Nat → Int32) : Prop := ∀ k, k < n → ∃ e d, e ≤ 60 ∧ d ≤ 9999 ∧ RI c q e d (fun i => f (326 * k + i))
def Hcp (n i : Nat) (g f0 f : Nat → Int32) : Prop := ∀ x, f x = if 326 * n ≤ x ∧ x < 326 * n + i then g (x - 326 * n) else f0 x
theorem Hcp.zero (n : Nat) (g f : Nat → Int32) : Hcp n 0 g f f := fun x => by rw [if_neg (by omega)]
theorem Hcp.step {n i : Nat} {g f0 f : Nat → Int32} (hi : 326 * n + i < 2147483648) (h : Hcp n i g f0 f) : Hcp n (i + 1) g f0 (upd f (nI (326 * n + i)).toNatClampNeg (g (nI i).toNatClampNeg)) := by
  rw [nI_clamp hi, nI_clamp (by omega)]
  intro x
  by_cases e : x = 326 * n + i
  · subst e
    rw [pk_us, if_pos (by omega), show 326 * n + i - 326 * n = i by omega]
  · rw [pk_un e, h x]
    by_cases q : 326 * n ≤ x ∧ x < 326 * n + i
    · rw [if_pos q, if_pos (by omega)]
    · rw [if_neg q, if_neg (by omega)]
theorem Hcp.hi {c q n e d : Nat} {g f0 f : Nat → Int32} (h : Hcp n 326 g f0 f) (h0 : HI c q n f0) (hg : RI c q e d g) (he : e ≤ 60) (hd : d ≤ 9999) : HI c q (n + 1) f := fun k hk => by
  by_cases q : k = n
  · subst q
    exact ⟨e, d, he, hd, hg.same (fun j hj => by rw [h, if_pos (by omega)]; congr 1; omega)⟩
  · obtain ⟨e', d', a1, a2, a3⟩ := h0 k (by omega)
    exact ⟨e', d', a1, a2, a3.same (fun j hj => by rw [h, if_neg (by omega)])⟩
def Shf (i : Nat) (f0 f : Nat → Int32) : Prop := ∀ x, f x = if x + 326 < i then f0 (x + 326) else f0 x
theorem Shf.zero (f : Nat → Int32) : Shf 326 f f := fun x => by rw [if_neg (by omega)]
theorem Shf.step {i : Nat} {f0 f : Nat → Int32} (h1 : 326 ≤ i) (h2 : i < 3260) (h : Shf i f0 f) : Shf (i + 1) f0 (upd f (nI (i - 326)).toNatClampNeg (f (nI i).toNatClampNeg)) := by
  rw [nI_clamp (by omega), nI_clamp (by omega)]
  intro x
  by_cases e : x = i - 326
  · rw [e, pk_us, if_pos (by omega), h i, if_neg (by omega), show i - 326 + 326 = i by omega]
  · rw [pk_un e, h x]
    by_cases q : x + 326 < i
    · rw [if_pos q, if_pos (by omega)]
    · rw [if_neg q, if_neg (by omega)]
theorem Shf.hi {c q n : Nat} {f0 f : Nat → Int32} (h : Shf 3260 f0 f) (h0 : HI c q n f0) (hn : n = 10) : HI c q (n - 1) f := fun k hk => by
  obtain ⟨e, d, a1, a2, a3⟩ := h0 (k + 1) (by omega)
  refine ⟨e, d, a1, a2, a3.same (fun j hj => ?_)⟩
  show f (326 * k + j) = f0 (326 * (k + 1) + j)
  rw [h, if_pos (by omega)]
  congr 1
  omega
def Ucp (i n : Nat) (f0 f : Nat → Int32) : Prop := ∀ j, j < i → f j = f0 (326 * n + j)
theorem Ucp.step {i n : Nat} {f0 f : Nat → Int32} (hi : i < 326) (hn : n < 1000) (h : Ucp i n f0 f) : Ucp (i + 1) n f0 (upd f (nI i).toNatClampNeg (f0 (nI (326 * n + i)).toNatClampNeg)) := by
  rw [nI_clamp (by omega), nI_clamp (by omega)]
  intro j hj
  by_cases e : j = i
  · subst e; exact pk_us
  · exact (pk_un e).trans (h j (by omega))
theorem Ucp.ri {c q n m : Nat} {f0 f : Nat → Int32} (h : Ucp 326 m f0 f) (h0 : HI c q n f0) (hm : m < n) : ∃ e d, e ≤ 60 ∧ d ≤ 9999 ∧ RI c q e d f := by
  obtain ⟨e, d, a1, a2, a3⟩ := h0 m hm
  exact ⟨e, d, a1, a2, a3.same (fun j hj => h j hj)⟩
theorem HI.less {c q n : Nat} {f : Nat → Int32} (h : HI c q n f) : HI c q (n - 1) f := fun k hk => h k (by omega)
theorem va_ldcwS {p : Program} {l : Launch} {e : Env} {R : Room} {s : State} {m : MethodId} {args : Array Value} {below : List Frame} {meth : Method} {c : Code} {H : Heap} {locs : List Loc} {cells slots : Nat} {Q : State → Prop} {cc : ByteArray} {pc : Nat} {ls : Array Slot} {rest : List Value} (hexec : p.tables.exec = Jvm.exec) (hb : c.code = cc) {own tx : String} {index q : Nat} (hown : s.vm.findClass own = some m.cls) (hZ : vk_R own index tx q s) (hdg : decode cc pc = .ok (.ldc_w index, 3))
    (k : W p l e R s m args below meth c H locs cells slots Q (F0 m (pc + 3) ls (.ref q :: rest))) : W p l e R s m args below meth c H locs cells slots Q (F0 m pc ls rest) := by
  intro T hT X
  obtain ⟨t, a1, b1⟩ := k T hT X
  exact ⟨t, X.ldcStringW hexec hown (text := tx) (a := q) hZ.1 hZ.2 (g := F0 m pc ls rest) rfl (by rw [hb]; exact hdg) t a1, b1⟩
theorem nar_i2c {x y : Int32} (e : y = (x.toUInt32 % 65536).toInt32) : narrow .char (.int y) = .int y := by
  rw [e]
  simp only [narrow]
  congr 1
  apply Int32.toBitVec.inj
  simp
  apply BitVec.eq_of_toNat_eq
  simp [BitVec.toNat_umod]
theorem cb_lt {x : Int32} (h : ¬ x = 0) {n : Nat} (hn : x.toBitVec.toNat ≤ n + 1) : (x &&& (x - 1)).toBitVec.toNat ≤ n := by
  have h0 : x.toBitVec.toNat ≠ 0 := fun q => h (Int32.toBitVec.inj (BitVec.eq_of_toNat_eq (by rw [q]; rfl)))
  have h1 : (x - 1).toBitVec.toNat = x.toBitVec.toNat - 1 := by
    rw [Int32.toBitVec_sub, BitVec.toNat_sub]
    have e1 : (1 : Int32).toBitVec.toNat = 1 := by decide
    rw [e1]
    have := x.toBitVec.isLt
    omega
  rw [Int32.toBitVec_and, BitVec.toNat_and, h1]
  exact Nat.le_trans Nat.and_le_right (by omega)
theorem cb_z {x : Int32} (h : x.toBitVec.toNat ≤ 0) : x = 0 := Int32.toBitVec.inj (BitVec.eq_of_toNat_eq (by rw [Nat.le_zero.mp h]; rfl))
/-- what is left of a word behind i letters -/
def LB (i : Nat) (x : Int64) : Prop := x.toInt * ((32 ^ i : Nat) : Int) ≤ 9223372036854775808
theorem LB.zero (x : Int64) : LB 0 x := by
  have := Int64.toInt_lt x
  unfold LB
  simp
  omega
theorem LB.step {i : Nat} {x y : Int64} (h : LB i x) (hx : 0 < lg_cmp x 0) (e : y = x / 32) : LB (i + 1) y := by
  have h0 := lg_gt.mp hx
  rw [Int64.lt_iff_toInt_lt] at h0
  have a0 : (0 : Int64).toInt = 0 := by decide
  have a1 : (32 : Int64).toInt = 32 := by decide
  have e1 : y.toInt = x.toInt.tdiv 32 := by
    rw [e, Int64.toInt_div_of_ne_right _ _ (by decide), a1]
  have e2 : y.toInt * 32 ≤ x.toInt := by
    rw [e1, Int.tdiv_eq_ediv_of_nonneg (by omega)]
    omega
  unfold LB at *
  rw [Nat.pow_succ]
  have p : (0 : Int) ≤ ((32 ^ i : Nat) : Int) := Int.natCast_nonneg _
  calc y.toInt * ((32 ^ i * 32 : Nat) : Int) = (y.toInt * 32) * ((32 ^ i : Nat) : Int) := by
        rw [Int.natCast_mul]
        have : ((32 : Nat) : Int) = 32 := rfl
        rw [this, Int.mul_assoc, Int.mul_comm 32]
    _ ≤ x.toInt * ((32 ^ i : Nat) : Int) := Int.mul_le_mul_of_nonneg_right e2 p
    _ ≤ _ := h
theorem LB.last {x : Int64} (h : LB 13 x) : lg_cmp x 0 ≤ 0 := by
  refine Int32.not_lt.mp (fun q => ?_)
  have h0 := lg_gt.mp q
  rw [Int64.lt_iff_toInt_lt] at h0
  have a0 : (0 : Int64).toInt = 0 := by decide
  unfold LB at h
  have e : ((32 ^ 13 : Nat) : Int) = 36893488147419103232 := by decide
  rw [e] at h
  omega
theorem dv9 (v : Int32) : v / 1000000000 ≤ 9 := by
  rw [Int32.le_iff_toInt_le, Int32.toInt_div_of_ne_right _ _ (by decide)]
  have a1 : (1000000000 : Int32).toInt = 1000000000 := by decide
  have a2 : (9 : Int32).toInt = 9 := by decide
  rw [a1, a2]
  have := Int32.toInt_lt v
  by_cases h : 0 ≤ v.toInt
  · rw [Int.tdiv_eq_ediv_of_nonneg h]
    omega
  · have h2 : v.toInt.tdiv 1000000000 = -((-v.toInt).tdiv 1000000000) := by rw [Int.neg_tdiv, Int.neg_neg]
    rw [h2, Int.tdiv_eq_ediv_of_nonneg (by omega)]
    omega
/-- the words that no name can be, as numbers -/
def kwv : List Int64 := [591493, 6309, 7930981, 4480027956, 14615962074565, 762030, 498, 1476, 14836, 4153, 17382886, 146885, 20141, 52095867044, 46892851]
def KW (n : Nat) (f : Nat → Int64) : Prop := ∀ k, k < n → f k = kwv.getD k 0
theorem kwv_ge : ∀ k, k < 15 → (27 : Int64) ≤ kwv.getD k 0 := by decide
/-- a symbol stands within the text -/
def TKF (tk : Int32) (st : Nat) : Prop := tk = 4 → st < 700
/-- a word that no name can be has two letters at least -/
def KWF (kw : Int32) (st nx : Nat) : Prop := kw ≠ -1 → st + 2 ≤ nx
def LW (a i : Nat) (w : Int64) : Prop := (i = a → w = 0) ∧ (i = a + 1 → w < 27)
theorem LW.zero (a : Nat) : LW a a 0 := ⟨fun _ => rfl, fun h => by omega⟩
theorem LW.step {a i : Nat} {u y1 y2 y3 : Int64} {b : Int32} (h : LW a i u) (hai : a ≤ i) (hb : 97 ≤ b ∧ b ≤ 122) (e1 : y1 = 32 * u) (e2 : y2 = y1 + b.toInt64) (e3 : y3 = y2 - 96) : LW a (i + 1) y3 := by
  refine ⟨fun q => by omega, fun q => ?_⟩
  have hu := h.1 (by omega)
  subst hu
  have hz : y1 = 0 := by rw [e1]; decide
  subst hz
  rw [e3, e2, Int64.zero_add]
  obtain ⟨n, h1, h2, e⟩ := btw_c (m := b) (lo := 97) (hi := 122) (lo' := 97) (hi' := 122) (by decide) (by decide) (by rw [Int64.le_iff_toInt_le, Int32.toInt_toInt64]; have := Int32.le_iff_toInt_le.mp hb.1; exact this) (by rw [Int64.le_iff_toInt_le, Int32.toInt_toInt64]; have := Int32.le_iff_toInt_le.mp hb.2; exact this)
  rw [e, nI_l (by omega), show (96 : Int64) = lN 96 from rfl, lN_sub (by omega), Int64.lt_iff_toInt_lt, lN_toInt (by omega)]
  have a2 : (27 : Int64).toInt = 27 := by decide
  omega
theorem LW.far {a i : Nat} {u : Int64} (h : a + 9 ≤ i) : LW a (i + 1) u := ⟨fun q => by omega, fun q => by omega⟩
theorem KWF.none (a b : Nat) : KWF (-1) a b := fun h => absurd rfl h
theorem KWF.of {f : Nat → Int64} {a b : Nat} {w : Int64} {r : Int32} (hk : KW 15 f) (hl : LW a b w) (hab : a ≤ b) (h : r = -1 ∨ ∃ n, n < 15 ∧ r = nI n ∧ f n = w) : KWF r a b := fun hr => by
  rcases h with h | ⟨n, h1, -, h3⟩
  · exact absurd h hr
  · have h4 := kwv_ge n h1
    rw [← hk n h1, h3] at h4
    rcases Nat.lt_or_ge b (a + 2) with q | q
    · exfalso
      rcases (show b = a ∨ b = a + 1 by omega) with z | z
      · rw [hl.1 z] at h4
        exact absurd h4 (by decide)
      · have h5 := hl.2 z
        rw [Int64.le_iff_toInt_le] at h4
        rw [Int64.lt_iff_toInt_lt] at h5
        omega
    · exact q
/-- a number between two bounds -/
def NB (lo hi : Nat) (v : Int32) : Prop := ∃ n, lo ≤ n ∧ n ≤ hi ∧ v = nI n
theorem btw_nn {v : Int32} {lo hi : Nat} (hh : hi < 2147483648) (hl : lo < 2147483648) (h1 : (nI lo).toInt64 ≤ v.toInt64) (h2 : v.toInt64 ≤ (nI hi).toInt64) : NB lo hi v := by
  refine btw_c (lo' := (nI lo).toInt64) (hi' := (nI hi).toInt64) ?_ ?_ h1 h2
  · rw [Int32.toInt_toInt64, nI_toInt hl]
  · rw [Int32.toInt_toInt64, nI_toInt hh]
theorem kwq {f : Nat → Int64} {i : Nat} {y w : Int64} (c : lg_cmp y w = 0) (e : y = f (nI i).toNatClampNeg) (h : i < 2147483648) : f i = w := by
  rw [nI_clamp h] at e
  rw [← e]
  unfold lg_cmp at c
  split at c
  · exact absurd c (by decide)
  · split at c
    · next q => exact q
    · exact absurd c (by decide)
def Tru (f : Nat → Int32) : Prop := f = f
/-- v was put at k; what lies before it is kept -/
def Em (k : Nat) (v : Int32) (f g : Nat → Int32) : Prop := g k = v ∧ ∀ j, j < k → g j = f j
theorem Em.of {k : Nat} {v : Int32} {f : Nat → Int32} (hk : k < 2147483648) : Em k v f (upd f (nI k).toNatClampNeg v) := by
  rw [nI_clamp hk]
  exact ⟨pk_us, fun j hj => pk_un (by omega)⟩
def Kp (n : Nat) (f g : Nat → Int32) : Prop := ∀ j, j < n → g j = f j
theorem Kp.rf (n : Nat) (f : Nat → Int32) : Kp n f f := fun _ _ => rfl
theorem Em.kp {k : Nat} {v : Int32} {f g : Nat → Int32} (h : Em k v f g) : Kp k f g := h.2
theorem Kp.tr {a b : Nat} {f g h : Nat → Int32} (h1 : Kp a f g) (h2 : Kp b g h) (hab : a ≤ b) : Kp a f h := fun j hj => (h2 j (by omega)).trans (h1 j hj)
/-- how many values wait behind n codes from k on -/
def cxe (f : Nat → Int32) : Nat → Nat → Nat → Option Nat
  | 0, _, d => some d
  | n + 1, k, d => if f k = -3 then (if 1 ≤ d then cxe f n (k + 1) d else none) else if f k < 0 then (if 2 ≤ d then cxe f n (k + 1) (d - 1) else none) else cxe f n (k + 1) (d + 1)
theorem cxe_app (f : Nat → Int32) : ∀ (n m k d : Nat), cxe f (n + m) k d = (cxe f n k d).bind (fun d2 => cxe f m (k + n) d2) := by
  intro n
  induction n with
  | zero => intro m k d; rw [Nat.zero_add, Nat.add_zero]; rfl
  | succ n ih =>
    intro m k d
    rw [show n + 1 + m = (n + m) + 1 by omega]
    simp only [cxe]
    have e : k + (n + 1) = k + 1 + n := by omega
    rw [e]
    split
    · split
      · exact ih m (k + 1) d
      · rfl
    · split
      · split
        · exact ih m (k + 1) (d - 1)
        · rfl
      · exact ih m (k + 1) (d + 1)
theorem cxe_keep {f g : Nat → Int32} : ∀ (n k d : Nat), (∀ j, j < k + n → g j = f j) → cxe g n k d = cxe f n k d := by
  intro n
  induction n with
  | zero => intro k d _; rfl
  | succ n ih =>
    intro k d h
    simp only [cxe]
    rw [h k (by omega), ih (k + 1) d (fun j hj => h j (by omega)), ih (k + 1) (d - 1) (fun j hj => h j (by omega)), ih (k + 1) (d + 1) (fun j hj => h j (by omega))]
theorem cxe_pfx {f : Nat → Int32} : ∀ (n k d x : Nat), cxe f n k d = some x → Pfx f n k d := by
  intro n
  induction n with
  | zero => intro k d x _; exact trivial
  | succ n ih =>
    intro k d x h
    simp only [cxe] at h
    split at h
    · next q =>
      split at h
      · next q2 => exact Or.inl ⟨q, q2, ih _ _ _ h⟩
      · cases h
    · next q =>
      split at h
      · next q2 =>
        split at h
        · next q3 => exact Or.inr (Or.inl ⟨q, q2, q3, ih _ _ _ h⟩)
        · cases h
      · next q2 => exact Or.inr (Or.inr ⟨q, q2, ih _ _ _ h⟩)
/-- the codes from a up to b leave one value more -/
def Sg (a b : Nat) (f : Nat → Int32) : Prop := a ≤ b ∧ ∀ d, cxe f (b - a) a d = some (d + 1)
theorem Sg.pfx {a b : Nat} {f : Nat → Int32} (h : Sg a b f) : Pfx f (b - a) a 0 := cxe_pfx _ _ _ _ (h.2 0)
theorem Sg.keep {a b : Nat} {f g : Nat → Int32} (h : Sg a b f) (k : ∀ j, j < b → g j = f j) : Sg a b g := ⟨h.1, fun d => (cxe_keep _ _ _ (fun j hj => k j (by have := h.1; omega))).trans (h.2 d)⟩
theorem Sg.leaf {a : Nat} {v : Int32} {f g : Nat → Int32} (h : Em a v f g) (hv : ¬ v < 0) : Sg a (a + 1) g := by
  refine ⟨by omega, fun d => ?_⟩
  have h3 : ¬ v = -3 := fun q => hv (by rw [q]; decide)
  rw [show a + 1 - a = 1 by omega]
  simp only [cxe]
  rw [h.1, if_neg h3, if_neg hv]
theorem Sg.inv {a b : Nat} {v : Int32} {f g : Nat → Int32} (h : Sg a b f) (m : Em b v f g) (hv : v = -3) : Sg a (b + 1) g := by
  have h1 := h.1
  have h2 := h.keep m.2
  refine ⟨by omega, fun d => ?_⟩
  rw [show b + 1 - a = (b - a) + 1 by omega, cxe_app, h2.2 d]
  simp only [Option.bind, cxe]
  rw [show a + (b - a) = b by omega, m.1, if_pos hv, if_pos (by omega)]
theorem Sg.join {a b x : Nat} {v : Int32} {f0 f g : Nat → Int32} (h1 : Sg a b f0) (k : Kp b f0 f) (h2 : Sg b x f) (m : Em x v f g) (hv : v = -1 ∨ v = -2) : Sg a (x + 1) g := by
  have l1 := h1.1
  have l2 := h2.1
  have q1 := (h1.keep k).keep (fun j hj => m.2 j (by omega))
  have q2 := h2.keep m.2
  have n3 : ¬ v = -3 := by rcases hv with q | q <;> rw [q] <;> decide
  have ng : v < 0 := by rcases hv with q | q <;> rw [q] <;> decide
  refine ⟨by omega, fun d => ?_⟩
  rw [show x + 1 - a = (b - a) + ((x - b) + 1) by omega, cxe_app, q1.2 d]
  simp only [Option.bind]
  rw [cxe_app, show a + (b - a) = b by omega, q2.2 (d + 1)]
  simp only [Option.bind, cxe]
  rw [show b + (x - b) = x by omega, m.1, if_neg n3, if_pos ng, if_pos (by omega)]
  rfl
/-- the conditions that have been read: their codes lie one behind another up to n -/
def CR (c n : Nat) (fc fq : Nat → Int32) : Prop := (∀ m, m < c → ∃ a b, a ≤ b ∧ b ≤ n ∧ Elem m a fq ∧ Elem (m + 1) b fq ∧ Sg a b fc) ∧ (0 < c → Elem c n fq)
theorem CR.zero (n : Nat) (fc fq : Nat → Int32) : CR 0 n fc fq := ⟨fun m h => absurd h (Nat.not_lt_zero m), fun h => absurd h (Nat.not_lt_zero 0)⟩
/-- the place of a new one -/
theorem CR.from {c n : Nat} {fc fq : Nat → Int32} (h : CR c n fc fq) (hc : c < 2147483648) : CR c n fc (upd fq (nI c).toNatClampNeg (nI n)) := by
  rw [nI_clamp hc]
  refine ⟨fun m hm => ?_, fun _ => pk_us⟩
  obtain ⟨a, b, h1, h2, h3, h4, h5⟩ := h.1 m hm
  by_cases e : m + 1 = c
  · have h6 : Elem c n fq := h.2 (by omega)
    have h7 : Elem c b fq := by rw [← e]; exact h4
    have h8 : nI n = nI b := h6.symm.trans h7
    refine ⟨a, b, h1, h2, (pk_un (by omega)).trans h3, ?_, h5⟩
    show upd fq c (nI n) (m + 1) = nI b
    rw [e, ← h8]
    exact pk_us
  · exact ⟨a, b, h1, h2, (pk_un (by omega)).trans h3, (pk_un e).trans h4, h5⟩
theorem CR.next {c n n2 : Nat} {fc gc fq : Nat → Int32} (h : CR c n fc fq) (h0 : fq c = nI n) (k : Kp n fc gc) (hn : n ≤ n2) (g : Sg n n2 gc) (hc : c < 1000) : CR (c + 1) n2 gc (upd fq (nI (c + 1)).toNatClampNeg (nI n2)) := by
  rw [nI_clamp (by omega)]
  refine ⟨fun m hm => ?_, fun _ => pk_us⟩
  by_cases e : m = c
  · subst e
    exact ⟨n, n2, hn, Nat.le_refl _, (pk_un (by omega)).trans h0, pk_us, g⟩
  · obtain ⟨a, b, h1, h2, h3, h4, h5⟩ := h.1 m (by omega)
    exact ⟨a, b, h1, by omega, (pk_un (by omega)).trans h3, (pk_un (by omega)).trans h4, h5.keep (fun j hj => k j (by omega))⟩
theorem CR.cw {c n : Nat} {fc fq gc gq : Nat → Int32} (h : CR c n fc fq) (hn : n ≤ 400) (hc : c ≤ 10) (k1 : Cp n fc gc) (k2 : Cp 11 fq gq) : CW c gc gq := fun m hm => by
  obtain ⟨a, b, h1, h2, h3, h4, h5⟩ := h.1 m hm
  exact ⟨a, b, h1, by omega, (k2 m (by omega)).trans h3, (k2 (m + 1) (by omega)).trans h4, (h5.keep (fun j hj => k1 j (by omega))).pfx⟩
theorem RI.cnt {c q e d : Nat} {f : Nat → Int32} (h : RI c q e d f) (n : Nat) : RI n q e d (upd f 13 (nI n)) :=
  ⟨pk_us, (pk_un (by decide)).trans h.2.1, (pk_un (by decide)).trans h.2.2.1, (pk_un (by decide)).trans h.2.2.2.1, by obtain ⟨b, b1, b2, b3⟩ := h.2.2.2.2; exact ⟨b, b1, b2, (pk_un (by decide)).trans b3⟩⟩
theorem RI.prf {c q e d : Nat} {f : Nat → Int32} (h : RI c q e d f) (n : Nat) : RI c n e d (upd f 14 (nI n)) :=
  ⟨(pk_un (by decide)).trans h.1, pk_us, (pk_un (by decide)).trans h.2.2.1, (pk_un (by decide)).trans h.2.2.2.1, by obtain ⟨b, b1, b2, b3⟩ := h.2.2.2.2; exact ⟨b, b1, b2, (pk_un (by decide)).trans b3⟩⟩
theorem l64_0 {a : Nat} (h : a < 2147483648) : (0 : Int64) ≤ (nI a).toInt64 := by
  rw [Int64.le_iff_toInt_le, Int32.toInt_toInt64, nI_toInt h]
  have a0 : (0 : Int64).toInt = 0 := by decide
  omega
theorem l64_le {a b : Nat} (h : a ≤ b) (hb : b < 2147483648) : (nI a).toInt64 ≤ (nI b).toInt64 := by
  rw [Int64.le_iff_toInt_le, Int32.toInt_toInt64, Int32.toInt_toInt64, nI_toInt hb, nI_toInt (by omega)]
  omega
theorem l64_no {i : Int32} {b : Nat} (h : i < 0 ∨ nI b < i) : ¬ ((0 : Int64) ≤ i.toInt64 ∧ i.toInt64 ≤ (nI b).toInt64) := fun q => by
  have h1 := Int64.le_iff_toInt_le.mp q.1
  have h2 := Int64.le_iff_toInt_le.mp q.2
  rw [Int32.toInt_toInt64] at h1 h2
  rw [Int32.toInt_toInt64] at h2
  have a0 : (0 : Int64).toInt = 0 := by decide
  have a1 : (0 : Int32).toInt = 0 := by decide
  rcases h with h | h
  · have := Int32.lt_iff_toInt_lt.mp h
    omega
  · have := Int32.lt_iff_toInt_lt.mp h
    omega
theorem HI.zero (c q : Nat) (f : Nat → Int32) : HI c q 0 f := fun k hk => absurd hk (Nat.not_lt_zero k)
theorem nI_max {a b : Nat} (ha : a < 2 ^ 31) (hb : b < 2 ^ 31) : (if nI a < nI b then nI b else nI a) = nI (max a b) := by
  by_cases h : a < b
  · rw [if_pos (nI_lt h hb)]; congr 1; omega
  · rw [if_neg (nI_nlt (by omega) ha)]; congr 1; omega
theorem nI_subneg {a b : Nat} (h : a ≤ b) (hb : b < 2147483648) : nI a - nI b ≤ 0 := by
  have e : (nI a - nI b).toInt = (a : Int) - b := by
    rw [Int32.toInt_sub, nI_toInt (by omega), nI_toInt (by omega)]
    exact Int.bmod_eq_of_le (by omega) (by omega)
  rw [Int32.le_iff_toInt_le, e, Int32.toInt_zero]
  omega
theorem l31 (x : Int64) : ∃ n, n < 32 ∧ x &&& 31 = lN n := by
  refine ⟨(x &&& 31).toBitVec.toNat, ?_, ?_⟩
  · rw [Int64.toBitVec_and, BitVec.toNat_and]
    have e : (31 : Int64).toBitVec.toNat = 31 := by decide
    rw [e]
    exact Nat.lt_of_le_of_lt Nat.and_le_right (by decide)
  · apply Int64.toBitVec.inj
    simp [lN]
theorem lat_n {x y0 y1 : Int64} {y2 y3 : Int32} (e0 : y0 = x &&& 31) (e1 : y1 = 96 + y0) (e2 : y2 = y1.toInt32) (e3 : y3 = (y2.toUInt32 % 65536).toInt32) : ∃ n, n < 256 ∧ y3 = nI n := by
  obtain ⟨n, hn, e⟩ := l31 x
  refine ⟨96 + n, by omega, ?_⟩
  rw [e3, e2, e1, e0, e, show (96 : Int64) = lN 96 from rfl, lN_add, lN_i]
  have h := (pk_charN (q := 96 + n) (by omega)).1
  simp only [narrow] at h
  exact Value.int.inj h
/-- arraycopy out of an array that lies outside -/
theorem va_copyT {p : Program} {l : Launch} {e : Env} {R : Room} {s : State} {m : MethodId} {args : Array Value} {below : List Frame} {meth : Method} {c : Code} {H : Heap} {locs : List Loc} {cells slots : Nat} {Q : State → Prop} {pc : Nat} {ls : Array Slot} {rest : List Value} {D : va_G} {cl : List vw_C} {A : Nat → Prop} {a : Nat} {tys : List (ClassId × FieldType)} {ws : va_W} {cc : ByteArray} (hexec : p.tables.exec = Jvm.exec) (hb : c.code = cc) (hml : c.maxLocals = ls.size) {own : String} {index : Nat} (hown : s.vm.findClass own = some m.cls) (hlink : (Cond.methodLink own index arraycopyName).before args s = true) (hnat : (Cond.native arraycopyName).before args s = true) (hstat : (Cond.static arraycopyName).before args s = true) (hini : (Cond.initialized "java/lang/System").before args s = true)
    (hK : va_K D cl tys s) (hP : va_P D cl ws H) (hD : va_D A ws) (hS : va_S A s.heap H locs) {b0 n0 : Nat} {f : Nat → Int32} (hX : va_T .byte b0 n0 (fun j => .int (f j)) A s s.heap) (q1 t1 : Nat) {c1 : ClassId} {n1 : Nat} {g : Nat → Int32} (ha1 : ws[q1]? = some (a, .inl (c1, n1, .inl g))) (ht1 : tys[t1]? = some (c1, .byte))
    {sp dp n : Int32} (h1 : ¬ sp < 0) (h2 : ¬ dp < 0) (h3 : ¬ n < 0) (h4 : sp.toNatClampNeg + n.toNatClampNeg ≤ n0) (h5 : dp.toNatClampNeg + n.toNatClampNeg ≤ n1) (hfit : ∀ i, i < n.toNatClampNeg → fits .byte (.int (f (sp.toNatClampNeg + i))) = true)
    (hframes : 1 ≤ R.frames) (hlocals : (rest.map fun v => v.category).sum + (nativeFrameWords "java/lang/System" "arraycopy" 5 + 11) ≤ R.locals) (hdg : decode cc pc = .ok (.invokestatic index, 3))
    (kk : ∀ (H1 : Heap) (locs1 : List Loc), va_P D cl (ws.set q1 (a, .inl (c1, n1, .inl (va_cpy f g sp.toNatClampNeg dp.toNatClampNeg n.toNatClampNeg)))) H1 → va_D A (ws.set q1 (a, .inl (c1, n1, .inl (va_cpy f g sp.toNatClampNeg dp.toNatClampNeg n.toNatClampNeg)))) → va_S A s.heap H1 locs1 → W p l e R s m args below meth c H1 locs1 cells slots Q (F0 m (pc + 3) ls rest)) : W p l e R s m args below meth c H locs cells slots Q (F0 m pc ls (.int n :: .int dp :: .ref a :: .int sp :: .ref b0 :: rest)) := by
  have nn : ∀ z : Int32, ¬ z < 0 → z.toInt = (z.toNatClampNeg : Int) := by
    intro z hz
    have hz0 : (0 : Int) ≤ z.toInt := by
      have := Int32.not_lt.mp hz
      simpa using Int32.le_iff_toInt_le.mp this
    show z.toInt = ((z.toInt.toNat : Nat) : Int)
    omega
  intro T hT X
  obtain ⟨scr, hs1, hs2, hs3, hs4, -, hs5, hbA⟩ := hX
  have hbl : b0 < s.heap.size := (Array.getElem?_eq_some_iff.mp hs1).1
  have hc0 : H[b0]? = some scr := by rw [hS.2.1 b0 hbl hbA]; exact hs1
  have hc1 : H[a]? = some (vp_cell c1 (n1, .inl g)) := hP q1 _ ha1
  obtain ⟨hs6, k0, hk0, cm0, hkk0⟩ := hs2
  obtain ⟨-, k1, hk1, cm1, hkk1⟩ := (hK.2 t1 _ ht1).1 n1 (fun j => .int (g j))
  obtain ⟨vm', X', step⟩ := X.arraycopy hexec hown hlink hnat hstat hini (src := b0) (dst := a) (cs := scr) (cd := vp_cell c1 (n1, .inl g)) (srcPos := sp) (destPos := dp) (n := n) (by rw [hT]; exact hc0) (by rw [hT]; exact hc1)
    hs6 (fun _ h => by cases h) hs3 (fun h => by cases h) hk0 hk1 hkk0 hkk1 (by simp [refKind]) h1 h2 h3
    (by rw [nn sp h1, nn n h3]; omega)
    (by rw [nn dp h2, nn n h3]; show ¬ _ > ((arrV c1 n1 (fun j => .int (g j))).slots.size : Int); rw [arrV_size]; omega)
    (fun vm₁ _ i hi => by
      have e : scr.slots.getD (sp.toNatClampNeg + i) .null = .int (f (sp.toNatClampNeg + i)) := by
        rw [Array.getD_eq_getD_getElem?, hs5 _ (by omega)]
        rfl
      refine ⟨?_, ?_⟩
      · rw [e]
        exact hfit i hi
      · rw [e]
        exact trivial)
    (g := F0 m pc ls (.int n :: .int dp :: .ref a :: .int sp :: .ref b0 :: rest)) rfl (by rw [hml]) (rest := rest) rfl (by rw [hb]; exact hdg) hframes (by show 2 * 0 + _ + _ ≤ _; omega)
  have e1 : copied scr (vp_cell c1 (n1, .inl g)) sp dp n = vp_cell c1 (n1, .inl (va_cpy f g sp.toNatClampNeg dp.toNatClampNeg n.toNatClampNeg)) := va_copiedX (fun z => .int z) scr c1 f g hs5 h4
  rw [e1] at X' step
  have hl : a < H.size := (Array.getElem?_eq_some_iff.mp hc1).1
  have hheap : ((T.setVm vm').setCell a (vp_cell c1 (n1, .inl (va_cpy f g sp.toNatClampNeg dp.toNatClampNeg n.toNatClampNeg)))).heap = H.setIfInBounds a (vp_cell c1 (n1, .inl (va_cpy f g sp.toNatClampNeg dp.toNatClampNeg n.toNatClampNeg))) := by rw [← hT]; rfl
  have oq : ∀ q : Nat, q ≠ a → (H.setIfInBounds a (vp_cell c1 (n1, .inl (va_cpy f g sp.toNatClampNeg dp.toNatClampNeg n.toNatClampNeg))))[q]? = H[q]? := fun q hq => by simp [Array.getElem?_setIfInBounds, Ne.symm hq]
  obtain ⟨t, a1, b1⟩ := kk _ _ (hP.set hD ha1 (show (H.setIfInBounds a _)[a]? = some _ by simp [Array.getElem?_setIfInBounds, hl]) oq) (hD.set ha1) ⟨by simp; exact hS.1, fun q g1 g2 => by
      rw [oq q (fun e => g2 (by rw [e]; exact hD.2 q1 _ ha1))]
      exact hS.2.1 q g1 g2, fun q hq => by
      rcases List.mem_append.mp hq with h | h
      · exact hS.2.2 q h
      · obtain ⟨z, -, hz⟩ := List.mem_map.mp h
        rw [← hz]
        exact hD.2 q1 _ ha1⟩ _ hheap X'
  exact ⟨t, step t a1, b1⟩
/-- the arrays of the digits lie outside what is written -/
def ncL : List (String × String) := [("java/lang/IllegalArgumentException", "java/lang/IllegalStateException"), ("java/lang/IllegalArgumentException", "java/lang/IndexOutOfBoundsException"), ("java/lang/IllegalStateException", "java/lang/IllegalArgumentException"), ("java/lang/IllegalStateException", "java/lang/IndexOutOfBoundsException"), ("java/lang/IndexOutOfBoundsException", "java/lang/IllegalArgumentException"), ("java/lang/IndexOutOfBoundsException", "java/lang/IllegalStateException")]
def DX (A : Nat → Prop) (U : State) (H : Heap) : Prop := (∃ (d1 d2 : Nat) (f1 f2 : Nat → Int32), va_Z "java/lang/Integer" "DigitOnes" "[B" (.ref d1) A U H ∧ va_Z "java/lang/Integer" "DigitTens" "[B" (.ref d2) A U H ∧ va_T .byte d1 100 (fun j => .int (f1 j)) A U H ∧ va_T .byte d2 100 (fun j => .int (f2 j)) A U H) ∧ ∀ q ∈ ncL, va_Nc q.1 q.2 U
theorem DX.moved {A : Nat → Prop} {u U : State} {H : Heap} (hvm : u.vm.Alike U.vm) (h : DX A u H) : DX A U H := by
  obtain ⟨⟨d1, d2, f1, f2, h1, h2, h3, h4⟩, h5⟩ := h
  exact ⟨⟨d1, d2, f1, f2, h1.moved hvm, h2.moved hvm, h3.moved hvm, h4.moved hvm⟩, fun q hq => (h5 q hq).moved hvm⟩
theorem DX.kept {A : Nat → Prop} {U : State} {H H1 : Heap} (h : DX A U H) (hq : ∀ a : Nat, a < H.size → ¬ A a → H1[a]? = H[a]?) : DX A U H1 := by
  obtain ⟨⟨d1, d2, f1, f2, h1, h2, h3, h4⟩, h5⟩ := h
  exact ⟨⟨d1, d2, f1, f2, h1.kept hq, h2.kept hq, h3.kept hq, h4.kept hq⟩, h5⟩
theorem DX.narrow {A B : Nat → Prop} {U : State} {H : Heap} (h : DX A U H) (hAB : ∀ q, B q → A q) : DX B U H := by
  obtain ⟨⟨d1, d2, f1, f2, h1, h2, h3, h4⟩, h5⟩ := h
  exact ⟨⟨d1, d2, f1, f2, h1.narrow hAB, h2.narrow hAB, h3.narrow hAB, h4.narrow hAB⟩, h5⟩
def Wd2 (D : va_G) (cA : Nat → ClassId) (sa : Nat → Nat) (ws : va_W) (sz : Nat) (U : State) : Prop := Wd D cA sa ws sz U ∧ DX (va_A ws sz) U U.heap
theorem Wd2.blind {av : List Value} {D : va_G} {cA : Nat → ClassId} {sa : Nat → Nat} {ws : va_W} {sz : Nat} : FrameBlind (va_Pc av (Wd2 D cA sa ws sz)) := fun a U g mk q =>
  ⟨q.1, (Wd.blind (av := av) a U g mk ⟨q.1, q.2.1⟩).2, DX.moved (u := U) (U := U.calling g mk a) (Vm.Alike.refl U.vm) q.2.2⟩
theorem Wd2.call {D : va_G} {cA : Nat → ClassId} {sa : Nat → Nat} {s U : State} {H : Heap} {A : Nat → Prop} {wc : va_W} {locs : List Loc} (h : Wd D cA sa wc H.size U) (hG : DX A s s.heap) (hS : va_S A s.heap H locs) (hF : ∀ q, va_A wc H.size q → A q) (hU : U.heap = H) (hW : s.WarmedH U.vm) : Wd2 D cA sa wc H.size U :=
  ⟨h, by rw [hU]; exact ((hG.kept hS.2.1).narrow hF).moved hW.alike⟩
/-- the digits of a number -/
def dg (w : Nat) : Nat := if w < 10 then 1 else if w < 100 then 2 else if w < 1000 then 3 else if w < 10000 then 4 else if w < 100000 then 5 else if w < 1000000 then 6 else if w < 10000000 then 7 else if w < 100000000 then 8 else if w < 1000000000 then 9 else 10
theorem dg_pos (w : Nat) : 1 ≤ dg w := by
  unfold dg
  (repeat' split) <;> omega
theorem dg_le {w i : Nat} (hi : 1 ≤ i) (hi2 : i ≤ 9) (h1 : i = 1 ∨ 10 ^ (i - 1) ≤ w) (h2 : w < 10 ^ i) : dg w = i := by
  unfold dg
  rcases (show i = 1 ∨ i = 2 ∨ i = 3 ∨ i = 4 ∨ i = 5 ∨ i = 6 ∨ i = 7 ∨ i = 8 ∨ i = 9 by omega) with q | q | q | q | q | q | q | q | q
  all_goals
    subst q
    simp only [Nat.reducePow, Nat.reduceSub, Nat.reduceEqDiff, false_or, true_or] at h1 h2
    (repeat' split) <;> omega
theorem dg_10 {w : Nat} (h : 1000000000 ≤ w) : dg w = 10 := by
  unfold dg
  (repeat' split) <;> omega
theorem dg_100 {w : Nat} (hw : w ≤ 2147483648) (h : 100 ≤ w) : dg w = dg (w / 100) + 2 := by
  rcases (show w < 1000 ∨ (1000 ≤ w ∧ w < 10000) ∨ (10000 ≤ w ∧ w < 100000) ∨ (100000 ≤ w ∧ w < 1000000) ∨ (1000000 ≤ w ∧ w < 10000000) ∨ (10000000 ≤ w ∧ w < 100000000) ∨ (100000000 ≤ w ∧ w < 1000000000) ∨ 1000000000 ≤ w by omega) with q | q | q | q | q | q | q | q
  · rw [dg_le (w := w) (i := 3) (by decide) (by decide) (Or.inr (by omega)) (by omega), dg_le (w := w / 100) (i := 1) (by decide) (by decide) (Or.inl rfl) (by omega)]
  · rw [dg_le (w := w) (i := 4) (by decide) (by decide) (Or.inr (by omega)) (by omega), dg_le (w := w / 100) (i := 2) (by decide) (by decide) (Or.inr (by omega)) (by omega)]
  · rw [dg_le (w := w) (i := 5) (by decide) (by decide) (Or.inr (by omega)) (by omega), dg_le (w := w / 100) (i := 3) (by decide) (by decide) (Or.inr (by omega)) (by omega)]
  · rw [dg_le (w := w) (i := 6) (by decide) (by decide) (Or.inr (by omega)) (by omega), dg_le (w := w / 100) (i := 4) (by decide) (by decide) (Or.inr (by omega)) (by omega)]
  · rw [dg_le (w := w) (i := 7) (by decide) (by decide) (Or.inr (by omega)) (by omega), dg_le (w := w / 100) (i := 5) (by decide) (by decide) (Or.inr (by omega)) (by omega)]
  · rw [dg_le (w := w) (i := 8) (by decide) (by decide) (Or.inr (by omega)) (by omega), dg_le (w := w / 100) (i := 6) (by decide) (by decide) (Or.inr (by omega)) (by omega)]
  · rw [dg_le (w := w) (i := 9) (by decide) (by decide) (Or.inr (by omega)) (by omega), dg_le (w := w / 100) (i := 7) (by decide) (by decide) (Or.inr (by omega)) (by omega)]
  · rw [dg_10 q, dg_le (w := w / 100) (i := 8) (by decide) (by decide) (Or.inr (by omega)) (by omega)]
theorem dg_1 {w : Nat} (h : w < 10) : dg w = 1 := dg_le (by decide) (by decide) (Or.inl rfl) (by omega)
theorem dg_2 {w : Nat} (h : 10 ≤ w) (h2 : w < 100) : dg w = 2 := dg_le (by decide) (by decide) (Or.inr (by omega)) (by omega)
/-- a number that isn't positive, as its opposite says -/
def ngI (w : Nat) : Int32 := Int32.ofInt (-(w : Int))
theorem ngI_toInt {w : Nat} (h : w ≤ 2147483648) : (ngI w).toInt = -(w : Int) := by
  unfold ngI
  rw [Int32.toInt_ofInt_of_le (by have : Int32.minValue.toInt = -2147483648 := by decide
                                  omega) (by have : (2 : Int) ^ 31 = 2147483648 := by decide
                                             omega)]
/-- what stringSize counts -/
def SZ (a : Int32) (n : Nat) : Prop := ∃ w, w ≤ 2147483648 ∧ ((a < 0 ∧ a = ngI w ∧ n = dg w + 1) ∨ (¬ a < 0 ∧ -a = ngI w ∧ n = dg w))
theorem ng_of {a : Int32} (h : a ≤ 0) : ∃ w, w ≤ 2147483648 ∧ a = ngI w := by
  have h0 := Int32.le_iff_toInt_le.mp h
  have a0 : (0 : Int32).toInt = 0 := by decide
  have h1 := Int32.minValue_le_toInt a
  have a1 : Int32.minValue.toInt = -2147483648 := by decide
  refine ⟨a.toInt.natAbs, by omega, Int32.toInt_inj.mp ?_⟩
  rw [ngI_toInt (by omega)]
  omega
theorem ng_neg {a : Int32} (h : ¬ a < 0) : -a ≤ 0 := by
  obtain ⟨j, hj, e⟩ := nI_of h
  rw [e, show -(nI j) = nI 0 - nI j from (Int32.zero_sub _).symm]
  exact nI_subneg (Nat.zero_le _) hj
theorem sz_mid {x p1 p2 : Int32} {i w : Nat} (hw : w ≤ 2147483648) (e : x = ngI w) (hi : 1 ≤ i) (hi2 : i ≤ 9) (h1 : i = 1 ∨ (x ≤ p1 ∧ p1.toInt = -((10 ^ (i - 1) : Nat) : Int))) (h2 : ¬ x ≤ p2) (e2 : p2.toInt = -((10 ^ i : Nat) : Int)) : dg w = i := by
  have ex : x.toInt = -(w : Int) := by rw [e, ngI_toInt hw]
  refine dg_le hi hi2 ?_ ?_
  · rcases h1 with q | ⟨q1, q2⟩
    · exact Or.inl q
    · right
      have := Int32.le_iff_toInt_le.mp q1
      omega
  · rcases Nat.lt_or_ge w (10 ^ i) with q | q
    · exact q
    · exact absurd (Int32.le_iff_toInt_le.mpr (by omega)) h2
theorem sz_end {x p1 : Int32} {w : Nat} (hw : w ≤ 2147483648) (e : x = ngI w) (h1 : x ≤ p1) (e1 : p1.toInt = -1000000000) : dg w = 10 := by
  have ex : x.toInt = -(w : Int) := by rw [e, ngI_toInt hw]
  have := Int32.le_iff_toInt_le.mp h1
  exact dg_10 (by omega)
theorem ng_div {w : Nat} (h : w ≤ 2147483648) : ngI w / 100 = ngI (w / 100) := by
  apply Int32.toInt_inj.mp
  have a1 : (100 : Int32).toInt = 100 := by decide
  rw [Int32.toInt_div_of_ne_right _ _ (by decide), ngI_toInt h, ngI_toInt (by omega), a1, Int.neg_tdiv, Int.tdiv_eq_ediv_of_nonneg (by omega)]
  omega
theorem ng_rem {w : Nat} (h : w ≤ 2147483648) : ngI (w / 100) * 100 - ngI w = nI (w % 100) := by
  unfold ngI nI
  rw [show (100 : Int32) = Int32.ofInt 100 from rfl, ← Int32.ofInt_mul, ← Int32.ofInt_sub]
  have e : -((w / 100 : Nat) : Int) * 100 - -(w : Int) = ((w % 100 : Nat) : Int) := by omega
  rw [e]
  rfl
theorem ng_opp {w : Nat} : -(ngI w) = nI w := by
  unfold ngI nI
  rw [← Int32.ofInt_neg, Int.neg_neg]
  rfl
theorem ng_gt {w : Nat} (h : w < 100) : ngI w > -100 := by
  rw [gt_iff_lt, Int32.lt_iff_toInt_lt, ngI_toInt (by omega)]
  have a1 : (-100 : Int32).toInt = -100 := by decide
  omega
theorem ng_ngt {w : Nat} (h : 100 ≤ w) (hw : w ≤ 2147483648) : ¬ ngI w > -100 := by
  rw [gt_iff_lt, Int32.lt_iff_toInt_lt, ngI_toInt hw]
  have a1 : (-100 : Int32).toInt = -100 := by decide
  omega
theorem ng_ge9 {w : Nat} (h : w < 10) : ngI w ≥ -9 := by
  rw [ge_iff_le, Int32.le_iff_toInt_le, ngI_toInt (by omega)]
  have a1 : (-9 : Int32).toInt = -9 := by decide
  omega
theorem ng_nge9 {w : Nat} (h : 10 ≤ w) (hw : w < 100) : ¬ ngI w ≥ -9 := by
  rw [ge_iff_le, Int32.le_iff_toInt_le, ngI_toInt (by omega)]
  have a1 : (-9 : Int32).toInt = -9 := by decide
  omega
theorem sb_fitL {k : Nat} {bs : List Int32} (h : (k, bs) ∈ sbL) : ∀ i, i < bs.length → fits .byte (.int (bs.getD i 0)) = true := (show ∀ q ∈ sbL, ∀ i, i < q.2.length → fits .byte (.int (q.2.getD i 0)) = true by decide +kernel) (k, bs) h
theorem sb_fitA {k : Nat} {bs : List Int32} (h : (k, bs) ∈ sbL) (j : Nat) : fits .byte (.int (bs.getD j 0)) = true := by
  rcases Nat.lt_or_ge j bs.length with q | q
  · exact sb_fitL h j q
  · rw [List.getD_eq_getElem?_getD, List.getElem?_eq_none q]
    decide
theorem sb_60 {k : Nat} {bs : List Int32} (h : (k, bs) ∈ sbL) : bs.length ≤ 100 := (show ∀ q ∈ sbL, q.2.length ≤ 100 by decide +kernel) (k, bs) h
def NC (r : Int32) : Prop := narrow .char (.int r) = .int r
