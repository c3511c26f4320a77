theorem nI_max {a b : Nat} (ha : a < 2 ^ 31) (hb : b < 2 ^ 31) : (if nI a < nI b then nI b else nI a) = nI (max a b) := by
  by_cases h : a < b
  · rw [if_pos (nI_lt h hb)]; congr 1; omega
  · rw [if_neg (nI_nlt (by omega) ha)]; congr 1; omega
theorem nI_subneg {a b : Nat} (h : a ≤ b) (hb : b < 2147483648) : nI a - nI b ≤ 0 := by
  have e : (nI a - nI b).toInt = (a : Int) - b := by
    rw [Int32.toInt_sub, nI_toInt (by omega), nI_toInt (by omega)]
    exact Int.bmod_eq_of_le (by omega) (by omega)
  rw [Int32.le_iff_toInt_le, e, Int32.toInt_zero]
  omega
theorem l31 (x : Int64) : ∃ n, n < 32 ∧ x &&& 31 = lN n := by
  refine ⟨(x &&& 31).toBitVec.toNat, ?_, ?_⟩
  · rw [Int64.toBitVec_and, BitVec.toNat_and]
    have e : (31 : Int64).toBitVec.toNat = 31 := by decide
    rw [e]
    exact Nat.lt_of_le_of_lt Nat.and_le_right (by decide)
  · apply Int64.toBitVec.inj
    simp [lN]
theorem lat_n {x y0 y1 : Int64} {y2 y3 : Int32} (e0 : y0 = x &&& 31) (e1 : y1 = 96 + y0) (e2 : y2 = y1.toInt32) (e3 : y3 = (y2.toUInt32 % 65536).toInt32) : ∃ n, n < 256 ∧ y3 = nI n := by
  obtain ⟨n, hn, e⟩ := l31 x
  refine ⟨96 + n, by omega, ?_⟩
  rw [e3, e2, e1, e0, e, show (96 : Int64) = lN 96 from rfl, lN_add, lN_i]
  have h := (pk_charN (q := 96 + n) (by omega)).1
  simp only [narrow] at h
  exact Value.int.inj h
/-- arraycopy out of an array that lies outside -/
theorem va_copyT {p : Program} {l : Launch} {e : Env} {R : Room} {s : State} {m : MethodId} {args : Array Value} {below : List Frame} {meth : Method} {c : Code} {H : Heap} {locs : List Loc} {cells slots : Nat} {Q : State → Prop} {pc : Nat} {ls : Array Slot} {rest : List Value} {D : va_G} {cl : List vw_C} {A : Nat → Prop} {a : Nat} {tys : List (ClassId × FieldType)} {ws : va_W} {cc : ByteArray} (hexec : p.tables.exec = Jvm.exec) (hb : c.code = cc) (hml : c.maxLocals = ls.size) {own : String} {index : Nat} (hown : s.vm.findClass own = some m.cls) (hlink : (Cond.methodLink own index arraycopyName).before args s = true) (hnat : (Cond.native arraycopyName).before args s = true) (hstat : (Cond.static arraycopyName).before args s = true) (hini : (Cond.initialized "java/lang/System").before args s = true)
    (hK : va_K D cl tys s) (hP : va_P D cl ws H) (hD : va_D A ws) (hS : va_S A s.heap H locs) {b0 n0 : Nat} {f : Nat → Int32} (hX : va_T .byte b0 n0 (fun j => .int (f j)) A s s.heap) (q1 t1 : Nat) {c1 : ClassId} {n1 : Nat} {g : Nat → Int32} (ha1 : ws[q1]? = some (a, .inl (c1, n1, .inl g))) (ht1 : tys[t1]? = some (c1, .byte))
    {sp dp n : Int32} (h1 : ¬ sp < 0) (h2 : ¬ dp < 0) (h3 : ¬ n < 0) (h4 : sp.toNatClampNeg + n.toNatClampNeg ≤ n0) (h5 : dp.toNatClampNeg + n.toNatClampNeg ≤ n1) (hfit : ∀ i, i < n.toNatClampNeg → fits .byte (.int (f (sp.toNatClampNeg + i))) = true)
    (hframes : 1 ≤ R.frames) (hlocals : (rest.map fun v => v.category).sum + (nativeFrameWords "java/lang/System" "arraycopy" 5 + 11) ≤ R.locals) (hdg : decode cc pc = .ok (.invokestatic index, 3))
    (kk : ∀ (H1 : Heap) (locs1 : List Loc), va_P D cl (ws.set q1 (a, .inl (c1, n1, .inl (va_cpy f g sp.toNatClampNeg dp.toNatClampNeg n.toNatClampNeg)))) H1 → va_D A (ws.set q1 (a, .inl (c1, n1, .inl (va_cpy f g sp.toNatClampNeg dp.toNatClampNeg n.toNatClampNeg)))) → va_S A s.heap H1 locs1 → W p l e R s m args below meth c H1 locs1 cells slots Q (F0 m (pc + 3) ls rest)) : W p l e R s m args below meth c H locs cells slots Q (F0 m pc ls (.int n :: .int dp :: .ref a :: .int sp :: .ref b0 :: rest)) := by
  have nn : ∀ z : Int32, ¬ z < 0 → z.toInt = (z.toNatClampNeg : Int) := by
    intro z hz
    have hz0 : (0 : Int) ≤ z.toInt := by
      have := Int32.not_lt.mp hz
      simpa using Int32.le_iff_toInt_le.mp this
    show z.toInt = ((z.toInt.toNat : Nat) : Int)
    omega
  intro T hT X
  obtain ⟨scr, hs1, hs2, hs3, hs4, -, hs5, hbA⟩ := hX
  have hbl : b0 < s.heap.size := (Array.getElem?_eq_some_iff.mp hs1).1
  have hc0 : H[b0]? = some scr := by rw [hS.2.1 b0 hbl hbA]; exact hs1
  have hc1 : H[a]? = some (vp_cell c1 (n1, .inl g)) := hP q1 _ ha1
  obtain ⟨hs6, k0, hk0, cm0, hkk0⟩ := hs2
  obtain ⟨-, k1, hk1, cm1, hkk1⟩ := (hK.2 t1 _ ht1).1 n1 (fun j => .int (g j))
  obtain ⟨vm', X', step⟩ := X.arraycopy hexec hown hlink hnat hstat hini (src := b0) (dst := a) (cs := scr) (cd := vp_cell c1 (n1, .inl g)) (srcPos := sp) (destPos := dp) (n := n) (by rw [hT]; exact hc0) (by rw [hT]; exact hc1)
    hs6 (fun _ h => by cases h) hs3 (fun h => by cases h) hk0 hk1 hkk0 hkk1 (by simp [refKind]) h1 h2 h3
    (by rw [nn sp h1, nn n h3]; omega)
    (by rw [nn dp h2, nn n h3]; show ¬ _ > ((arrV c1 n1 (fun j => .int (g j))).slots.size : Int); rw [arrV_size]; omega)
    (fun vm₁ _ i hi => by
      have e : scr.slots.getD (sp.toNatClampNeg + i) .null = .int (f (sp.toNatClampNeg + i)) := by
        rw [Array.getD_eq_getD_getElem?, hs5 _ (by omega)]
        rfl
      refine ⟨?_, ?_⟩
      · rw [e]
        exact hfit i hi
      · rw [e]
        exact trivial)
    (g := F0 m pc ls (.int n :: .int dp :: .ref a :: .int sp :: .ref b0 :: rest)) rfl (by rw [hml]) (rest := rest) rfl (by rw [hb]; exact hdg) hframes (by show 2 * 0 + _ + _ ≤ _; omega)
  have e1 : copied scr (vp_cell c1 (n1, .inl g)) sp dp n = vp_cell c1 (n1, .inl (va_cpy f g sp.toNatClampNeg dp.toNatClampNeg n.toNatClampNeg)) := va_copiedX (fun z => .int z) scr c1 f g hs5 h4
  rw [e1] at X' step
  have hl : a < H.size := (Array.getElem?_eq_some_iff.mp hc1).1
  have hheap : ((T.setVm vm').setCell a (vp_cell c1 (n1, .inl (va_cpy f g sp.toNatClampNeg dp.toNatClampNeg n.toNatClampNeg)))).heap = H.setIfInBounds a (vp_cell c1 (n1, .inl (va_cpy f g sp.toNatClampNeg dp.toNatClampNeg n.toNatClampNeg))) := by rw [← hT]; rfl
  have oq : ∀ q : Nat, q ≠ a → (H.setIfInBounds a (vp_cell c1 (n1, .inl (va_cpy f g sp.toNatClampNeg dp.toNatClampNeg n.toNatClampNeg))))[q]? = H[q]? := fun q hq => by simp [Array.getElem?_setIfInBounds, Ne.symm hq]
  obtain ⟨t, a1, b1⟩ := kk _ _ (hP.set hD ha1 (show (H.setIfInBounds a _)[a]? = some _ by simp [Array.getElem?_setIfInBounds, hl]) oq) (hD.set ha1) ⟨by simp; exact hS.1, fun q g1 g2 => by
      rw [oq q (fun e => g2 (by rw [e]; exact hD.2 q1 _ ha1))]
      exact hS.2.1 q g1 g2, fun q hq => by
      rcases List.mem_append.mp hq with h | h
      · exact hS.2.2 q h
      · obtain ⟨z, -, hz⟩ := List.mem_map.mp h
        rw [← hz]
        exact hD.2 q1 _ ha1⟩ _ hheap X'
  exact ⟨t, step t a1, b1⟩
/-- the arrays of the digits lie outside what is written -/
def ncL : List (String × String) := [("java/lang/IllegalArgumentException", "java/lang/IllegalStateException"), ("java/lang/IllegalArgumentException", "java/lang/IndexOutOfBoundsException"), ("java/lang/IllegalStateException", "java/lang/IllegalArgumentException"), ("java/lang/IllegalStateException", "java/lang/IndexOutOfBoundsException"), ("java/lang/IndexOutOfBoundsException", "java/lang/IllegalArgumentException"), ("java/lang/IndexOutOfBoundsException", "java/lang/IllegalStateException")]
def DX (A : Nat → Prop) (U : State) (H : Heap) : Prop := (∃ (d1 d2 : Nat) (f1 f2 : Nat → Int32), va_Z "java/lang/Integer" "DigitOnes" "[B" (.ref d1) A U H ∧ va_Z "java/lang/Integer" "DigitTens" "[B" (.ref d2) A U H ∧ va_T .byte d1 100 (fun j => .int (f1 j)) A U H ∧ va_T .byte d2 100 (fun j => .int (f2 j)) A U H) ∧ ∀ q ∈ ncL, va_Nc q.1 q.2 U
theorem DX.moved {A : Nat → Prop} {u U : State} {H : Heap} (hvm : u.vm.Alike U.vm) (h : DX A u H) : DX A U H := by
  obtain ⟨⟨d1, d2, f1, f2, h1, h2, h3, h4⟩, h5⟩ := h
  exact ⟨⟨d1, d2, f1, f2, h1.moved hvm, h2.moved hvm, h3.moved hvm, h4.moved hvm⟩, fun q hq => (h5 q hq).moved hvm⟩
theorem DX.kept {A : Nat → Prop} {U : State} {H H1 : Heap} (h : DX A U H) (hq : ∀ a : Nat, a < H.size → ¬ A a → H1[a]? = H[a]?) : DX A U H1 := by
  obtain ⟨⟨d1, d2, f1, f2, h1, h2, h3, h4⟩, h5⟩ := h
  exact ⟨⟨d1, d2, f1, f2, h1.kept hq, h2.kept hq, h3.kept hq, h4.kept hq⟩, h5⟩
theorem DX.narrow {A B : Nat → Prop} {U : State} {H : Heap} (h : DX A U H) (hAB : ∀ q, B q → A q) : DX B U H := by
  obtain ⟨⟨d1, d2, f1, f2, h1, h2, h3, h4⟩, h5⟩ := h
  exact ⟨⟨d1, d2, f1, f2, h1.narrow hAB, h2.narrow hAB, h3.narrow hAB, h4.narrow hAB⟩, h5⟩
def Wd2 (D : va_G) (cA : Nat → ClassId) (sa : Nat → Nat) (ws : va_W) (sz : Nat) (U : State) : Prop := Wd D cA sa ws sz U ∧ DX (va_A ws sz) U U.heap
theorem Wd2.blind {av : List Value} {D : va_G} {cA : Nat → ClassId} {sa : Nat → Nat} {ws : va_W} {sz : Nat} : FrameBlind (va_Pc av (Wd2 D cA sa ws sz)) := fun a U g mk q =>
  ⟨q.1, (Wd.blind (av := av) a U g mk ⟨q.1, q.2.1⟩).2, DX.moved (u := U) (U := U.calling g mk a) (Vm.Alike.refl U.vm) q.2.2⟩
theorem Wd2.call {D : va_G} {cA : Nat → ClassId} {sa : Nat → Nat} {s U : State} {H : Heap} {A : Nat → Prop} {wc : va_W} {locs : List Loc} (h : Wd D cA sa wc H.size U) (hG : DX A s s.heap) (hS : va_S A s.heap H locs) (hF : ∀ q, va_A wc H.size q → A q) (hU : U.heap = H) (hW : s.WarmedH U.vm) : Wd2 D cA sa wc H.size U :=
  ⟨h, by rw [hU]; exact ((hG.kept hS.2.1).narrow hF).moved hW.alike⟩
/-- the digits of a number -/
def dg (w : Nat) : Nat := if w < 10 then 1 else if w < 100 then 2 else if w < 1000 then 3 else if w < 10000 then 4 else if w < 100000 then 5 else if w < 1000000 then 6 else if w < 10000000 then 7 else if w < 100000000 then 8 else if w < 1000000000 then 9 else 10
theorem dg_pos (w : Nat) : 1 ≤ dg w := by
  unfold dg
  (repeat' split) <;> omega
theorem dg_le {w i : Nat} (hi : 1 ≤ i) (hi2 : i ≤ 9) (h1 : i = 1 ∨ 10 ^ (i - 1) ≤ w) (h2 : w < 10 ^ i) : dg w = i := by
  unfold dg
  rcases (show i = 1 ∨ i = 2 ∨ i = 3 ∨ i = 4 ∨ i = 5 ∨ i = 6 ∨ i = 7 ∨ i = 8 ∨ i = 9 by omega) with q | q | q | q | q | q | q | q | q
  all_goals
    subst q
    simp only [Nat.reducePow, Nat.reduceSub, Nat.reduceEqDiff, false_or, true_or] at h1 h2
    (repeat' split) <;> omega
theorem dg_10 {w : Nat} (h : 1000000000 ≤ w) : dg w = 10 := by
  unfold dg
  (repeat' split) <;> omega
theorem dg_100 {w : Nat} (hw : w ≤ 2147483648) (h : 100 ≤ w) : dg w = dg (w / 100) + 2 := by
  rcases (show w < 1000 ∨ (1000 ≤ w ∧ w < 10000) ∨ (10000 ≤ w ∧ w < 100000) ∨ (100000 ≤ w ∧ w < 1000000) ∨ (1000000 ≤ w ∧ w < 10000000) ∨ (10000000 ≤ w ∧ w < 100000000) ∨ (100000000 ≤ w ∧ w < 1000000000) ∨ 1000000000 ≤ w by omega) with q | q | q | q | q | q | q | q
  · rw [dg_le (w := w) (i := 3) (by decide) (by decide) (Or.inr (by omega)) (by omega), dg_le (w := w / 100) (i := 1) (by decide) (by decide) (Or.inl rfl) (by omega)]
  · rw [dg_le (w := w) (i := 4) (by decide) (by decide) (Or.inr (by omega)) (by omega), dg_le (w := w / 100) (i := 2) (by decide) (by decide) (Or.inr (by omega)) (by omega)]
  · rw [dg_le (w := w) (i := 5) (by decide) (by decide) (Or.inr (by omega)) (by omega), dg_le (w := w / 100) (i := 3) (by decide) (by decide) (Or.inr (by omega)) (by omega)]
  · rw [dg_le (w := w) (i := 6) (by decide) (by decide) (Or.inr (by omega)) (by omega), dg_le (w := w / 100) (i := 4) (by decide) (by decide) (Or.inr (by omega)) (by omega)]
  · rw [dg_le (w := w) (i := 7) (by decide) (by decide) (Or.inr (by omega)) (by omega), dg_le (w := w / 100) (i := 5) (by decide) (by decide) (Or.inr (by omega)) (by omega)]
  · rw [dg_le (w := w) (i := 8) (by decide) (by decide) (Or.inr (by omega)) (by omega), dg_le (w := w / 100) (i := 6) (by decide) (by decide) (Or.inr (by omega)) (by omega)]
  · rw [dg_le (w := w) (i := 9) (by decide) (by decide) (Or.inr (by omega)) (by omega), dg_le (w := w / 100) (i := 7) (by decide) (by decide) (Or.inr (by omega)) (by omega)]
  · rw [dg_10 q, dg_le (w := w / 100) (i := 8) (by decide) (by decide) (Or.inr (by omega)) (by omega)]
theorem dg_1 {w : Nat} (h : w < 10) : dg w = 1 := dg_le (by decide) (by decide) (Or.inl rfl) (by omega)
theorem dg_2 {w : Nat} (h : 10 ≤ w) (h2 : w < 100) : dg w = 2 := dg_le (by decide) (by decide) (Or.inr (by omega)) (by omega)
/-- a number that isn't positive, as its opposite says -/
def ngI (w : Nat) : Int32 := Int32.ofInt (-(w : Int))
theorem ngI_toInt {w : Nat} (h : w ≤ 2147483648) : (ngI w).toInt = -(w : Int) := by
  unfold ngI
  rw [Int32.toInt_ofInt_of_le (by have : Int32.minValue.toInt = -2147483648 := by decide
                                  omega) (by have : (2 : Int) ^ 31 = 2147483648 := by decide
                                             omega)]
/-- what stringSize counts -/
def SZ (a : Int32) (n : Nat) : Prop := ∃ w, w ≤ 2147483648 ∧ ((a < 0 ∧ a = ngI w ∧ n = dg w + 1) ∨ (¬ a < 0 ∧ -a = ngI w ∧ n = dg w))
theorem ng_of {a : Int32} (h : a ≤ 0) : ∃ w, w ≤ 2147483648 ∧ a = ngI w := by
  have h0 := Int32.le_iff_toInt_le.mp h
  have a0 : (0 : Int32).toInt = 0 := by decide
  have h1 := Int32.minValue_le_toInt a
  have a1 : Int32.minValue.toInt = -2147483648 := by decide
  refine ⟨a.toInt.natAbs, by omega, Int32.toInt_inj.mp ?_⟩
  rw [ngI_toInt (by omega)]
  omega
theorem ng_neg {a : Int32} (h : ¬ a < 0) : -a ≤ 0 := by
  obtain ⟨j, hj, e⟩ := nI_of h
  rw [e, show -(nI j) = nI 0 - nI j from (Int32.zero_sub _).symm]
  exact nI_subneg (Nat.zero_le _) hj
theorem sz_mid {x p1 p2 : Int32} {i w : Nat} (hw : w ≤ 2147483648) (e : x = ngI w) (hi : 1 ≤ i) (hi2 : i ≤ 9) (h1 : i = 1 ∨ (x ≤ p1 ∧ p1.toInt = -((10 ^ (i - 1) : Nat) : Int))) (h2 : ¬ x ≤ p2) (e2 : p2.toInt = -((10 ^ i : Nat) : Int)) : dg w = i := by
  have ex : x.toInt = -(w : Int) := by rw [e, ngI_toInt hw]
  refine dg_le hi hi2 ?_ ?_
  · rcases h1 with q | ⟨q1, q2⟩
    · exact Or.inl q
    · right
      have := Int32.le_iff_toInt_le.mp q1
      omega
  · rcases Nat.lt_or_ge w (10 ^ i) with q | q
    · exact q
    · exact absurd (Int32.le_iff_toInt_le.mpr (by omega)) h2
theorem sz_end {x p1 : Int32} {w : Nat} (hw : w ≤ 2147483648) (e : x = ngI w) (h1 : x ≤ p1) (e1 : p1.toInt = -1000000000) : dg w = 10 := by
  have ex : x.toInt = -(w : Int) := by rw [e, ngI_toInt hw]
  have := Int32.le_iff_toInt_le.mp h1
  exact dg_10 (by omega)
theorem ng_div {w : Nat} (h : w ≤ 2147483648) : ngI w / 100 = ngI (w / 100) := by
  apply Int32.toInt_inj.mp
  have a1 : (100 : Int32).toInt = 100 := by decide
  rw [Int32.toInt_div_of_ne_right _ _ (by decide), ngI_toInt h, ngI_toInt (by omega), a1, Int.neg_tdiv, Int.tdiv_eq_ediv_of_nonneg (by omega)]
  omega
theorem ng_rem {w : Nat} (h : w ≤ 2147483648) : ngI (w / 100) * 100 - ngI w = nI (w % 100) := by
  unfold ngI nI
  rw [show (100 : Int32) = Int32.ofInt 100 from rfl, ← Int32.ofInt_mul, ← Int32.ofInt_sub]
  have e : -((w / 100 : Nat) : Int) * 100 - -(w : Int) = ((w % 100 : Nat) : Int) := by omega
  rw [e]
  rfl
theorem ng_opp {w : Nat} : -(ngI w) = nI w := by
  unfold ngI nI
  rw [← Int32.ofInt_neg, Int.neg_neg]
  rfl
theorem ng_gt {w : Nat} (h : w < 100) : ngI w > -100 := by
  rw [gt_iff_lt, Int32.lt_iff_toInt_lt, ngI_toInt (by omega)]
  have a1 : (-100 : Int32).toInt = -100 := by decide
  omega
theorem ng_ngt {w : Nat} (h : 100 ≤ w) (hw : w ≤ 2147483648) : ¬ ngI w > -100 := by
  rw [gt_iff_lt, Int32.lt_iff_toInt_lt, ngI_toInt hw]
  have a1 : (-100 : Int32).toInt = -100 := by decide
  omega
theorem ng_ge9 {w : Nat} (h : w < 10) : ngI w ≥ -9 := by
  rw [ge_iff_le, Int32.le_iff_toInt_le, ngI_toInt (by omega)]
  have a1 : (-9 : Int32).toInt = -9 := by decide
  omega
theorem ng_nge9 {w : Nat} (h : 10 ≤ w) (hw : w < 100) : ¬ ngI w ≥ -9 := by
  rw [ge_iff_le, Int32.le_iff_toInt_le, ngI_toInt (by omega)]
  have a1 : (-9 : Int32).toInt = -9 := by decide
  omega
theorem sb_fitL {k : Nat} {bs : List Int32} (h : (k, bs) ∈ sbL) : ∀ i, i < bs.length → fits .byte (.int (bs.getD i 0)) = true := (show ∀ q ∈ sbL, ∀ i, i < q.2.length → fits .byte (.int (q.2.getD i 0)) = true by decide +kernel) (k, bs) h
theorem sb_fitA {k : Nat} {bs : List Int32} (h : (k, bs) ∈ sbL) (j : Nat) : fits .byte (.int (bs.getD j 0)) = true := by
  rcases Nat.lt_or_ge j bs.length with q | q
  · exact sb_fitL h j q
  · rw [List.getD_eq_getElem?_getD, List.getElem?_eq_none q]
    decide
theorem sb_60 {k : Nat} {bs : List Int32} (h : (k, bs) ∈ sbL) : bs.length ≤ 100 := (show ∀ q ∈ sbL, q.2.length ≤ 100 by decide +kernel) (k, bs) h
def NC (r : Int32) : Prop := narrow .char (.int r) = .int r
