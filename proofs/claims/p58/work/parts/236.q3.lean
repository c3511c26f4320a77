/-- the sum of the deposits -/
def dsL (l : List Int64) : Int32 := l.foldl (fun s v => s + v.toInt32) 0
theorem dsL_app (l : List Int64) (v : Int64) : dsL (l ++ [v]) = dsL l + v.toInt32 := by
  unfold dsL
  rw [List.foldl_append]
  rfl
/-- the row of the account that a text defines -/
def RwC (C : Ct9) (f : Nat → Int32) : Prop :=
  (f 0 = C.1.1.toInt32 ∧ f 1 = C.1.2.1.toInt32 ∧ f 3 = C.1.2.2.toInt32) ∧ (f 4 = 0 ∧ f 7 = 0 ∧ f 8 = 0 ∧ f 10 = 0 ∧ f 12 = 0) ∧ (f 5 = dsL C.2.1 ∧ f 6 = dsL C.2.1 ∧ f 15 = nI C.2.1.length ∧ C.2.1.length ≤ 6) ∧
  (∀ m a p c, C.2.2[m]? = some (a, p, c) → f (16 + 7 * m + 0) = a.toInt32 ∧ f (16 + 7 * m + 1) = 0 ∧ f (16 + 7 * m + 2) = 0 ∧ f (16 + 7 * m + 3) = 0 ∧ f (16 + 7 * m + 4) = -1 ∧ f (16 + 7 * m + 5) = 0 ∧ f (16 + 7 * m + 6) = p.toInt32) ∧
  ∀ m, C.2.2.length ≤ m → m < 10 → f (16 + 7 * m + 1) = 0 ∧ f (16 + 7 * m + 2) = 0 ∧ f (16 + 7 * m + 3) = 0 ∧ f (16 + 7 * m + 5) = 0
/-- the reference's codes -/
def CfC (C : Ct9) (ml pl : List Int64) (fc fq : Nat → Int32) (cn cd : Nat) : Prop := cn = C.2.2.length ∧ cd = qC9 C.2.2 cn ∧ ∀ m a p c, C.2.2[m]? = some (a, p, c) → CdR ml pl (qC9 C.2.2 m) c fc ∧ fq m = nI (qC9 C.2.2 m) ∧ fq (m + 1) = nI (qC9 C.2.2 (m + 1))
def TR9 (K : Nat → Int32) (V : Nat → Int64) (ml pl : List Int64) (fp fc fq : Nat → Int32) (cn cd dd i : Nat) : Prop := ∃ C, Tc9 K V 0 C09 i C ∧ RwC C fp ∧ CfC C ml pl fc fq cn cd ∧ dd = C.2.1.length
/-- a statement has been read up to its semicolon at j -/
def TS9 (K : Nat → Int32) (V : Nat → Int64) (ml pl : List Int64) (fp fc fq : Nat → Int32) (cn cd dd j : Nat) : Prop := ∃ C i C2, Tc9 K V 0 C09 i C ∧ ¬ K i = 1 ∧ SC9 K V i C j C2 ∧ RwC C2 fp ∧ CfC C2 ml pl fc fq cn cd ∧ dd = C2.2.1.length
def DR9 (K : Nat → Int32) (V : Nat → Int64) (ml pl : List Int64) (fp fc fq : Nat → Int32) (cn cd : Nat) : Prop := ∃ C, TC9 K V 0 C09 C ∧ RwC C fp ∧ CfC C ml pl fc fq cn cd
theorem TS9.go {K : Nat → Int32} {V : Nat → Int64} {ml pl : List Int64} {fp fc fq : Nat → Int32} {cn cd dd i : Nat} {j : Nat} (h : TS9 K V ml pl fp fc fq cn cd dd i) (hj : j = i + 1) : TR9 K V ml pl fp fc fq cn cd dd j := by
  obtain ⟨C, i0, C2, h1, h2, h3, h4⟩ := h
  rw [hj]
  exact ⟨C2, h1.go h2 h3, h4⟩
theorem TR9.fin {K : Nat → Int32} {V : Nat → Int64} {ml pl : List Int64} {fp fc fq : Nat → Int32} {cn cd dd i : Nat} (h : TR9 K V ml pl fp fc fq cn cd dd i) (hk : K i = 1) : DR9 K V ml pl fp fc fq cn cd := by
  obtain ⟨C, h1, h2⟩ := h
  exact ⟨C, h1 C (TC9.fin hk), h2.1, h2.2.1⟩
/-- an empty row -/
def Row0 (f : Nat → Int32) : Prop := f 1 = 365 ∧ ∀ j, j < 86 → j ≠ 1 → f j = 0
theorem TR9.zero {K : Nat → Int32} {V : Nat → Int64} {fp fc fq : Nat → Int32} (h : Row0 fp) : TR9 K V [] [] fp fc fq 0 0 0 0 :=
  ⟨C09, Tc9.zero, ⟨⟨h.2 0 (by omega) (by omega), h.1, h.2 3 (by omega) (by omega)⟩, ⟨h.2 4 (by omega) (by omega), h.2 7 (by omega) (by omega), h.2 8 (by omega) (by omega), h.2 10 (by omega) (by omega), h.2 12 (by omega) (by omega)⟩, ⟨h.2 5 (by omega) (by omega), h.2 6 (by omega) (by omega), h.2 15 (by omega) (by omega), Nat.zero_le _⟩, (fun m a p c q => nomatch (show (none : Option (Int64 × Int64 × List Cd9)) = some (a, p, c) from q)), fun m _ hm => ⟨h.2 _ (by omega) (by omega), h.2 _ (by omega) (by omega), h.2 _ (by omega) (by omega), h.2 _ (by omega) (by omega)⟩⟩, ⟨rfl, rfl, fun m a p c q => nomatch (show (none : Option (Int64 × Int64 × List Cd9)) = some (a, p, c) from q)⟩, rfl⟩
theorem TS9.rate {K : Nat → Int32} {V : Nat → Int64} {ml pl : List Int64} {fp fc fq : Nat → Int32} {cn cd dd i : Nat} {j : Nat} {z1 z2 : Nat → Int32} (h : TR9 K V ml pl fp fc fq cn cd dd i) (hk : K i = 8) (u1 : UpV 0 fp z1 (V (i + 1))) (u2 : UpV 1 z1 z2 (V (i + 2))) (hj : j = i + 3) : TS9 K V ml pl z2 fc fq cn cd dd j := by
  obtain ⟨C, h1, ⟨⟨a0, a1, a3⟩, a4, a5, aM, aN⟩, h3⟩ := h
  unfold UpV at u1 u2
  have fo : ∀ k, k ≠ 0 → k ≠ 1 → z2 k = fp k := fun k k0 k1 => by rw [u2, u1, pk_un k1, pk_un k0]
  rw [hj]
  refine ⟨C, i, _, h1, by rw [hk]; decide, SC9.rate hk, ⟨⟨by rw [u2, u1, pk_un (by omega), pk_us], by rw [u2, pk_us], (fo 3 (by omega) (by omega)).trans a3⟩, ?_, ?_, fun m a p c hm => ?_, fun m l1 l2 => ?_⟩, h3⟩
  · rw [fo 4 (by omega) (by omega), fo 7 (by omega) (by omega), fo 8 (by omega) (by omega), fo 10 (by omega) (by omega), fo 12 (by omega) (by omega)]; exact a4
  · rw [fo 5 (by omega) (by omega), fo 6 (by omega) (by omega), fo 15 (by omega) (by omega)]; exact a5
  · have z := aM m a p c hm
    rw [fo (16 + 7 * m + 0) (by omega) (by omega), fo (16 + 7 * m + 1) (by omega) (by omega), fo (16 + 7 * m + 2) (by omega) (by omega), fo (16 + 7 * m + 3) (by omega) (by omega), fo (16 + 7 * m + 4) (by omega) (by omega), fo (16 + 7 * m + 5) (by omega) (by omega), fo (16 + 7 * m + 6) (by omega) (by omega)]
    exact z
  · have z := aN m l1 l2
    rw [fo (16 + 7 * m + 1) (by omega) (by omega), fo (16 + 7 * m + 2) (by omega) (by omega), fo (16 + 7 * m + 3) (by omega) (by omega), fo (16 + 7 * m + 5) (by omega) (by omega)]
    exact z
theorem TS9.set {K : Nat → Int32} {V : Nat → Int64} {ml pl : List Int64} {fp fc fq : Nat → Int32} {cn cd dd i : Nat} {j k : Nat} {z : Nat → Int32} {v : Int64} (h : TR9 K V ml pl fp fc fq cn cd dd i) (hk : (K i = 9 ∧ k = 2) ∨ (K i = 10 ∧ k = 3)) (u : UpV k fp z v) (hv : v = V (i + 1)) (hj : j = i + 2) : TS9 K V ml pl z fc fq cn cd dd j := by
  obtain ⟨C, h1, ⟨⟨a0, a1, a3⟩, a4, a5, aM, aN⟩, h3⟩ := h
  unfold UpV at u
  subst hv
  rw [hj]
  have fo : ∀ x, x ≠ k → z x = fp x := fun x hx => by rw [u, pk_un hx]
  have k23 : k = 2 ∨ k = 3 := by omega
  have w4 : z 4 = 0 ∧ z 7 = 0 ∧ z 8 = 0 ∧ z 10 = 0 ∧ z 12 = 0 := by
    rw [fo 4 (by omega), fo 7 (by omega), fo 8 (by omega), fo 10 (by omega), fo 12 (by omega)]; exact a4
  have w5 : z 5 = dsL C.2.1 ∧ z 6 = dsL C.2.1 ∧ z 15 = nI C.2.1.length ∧ C.2.1.length ≤ 6 := by
    rw [fo 5 (by omega), fo 6 (by omega), fo 15 (by omega)]; exact a5
  have wM : ∀ m a p c, C.2.2[m]? = some (a, p, c) → z (16 + 7 * m + 0) = a.toInt32 ∧ z (16 + 7 * m + 1) = 0 ∧ z (16 + 7 * m + 2) = 0 ∧ z (16 + 7 * m + 3) = 0 ∧ z (16 + 7 * m + 4) = -1 ∧ z (16 + 7 * m + 5) = 0 ∧ z (16 + 7 * m + 6) = p.toInt32 := fun m a p c hm => by
    rw [fo (16 + 7 * m + 0) (by omega), fo (16 + 7 * m + 1) (by omega), fo (16 + 7 * m + 2) (by omega), fo (16 + 7 * m + 3) (by omega), fo (16 + 7 * m + 4) (by omega), fo (16 + 7 * m + 5) (by omega), fo (16 + 7 * m + 6) (by omega)]
    exact aM m a p c hm
  have wN : ∀ m, C.2.2.length ≤ m → m < 10 → z (16 + 7 * m + 1) = 0 ∧ z (16 + 7 * m + 2) = 0 ∧ z (16 + 7 * m + 3) = 0 ∧ z (16 + 7 * m + 5) = 0 := fun m l1 l2 => by
    rw [fo (16 + 7 * m + 1) (by omega), fo (16 + 7 * m + 2) (by omega), fo (16 + 7 * m + 3) (by omega), fo (16 + 7 * m + 5) (by omega)]
    exact aN m l1 l2
  rcases hk with ⟨q, e⟩ | ⟨q, e⟩
  · subst e
    exact ⟨C, i, _, h1, by rw [q]; decide, SC9.fee q, ⟨⟨(fo 0 (by omega)).trans a0, (fo 1 (by omega)).trans a1, (fo 3 (by omega)).trans a3⟩, w4, w5, wM, wN⟩, h3⟩
  · subst e
    exact ⟨C, i, _, h1, by rw [q]; decide, SC9.grace q, ⟨⟨(fo 0 (by omega)).trans a0, (fo 1 (by omega)).trans a1, by rw [u, pk_us]⟩, w4, w5, wM, wN⟩, h3⟩
theorem TS9.dep {K : Nat → Int32} {V : Nat → Int64} {ml pl : List Int64} {fp fc fq : Nat → Int32} {cn cd dd i : Nat} {j d2 : Nat} {x : Int32} {z : Nat → Int32} (h : TR9 K V ml pl fp fc fq cn cd dd i) (hk : K i = 11) (h1 : nmE (lN 1) (lN 99999) (K (i + 1)) (V (i + 1)) = none) (hx : NV9 x (V (i + 1))) (ha : Ab (entR x (upd (upd fp 5 (fp 5 + x)) 6 (fp 6 + x))) z) (hd : dd < 6) (hn : d2 = dd + 1) (hj : j = i + 2) (hcn : cn ≤ 10) : TS9 K V ml pl z fc fq cn cd d2 j := by
  obtain ⟨C, hT, ⟨⟨a0, a1, a3⟩, a4, a5, aM, aN⟩, h3, h4⟩ := h
  obtain ⟨n, l1, l2, l3, l4⟩ := nm_32 h1 (by omega) (by omega)
  have ex : x = (V (i + 1)).toInt32 := hx
  have x0 : ¬ x = 0 := by
    rw [ex, l4]
    intro e
    have := (nI_eq (a := n) (b := 0) (by omega) (by omega)).mp e
    omega
  have hd6 : C.2.1.length < 6 := by omega
  have fo : ∀ k, k < 86 → k ≠ 5 → k ≠ 6 → k ≠ 15 → k ≠ 9 → z k = fp k := fun k k86 k5 k6 k15 k9 => by rw [ha k k86 k9, entR_n k15, pk_un k6, pk_un k5]
  have w5 : z 5 = fp 5 + x := by rw [ha 5 (by omega) (by omega), entR_n (by omega), pk_un (by omega), pk_us]
  have w6 : z 6 = fp 6 + x := by rw [ha 6 (by omega) (by omega), entR_n (by omega), pk_us]
  have w15 : z 15 = nI (C.2.1.length + 1) := by
    rw [ha 15 (by omega) (by omega), entR_e (k := C.2.1.length) (by rw [pk_un (by omega), pk_un (by omega)]; exact a5.2.2.1) (by omega)]
    unfold entN
    rw [if_neg x0]
    congr 1
    omega
  have hcl : C.2.2.length ≤ 10 := by rw [← h3.1]; exact hcn
  rw [hj]
  refine ⟨C, i, _, hT, by rw [hk]; decide, SC9.dep hk, ⟨⟨(fo 0 (by omega) (by omega) (by omega) (by omega) (by omega)).trans a0, (fo 1 (by omega) (by omega) (by omega) (by omega) (by omega)).trans a1, (fo 3 (by omega) (by omega) (by omega) (by omega) (by omega)).trans a3⟩, ?_, ⟨?_, ?_, ?_, ?_⟩, fun m a p c hm => ?_, fun m l1 l2 => ?_⟩, h3, by rw [List.length_append, hn, h4]; rfl⟩
  · rw [fo 4 (by omega) (by omega) (by omega) (by omega) (by omega), fo 7 (by omega) (by omega) (by omega) (by omega) (by omega), fo 8 (by omega) (by omega) (by omega) (by omega) (by omega), fo 10 (by omega) (by omega) (by omega) (by omega) (by omega), fo 12 (by omega) (by omega) (by omega) (by omega) (by omega)]; exact a4
  · rw [w5, a5.1, ex]; exact (dsL_app _ _).symm
  · rw [w6, a5.2.1, ex]; exact (dsL_app _ _).symm
  · rw [w15, List.length_append]; rfl
  · rw [List.length_append]; show C.2.1.length + 1 ≤ 6; omega
  · have hl : m < C.2.2.length := (List.getElem?_eq_some_iff.mp hm).1
    have y := aM m a p c hm
    rw [fo (16 + 7 * m + 0) (by omega) (by omega) (by omega) (by omega) (by omega), fo (16 + 7 * m + 1) (by omega) (by omega) (by omega) (by omega) (by omega), fo (16 + 7 * m + 2) (by omega) (by omega) (by omega) (by omega) (by omega), fo (16 + 7 * m + 3) (by omega) (by omega) (by omega) (by omega) (by omega), fo (16 + 7 * m + 4) (by omega) (by omega) (by omega) (by omega) (by omega), fo (16 + 7 * m + 5) (by omega) (by omega) (by omega) (by omega) (by omega), fo (16 + 7 * m + 6) (by omega) (by omega) (by omega) (by omega) (by omega)]
    exact y
  · have y := aN m l1 l2
    rw [fo (16 + 7 * m + 1) (by omega) (by omega) (by omega) (by omega) (by omega), fo (16 + 7 * m + 2) (by omega) (by omega) (by omega) (by omega) (by omega), fo (16 + 7 * m + 3) (by omega) (by omega) (by omega) (by omega) (by omega), fo (16 + 7 * m + 5) (by omega) (by omega) (by omega) (by omega) (by omega)]
    exact y
theorem TS9.mil {K : Nat → Int32} {V : Nat → Int64} {ml pl : List Int64} {fp fc fq : Nat → Int32} {cn cd dd i : Nat} {j cn2 cd2 : Nat} {ml2 pl2 : List Int64} {w : Int64} {z1 z2 z3 z4 z5 zc q1 q2 : Nat → Int32} (h : TR9 K V ml pl fp fc fq cn cd dd i) (hk : K i = 12) (u1 : UpV (16 + 7 * cn + 0) fp z1 (V (i + 2))) (u2 : UpV (16 + 7 * cn + 6) z1 z2 (V (i + 3))) (k3 : K14 z2 z3) (u4 : Upp (16 + 7 * cn + 4) (-1) z3 z4) (u5 : Upp 13 (nI cn2) z4 z5) (hc : CR9 K V 3 (i + 5) j ml pl pl2 cd cd2 fc zc) (v1 : Upp cn (nI cd) fq q1) (v2 : Upp (cn + 1) (nI cd2) q1 q2) (hm : ml2 = ml ++ [w]) (l1 : ml2.length ≤ 10) (l2 : pl2.length ≤ 8) (hn : cn2 = cn + 1) (hc10 : cn < 10) : TS9 K V ml2 pl2 z5 zc q2 cn2 cd2 dd j := by
  obtain ⟨C, hT, ⟨⟨a0, a1, a3⟩, a4, a5, aM, aN⟩, ⟨c1, c2, c3⟩, h9⟩ := h
  obtain ⟨cs, r1, r2, r3, r4, r5⟩ := hc
  unfold UpV at u1 u2
  unfold Upp at u4 u5 v1 v2
  have hE : Ext9 ml ml2 := ⟨[w], hm⟩
  have fo : ∀ k, k ≠ 14 → k ≠ 13 → k ≠ 16 + 7 * cn + 0 → k ≠ 16 + 7 * cn + 6 → k ≠ 16 + 7 * cn + 4 → z5 k = fp k := fun k k14 k13 k0 k6 k4 => by rw [u5, pk_un k13, u4, pk_un k4, k3 k k14, u2, pk_un k6, u1, pk_un k0]
  have w0 : z5 (16 + 7 * cn + 0) = (V (i + 2)).toInt32 := by rw [u5, pk_un (by omega), u4, pk_un (by omega), k3 _ (by omega), u2, pk_un (by omega), u1, pk_us]
  have w6 : z5 (16 + 7 * cn + 6) = (V (i + 3)).toInt32 := by rw [u5, pk_un (by omega), u4, pk_un (by omega), k3 _ (by omega), u2, pk_us]
  have w4 : z5 (16 + 7 * cn + 4) = -1 := by rw [u5, pk_un (by omega), u4, pk_us]
  have eq2 : cd2 = qC9 (C.2.2 ++ [(V (i + 2), V (i + 3), cs)]) (C.2.2.length + 1) := by rw [qC9_new, ← c1, ← c2]; exact r2
  refine ⟨C, i, _, hT, by rw [hk]; decide, SC9.mil hk r1, ⟨⟨?_, ?_, ?_⟩, ?_, ?_, fun m a p c hx => ?_, fun m l1 l2 => ?_⟩, ⟨by rw [List.length_append, hn, c1]; rfl, by rw [hn, c1]; exact eq2, fun m a p c hx => ?_⟩, h9⟩
  · rw [fo 0 (by omega) (by omega) (by omega) (by omega) (by omega)]; exact a0
  · rw [fo 1 (by omega) (by omega) (by omega) (by omega) (by omega)]; exact a1
  · rw [fo 3 (by omega) (by omega) (by omega) (by omega) (by omega)]; exact a3
  · rw [fo 4 (by omega) (by omega) (by omega) (by omega) (by omega), fo 7 (by omega) (by omega) (by omega) (by omega) (by omega), fo 8 (by omega) (by omega) (by omega) (by omega) (by omega), fo 10 (by omega) (by omega) (by omega) (by omega) (by omega), fo 12 (by omega) (by omega) (by omega) (by omega) (by omega)]; exact a4
  · rw [fo 5 (by omega) (by omega) (by omega) (by omega) (by omega), fo 6 (by omega) (by omega) (by omega) (by omega) (by omega), fo 15 (by omega) (by omega) (by omega) (by omega) (by omega)]; exact a5
  · by_cases e : m < C.2.2.length
    · rw [List.getElem?_append_left e] at hx
      have y := aM m a p c hx
      rw [fo (16 + 7 * m + 0) (by omega) (by omega) (by omega) (by omega) (by omega), fo (16 + 7 * m + 1) (by omega) (by omega) (by omega) (by omega) (by omega), fo (16 + 7 * m + 2) (by omega) (by omega) (by omega) (by omega) (by omega), fo (16 + 7 * m + 3) (by omega) (by omega) (by omega) (by omega) (by omega), fo (16 + 7 * m + 4) (by omega) (by omega) (by omega) (by omega) (by omega), fo (16 + 7 * m + 5) (by omega) (by omega) (by omega) (by omega) (by omega), fo (16 + 7 * m + 6) (by omega) (by omega) (by omega) (by omega) (by omega)]
      exact y
    · have l := (List.getElem?_eq_some_iff.mp hx).1
      rw [List.length_append] at l
      have l9 : m < C.2.2.length + 1 := l
      have ek : m = cn := by omega
      rw [ek, c1, List.getElem?_append_right (Nat.le_refl _), Nat.sub_self] at hx
      have ev := Prod.mk.inj (Option.some.inj hx)
      have ev2 := Prod.mk.inj ev.2
      have y := aN cn (by omega) hc10
      rw [ek, w0, w6, w4, fo (16 + 7 * cn + 1) (by omega) (by omega) (by omega) (by omega) (by omega), fo (16 + 7 * cn + 2) (by omega) (by omega) (by omega) (by omega) (by omega), fo (16 + 7 * cn + 3) (by omega) (by omega) (by omega) (by omega) (by omega), fo (16 + 7 * cn + 5) (by omega) (by omega) (by omega) (by omega) (by omega), ev.1, ev2.1]
      exact ⟨rfl, y.1, y.2.1, y.2.2.1, rfl, y.2.2.2, rfl⟩
  · rw [List.length_append] at l1
    have l9 : C.2.2.length + 1 ≤ m := l1
    have y := aN m (by omega) l2
    rw [fo (16 + 7 * m + 1) (by omega) (by omega) (by omega) (by omega) (by omega), fo (16 + 7 * m + 2) (by omega) (by omega) (by omega) (by omega) (by omega), fo (16 + 7 * m + 3) (by omega) (by omega) (by omega) (by omega) (by omega), fo (16 + 7 * m + 5) (by omega) (by omega) (by omega) (by omega) (by omega)]
    exact y
  · by_cases e : m < C.2.2.length
    · rw [List.getElem?_append_left e] at hx
      obtain ⟨s1, s2, s3⟩ := c3 m a p c hx
      have le1 : qC9 C.2.2 m + c.length ≤ cd := by
        rw [← qC9_at hx, c2, c1]
        have := qC9_mono C.2.2 (m + 1) (C.2.2.length - (m + 1))
        rw [show m + 1 + (C.2.2.length - (m + 1)) = C.2.2.length by omega] at this
        exact this
      rw [qC9_app (show m ≤ C.2.2.length by omega), qC9_app (show m + 1 ≤ C.2.2.length by omega)]
      refine ⟨(s1.ext hE r5 l1 l2).keep (n := cd) r4 le1, ?_, ?_⟩
      · rw [v2, pk_un (by omega), v1, pk_un (by omega)]; exact s2
      · by_cases d : m + 1 = cn
        · rw [v2, pk_un (by omega), v1, d, pk_us, c2, c1]
        · rw [v2, pk_un (by omega), v1, pk_un d]; exact s3
    · have l := (List.getElem?_eq_some_iff.mp hx).1
      rw [List.length_append] at l
      have l9 : m < C.2.2.length + 1 := l
      have ek : m = C.2.2.length := by omega
      rw [ek, List.getElem?_append_right (Nat.le_refl _), Nat.sub_self] at hx
      have ev := Prod.mk.inj (Option.some.inj hx)
      have ev2 := Prod.mk.inj ev.2
      rw [ek, ← eq2, qC9_app (Nat.le_refl _), ← ev2.2, ← c1, ← c2]
      refine ⟨r3.ext hE (Ext9.rf _) l1 l2, ?_, ?_⟩
      · rw [v2, pk_un (by omega), v1, pk_us]
      · rw [v2, pk_us]
/-- what has been read, once it is taken over -/
def DW9 (K : Nat → Int32) (V : Nat → Int64) (ml pl : List Int64) (fs f31 f33 : Nat → Int32) (cn : Nat) : Prop := ∃ cd, DR9 K V ml pl fs f31 f33 cn cd
theorem RwC.cp {C : Ct9} {f g : Nat → Int32} (h : RwC C f) (hl : C.2.2.length ≤ 10) (k : ∀ j, j < 86 → g j = f j) : RwC C g := by
  obtain ⟨⟨a0, a1, a3⟩, ⟨b4, b7, b8, b10, b12⟩, ⟨d5, d6, d15, dl⟩, aM, aN⟩ := h
  refine ⟨⟨(k 0 (by omega)).trans a0, (k 1 (by omega)).trans a1, (k 3 (by omega)).trans a3⟩, ⟨(k 4 (by omega)).trans b4, (k 7 (by omega)).trans b7, (k 8 (by omega)).trans b8, (k 10 (by omega)).trans b10, (k 12 (by omega)).trans b12⟩, ⟨(k 5 (by omega)).trans d5, (k 6 (by omega)).trans d6, (k 15 (by omega)).trans d15, dl⟩, fun m a p c hm => ?_, fun m l1 l2 => ?_⟩
  · have hm10 := (List.getElem?_eq_some_iff.mp hm).1
    obtain ⟨z0, z1, z2, z3, z4, z5, z6⟩ := aM m a p c hm
    exact ⟨(k _ (by omega)).trans z0, (k _ (by omega)).trans z1, (k _ (by omega)).trans z2, (k _ (by omega)).trans z3, (k _ (by omega)).trans z4, (k _ (by omega)).trans z5, (k _ (by omega)).trans z6⟩
  · obtain ⟨z1, z2, z3, z5⟩ := aN m l1 l2
    exact ⟨(k _ (by omega)).trans z1, (k _ (by omega)).trans z2, (k _ (by omega)).trans z3, (k _ (by omega)).trans z5⟩
theorem qC9_le {l : List (Int64 × Int64 × List Cd9)} {m : Nat} {a p : Int64} {c : List Cd9} (h : l[m]? = some (a, p, c)) : qC9 l m + c.length ≤ qC9 l l.length := by
  have hm := (List.getElem?_eq_some_iff.mp h).1
  rw [← qC9_at h]
  have := qC9_mono l (m + 1) (l.length - (m + 1))
  rw [show m + 1 + (l.length - (m + 1)) = l.length by omega] at this
  exact this
theorem DR9.take {K : Nat → Int32} {V : Nat → Int64} {ml pl : List Int64} {fp fc fq fs f31 f33 : Nat → Int32} {cn cd : Nat} (h : DR9 K V ml pl fp fc fq cn cd) (hcn : cn ≤ 10) (h1 : ∀ j, j < 326 → fs j = fp j) (h2 : ∀ j, j < cd → f31 j = fc j) (h3 : ∀ j, j < 11 → f33 j = fq j) : DW9 K V ml pl fs f31 f33 cn := by
  obtain ⟨C, hT, hR, c1, c2, c3⟩ := h
  refine ⟨cd, C, hT, hR.cp (by omega) (fun j hj => h1 j (by omega)), c1, c2, fun m a p c hm => ?_⟩
  have hl := (List.getElem?_eq_some_iff.mp hm).1
  obtain ⟨z1, z2, z3⟩ := c3 m a p c hm
  have le1 : qC9 C.2.2 m + c.length ≤ cd := by rw [c2, c1]; exact qC9_le hm
  exact ⟨z1.keep (n := cd) h2 le1, (h3 m (by omega)).trans z2, (h3 (m + 1) (by omega)).trans z3⟩
