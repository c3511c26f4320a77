/-- how many codes the first m milestones have -/
def qC9 (l : List (Int64 × Int64 × List Cd9)) : Nat → Nat
  | 0 => 0
  | m + 1 => qC9 l m + (match l[m]? with | some x => x.2.2.length | none => 0)
theorem qC9_app {l : List (Int64 × Int64 × List Cd9)} {x : Int64 × Int64 × List Cd9} : ∀ {m : Nat}, m ≤ l.length → qC9 (l ++ [x]) m = qC9 l m
  | 0, _ => rfl
  | m + 1, h => by
    rw [qC9, qC9, qC9_app (l := l) (x := x) (m := m) (by omega), List.getElem?_append_left (by omega)]
theorem qC9_new (l : List (Int64 × Int64 × List Cd9)) (x : Int64 × Int64 × List Cd9) : qC9 (l ++ [x]) (l.length + 1) = qC9 l l.length + x.2.2.length := by
  have e : (l ++ [x])[l.length]? = some x := by rw [List.getElem?_append_right (Nat.le_refl _), Nat.sub_self]; rfl
  rw [qC9, qC9_app (Nat.le_refl _), e]
theorem qC9_at {l : List (Int64 × Int64 × List Cd9)} {m : Nat} {a p : Int64} {c : List Cd9} (h : l[m]? = some (a, p, c)) : qC9 l (m + 1) = qC9 l m + c.length := by
  rw [qC9, h]
theorem qC9_mono (l : List (Int64 × Int64 × List Cd9)) (m : Nat) : ∀ d, qC9 l m ≤ qC9 l (m + d)
  | 0 => Nat.le_refl _
  | d + 1 => Nat.le_trans (qC9_mono l m d) (Nat.le_add_right _ _)
def C09 : Ct9 := ((0, 365, 0), [], [])
/-- the plan's numbers are those that the text defines -/
def PLC (C : Ct9) (ml pl : List Int64) (fde fam fpi fen fst fop : Nat → Int32) (pr pb pg : Int32) (nd cn sc : Nat) : Prop :=
  (pr = C.1.1.toInt32 ∧ pb = C.1.2.1.toInt32 ∧ pg = C.1.2.2.toInt32) ∧ (nd = C.2.1.length ∧ ∀ k v, C.2.1[k]? = some v → fde k = v.toInt32 ∧ ∃ n, 1 ≤ n ∧ n ≤ 99999 ∧ v = lN n) ∧ (cn = C.2.2.length ∧ sc = qC9 C.2.2 cn) ∧
  ((∃ n, n ≤ 3000 ∧ C.1.1 = lN n) ∧ (C.1.2.1 = 360 ∨ C.1.2.1 = 365) ∧ ∃ n, n ≤ 60 ∧ C.1.2.2 = lN n) ∧
  ∀ m a p c, C.2.2[m]? = some (a, p, c) → fam m = a.toInt32 ∧ fpi m = p.toInt32 ∧ fen m = nI (qC9 C.2.2 (m + 1)) ∧ CdC ml pl (qC9 C.2.2 m) c fst fop ∧ (∃ n, 1 ≤ n ∧ n ≤ 99999 ∧ a = lN n) ∧ ∃ n, n ≤ 99 ∧ p = lN n
/-- the class's reader stands at token i -/
def TL9 (K : Nat → Int32) (V : Nat → Int64) (ml pl : List Int64) (fde fam fpi fen fst fop : Nat → Int32) (pr pb pg : Int32) (nd cn sc i : Nat) : Prop := ∃ C, Tc9 K V 0 C09 i C ∧ PLC C ml pl fde fam fpi fen fst fop pr pb pg nd cn sc
/-- the whole text has been read -/
def DF9 (K : Nat → Int32) (V : Nat → Int64) (ml pl : List Int64) (fde fam fpi fen fst fop : Nat → Int32) (pr pb pg : Int32) (nd cn sc : Nat) : Prop := ∃ C, TC9 K V 0 C09 C ∧ PLC C ml pl fde fam fpi fen fst fop pr pb pg nd cn sc
theorem TL9.zero (K : Nat → Int32) (V : Nat → Int64) (fde fam fpi fen fst fop : Nat → Int32) : TL9 K V [] [] fde fam fpi fen fst fop 0 365 0 0 0 0 0 :=
  ⟨C09, Tc9.zero, ⟨rfl, rfl, rfl⟩, ⟨rfl, fun k v h => nomatch (show (none : Option Int64) = some v from h)⟩, ⟨rfl, rfl⟩, ⟨⟨0, by omega, rfl⟩, Or.inr rfl, ⟨0, by omega, rfl⟩⟩, fun m a p c h => nomatch (show (none : Option (Int64 × Int64 × List Cd9)) = some (a, p, c) from h)⟩
theorem TL9.fin {K : Nat → Int32} {V : Nat → Int64} {ml pl : List Int64} {fde fam fpi fen fst fop : Nat → Int32} {pr pb pg : Int32} {nd cn sc i : Nat} (h : TL9 K V ml pl fde fam fpi fen fst fop pr pb pg nd cn sc i) (hk : K i = 1) : DF9 K V ml pl fde fam fpi fen fst fop pr pb pg nd cn sc := by
  obtain ⟨C, h1, h2⟩ := h
  exact ⟨C, h1 C (TC9.fin hk), h2⟩
theorem TL9.rate {K : Nat → Int32} {V : Nat → Int64} {ml pl : List Int64} {fde fam fpi fen fst fop : Nat → Int32} {pr pb pg : Int32} {nd cn sc i : Nat} {j : Nat} {x y : Int32} (h : TL9 K V ml pl fde fam fpi fen fst fop pr pb pg nd cn sc i) (hk : K i = 8) (h1 : nmE (lN 0) (lN 3000) (K (i + 1)) (V (i + 1)) = none) (h2 : V (i + 2) = 360 ∨ V (i + 2) = 365) (ex : x = (V (i + 1)).toInt32) (ey : y = (V (i + 2)).toInt32) (hj : j = i + 3 + 1) : TL9 K V ml pl fde fam fpi fen fst fop x y pg nd cn sc j := by
  obtain ⟨C, q1, ⟨p1, p2, p3⟩, q2, q3, ⟨p4, p5, p6⟩, q5⟩ := h
  obtain ⟨n, -, b, c⟩ := nm_in h1 (by omega) (by omega)
  rw [hj]
  exact ⟨_, q1.go (by rw [hk]; decide) (SC9.rate hk), ⟨ex, ey, p3⟩, q2, q3, ⟨⟨n, b, c⟩, h2, p6⟩, q5⟩
theorem TL9.fee {K : Nat → Int32} {V : Nat → Int64} {ml pl : List Int64} {fde fam fpi fen fst fop : Nat → Int32} {pr pb pg : Int32} {nd cn sc i : Nat} {j : Nat} (h : TL9 K V ml pl fde fam fpi fen fst fop pr pb pg nd cn sc i) (hk : K i = 9) (hj : j = i + 2 + 1) : TL9 K V ml pl fde fam fpi fen fst fop pr pb pg nd cn sc j := by
  obtain ⟨C, q1, q2⟩ := h
  rw [hj]
  exact ⟨C, q1.go (by rw [hk]; decide) (SC9.fee hk), q2⟩
theorem TL9.grace {K : Nat → Int32} {V : Nat → Int64} {ml pl : List Int64} {fde fam fpi fen fst fop : Nat → Int32} {pr pb pg : Int32} {nd cn sc i : Nat} {j : Nat} {x : Int32} (h : TL9 K V ml pl fde fam fpi fen fst fop pr pb pg nd cn sc i) (hk : K i = 10) (h1 : nmE (lN 0) (lN 60) (K (i + 1)) (V (i + 1)) = none) (ex : x = (V (i + 1)).toInt32) (hj : j = i + 2 + 1) : TL9 K V ml pl fde fam fpi fen fst fop pr pb x nd cn sc j := by
  obtain ⟨C, q1, ⟨p1, p2, p3⟩, q2, q3, ⟨p4, p5, p6⟩, q5⟩ := h
  obtain ⟨n, -, b, c⟩ := nm_in h1 (by omega) (by omega)
  rw [hj]
  exact ⟨_, q1.go (by rw [hk]; decide) (SC9.grace hk), ⟨p1, p2, ex⟩, q2, q3, ⟨p4, p5, ⟨n, b, c⟩⟩, q5⟩
theorem TL9.dep {K : Nat → Int32} {V : Nat → Int64} {ml pl : List Int64} {fde fam fpi fen fst fop : Nat → Int32} {pr pb pg : Int32} {nd cn sc i : Nat} {j nd2 : Nat} {x : Int32} {zde : Nat → Int32} (h : TL9 K V ml pl fde fam fpi fen fst fop pr pb pg nd cn sc i) (hk : K i = 11) (h1 : nmE (lN 1) (lN 99999) (K (i + 1)) (V (i + 1)) = none) (hu : Upp nd x fde zde) (ex : x = (V (i + 1)).toInt32) (hn : nd2 = nd + 1) (hj : j = i + 2 + 1) : TL9 K V ml pl zde fam fpi fen fst fop pr pb pg nd2 cn sc j := by
  obtain ⟨C, q1, q2, ⟨p1, p2⟩, q3, q4, q5⟩ := h
  obtain ⟨n, a, b, c⟩ := nm_in h1 (by omega) (by omega)
  rw [hj]
  refine ⟨_, q1.go (by rw [hk]; decide) (SC9.dep hk), q2, ⟨by rw [List.length_append, hn, p1]; rfl, fun k v hv => ?_⟩, q3, q4, q5⟩
  unfold Upp at hu
  by_cases e : k < C.2.1.length
  · rw [List.getElem?_append_left e] at hv
    rw [hu, pk_un (by omega)]
    exact p2 k v hv
  · have l := (List.getElem?_eq_some_iff.mp hv).1
    rw [List.length_append] at l
    have l2 : k < C.2.1.length + 1 := l
    have ek : k = C.2.1.length := by omega
    rw [ek, List.getElem?_append_right (Nat.le_refl _), Nat.sub_self] at hv
    have ev : V (i + 1) = v := Option.some.inj hv
    rw [hu, ek, ← p1, pk_us, ex, ← ev]
    exact ⟨rfl, n, a, b, c⟩
theorem TL9.mil {K : Nat → Int32} {V : Nat → Int64} {ml pl : List Int64} {fde fam fpi fen fst fop : Nat → Int32} {pr pb pg : Int32} {nd cn sc i : Nat} {j j0 cn2 sc2 : Nat} {ml2 pl2 : List Int64} {x y z : Int32} {w : Int64} {zam zpi zen zst zop : Nat → Int32} (h : TL9 K V ml pl fde fam fpi fen fst fop pr pb pg nd cn sc i) (hk : K i = 12) (h1 : nmE (lN 1) (lN 99999) (K (i + 2)) (V (i + 2)) = none) (h3 : nmE (lN 0) (lN 99) (K (i + 3)) (V (i + 3)) = none) (hc : CD9 K V 3 (i + 5) j0 ml pl pl2 sc sc2 fst fop zst zop)
    (u1 : Upp cn x fam zam) (u2 : Upp cn y fpi zpi) (u3 : Upp cn z fen zen) (ex : x = (V (i + 2)).toInt32) (ey : y = (V (i + 3)).toInt32) (ez : z = nI sc2) (hm : ml2 = ml ++ [w]) (l1 : ml2.length ≤ 10) (l2 : pl2.length ≤ 8) (hn : cn2 = cn + 1) (hj : j = j0 + 1) : TL9 K V ml2 pl2 fde zam zpi zen zst zop pr pb pg nd cn2 sc2 j := by
  obtain ⟨C, q1, q2, q3, ⟨p1, p2⟩, q4, q5⟩ := h
  obtain ⟨n, a, b, c⟩ := nm_in h1 (by omega) (by omega)
  obtain ⟨n3, a3, b3, c3⟩ := nm_in h3 (by omega) (by omega)
  obtain ⟨cs, r1, r2, r3, r4, r5⟩ := hc
  have hE : Ext9 ml ml2 := ⟨[w], hm⟩
  have eq2 : sc2 = qC9 (C.2.2 ++ [(V (i + 2), V (i + 3), cs)]) (C.2.2.length + 1) := by rw [qC9_new, ← p1, ← p2]; exact r2
  rw [hj]
  refine ⟨_, q1.go (by rw [hk]; decide) (SC9.mil hk r1), q2, q3, ⟨by rw [List.length_append, hn, p1]; rfl, by rw [hn, p1]; exact eq2⟩, q4, fun m a9 p9 c9 hx => ?_⟩
  unfold Upp at u1 u2 u3
  by_cases e : m < C.2.2.length
  · rw [List.getElem?_append_left e] at hx
    obtain ⟨s1, s2, s3, s4, s5, s6⟩ := q5 m a9 p9 c9 hx
    have le1 : qC9 C.2.2 m + c9.length ≤ sc := by
      rw [← qC9_at hx, p2, p1]
      have := qC9_mono C.2.2 (m + 1) (C.2.2.length - (m + 1))
      rw [show m + 1 + (C.2.2.length - (m + 1)) = C.2.2.length by omega] at this
      exact this
    rw [qC9_app (show m ≤ C.2.2.length by omega), qC9_app (show m + 1 ≤ C.2.2.length by omega), u1, u2, u3, pk_un (by omega), pk_un (by omega), pk_un (by omega)]
    exact ⟨s1, s2, s3, (s4.ext hE r5 l1 l2).keep r4 le1, s5, s6⟩
  · have l := (List.getElem?_eq_some_iff.mp hx).1
    rw [List.length_append] at l
    have l9 : m < C.2.2.length + 1 := l
    have ek : m = C.2.2.length := by omega
    rw [ek, List.getElem?_append_right (Nat.le_refl _), Nat.sub_self] at hx
    have ev := Prod.mk.inj (Option.some.inj hx)
    have ev2 := Prod.mk.inj ev.2
    rw [← ev.1, ← ev2.1, ← ev2.2, ek, ← eq2, qC9_app (Nat.le_refl _), u1, u2, u3, ← p1, pk_us, pk_us, pk_us, ← p2]
    exact ⟨ex, ey, ez, r3.ext hE (Ext9.rf _) l1 l2, ⟨n, a, b, c⟩, n3, b3, c3⟩
/-- the order of the milestones -/
def BYS (n : Nat) (fby fpi : Nat → Int32) : Prop := ∃ b p : Nat → Nat, (∀ k, k < n → b k < n ∧ p (b k) = k ∧ fby k = nI (b k)) ∧ (∀ m, m < n → p m < n ∧ b (p m) = m) ∧ ∀ j k, j < k → k < n → fpi (b j) < fpi (b k) ∨ (fpi (b j) = fpi (b k) ∧ b j < b k)
theorem BYS.zero (fby fpi : Nat → Int32) : BYS 0 fby fpi := ⟨id, id, fun k h => absurd h (Nat.not_lt_zero k), fun k h => absurd h (Nat.not_lt_zero k), fun j k _ h => absurd h (Nat.not_lt_zero k)⟩
/-- an order into which the milestone n with the priority v is put: the places behind r are moved -/
def Ins9 (n r : Nat) (v : Int32) (fby fpi g : Nat → Int32) : Prop := r ≤ n ∧ (∀ j, j < r → g j = fby j) ∧ ∀ j, r ≤ j → j < n → g (j + 1) = fby j ∧ v < fpi (fby j).toNatClampNeg
theorem Ins9.zero (n : Nat) (v : Int32) (fby fpi : Nat → Int32) : Ins9 n n v fby fpi fby := ⟨Nat.le_refl n, fun _ _ => rfl, fun j h1 h2 => by omega⟩
theorem Ins9.step {n r : Nat} {v : Int32} {fby fpi g g2 : Nat → Int32} (h : Ins9 n (r + 1) v fby fpi g) (hv : v < fpi (g r).toNatClampNeg) (hu : Upp (r + 1) (g r) g g2) : Ins9 n r v fby fpi g2 := by
  unfold Upp at hu
  refine ⟨by have := h.1; omega, fun j hj => by rw [hu, pk_un (by omega)]; exact h.2.1 j (by omega), fun j h1 h2 => ?_⟩
  by_cases e : j = r
  · subst e
    rw [hu, pk_us]
    have z := h.2.1 j (by omega)
    rw [z] at hv ⊢
    exact ⟨rfl, hv⟩
  · rw [hu, pk_un (by omega)]
    exact h.2.2 j (by omega) h2
/-- the milestone is put in -/
theorem BYS.ins {n r : Nat} {v : Int32} {fby fpi g g2 zpi : Nat → Int32} (h : BYS n fby fpi) (hi : Ins9 n r v fby fpi g) (hs : r = 0 ∨ ∃ q, r = q + 1 ∧ fpi (g q).toNatClampNeg ≤ v) (hu : Upp r (nI n) g g2) (hp : Upp n v fpi zpi) (hn : n < 100) : BYS (n + 1) g2 zpi := by
  obtain ⟨b, p, h1, h2, h3⟩ := h
  unfold Upp at hu hp
  have hr := hi.1
  have bc : ∀ k, k < n → (fby k).toNatClampNeg = b k := fun k hk => by rw [(h1 k hk).2.2, nI_clamp (by have := (h1 k hk).1; omega)]
  have zp : ∀ m, m < n → zpi m = fpi m := fun m hm => by rw [hp, pk_un (by omega)]
  have zn : zpi n = v := by rw [hp, pk_us]
  -- behind r all have a greater priority, ahead of it none
  have hb : ∀ k, r ≤ k → k < n → v < fpi (b k) := fun k k1 k2 => by rw [← bc k k2]; exact (hi.2.2 k k1 k2).2
  have ha : ∀ k, k < r → fpi (b k) ≤ v := fun k hk => by
    rcases hs with e | ⟨q, e, hq⟩
    · omega
    · rw [hi.2.1 q (by omega), bc q (by omega)] at hq
      by_cases d : k = q
      · subst d; exact hq
      · rcases h3 k q (by omega) (by omega) with z | z
        · exact Int32.le_trans (Int32.le_of_lt z) hq
        · rw [z.1]; exact hq
  refine ⟨fun k => if k < r then b k else if k = r then n else b (k - 1), fun m => if m = n then r else if p m < r then p m else p m + 1, fun k hk => ?_, fun m hm => ?_, fun j k hj hk => ?_⟩
  · by_cases c1 : k < r
    · have z := h1 k (by omega)
      show (if k < r then b k else if k = r then n else b (k - 1)) < n + 1 ∧ (if (if k < r then b k else if k = r then n else b (k - 1)) = n then r else if p (if k < r then b k else if k = r then n else b (k - 1)) < r then p (if k < r then b k else if k = r then n else b (k - 1)) else p (if k < r then b k else if k = r then n else b (k - 1)) + 1) = k ∧ g2 k = nI (if k < r then b k else if k = r then n else b (k - 1))
      rw [if_pos c1, if_neg (by omega), z.2.1, if_pos c1, hu, pk_un (by omega), hi.2.1 k c1]
      exact ⟨by omega, rfl, z.2.2⟩
    · by_cases c2 : k = r
      · show (if k < r then b k else if k = r then n else b (k - 1)) < n + 1 ∧ (if (if k < r then b k else if k = r then n else b (k - 1)) = n then r else if p (if k < r then b k else if k = r then n else b (k - 1)) < r then p (if k < r then b k else if k = r then n else b (k - 1)) else p (if k < r then b k else if k = r then n else b (k - 1)) + 1) = k ∧ g2 k = nI (if k < r then b k else if k = r then n else b (k - 1))
        rw [if_neg c1, if_pos c2, if_pos rfl, hu, c2, pk_us]
        exact ⟨by omega, rfl, rfl⟩
      · have z := h1 (k - 1) (by omega)
        show (if k < r then b k else if k = r then n else b (k - 1)) < n + 1 ∧ (if (if k < r then b k else if k = r then n else b (k - 1)) = n then r else if p (if k < r then b k else if k = r then n else b (k - 1)) < r then p (if k < r then b k else if k = r then n else b (k - 1)) else p (if k < r then b k else if k = r then n else b (k - 1)) + 1) = k ∧ g2 k = nI (if k < r then b k else if k = r then n else b (k - 1))
        rw [if_neg c1, if_neg c2, if_neg (by omega), z.2.1, if_neg (by omega), hu, pk_un (by omega)]
        have y := (hi.2.2 (k - 1) (by omega) (by omega)).1
        rw [show k - 1 + 1 = k by omega] at y
        rw [y]
        exact ⟨by omega, by omega, z.2.2⟩
  · by_cases c1 : m = n
    · show (if m = n then r else if p m < r then p m else p m + 1) < n + 1 ∧ (if (if m = n then r else if p m < r then p m else p m + 1) < r then b (if m = n then r else if p m < r then p m else p m + 1) else if (if m = n then r else if p m < r then p m else p m + 1) = r then n else b ((if m = n then r else if p m < r then p m else p m + 1) - 1)) = m
      rw [if_pos c1, if_neg (by omega), if_pos rfl]
      exact ⟨by omega, c1.symm⟩
    · have z := h2 m (by omega)
      by_cases c2 : p m < r
      · show (if m = n then r else if p m < r then p m else p m + 1) < n + 1 ∧ (if (if m = n then r else if p m < r then p m else p m + 1) < r then b (if m = n then r else if p m < r then p m else p m + 1) else if (if m = n then r else if p m < r then p m else p m + 1) = r then n else b ((if m = n then r else if p m < r then p m else p m + 1) - 1)) = m
        rw [if_neg c1, if_pos c2, if_pos c2]
        exact ⟨by omega, z.2⟩
      · show (if m = n then r else if p m < r then p m else p m + 1) < n + 1 ∧ (if (if m = n then r else if p m < r then p m else p m + 1) < r then b (if m = n then r else if p m < r then p m else p m + 1) else if (if m = n then r else if p m < r then p m else p m + 1) = r then n else b ((if m = n then r else if p m < r then p m else p m + 1) - 1)) = m
        rw [if_neg c1, if_neg c2, if_neg (by omega), if_neg (by omega), Nat.add_sub_cancel]
        exact ⟨by omega, z.2⟩
  · show zpi (if j < r then b j else if j = r then n else b (j - 1)) < zpi (if k < r then b k else if k = r then n else b (k - 1)) ∨ (zpi (if j < r then b j else if j = r then n else b (j - 1)) = zpi (if k < r then b k else if k = r then n else b (k - 1)) ∧ (if j < r then b j else if j = r then n else b (j - 1)) < (if k < r then b k else if k = r then n else b (k - 1)))
    by_cases c1 : j < r
    · have zj := h1 j (by omega)
      rw [if_pos c1, zp _ zj.1]
      by_cases d1 : k < r
      · have zk := h1 k (by omega)
        rw [if_pos d1, zp _ zk.1]
        exact h3 j k hj (by omega)
      · by_cases d2 : k = r
        · rw [if_neg d1, if_pos d2, zn]
          by_cases e : fpi (b j) = v
          · exact Or.inr ⟨e, zj.1⟩
          · exact Or.inl (Int32.lt_of_le_of_ne (ha j c1) e)
        · have zk := h1 (k - 1) (by omega)
          rw [if_neg d1, if_neg d2, zp _ zk.1]
          exact Or.inl (Int32.lt_of_le_of_lt (ha j c1) (hb (k - 1) (by omega) (by omega)))
    · by_cases c2 : j = r
      · have zk := h1 (k - 1) (by omega)
        rw [if_neg c1, if_pos c2, zn, if_neg (by omega), if_neg (by omega), zp _ zk.1]
        exact Or.inl (hb (k - 1) (by omega) (by omega))
      · have zj := h1 (j - 1) (by omega)
        have zk := h1 (k - 1) (by omega)
        rw [if_neg c1, if_neg c2, if_neg (by omega), if_neg (by omega), zp _ zj.1, zp _ zk.1]
        exact h3 (j - 1) (k - 1) (by omega) (by omega)
