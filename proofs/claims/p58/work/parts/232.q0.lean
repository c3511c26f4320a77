/-- a code: its kind and its value (a number, or a name) -/
abbrev Cd9 := Int32 × Int64
def cb (x : Option (Nat × List Cd9)) (k : Nat → List Cd9 → Option (Nat × List Cd9)) : Option (Nat × List Cd9) :=
  match x with
  | none => none
  | some p => k p.1 p.2
/-- the codes of a condition, the operands first: 0 a fact, 1 facts joined by and, 2 what follows the first of them, 3 those joined by or, 4 what follows -/
def pc (K : Nat → Int32) (V : Nat → Int64) : Nat → Nat → Nat → Option (Nat × List Cd9)
  | 0, _, _ => none
  | f + 1, m, i =>
    if m = 0 then
      if K i = 5 then cb (pc K V f 3 (i + 1)) (fun j c => some (j + 1, c))
      else if K i = 16 then cb (pc K V f 0 (i + 1)) (fun j c => some (j, c ++ [(16, 0)]))
      else if K i = 21 ∨ K i = 22 then some (i + 1, [(K i, 0)])
      else some (i + 2, [(K i, V (i + 1))])
    else if m = 1 then cb (pc K V f 0 i) (fun j c => cb (pc K V f 2 j) (fun j2 c2 => some (j2, c ++ c2)))
    else if m = 2 then (if K i = 15 then cb (pc K V f 0 (i + 1)) (fun j c => cb (pc K V f 2 j) (fun j2 c2 => some (j2, c ++ (15, 0) :: c2))) else some (i, []))
    else if m = 3 then cb (pc K V f 1 i) (fun j c => cb (pc K V f 4 j) (fun j2 c2 => some (j2, c ++ c2)))
    else (if K i = 14 then cb (pc K V f 1 (i + 1)) (fun j c => cb (pc K V f 4 j) (fun j2 c2 => some (j2, c ++ (14, 0) :: c2))) else some (i, []))
theorem cb_mono {x y : Option (Nat × List Cd9)} {k g : Nat → List Cd9 → Option (Nat × List Cd9)} {r : Nat × List Cd9} (h1 : ∀ r, x = some r → y = some r) (h2 : ∀ j c r, k j c = some r → g j c = some r) (h : cb x k = some r) : cb y g = some r := by
  cases x with
  | none => exact nomatch (show (none : Option (Nat × List Cd9)) = some r from h)
  | some z => rw [h1 z rfl]; exact h2 _ _ _ h
theorem pc_mono {K : Nat → Int32} {V : Nat → Int64} : ∀ (f m i : Nat) (r : Nat × List Cd9), pc K V f m i = some r → pc K V (f + 1) m i = some r := by
  intro f
  induction f with
  | zero => intro m i r h; exact nomatch (show (none : Option (Nat × List Cd9)) = some r from h)
  | succ f ih =>
    intro m i r h
    rw [pc] at h ⊢
    have g : ∀ m i r, pc K V f m i = some r → pc K V (f + 1) m i = some r := fun m i r h => ih m i r h
    exact it_mono (it_mono (cb_mono (fun r h => g _ _ r h) (fun _ _ _ h => h)) (it_mono (cb_mono (fun r h => g _ _ r h) (fun _ _ _ h => h)) (it_mono id id))) (it_mono (cb_mono (fun r h => g _ _ r h) (fun _ _ _ h => cb_mono (fun r h => g _ _ r h) (fun _ _ _ h => h) h)) (it_mono (it_mono (cb_mono (fun r h => g _ _ r h) (fun _ _ _ h => cb_mono (fun r h => g _ _ r h) (fun _ _ _ h => h) h)) id) (it_mono (cb_mono (fun r h => g _ _ r h) (fun _ _ _ h => cb_mono (fun r h => g _ _ r h) (fun _ _ _ h => h) h)) (it_mono (cb_mono (fun r h => g _ _ r h) (fun _ _ _ h => cb_mono (fun r h => g _ _ r h) (fun _ _ _ h => h) h)) id)))) h
theorem pc_le {K : Nat → Int32} {V : Nat → Int64} {f m i : Nat} {r : Nat × List Cd9} (h : pc K V f m i = some r) : ∀ g, pc K V (f + g) m i = some r := by
  intro g
  induction g with
  | zero => exact h
  | succ g ih => exact pc_mono _ _ _ _ ih
def PC (K : Nat → Int32) (V : Nat → Int64) (m i j : Nat) (c : List Cd9) : Prop := ∃ f, pc K V f m i = some (j, c)
theorem PC.det {K : Nat → Int32} {V : Nat → Int64} {m i j j2 : Nat} {c c2 : List Cd9} (h : PC K V m i j c) (h2 : PC K V m i j2 c2) : j = j2 ∧ c = c2 := by
  obtain ⟨f, h⟩ := h
  obtain ⟨g, h2⟩ := h2
  have a := pc_le h g
  have b := pc_le h2 f
  rw [Nat.add_comm] at b
  rw [a] at b
  exact ⟨(Prod.mk.inj (Option.some.inj b)).1, (Prod.mk.inj (Option.some.inj b)).2⟩
theorem C_open {K : Nat → Int32} {V : Nat → Int64} {i j : Nat} {c : List Cd9} (h : K i = 5) (h1 : PC K V 3 (i + 1) j c) : PC K V 0 i (j + 1) c := by
  obtain ⟨f, h1⟩ := h1
  exact ⟨f + 1, by rw [pc, if_pos rfl, if_pos h, h1]; rfl⟩
theorem C_not {K : Nat → Int32} {V : Nat → Int64} {i j : Nat} {c : List Cd9} (h : K i = 16) (h1 : PC K V 0 (i + 1) j c) : PC K V 0 i j (c ++ [(16, 0)]) := by
  obtain ⟨f, h1⟩ := h1
  exact ⟨f + 1, by rw [pc, if_pos rfl, if_neg (by rw [h]; decide), if_pos h, h1]; rfl⟩
theorem C_plain {K : Nat → Int32} {V : Nat → Int64} {i : Nat} (h : K i = 21 ∨ K i = 22) : PC K V 0 i (i + 1) [(K i, 0)] :=
  ⟨0 + 1, by rw [pc, if_pos rfl, if_neg (by rcases h with z | z <;> rw [z] <;> decide), if_neg (by rcases h with z | z <;> rw [z] <;> decide), if_pos h]⟩
theorem C_two {K : Nat → Int32} {V : Nat → Int64} {i : Nat} {k : Int32} (h : K i = k) (hk : k = 17 ∨ k = 18 ∨ k = 19 ∨ k = 20) : PC K V 0 i (i + 2) [(k, V (i + 1))] := by
  refine ⟨0 + 1, ?_⟩
  rw [pc, if_pos rfl]
  rw [h]
  rcases hk with z | z | z | z <;> (rw [z]; rfl)
theorem C_both {K : Nat → Int32} {V : Nat → Int64} {i j k : Nat} {c c2 : List Cd9} (h1 : PC K V 0 i j c) (h2 : PC K V 2 j k c2) : PC K V 1 i k (c ++ c2) := by
  obtain ⟨f, h1⟩ := h1
  obtain ⟨g, h2⟩ := h2
  refine ⟨f + g + 1, ?_⟩
  have b := pc_le h2 f
  rw [Nat.add_comm] at b
  rw [pc, if_neg (by decide), if_pos rfl, pc_le h1 g]
  show cb (pc K V (f + g) 2 j) (fun j2 c2 => some (j2, c ++ c2)) = _
  rw [b]
  rfl
theorem C_and {K : Nat → Int32} {V : Nat → Int64} {i j k : Nat} {c c2 : List Cd9} (h : K i = 15) (h1 : PC K V 0 (i + 1) j c) (h2 : PC K V 2 j k c2) : PC K V 2 i k (c ++ (15, 0) :: c2) := by
  obtain ⟨f, h1⟩ := h1
  obtain ⟨g, h2⟩ := h2
  refine ⟨f + g + 1, ?_⟩
  have b := pc_le h2 f
  rw [Nat.add_comm] at b
  rw [pc, if_neg (by decide), if_neg (by decide), if_pos rfl, if_pos h, pc_le h1 g]
  show cb (pc K V (f + g) 2 j) (fun j2 c2 => some (j2, c ++ (15, 0) :: c2)) = _
  rw [b]
  rfl
theorem C_cond {K : Nat → Int32} {V : Nat → Int64} {i j k : Nat} {c c2 : List Cd9} (h1 : PC K V 1 i j c) (h2 : PC K V 4 j k c2) : PC K V 3 i k (c ++ c2) := by
  obtain ⟨f, h1⟩ := h1
  obtain ⟨g, h2⟩ := h2
  refine ⟨f + g + 1, ?_⟩
  have b := pc_le h2 f
  rw [Nat.add_comm] at b
  rw [pc, if_neg (by decide), if_neg (by decide), if_neg (by decide), if_pos rfl, pc_le h1 g]
  show cb (pc K V (f + g) 4 j) (fun j2 c2 => some (j2, c ++ c2)) = _
  rw [b]
  rfl
theorem C_or {K : Nat → Int32} {V : Nat → Int64} {i j k : Nat} {c c2 : List Cd9} (h : K i = 14) (h1 : PC K V 1 (i + 1) j c) (h2 : PC K V 4 j k c2) : PC K V 4 i k (c ++ (14, 0) :: c2) := by
  obtain ⟨f, h1⟩ := h1
  obtain ⟨g, h2⟩ := h2
  refine ⟨f + g + 1, ?_⟩
  have b := pc_le h2 f
  rw [Nat.add_comm] at b
  rw [pc, if_neg (by decide), if_neg (by decide), if_neg (by decide), if_neg (by decide), if_pos h, pc_le h1 g]
  show cb (pc K V (f + g) 4 j) (fun j2 c2 => some (j2, c ++ (14, 0) :: c2)) = _
  rw [b]
  rfl
theorem C_end2 {K : Nat → Int32} {V : Nat → Int64} {i : Nat} (h : ¬ K i = 15) : PC K V 2 i i [] := ⟨0 + 1, by rw [pc, if_neg (by decide), if_neg (by decide), if_pos rfl, if_neg h]⟩
theorem C_end4 {K : Nat → Int32} {V : Nat → Int64} {i : Nat} (h : ¬ K i = 14) : PC K V 4 i i [] := ⟨0 + 1, by rw [pc, if_neg (by decide), if_neg (by decide), if_neg (by decide), if_neg (by decide), if_neg h]⟩
/-- ci are the codes from i to ii; what follows is read on from there -/
def Cc9 (K : Nat → Int32) (V : Nat → Int64) (m i m2 ii : Nat) (ci : List Cd9) : Prop := ∀ k c, PC K V m2 ii k c → PC K V m i k (ci ++ c)
theorem Cc9.both {K : Nat → Int32} {V : Nat → Int64} {i j : Nat} {c : List Cd9} (h : PC K V 0 i j c) : Cc9 K V 1 i 2 j c := fun _ _ h2 => C_both h h2
theorem Cc9.cond {K : Nat → Int32} {V : Nat → Int64} {i j : Nat} {c : List Cd9} (h : PC K V 1 i j c) : Cc9 K V 3 i 4 j c := fun _ _ h2 => C_cond h h2
theorem Cc9.and {K : Nat → Int32} {V : Nat → Int64} {m i ii j : Nat} {ci c : List Cd9} (h : Cc9 K V m i 2 ii ci) (hk : K ii = 15) (h1 : PC K V 0 (ii + 1) j c) : Cc9 K V m i 2 j (ci ++ c ++ [(15, 0)]) := fun k c2 h2 => by
  have z := h k _ (C_and hk h1 h2)
  rw [List.append_assoc, List.append_assoc]
  exact z
theorem Cc9.or {K : Nat → Int32} {V : Nat → Int64} {m i ii j : Nat} {ci c : List Cd9} (h : Cc9 K V m i 4 ii ci) (hk : K ii = 14) (h1 : PC K V 1 (ii + 1) j c) : Cc9 K V m i 4 j (ci ++ c ++ [(14, 0)]) := fun k c2 h2 => by
  have z := h k _ (C_or hk h1 h2)
  rw [List.append_assoc, List.append_assoc]
  exact z
theorem Cc9.end2 {K : Nat → Int32} {V : Nat → Int64} {m i ii : Nat} {ci : List Cd9} (h : Cc9 K V m i 2 ii ci) (hk : ¬ K ii = 15) : PC K V m i ii ci := by
  have z := h ii [] (C_end2 hk)
  rw [List.append_nil] at z
  exact z
theorem Cc9.end4 {K : Nat → Int32} {V : Nat → Int64} {m i ii : Nat} {ci : List Cd9} (h : Cc9 K V m i 4 ii ci) (hk : ¬ K ii = 14) : PC K V m i ii ci := by
  have z := h ii [] (C_end4 hk)
  rw [List.append_nil] at z
  exact z
/-- where a name stands first in a list -/
def fi9 : List Int64 → Int64 → Nat
  | [], _ => 0
  | a :: l, v => if a = v then 0 else fi9 l v + 1
theorem fi9_lt {v : Int64} : ∀ {l : List Int64}, v ∈ l → fi9 l v < l.length
  | [], h => absurd h List.not_mem_nil
  | a :: l, h => by
    rw [fi9]
    by_cases c : a = v
    · rw [if_pos c]; exact Nat.succ_pos _
    · rw [if_neg c]
      exact Nat.succ_lt_succ (fi9_lt ((List.mem_cons.mp h).resolve_left (fun e => c e.symm)))
theorem fi9_app {v : Int64} {t : List Int64} : ∀ {l : List Int64}, v ∈ l → fi9 (l ++ t) v = fi9 l v
  | [], h => absurd h List.not_mem_nil
  | a :: l, h => by
    show fi9 (a :: (l ++ t)) v = _
    rw [fi9, fi9]
    by_cases c : a = v
    · rw [if_pos c, if_pos c]
    · rw [if_neg c, if_neg c, fi9_app ((List.mem_cons.mp h).resolve_left (fun e => c e.symm))]
theorem fi9_at {v : Int64} : ∀ {l : List Int64} {n : Nat}, l[n]? = some v → (∀ j, j < n → l[j]? ≠ some v) → fi9 l v = n
  | [], n, h, _ => by rw [List.getElem?_nil] at h; exact nomatch h
  | a :: l, 0, h, _ => by
    rw [fi9, if_pos (Option.some.inj h)]
  | a :: l, n + 1, h, hn => by
    have c : a ≠ v := fun e => hn 0 (Nat.succ_pos _) (by rw [e]; rfl)
    rw [fi9, if_neg c, fi9_at (l := l) (n := n) h (fun j hj => hn (j + 1) (Nat.succ_lt_succ hj))]
theorem fi9_new {v : Int64} : ∀ {l : List Int64}, ¬ v ∈ l → fi9 (l ++ [v]) v = l.length
  | [], _ => if_pos rfl
  | a :: l, h => by
    show fi9 (a :: (l ++ [v])) v = _
    have c : a ≠ v := fun e => h (by rw [e]; exact List.mem_cons_self)
    rw [fi9, if_neg c, fi9_new (l := l) (fun q => h (List.mem_cons_of_mem _ q))]
    rfl
/-- a code as the reference has it -/
def enc9 (ml pl : List Int64) (p : Cd9) : Int32 :=
  if p.1 = 16 then -3 else if p.1 = 15 then -1 else if p.1 = 14 then -2 else if p.1 = 17 then p.2.toInt32 else if p.1 = 18 then nI (100000 + fi9 pl p.2) else if p.1 = 19 then nI (200000 + fi9 ml p.2) else if p.1 = 20 then 300000 + p.2.toInt32 else if p.1 = 21 then nI 400000 else nI 500000
/-- a code that can stand there -/
def OkC (ml pl : List Int64) (p : Cd9) : Prop := (p.1 = 14 ∨ p.1 = 15 ∨ p.1 = 16 ∨ p.1 = 21 ∨ p.1 = 22) ∨ ((p.1 = 17 ∨ p.1 = 20) ∧ ∃ v, v < 100000 ∧ p.2 = lN v) ∨ (p.1 = 18 ∧ p.2 ∈ pl ∧ pl.length ≤ 8) ∨ (p.1 = 19 ∧ p.2 ∈ ml ∧ ml.length ≤ 10)
def Ext9 (pl pl2 : List Int64) : Prop := ∃ t, pl2 = pl ++ t
theorem Ext9.rf (pl : List Int64) : Ext9 pl pl := ⟨[], (List.append_nil pl).symm⟩
theorem Ext9.tr {a b c : List Int64} (h : Ext9 a b) (g : Ext9 b c) : Ext9 a c := by
  obtain ⟨t, e⟩ := h
  obtain ⟨u, f⟩ := g
  exact ⟨t ++ u, by rw [f, e, List.append_assoc]⟩
theorem OkC.ext {ml ml2 pl pl2 : List Int64} {p : Cd9} (h : OkC ml pl p) (g1 : Ext9 ml ml2) (g2 : Ext9 pl pl2) (l1 : ml2.length ≤ 10) (l2 : pl2.length ≤ 8) : OkC ml2 pl2 p ∧ enc9 ml2 pl2 p = enc9 ml pl p := by
  obtain ⟨t, e⟩ := g1
  obtain ⟨u, f⟩ := g2
  subst e f
  rcases h with h | h | ⟨h, h2, h3⟩ | ⟨h, h2, h3⟩
  · refine ⟨Or.inl h, ?_⟩
    unfold enc9
    rcases h with z | z | z | z | z <;> (rw [z]; rfl)
  · refine ⟨Or.inr (Or.inl h), ?_⟩
    unfold enc9
    rcases h.1 with z | z <;> (rw [z]; rfl)
  · refine ⟨Or.inr (Or.inr (Or.inl ⟨h, List.mem_append_left _ h2, l2⟩)), ?_⟩
    unfold enc9
    rw [fi9_app h2, h]
    rfl
  · refine ⟨Or.inr (Or.inr (Or.inr ⟨h, List.mem_append_left _ h2, l1⟩)), ?_⟩
    unfold enc9
    rw [fi9_app h2, h]
    rfl
/-- the class's steps from a on say what the codes are -/
def CdC (ml pl : List Int64) (a : Nat) (cs : List Cd9) (f g : Nat → Int32) : Prop := ∀ k p, cs[k]? = some p → OkC ml pl p ∧ EncS (f (a + k)) (g (a + k)) (enc9 ml pl p)
/-- the reference's codes from a on -/
def CdR (ml pl : List Int64) (a : Nat) (cs : List Cd9) (f : Nat → Int32) : Prop := ∀ k p, cs[k]? = some p → OkC ml pl p ∧ f (a + k) = enc9 ml pl p
def KpC (n : Nat) (f g f2 g2 : Nat → Int32) : Prop := ∀ k, k < n → f2 k = f k ∧ g2 k = g k
theorem KpC.rf (n : Nat) (f g : Nat → Int32) : KpC n f g f g := fun _ _ => ⟨rfl, rfl⟩
theorem KpC.tr {n m : Nat} {f g f2 g2 f3 g3 : Nat → Int32} (h : KpC n f g f2 g2) (h2 : KpC m f2 g2 f3 g3) (e : n ≤ m) : KpC n f g f3 g3 := fun k hk => ⟨(h2 k (by omega)).1.trans (h k hk).1, (h2 k (by omega)).2.trans (h k hk).2⟩
theorem KpC.put {n : Nat} {f g f2 g2 : Nat → Int32} {a b : Int32} (h1 : Upp n a f f2) (h2 : Upp n b g g2) : KpC n f g f2 g2 := fun k hk => by
  unfold Upp at h1 h2
  rw [h1, h2]
  exact ⟨pk_un (by omega), pk_un (by omega)⟩
theorem CdC.nil (ml pl : List Int64) (a : Nat) (f g : Nat → Int32) : CdC ml pl a [] f g := fun k p h => by rw [List.getElem?_nil] at h; exact nomatch h
theorem CdC.keep {ml pl : List Int64} {a n : Nat} {cs : List Cd9} {f g f2 g2 : Nat → Int32} (h : CdC ml pl a cs f g) (k9 : KpC n f g f2 g2) (e : a + cs.length ≤ n) : CdC ml pl a cs f2 g2 := fun k p hp => by
  have hl : k < cs.length := (List.getElem?_eq_some_iff.mp hp).1
  rw [(k9 (a + k) (by omega)).1, (k9 (a + k) (by omega)).2]
  exact h k p hp
theorem CdC.ext {ml ml2 pl pl2 : List Int64} {a : Nat} {cs : List Cd9} {f g : Nat → Int32} (h : CdC ml pl a cs f g) (g1 : Ext9 ml ml2) (g2 : Ext9 pl pl2) (l1 : ml2.length ≤ 10) (l2 : pl2.length ≤ 8) : CdC ml2 pl2 a cs f g := fun k p hp => by
  obtain ⟨h1, h2⟩ := h k p hp
  obtain ⟨e1, e2⟩ := h1.ext g1 g2 l1 l2
  exact ⟨e1, by rw [e2]; exact h2⟩
theorem CdC.app {ml pl : List Int64} {a b : Nat} {c1 c2 : List Cd9} {f g : Nat → Int32} (h : CdC ml pl a c1 f g) (h2 : CdC ml pl b c2 f g) (e : b = a + c1.length) : CdC ml pl a (c1 ++ c2) f g := fun k p hp => by
  by_cases q : k < c1.length
  · rw [List.getElem?_append_left q] at hp
    exact h k p hp
  · rw [List.getElem?_append_right (by omega)] at hp
    have z := h2 (k - c1.length) p hp
    rw [show b + (k - c1.length) = a + k by omega] at z
    exact z
theorem CdC.one {ml pl : List Int64} {a : Nat} {p : Cd9} {f g f2 g2 : Nat → Int32} {x y : Int32} (h1 : Upp a x f f2) (h2 : Upp a y g g2) (ho : OkC ml pl p) (he : EncS x y (enc9 ml pl p)) : CdC ml pl a [p] f2 g2 := fun k q hq => by
  match k, hq with
  | 0, hq =>
    have e : p = q := Option.some.inj hq
    subst e
    unfold Upp at h1 h2
    rw [h1, h2, Nat.add_zero, pk_us, pk_us]
    exact ⟨ho, he⟩
  | k + 1, hq => exact nomatch (show (none : Option Cd9) = some q from hq)
theorem CdR.nil (ml pl : List Int64) (a : Nat) (f : Nat → Int32) : CdR ml pl a [] f := fun k p h => by rw [List.getElem?_nil] at h; exact nomatch h
theorem CdR.keep {ml pl : List Int64} {a n : Nat} {cs : List Cd9} {f f2 : Nat → Int32} (h : CdR ml pl a cs f) (k9 : ∀ k, k < n → f2 k = f k) (e : a + cs.length ≤ n) : CdR ml pl a cs f2 := fun k p hp => by
  have hl : k < cs.length := (List.getElem?_eq_some_iff.mp hp).1
  rw [k9 (a + k) (by omega)]
  exact h k p hp
theorem CdR.ext {ml ml2 pl pl2 : List Int64} {a : Nat} {cs : List Cd9} {f : Nat → Int32} (h : CdR ml pl a cs f) (g1 : Ext9 ml ml2) (g2 : Ext9 pl pl2) (l1 : ml2.length ≤ 10) (l2 : pl2.length ≤ 8) : CdR ml2 pl2 a cs f := fun k p hp => by
  obtain ⟨h1, h2⟩ := h k p hp
  obtain ⟨e1, e2⟩ := h1.ext g1 g2 l1 l2
  exact ⟨e1, by rw [e2]; exact h2⟩
theorem CdR.app {ml pl : List Int64} {a b : Nat} {c1 c2 : List Cd9} {f : Nat → Int32} (h : CdR ml pl a c1 f) (h2 : CdR ml pl b c2 f) (e : b = a + c1.length) : CdR ml pl a (c1 ++ c2) f := fun k p hp => by
  by_cases q : k < c1.length
  · rw [List.getElem?_append_left q] at hp
    exact h k p hp
  · rw [List.getElem?_append_right (by omega)] at hp
    have z := h2 (k - c1.length) p hp
    rw [show b + (k - c1.length) = a + k by omega] at z
    exact z
theorem CdR.one {ml pl : List Int64} {a : Nat} {p : Cd9} {f f2 : Nat → Int32} {x : Int32} (h1 : Em a x f f2) (ho : OkC ml pl p) (he : x = enc9 ml pl p) : CdR ml pl a [p] f2 := fun k q hq => by
  match k, hq with
  | 0, hq =>
    have e : p = q := Option.some.inj hq
    subst e
    rw [Nat.add_zero, h1.1]
    exact ⟨ho, he⟩
  | k + 1, hq => exact nomatch (show (none : Option Cd9) = some q from hq)
/-- both sides' codes are the same -/
theorem CdC.ce {ml pl : List Int64} {a : Nat} {cs : List Cd9} {f g h : Nat → Int32} (h1 : CdC ml pl a cs f g) (h2 : CdR ml pl a cs h) : ∀ k, k < cs.length → EncS (f (a + k)) (g (a + k)) (h (a + k)) := fun k hk => by
  have e : cs[k]? = some cs[k] := List.getElem?_eq_getElem hk
  rw [(h2 k _ e).2]
  exact (h1 k _ e).2
