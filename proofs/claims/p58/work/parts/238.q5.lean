/-- how many values wait behind codes -/
def dpl : List Cd9 → Nat → Option Nat
  | [], d => some d
  | p :: t, d => if p.1 = 16 then (if 1 ≤ d then dpl t d else none) else if p.1 = 15 ∨ p.1 = 14 then (if 2 ≤ d then dpl t (d - 1) else none) else if d < 31 then dpl t (d + 1) else none
theorem dpl_app : ∀ (a b : List Cd9) (d e : Nat), dpl a d = some e → dpl (a ++ b) d = dpl b e
  | [], b, d, e, h => by
    have h2 : d = e := Option.some.inj h
    rw [h2]
    rfl
  | p :: t, b, d, e, h => by
    rw [dpl] at h
    show dpl (p :: (t ++ b)) d = dpl b e
    rw [dpl]
    by_cases c1 : p.1 = 16
    · rw [if_pos c1] at h ⊢
      by_cases c2 : 1 ≤ d
      · rw [if_pos c2] at h ⊢; exact dpl_app t b d e h
      · rw [if_neg c2] at h; exact nomatch h
    · rw [if_neg c1] at h ⊢
      by_cases c3 : p.1 = 15 ∨ p.1 = 14
      · rw [if_pos c3] at h ⊢
        by_cases c2 : 2 ≤ d
        · rw [if_pos c2] at h ⊢; exact dpl_app t b (d - 1) e h
        · rw [if_neg c2] at h; exact nomatch h
      · rw [if_neg c3] at h ⊢
        by_cases c2 : d < 31
        · rw [if_pos c2] at h ⊢; exact dpl_app t b (d + 1) e h
        · rw [if_neg c2] at h; exact nomatch h
theorem dpl_one {k : Int32} {v : Int64} {d : Nat} (h16 : ¬ k = 16) (h15 : ¬ k = 15) (h14 : ¬ k = 14) (hd : d < 31) : dpl [(k, v)] d = some (d + 1) := by
  rw [dpl, if_neg h16, if_neg (fun q => q.elim h15 h14), if_pos hd]
  rfl
theorem dpl_not {d : Nat} (hd : 1 ≤ d) : dpl [((16 : Int32), (0 : Int64))] d = some d := by
  rw [dpl, if_pos rfl, if_pos hd]
  rfl
theorem dpl_and {t : List Cd9} {d : Nat} (hd : 2 ≤ d) : dpl (((15 : Int32), (0 : Int64)) :: t) d = dpl t (d - 1) := by
  rw [dpl, if_neg (by decide), if_pos (Or.inl rfl), if_pos hd]
theorem dpl_or {t : List Cd9} {d : Nat} (hd : 2 ≤ d) : dpl (((14 : Int32), (0 : Int64)) :: t) d = dpl t (d - 1) := by
  rw [dpl, if_neg (by decide), if_pos (Or.inr rfl), if_pos hd]
theorem bd_inr {x : Option Rz9} {k : Nat → List Int64 → Option Rz9} {r : Nat × List Int64} (h : bd x k = some (.inr r)) : ∃ j pl, x = some (.inr (j, pl)) ∧ k j pl = some (.inr r) := by
  cases x with
  | none => exact nomatch (show (none : Option Rz9) = some (.inr r) from h)
  | some z =>
    cases z with
    | inl e => exact nomatch (show (some (Sum.inl e) : Option Rz9) = some (Sum.inr r) from h)
    | inr p => exact ⟨p.1, p.2, rfl, h⟩
theorem cb_some {x : Option (Nat × List Cd9)} {k : Nat → List Cd9 → Option (Nat × List Cd9)} {r : Nat × List Cd9} (h : cb x k = some r) : ∃ j c, x = some (j, c) ∧ k j c = some r := by
  cases x with
  | none => exact nomatch (show (none : Option (Nat × List Cd9)) = some r from h)
  | some p => exact ⟨p.1, p.2, rfl, h⟩
theorem nm_inr {K S : Nat → Int32} {V : Nat → Int64} {lo hi : Int64} {i : Nat} {x : Option Rz9} {r : Nat × List Int64} (h : nm K S V lo hi i x = some (.inr r)) : x = some (.inr r) := by
  unfold nm at h
  cases hq : nmE lo hi (K i) (V i) with
  | none => rw [hq] at h; exact h
  | some e => rw [hq] at h; exact nomatch (show (some (Sum.inl (flo K S i e)) : Option Rz9) = some (Sum.inr r) from h)
/-- how many more values wait within a part: at level o -/
def wd9 (o m : Nat) : Nat := 1 + 2 * (8 - o) + (if m = 0 then 0 else if m = 1 ∨ m = 2 then 1 else 2)
def sd9 (m : Nat) : Nat := if m = 2 ∨ m = 4 then 1 else 0
theorem sd9_0 : sd9 0 = 0 := rfl
theorem sd9_1 : sd9 1 = 0 := rfl
theorem sd9_2 : sd9 2 = 1 := rfl
theorem sd9_3 : sd9 3 = 0 := rfl
theorem sd9_4 : sd9 4 = 1 := rfl
theorem wd9_0 (o : Nat) : wd9 o 0 = 1 + 2 * (8 - o) + 0 := rfl
theorem wd9_1 (o : Nat) : wd9 o 1 = 1 + 2 * (8 - o) + 1 := rfl
theorem wd9_2 (o : Nat) : wd9 o 2 = 1 + 2 * (8 - o) + 1 := rfl
theorem wd9_3 (o : Nat) : wd9 o 3 = 1 + 2 * (8 - o) + 2 := rfl
theorem wd9_4 (o : Nat) : wd9 o 4 = 1 + 2 * (8 - o) + 2 := rfl
theorem sm_inr {a : Int32 × Int32} {r : Nat × List Int64} {p : Prop} (h : (some (Sum.inl a) : Option Rz9) = some (Sum.inr r)) : p := nomatch h
/-- a condition that both read: they end together, and no more than so many values wait -/
theorem dep9 {K S : Nat → Int32} {V : Nat → Int64} {ml : List Int64} : ∀ (f g m o i : Nat) (pl : List Int64) (j : Nat) (pl2 : List Int64) (j2 : Nat) (c : List Cd9), m ≤ 4 → o ≤ 8 → pr K S V ml f m o i pl = some (.inr (j, pl2)) → pc K V g m i = some (j2, c) → j2 = j ∧ ∀ d, d + wd9 o m ≤ 31 → dpl c (d + sd9 m) = some (d + 1) := by
  intro f
  induction f with
  | zero => intro g m o i pl j pl2 j2 c _ _ h _; exact nomatch (show (none : Option Rz9) = some (.inr (j, pl2)) from h)
  | succ f ih =>
    intro g m o i pl j pl2 j2 c hm ho h h2
    cases g with
    | zero => exact nomatch (show (none : Option (Nat × List Cd9)) = some (j2, c) from h2)
    | succ g =>
    rw [pr] at h
    rw [pc] at h2
    by_cases m0 : m = 0
    · subst m0
      rw [if_pos rfl] at h h2
      by_cases q8 : (K i = 16 ∨ K i = 5) ∧ 8 ≤ o
      · rw [if_pos q8] at h; exact sm_inr h
      rw [if_neg q8] at h
      by_cases k5 : K i = 5
      · rw [if_pos k5] at h h2
        obtain ⟨a, pa, h3, h4⟩ := bd_inr h
        obtain ⟨b, cs, h5, h6⟩ := cb_some h2
        have o8 : o < 8 := by
          by_cases z : 8 ≤ o
          · exact absurd ⟨Or.inr k5, z⟩ q8
          · omega
        obtain ⟨e1, e2⟩ := ih g 3 (o + 1) (i + 1) pl a pa b cs (by omega) (by omega) h3 h5
        rw [sd9_3] at e2
        by_cases k6 : K a = 6
        · rw [if_pos k6] at h4
          have h7 := Prod.mk.inj (Sum.inr.inj (Option.some.inj h4))
          have h8 := Prod.mk.inj (Option.some.inj h6)
          refine ⟨by rw [← h8.1, ← h7.1, e1], fun d hd => ?_⟩
          rw [← h8.2]
          rw [wd9_0] at hd
          rw [sd9_0]
          exact e2 d (by rw [wd9_3]; omega)
        · rw [if_neg k6] at h4; exact sm_inr h4
      rw [if_neg k5] at h h2
      by_cases k16 : K i = 16
      · rw [if_pos k16] at h h2
        obtain ⟨b, cs, h5, h6⟩ := cb_some h2
        have o8 : o < 8 := by
          by_cases z : 8 ≤ o
          · exact absurd ⟨Or.inl k16, z⟩ q8
          · omega
        obtain ⟨e1, e2⟩ := ih g 0 (o + 1) (i + 1) pl j pl2 b cs (by omega) (by omega) h h5
        rw [sd9_0] at e2
        have h8 := Prod.mk.inj (Option.some.inj h6)
        refine ⟨h8.1.symm.trans e1, fun d hd => ?_⟩
        rw [wd9_0] at hd
        rw [sd9_0]
        rw [← h8.2, dpl_app cs _ (d + 0) (d + 1) (e2 d (by rw [wd9_0]; omega))]
        exact dpl_not (by omega)
      rw [if_neg k16] at h h2
      have lf : ∀ v : Int64, ¬ K i = 15 → ¬ K i = 14 → ∀ d, d + wd9 o 0 ≤ 31 → dpl [(K i, v)] (d + sd9 0) = some (d + 1) := fun v n15 n14 d hd => by
        rw [wd9_0] at hd
        rw [sd9_0]
        exact dpl_one k16 n15 n14 (show d + 0 < 31 by omega)
      have two : ¬ (K i = 21 ∨ K i = 22) → ¬ K i = 15 → ¬ K i = 14 → j = i + 2 → j2 = j ∧ ∀ d, d + wd9 o 0 ≤ 31 → dpl c (d + sd9 0) = some (d + 1) := fun n2 n15 n14 ej => by
        rw [if_neg n2] at h2
        have h8 := Prod.mk.inj (Option.some.inj h2)
        rw [← h8.2]
        exact ⟨h8.1.symm.trans ej.symm, lf _ n15 n14⟩
      by_cases k17 : K i = 17
      · rw [if_pos k17] at h
        have h7 := Prod.mk.inj (Sum.inr.inj (Option.some.inj (nm_inr h)))
        exact two (by rw [k17]; decide) (by rw [k17]; decide) (by rw [k17]; decide) h7.1.symm
      rw [if_neg k17] at h
      by_cases k20 : K i = 20
      · rw [if_pos k20] at h
        have h7 := Prod.mk.inj (Sum.inr.inj (Option.some.inj (nm_inr h)))
        exact two (by rw [k20]; decide) (by rw [k20]; decide) (by rw [k20]; decide) h7.1.symm
      rw [if_neg k20] at h
      by_cases k18 : K i = 18
      · rw [if_pos k18] at h
        have n2 : ¬ (K i = 21 ∨ K i = 22) := by rw [k18]; decide
        by_cases z4 : K (i + 1) = 4
        · rw [if_pos z4] at h
          by_cases zi : V (i + 1) ∈ pl
          · rw [if_pos zi] at h
            exact two n2 (by rw [k18]; decide) (by rw [k18]; decide) (Prod.mk.inj (Sum.inr.inj (Option.some.inj h))).1.symm
          · rw [if_neg zi] at h
            by_cases z8 : pl.length = 8
            · rw [if_pos z8] at h; exact sm_inr h
            · rw [if_neg z8] at h
              exact two n2 (by rw [k18]; decide) (by rw [k18]; decide) (Prod.mk.inj (Sum.inr.inj (Option.some.inj h))).1.symm
        · rw [if_neg z4] at h; exact sm_inr h
      rw [if_neg k18] at h
      by_cases k19 : K i = 19
      · rw [if_pos k19] at h
        have n2 : ¬ (K i = 21 ∨ K i = 22) := by rw [k19]; decide
        by_cases z4 : K (i + 1) = 4
        · rw [if_pos z4] at h
          by_cases zi : V (i + 1) ∈ ml
          · rw [if_pos zi] at h
            exact two n2 (by rw [k19]; decide) (by rw [k19]; decide) (Prod.mk.inj (Sum.inr.inj (Option.some.inj h))).1.symm
          · rw [if_neg zi] at h; exact sm_inr h
        · rw [if_neg z4] at h; exact sm_inr h
      rw [if_neg k19] at h
      by_cases k21 : K i = 21 ∨ K i = 22
      · rw [if_pos k21] at h h2
        have h7 := Prod.mk.inj (Sum.inr.inj (Option.some.inj h))
        have h8 := Prod.mk.inj (Option.some.inj h2)
        rw [← h8.2]
        exact ⟨h8.1.symm.trans h7.1, lf _ (by rcases k21 with z | z <;> rw [z] <;> decide) (by rcases k21 with z | z <;> rw [z] <;> decide)⟩
      · rw [if_neg k21] at h; exact sm_inr h
    rw [if_neg m0] at h h2
    by_cases m1 : m = 1
    · subst m1
      rw [if_pos rfl] at h h2
      obtain ⟨a, pa, h3, h4⟩ := bd_inr h
      obtain ⟨b, c1, h5, h6⟩ := cb_some h2
      obtain ⟨b2, c2, h7, h8⟩ := cb_some h6
      obtain ⟨e1, e2⟩ := ih g 0 o i pl a pa b c1 (by omega) ho h3 h5
      rw [sd9_0] at e2
      subst e1
      obtain ⟨e3, e4⟩ := ih g 2 o b pa j pl2 b2 c2 (by omega) ho h4 h7
      rw [sd9_2] at e4
      have h9 := Prod.mk.inj (Option.some.inj h8)
      refine ⟨h9.1.symm.trans e3, fun d hd => ?_⟩
      rw [wd9_1] at hd
      rw [sd9_1]
      rw [← h9.2, dpl_app c1 c2 (d + 0) (d + 1) (e2 d (by rw [wd9_0]; omega))]
      exact e4 d (by rw [wd9_2]; omega)
    rw [if_neg m1] at h h2
    by_cases m2 : m = 2
    · subst m2
      rw [if_pos rfl] at h h2
      by_cases k15 : K i = 15
      · rw [if_pos k15] at h h2
        obtain ⟨a, pa, h3, h4⟩ := bd_inr h
        obtain ⟨b, c1, h5, h6⟩ := cb_some h2
        obtain ⟨b2, c2, h7, h8⟩ := cb_some h6
        obtain ⟨e1, e2⟩ := ih g 0 o (i + 1) pl a pa b c1 (by omega) ho h3 h5
        rw [sd9_0] at e2
        subst e1
        obtain ⟨e3, e4⟩ := ih g 2 o b pa j pl2 b2 c2 (by omega) ho h4 h7
        rw [sd9_2] at e4
        have h9 := Prod.mk.inj (Option.some.inj h8)
        refine ⟨h9.1.symm.trans e3, fun d hd => ?_⟩
        rw [wd9_2] at hd
        rw [sd9_2]
        rw [← h9.2, dpl_app c1 _ (d + 1) (d + 1 + 1) (e2 (d + 1) (by rw [wd9_0]; omega)), dpl_and (by omega)]
        exact e4 d (by rw [wd9_2]; omega)
      · rw [if_neg k15] at h h2
        have h7 := Prod.mk.inj (Sum.inr.inj (Option.some.inj h))
        have h8 := Prod.mk.inj (Option.some.inj h2)
        refine ⟨h8.1.symm.trans h7.1, fun d _ => ?_⟩
        rw [← h8.2, sd9_2]
        rfl
    rw [if_neg m2] at h h2
    by_cases m3 : m = 3
    · subst m3
      rw [if_pos rfl] at h h2
      obtain ⟨a, pa, h3, h4⟩ := bd_inr h
      obtain ⟨b, c1, h5, h6⟩ := cb_some h2
      obtain ⟨b2, c2, h7, h8⟩ := cb_some h6
      obtain ⟨e1, e2⟩ := ih g 1 o i pl a pa b c1 (by omega) ho h3 h5
      rw [sd9_1] at e2
      subst e1
      obtain ⟨e3, e4⟩ := ih g 4 o b pa j pl2 b2 c2 (by omega) ho h4 h7
      rw [sd9_4] at e4
      have h9 := Prod.mk.inj (Option.some.inj h8)
      refine ⟨h9.1.symm.trans e3, fun d hd => ?_⟩
      rw [wd9_3] at hd
      rw [sd9_3]
      rw [← h9.2, dpl_app c1 c2 (d + 0) (d + 1) (e2 d (by rw [wd9_1]; omega))]
      exact e4 d (by rw [wd9_4]; omega)
    rw [if_neg m3] at h h2
    have m4 : m = 4 := by omega
    subst m4
    by_cases k14 : K i = 14
    · rw [if_pos k14] at h h2
      obtain ⟨a, pa, h3, h4⟩ := bd_inr h
      obtain ⟨b, c1, h5, h6⟩ := cb_some h2
      obtain ⟨b2, c2, h7, h8⟩ := cb_some h6
      obtain ⟨e1, e2⟩ := ih g 1 o (i + 1) pl a pa b c1 (by omega) ho h3 h5
      rw [sd9_1] at e2
      subst e1
      obtain ⟨e3, e4⟩ := ih g 4 o b pa j pl2 b2 c2 (by omega) ho h4 h7
      rw [sd9_4] at e4
      have h9 := Prod.mk.inj (Option.some.inj h8)
      refine ⟨h9.1.symm.trans e3, fun d hd => ?_⟩
      rw [wd9_4] at hd
      rw [sd9_4]
      rw [← h9.2, dpl_app c1 _ (d + 1) (d + 1 + 1) (e2 (d + 1) (by rw [wd9_1]; omega)), dpl_or (by omega)]
      exact e4 d (by rw [wd9_4]; omega)
    · rw [if_neg k14] at h h2
      have h7 := Prod.mk.inj (Sum.inr.inj (Option.some.inj h))
      have h8 := Prod.mk.inj (Option.some.inj h2)
      refine ⟨h8.1.symm.trans h7.1, fun d _ => ?_⟩
      rw [← h8.2, sd9_4]
      rfl
/-- every milestone's condition leaves one value -/
def DpC (C : Ct9) : Prop := ∀ (m : Nat) (a p : Int64) (c : List Cd9), C.2.2[m]? = some (a, p, c) → dpl c 0 = some 1
theorem ns_inr {K S : Nat → Int32} {V : Nat → Int64} {lo hi : Int64} {i : Nat} {x : Option Rs9} {r : Nat × Nat × List Int64 × List Int64} (h : ns K S V lo hi i x = some (.inr r)) : x = some (.inr r) := by
  unfold ns at h
  cases hq : nmE lo hi (K i) (V i) with
  | none => rw [hq] at h; exact h
  | some e => rw [hq] at h; exact nomatch (show (some (Sum.inl (flo K S i e)) : Option Rs9) = some (Sum.inr r) from h)
theorem ss_inr {a : Int32 × Int32} {r : Nat × Nat × List Int64 × List Int64} {p : Prop} (h : (some (Sum.inl a) : Option Rs9) = some (Sum.inr r)) : p := nomatch h
theorem cs_inr {x : Option Rz9} {d : Nat} {ml : List Int64} {r : Nat × Nat × List Int64 × List Int64} (h : cs x d ml = some (.inr r)) : ∃ j pl, x = some (.inr (j, pl)) ∧ r = (j, d, ml, pl) := by
  cases x with
  | none => exact nomatch (show (none : Option Rs9) = some (.inr r) from h)
  | some z =>
    cases z with
    | inl e => exact nomatch (show (some (Sum.inl e) : Option Rs9) = some (Sum.inr r) from h)
    | inr p => exact ⟨p.1, p.2, rfl, (Sum.inr.inj (Option.some.inj h)).symm⟩
/-- a statement that both read -/
theorem dps9 {K S : Nat → Int32} {V : Nat → Int64} {f g i d : Nat} {ml pl : List Int64} {C C2 : Ct9} {r : Nat × Nat × List Int64 × List Int64} {j : Nat} (h : stm K S V f i d ml pl = some (.inr r)) (h2 : stc K V g i C = some (j, C2)) (hC : DpC C) : j = r.1 ∧ DpC C2 := by
  unfold stm at h
  unfold stc at h2
  have z2 : ∀ n : Nat, ∀ C3 : Ct9, DpC C3 → (some (n, C3) : Option (Nat × Ct9)) = some (j, C2) → j = n ∧ DpC C2 := fun n C3 h3 e => by
    have e2 := Prod.mk.inj (Option.some.inj e)
    rw [← e2.2]
    exact ⟨e2.1.symm, h3⟩
  by_cases k8 : K i = 8
  · rw [if_pos k8] at h h2
    have h3 := ns_inr h
    by_cases q : K (i + 2) = 3 ∧ ¬ (V (i + 2) = 360 ∨ V (i + 2) = 365)
    · rw [if_pos q] at h3; exact ss_inr h3
    · rw [if_neg q] at h3
      have h4 := Sum.inr.inj (Option.some.inj (ns_inr h3))
      rw [← h4]
      exact z2 (i + 3) ((V (i + 1), V (i + 2), C.1.2.2), C.2) hC h2
  rw [if_neg k8] at h h2
  by_cases k9 : K i = 9
  · rw [if_pos k9] at h h2
    have h4 := Sum.inr.inj (Option.some.inj (ns_inr h))
    rw [← h4]
    exact z2 (i + 2) C hC h2
  rw [if_neg k9] at h h2
  by_cases k10 : K i = 10
  · rw [if_pos k10] at h h2
    have h4 := Sum.inr.inj (Option.some.inj (ns_inr h))
    rw [← h4]
    exact z2 (i + 2) ((C.1.1, C.1.2.1, V (i + 1)), C.2) hC h2
  rw [if_neg k10] at h h2
  by_cases k11 : K i = 11
  · rw [if_pos k11] at h h2
    by_cases d6 : d = 6
    · rw [if_pos d6] at h; exact ss_inr h
    · rw [if_neg d6] at h
      have h4 := Sum.inr.inj (Option.some.inj (ns_inr h))
      rw [← h4]
      exact z2 (i + 2) (C.1, C.2.1 ++ [V (i + 1)], C.2.2) hC h2
  rw [if_neg k11] at h h2
  by_cases k12 : K i = 12
  · rw [if_pos k12] at h
    by_cases a1 : ml.length = 10
    · rw [if_pos a1] at h; exact ss_inr h
    rw [if_neg a1] at h
    by_cases a2 : K (i + 1) = 4
    · rw [if_pos a2] at h
      by_cases a3 : V (i + 1) ∈ ml
      · rw [if_pos a3] at h; exact ss_inr h
      rw [if_neg a3] at h
      have h3 := ns_inr (ns_inr h)
      by_cases a4 : K (i + 4) = 13
      · rw [if_pos a4] at h3
        obtain ⟨a, pa, h5, h6⟩ := cs_inr h3
        cases hp : pc K V g 3 (i + 5) with
        | none => rw [hp] at h2; exact nomatch h2
        | some p =>
          rw [hp] at h2
          have h7 : (some (p.1, (C.1, C.2.1, C.2.2 ++ [(V (i + 2), V (i + 3), p.2)])) : Option (Nat × Ct9)) = some (j, C2) := h2
          obtain ⟨e1, e2⟩ := dep9 f g 3 0 (i + 5) pl a pa p.1 p.2 (by omega) (by omega) h5 hp
          rw [sd9_3] at e2
          have h8 := z2 p.1 (C.1, C.2.1, C.2.2 ++ [(V (i + 2), V (i + 3), p.2)]) (fun m b q c hm => by
            have hm2 : (C.2.2 ++ [(V (i + 2), V (i + 3), p.2)])[m]? = some (b, q, c) := hm
            by_cases l : m < C.2.2.length
            · rw [List.getElem?_append_left l] at hm2
              exact hC m b q c hm2
            · have l2 := (List.getElem?_eq_some_iff.mp hm2).1
              rw [List.length_append] at l2
              have l3 : m < C.2.2.length + 1 := l2
              have em : m = C.2.2.length := by omega
              rw [em, List.getElem?_append_right (Nat.le_refl _), Nat.sub_self] at hm2
              have ev := Prod.mk.inj (Option.some.inj hm2)
              have ev2 := Prod.mk.inj ev.2
              rw [← ev2.2]
              exact e2 0 (by rw [wd9_3]; omega)) h7
          rw [h6]
          exact ⟨h8.1.trans e1, h8.2⟩
      · rw [if_neg a4] at h3; exact ss_inr h3
    · rw [if_neg a2] at h; exact ss_inr h
  · rw [if_neg k12] at h; exact ss_inr h
/-- a text that both read -/
theorem dpt9 {K S : Nat → Int32} {V : Nat → Int64} : ∀ (f g i d : Nat) (ml pl : List Int64) (r : List Int64 × List Int64) (C C2 : Ct9), pt K S V f i d ml pl = some (.inr r) → ptc K V g i C = some C2 → DpC C → DpC C2 := by
  intro f
  induction f with
  | zero => intro g i d ml pl r C C2 h _ _; exact nomatch (show (none : Option Rt) = some (.inr r) from h)
  | succ f ih =>
    intro g i d ml pl r C C2 h h2 hC
    cases g with
    | zero => exact nomatch (show (none : Option Ct9) = some C2 from h2)
    | succ g =>
    rw [pt] at h
    rw [ptc] at h2
    by_cases k1 : K i = 1
    · rw [if_pos k1] at h2
      rw [← Option.some.inj h2]
      exact hC
    · rw [if_neg k1] at h h2
      cases hs : stm K S V f i d ml pl with
      | none => rw [hs] at h; exact nomatch h
      | some z =>
        rw [hs] at h
        cases z with
        | inl e => exact nomatch (show (some (Sum.inl e) : Option Rt) = some (Sum.inr r) from h)
        | inr p =>
          have h3 : (if K p.1 = 7 then pt K S V f (p.1 + 1) p.2.1 p.2.2.1 p.2.2.2 else some (.inl (flo K S p.1 2))) = (some (.inr r) : Option Rt) := h
          by_cases k7 : K p.1 = 7
          · rw [if_pos k7] at h3
            cases hc : stc K V g i C with
            | none => rw [hc] at h2; exact nomatch h2
            | some y =>
              rw [hc] at h2
              obtain ⟨e1, e2⟩ := dps9 hs (show stc K V g i C = some (y.1, y.2) from hc) hC
              have h4 : ptc K V g (y.1 + 1) y.2 = some C2 := h2
              rw [e1] at h4
              exact ih g (p.1 + 1) p.2.1 p.2.2.1 p.2.2.2 r y.2 C2 h3 h4 e2
          · rw [if_neg k7] at h3; exact nomatch h3
theorem TP.dp {K S : Nat → Int32} {V : Nat → Int64} {r : List Int64 × List Int64} {C : Ct9} (h : TP K S V 0 0 [] [] (.inr r)) (h2 : TC9 K V 0 C09 C) : DpC C := by
  obtain ⟨f, h⟩ := h
  obtain ⟨g, h2⟩ := h2
  exact dpt9 f g 0 0 [] [] r C09 C h h2 (fun m a p c q => nomatch (show (none : Option (Int64 × Int64 × List Cd9)) = some (a, p, c) from q))
/-- the same in the reference's codes -/
theorem enc_dp {ml pl : List Int64} {p : Cd9} (h : OkC ml pl p) : (p.1 = 16 → enc9 ml pl p = -3) ∧ (p.1 = 15 ∨ p.1 = 14 → ¬ enc9 ml pl p = -3 ∧ enc9 ml pl p < 0) ∧ (¬ p.1 = 16 → ¬ (p.1 = 15 ∨ p.1 = 14) → ¬ enc9 ml pl p < 0) := by
  have ps : ∀ n : Nat, n < 1000000 → ¬ nI n < 0 := fun n hn => nI_pos (by omega)
  refine ⟨fun e => by unfold enc9; rw [if_pos e], fun e => ?_, fun n16 n1 => ?_⟩
  · unfold enc9
    rcases e with e | e
    · rw [if_neg (by rw [e]; decide), if_pos e]; decide
    · rw [if_neg (by rw [e]; decide), if_neg (by rw [e]; decide), if_pos e]; decide
  · unfold enc9
    rw [if_neg n16, if_neg (fun q => n1 (Or.inl q)), if_neg (fun q => n1 (Or.inr q))]
    rcases h with h | ⟨h, v, hv, e2⟩ | ⟨h, hi, hl⟩ | ⟨h, hi, hl⟩
    · rcases h with z | z | z | z | z
      · exact absurd (Or.inr z) n1
      · exact absurd (Or.inl z) n1
      · exact absurd z n16
      · rw [if_neg (by rw [z]; decide), if_neg (by rw [z]; decide), if_neg (by rw [z]; decide), if_neg (by rw [z]; decide), if_pos z]
        exact ps _ (by omega)
      · rw [if_neg (by rw [z]; decide), if_neg (by rw [z]; decide), if_neg (by rw [z]; decide), if_neg (by rw [z]; decide), if_neg (by rw [z]; decide)]
        exact ps _ (by omega)
    · rcases h with z | z
      · rw [if_pos z, e2, lN_i]; exact ps v (by omega)
      · rw [if_neg (by rw [z]; decide), if_neg (by rw [z]; decide), if_neg (by rw [z]; decide), if_pos z, e2, lN_i, show (300000 : Int32) + nI v = nI (300000 + v) from nI_add 300000 v]
        exact ps _ (by omega)
    · have := fi9_lt hi
      rw [if_neg (by rw [h]; decide), if_pos h]
      exact ps _ (by omega)
    · have := fi9_lt hi
      rw [if_neg (by rw [h]; decide), if_neg (by rw [h]; decide), if_pos h]
      exact ps _ (by omega)
theorem CdR.tl {ml pl : List Int64} {a : Nat} {p : Cd9} {t : List Cd9} {f : Nat → Int32} (h : CdR ml pl a (p :: t) f) : CdR ml pl (a + 1) t f := fun k q hq => by
  have z := h (k + 1) q hq
  rw [show a + (k + 1) = a + 1 + k by omega] at z
  exact z
theorem dpl_dpf {ml pl : List Int64} {f : Nat → Int32} : ∀ (cs : List Cd9) (a d : Nat), CdR ml pl a cs f → dpf f cs.length a d = dpl cs d
  | [], _, _, _ => rfl
  | p :: t, a, d, h => by
    obtain ⟨ho, he⟩ := h 0 p rfl
    rw [Nat.add_zero] at he
    obtain ⟨e16, e1, e0⟩ := enc_dp ho
    have ih := fun d => dpl_dpf t (a + 1) d h.tl
    show dpf f (t.length + 1) a d = dpl (p :: t) d
    rw [dpf, dpl, he]
    by_cases c1 : p.1 = 16
    · rw [if_pos c1, e16 c1, if_pos rfl, ih]
    · rw [if_neg c1]
      by_cases c2 : p.1 = 15 ∨ p.1 = 14
      · rw [if_pos c2, if_neg (e1 c2).1, if_pos (e1 c2).2, ih]
      · rw [if_neg c2, if_neg (fun q => e0 c1 c2 (by rw [q]; decide)), if_neg (e0 c1 c2), ih]
