/-- what a text defines: rate, basis, grace; the deposits; the milestones' amounts, priorities, codes -/
abbrev Ct9 := (Int64 × Int64 × Int64) × List Int64 × List (Int64 × Int64 × List Cd9)
def stc (K : Nat → Int32) (V : Nat → Int64) (f i : Nat) (C : Ct9) : Option (Nat × Ct9) :=
  if K i = 8 then some (i + 3, ((V (i + 1), V (i + 2), C.1.2.2), C.2))
  else if K i = 9 then some (i + 2, C)
  else if K i = 10 then some (i + 2, ((C.1.1, C.1.2.1, V (i + 1)), C.2))
  else if K i = 11 then some (i + 2, (C.1, C.2.1 ++ [V (i + 1)], C.2.2))
  else match pc K V f 3 (i + 5) with
    | none => none
    | some p => some (p.1, (C.1, C.2.1, C.2.2 ++ [(V (i + 2), V (i + 3), p.2)]))
theorem stc_mono {K : Nat → Int32} {V : Nat → Int64} {f i : Nat} {C : Ct9} {r : Nat × Ct9} (h : stc K V f i C = some r) : stc K V (f + 1) i C = some r := by
  unfold stc at h ⊢
  refine it_mono id (it_mono id (it_mono id (it_mono id (fun h => ?_)))) h
  cases hp : pc K V f 3 (i + 5) with
  | none => rw [hp] at h; exact nomatch h
  | some p => rw [hp] at h; rw [pc_mono _ _ _ _ hp]; exact h
theorem stc_le {K : Nat → Int32} {V : Nat → Int64} {f i : Nat} {C : Ct9} {r : Nat × Ct9} (h : stc K V f i C = some r) : ∀ g, stc K V (f + g) i C = some r := by
  intro g
  induction g with
  | zero => exact h
  | succ g ih => exact stc_mono ih
def SC9 (K : Nat → Int32) (V : Nat → Int64) (i : Nat) (C : Ct9) (j : Nat) (C2 : Ct9) : Prop := ∃ f, stc K V f i C = some (j, C2)
def ptc (K : Nat → Int32) (V : Nat → Int64) : Nat → Nat → Ct9 → Option Ct9
  | 0, _, _ => none
  | f + 1, i, C =>
    if K i = 1 then some C
    else match stc K V f i C with
      | none => none
      | some p => ptc K V f (p.1 + 1) p.2
theorem ptc_mono {K : Nat → Int32} {V : Nat → Int64} : ∀ (f i : Nat) (C r : Ct9), ptc K V f i C = some r → ptc K V (f + 1) i C = some r := by
  intro f
  induction f with
  | zero => intro i C r h; exact nomatch (show (none : Option Ct9) = some r from h)
  | succ f ih =>
    intro i C r h
    rw [ptc] at h ⊢
    by_cases q : K i = 1
    · rw [if_pos q] at h ⊢; exact h
    · rw [if_neg q] at h ⊢
      cases hs : stc K V f i C with
      | none => rw [hs] at h; exact nomatch (show (none : Option Ct9) = some r from h)
      | some z =>
        rw [hs] at h
        rw [stc_mono hs]
        exact ih _ _ _ h
theorem ptc_le {K : Nat → Int32} {V : Nat → Int64} {f i : Nat} {C r : Ct9} (h : ptc K V f i C = some r) : ∀ g, ptc K V (f + g) i C = some r := by
  intro g
  induction g with
  | zero => exact h
  | succ g ih => exact ptc_mono _ _ _ _ ih
def TC9 (K : Nat → Int32) (V : Nat → Int64) (i : Nat) (C C2 : Ct9) : Prop := ∃ f, ptc K V f i C = some C2
theorem TC9.det {K : Nat → Int32} {V : Nat → Int64} {i : Nat} {C C2 C3 : Ct9} (h : TC9 K V i C C2) (h2 : TC9 K V i C C3) : C2 = C3 := by
  obtain ⟨f, h⟩ := h
  obtain ⟨g, h2⟩ := h2
  have a := ptc_le h g
  have b := ptc_le h2 f
  rw [Nat.add_comm] at b
  rw [a] at b
  exact Option.some.inj b
theorem TC9.fin {K : Nat → Int32} {V : Nat → Int64} {i : Nat} {C : Ct9} (h : K i = 1) : TC9 K V i C C := ⟨0 + 1, by rw [ptc, if_pos h]⟩
theorem TC9.go {K : Nat → Int32} {V : Nat → Int64} {i j : Nat} {C C2 C3 : Ct9} (h : ¬ K i = 1) (h1 : SC9 K V i C j C2) (h2 : TC9 K V (j + 1) C2 C3) : TC9 K V i C C3 := by
  obtain ⟨f, h1⟩ := h1
  obtain ⟨g, h2⟩ := h2
  refine ⟨f + g + 1, ?_⟩
  rw [ptc, if_neg h, stc_le h1 g]
  show ptc K V (f + g) (j + 1) C2 = some C3
  rw [Nat.add_comm]
  exact ptc_le h2 f
def Tc9 (K : Nat → Int32) (V : Nat → Int64) (i : Nat) (C : Ct9) (ii : Nat) (Ci : Ct9) : Prop := ∀ C3, TC9 K V ii Ci C3 → TC9 K V i C C3
theorem Tc9.zero {K : Nat → Int32} {V : Nat → Int64} {i : Nat} {C : Ct9} : Tc9 K V i C i C := fun _ h => h
theorem Tc9.go {K : Nat → Int32} {V : Nat → Int64} {i ii j : Nat} {C Ci C2 : Ct9} (h : Tc9 K V i C ii Ci) (hn : ¬ K ii = 1) (h1 : SC9 K V ii Ci j C2) : Tc9 K V i C (j + 1) C2 := fun C3 h3 => h C3 (TC9.go hn h1 h3)
theorem SC9.rate {K : Nat → Int32} {V : Nat → Int64} {i : Nat} {C : Ct9} (h : K i = 8) : SC9 K V i C (i + 3) ((V (i + 1), V (i + 2), C.1.2.2), C.2) := ⟨0, by unfold stc; rw [if_pos h]⟩
theorem SC9.fee {K : Nat → Int32} {V : Nat → Int64} {i : Nat} {C : Ct9} (h : K i = 9) : SC9 K V i C (i + 2) C := ⟨0, by unfold stc; rw [if_neg (by rw [h]; decide), if_pos h]⟩
theorem SC9.grace {K : Nat → Int32} {V : Nat → Int64} {i : Nat} {C : Ct9} (h : K i = 10) : SC9 K V i C (i + 2) ((C.1.1, C.1.2.1, V (i + 1)), C.2) := ⟨0, by unfold stc; rw [if_neg (by rw [h]; decide), if_neg (by rw [h]; decide), if_pos h]⟩
theorem SC9.dep {K : Nat → Int32} {V : Nat → Int64} {i : Nat} {C : Ct9} (h : K i = 11) : SC9 K V i C (i + 2) (C.1, C.2.1 ++ [V (i + 1)], C.2.2) := ⟨0, by unfold stc; rw [if_neg (by rw [h]; decide), if_neg (by rw [h]; decide), if_neg (by rw [h]; decide), if_pos h]⟩
theorem SC9.mil {K : Nat → Int32} {V : Nat → Int64} {i j : Nat} {C : Ct9} {c : List Cd9} (h : K i = 12) (h1 : PC K V 3 (i + 5) j c) : SC9 K V i C j (C.1, C.2.1, C.2.2 ++ [(V (i + 2), V (i + 3), c)]) := by
  obtain ⟨f, h1⟩ := h1
  exact ⟨f, by unfold stc; rw [if_neg (by rw [h]; decide), if_neg (by rw [h]; decide), if_neg (by rw [h]; decide), if_neg (by rw [h]; decide), h1]⟩
