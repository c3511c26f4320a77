/-- the word that begins at i, read up to the next space -/
def wfv (bs : List Int32) : Nat → Nat → Int64 → Int64
  | 0, _, v => v
  | n + 1, i, v => if bs.getD i 0 = 32 then v else wfv bs n (i + 1) (32 * v + (bs.getD i 0).toInt64 - 96)
theorem wfv_end {bs : List Int32} {n i : Nat} {v r : Int64} (h : wfv bs (n + 1) i v = r) (c : bs.getD i 0 = 32) : v = r := by
  simp only [wfv] at h
  rw [if_pos c] at h
  exact h
theorem wfv_on {bs : List Int32} {n i : Nat} {v r : Int64} (h : wfv bs (n + 1) i v = r) (c : ¬ bs.getD i 0 = 32) : wfv bs n (i + 1) (32 * v + (bs.getD i 0).toInt64 - 96) = r := by
  simp only [wfv] at h
  rw [if_neg c] at h
  exact h
theorem KW.zero (f : Nat → Int64) : KW 0 f := fun k h => absurd h (Nat.not_lt_zero k)
theorem KW.put {n : Nat} {f : Nat → Int64} (h : KW n f) {v : Int64} (e : v = kwv.getD n 0) : KW (n + 1) (vp_updL f n v) := fun k hk => by
  by_cases q : k = n
  · subst q
    exact pk_uLs.trans e
  · have h1 : vp_updL f n v k = f k := if_neg q
    rw [h1]
    exact h k (by omega)
theorem Zs.ri {f : Nat → Int32} (h : Zs f) : RI 0 0 0 0 f := ⟨h.2 13 (by decide) (by decide), h.2 14 (by decide) (by decide), h.2 15 (by decide) (by decide), h.2 4 (by decide) (by decide), 365, by decide, by decide, h.1⟩
theorem Rng.zero (N B : Nat) (h : 0 < B) : Rng N B (fun _ => 0) := fun _ _ => ⟨0, h, rfl⟩
theorem Bit.zero (N : Nat) : Bit N (fun _ => 0) := fun _ _ => Or.inl rfl
theorem CW.zero (f g : Nat → Int32) : CW 0 f g := fun m h => absurd h (Nat.not_lt_zero m)
theorem Win.zero (p n : Nat) (mp : Nat → Nat) : Win p n 0 mp := fun j hj => absurd hj (Nat.not_lt_zero j)
