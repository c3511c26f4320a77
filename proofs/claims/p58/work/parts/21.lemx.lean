theorem vpL_n {f : Nat → Int64} {k j : Nat} {x : Int64} (h : j ≠ k) : vp_updL f k x j = f j := if_neg h
theorem vpL_s {f : Nat → Int64} {k : Nat} {x : Int64} : vp_updL f k x k = x := if_pos rfl
def Rdd {α : Type} (f : Nat → α) : Prop := f = f
/-- v was put at k -/
def Upp (k : Nat) (v : Int32) (f g : Nat → Int32) : Prop := g = upd f k v
theorem Upp.of {k : Nat} {v : Int32} {f : Nat → Int32} (hk : k < 2147483648) : Upp k v f (upd f (nI k).toNatClampNeg v) := by
  unfold Upp
  rw [nI_clamp hk]
def UppL (k : Nat) (v : Int64) (f g : Nat → Int64) : Prop := g = vp_updL f k v
theorem UppL.of {k : Nat} {v : Int64} {f : Nat → Int64} (hk : k < 2147483648) : UppL k v f (vp_updL f (nI k).toNatClampNeg v) := by
  unfold UppL
  rw [nI_clamp hk]
/-- the kind of a byte: a letter 4, a digit 3, a blank 0, brackets 5 and 6, a semicolon 7, else 2 -/
def ckd (c : Int32) : Int32 := if 97 ≤ c ∧ c ≤ 122 then 4 else if 48 ≤ c ∧ c ≤ 57 then 3 else if c = 32 ∨ c = 10 then 0 else if c = 40 then 5 else if c = 41 then 6 else if c = 59 then 7 else 2
/-- the letters from a on as a number -/
def wv (t : Nat → Int32) (a : Nat) : Nat → Int64
  | 0 => 0
  | n + 1 => 32 * wv t a n + (t (a + n)).toInt64 - 96
/-- the digits from a on as a number -/
def dv (t : Nat → Int32) (a : Nat) : Nat → Int64
  | 0 => 0
  | n + 1 => dv t a n * 10 + (t (a + n) - 48).toInt64
/-- a word's kind, when n of the words that no name can be have been looked at -/
def kwm : Nat → Int32 → Int64 → Int32
  | 0, k, _ => k
  | n + 1, k, v => if kwm n k v = 4 ∧ v = kwv.getD n 0 then nI (8 + n) else kwm n k v
theorem kwm_hit : ∀ j, j < 15 → kwm 15 4 (kwv.getD j 0) = nI (8 + j) := by decide +kernel
theorem kwm_not {k : Int32} (v : Int64) (h : k ≠ 4) : ∀ n, kwm n k v = k := by
  intro n
  induction n with
  | zero => rfl
  | succ n ih =>
    show (if kwm n k v = 4 ∧ v = kwv.getD n 0 then nI (8 + n) else kwm n k v) = k
    rw [if_neg (fun q => h (ih.symm.trans q.1)), ih]
theorem kwm_none {v : Int64} : ∀ n, (∀ j, j < n → kwv.getD j 0 ≠ v) → kwm n 4 v = 4 := by
  intro n
  induction n with
  | zero => intro _; rfl
  | succ n ih =>
    intro h
    show (if kwm n 4 v = 4 ∧ v = kwv.getD n 0 then nI (8 + n) else kwm n 4 v) = 4
    rw [if_neg (fun q => h n (by omega) q.2.symm), ih (fun j hj => h j (by omega))]
theorem kwm_cases (v : Int64) : kwm 15 4 v = 4 ∨ ∃ j, j < 15 ∧ v = kwv.getD j 0 ∧ kwm 15 4 v = nI (8 + j) := by
  by_cases h : ∃ j, j < 15 ∧ kwv.getD j 0 = v
  · obtain ⟨j, h1, h2⟩ := h
    exact Or.inr ⟨j, h1, h2.symm, by rw [← h2]; exact kwm_hit j h1⟩
  · exact Or.inl (kwm_none 15 (fun j hj e => h ⟨j, hj, e⟩))
/-- bytes a to b are a token of kind k, value v (its end at b is sure only where b < n) -/
def Tw (t : Nat → Int32) (n a b : Nat) (k : Int32) (v : Int64) : Prop := a < b ∧ b ≤ n ∧
  (((∀ j, a ≤ j → j < b → ckd (t j) = 4) ∧ (b < n → ckd (t b) ≠ 4) ∧ ((b - a ≤ 9 ∧ v = wv t a (b - a) ∧ k = 4) ∨ (9 < b - a ∧ k = 2)))
  ∨ ((∀ j, a ≤ j → j < b → ckd (t j) = 3) ∧ (b < n → ckd (t b) ≠ 3) ∧ ((b - a ≤ 5 ∧ v = dv t a (b - a) ∧ k = 3) ∨ (5 < b - a ∧ k = 2)))
  ∨ (b = a + 1 ∧ ckd (t a) ≠ 4 ∧ ckd (t a) ≠ 3 ∧ ckd (t a) ≠ 0 ∧ k = ckd (t a)))
/-- what the scanner knows behind n bytes: c tokens, from P i to R (i + 1), blanks between them -/
def Sp (t : Nat → Int32) (n c run : Nat) (pv : Int32) (K S : Nat → Int32) (V : Nat → Int64) : Prop := c ≤ n ∧ ∃ P R : Nat → Nat, R 0 = 0 ∧
  (∀ i, i < c → S i = nI (P i) ∧ R i ≤ P i ∧ (∀ j, R i ≤ j → j < P i → ckd (t j) = 0) ∧ Tw t n (P i) (R (i + 1)) (K i) (V i)) ∧
  R c ≤ n ∧ (∀ j, R c ≤ j → j < n → ckd (t j) = 0) ∧ (0 < n → pv = ckd (t (n - 1))) ∧ (n = 0 → pv = 0) ∧ (pv = 4 ∨ pv = 3 → 0 < c ∧ R c = n ∧ run = n - P (c - 1))
theorem Sp.zero (t : Nat → Int32) (K S : Nat → Int32) (V : Nat → Int64) : Sp t 0 0 0 0 K S V :=
  ⟨Nat.le_refl 0, fun _ => 0, fun _ => 0, rfl, fun i h => absurd h (Nat.not_lt_zero i), Nat.le_refl 0, fun j _ h => absurd h (Nat.not_lt_zero j), fun h => absurd h (Nat.lt_irrefl 0), fun _ => rfl, fun h => absurd h (by decide)⟩
/-- a token that is not the last one, or whose end is seen, stays as it is -/
theorem Tw.more {t : Nat → Int32} {n a b : Nat} {k : Int32} {v : Int64} (h : Tw t n a b k v) (h1 : b = n → ∀ x : Int32, (x = 4 ∨ x = 3) → ckd (t (n - 1)) = x → ckd (t n) ≠ x) : Tw t (n + 1) a b k v := by
  obtain ⟨hab, hbn, h⟩ := h
  refine ⟨hab, by omega, ?_⟩
  rcases h with ⟨g1, g2, g3⟩ | ⟨g1, g2, g3⟩ | g
  · refine Or.inl ⟨g1, fun _ => ?_, g3⟩
    rcases Nat.lt_or_ge b n with q | q
    · exact g2 q
    · have e : b = n := by omega
      rw [e]
      exact h1 e 4 (Or.inl rfl) (g1 (n - 1) (by omega) (by omega))
  · refine Or.inr (Or.inl ⟨g1, fun _ => ?_, g3⟩)
    rcases Nat.lt_or_ge b n with q | q
    · exact g2 q
    · have e : b = n := by omega
      rw [e]
      exact h1 e 3 (Or.inr rfl) (g1 (n - 1) (by omega) (by omega))
  · exact Or.inr (Or.inr g)
/-- a blank -/
theorem Sp.blank {t : Nat → Int32} {n c run run2 : Nat} {pv : Int32} {K S : Nat → Int32} {V : Nat → Int64} (h : Sp t n c run pv K S V) (hk : ckd (t n) = 0) : Sp t (n + 1) c run2 0 K S V := by
  obtain ⟨hc, P, R, h0, hi, h1, h2, h3, h4, h5⟩ := h
  refine ⟨by omega, P, R, h0, fun i q => ?_, by omega, fun j j1 j2 => ?_, fun _ => ?_, fun q => by omega, fun q => absurd q (by decide)⟩
  · obtain ⟨a1, a2, a3, a4⟩ := hi i q
    refine ⟨a1, a2, a3, a4.more (fun _ x hx _ e => ?_)⟩
    rw [hk] at e
    rcases hx with q | q <;> rw [q] at e <;> exact absurd e (by decide)
  · rcases Nat.lt_or_ge j n with q | q
    · exact h2 j j1 q
    · rw [show j = n by omega]; exact hk
  · rw [show n + 1 - 1 = n by omega, hk]
/-- a new token -/
theorem Sp.new {t : Nat → Int32} {n c run : Nat} {pv : Int32} {K S K2 S2 : Nat → Int32} {V V2 : Nat → Int64} (h : Sp t n c run pv K S V) (hno : ¬ (ckd (t n) = pv ∧ (ckd (t n) = 4 ∨ ckd (t n) = 3))) (hk : ckd (t n) ≠ 0)
    (eK : K2 = upd K c (ckd (t n))) (eS : S2 = upd S c (nI n)) (eV : V2 = vp_updL V c (if ckd (t n) = 4 then wv t n 1 else if ckd (t n) = 3 then dv t n 1 else 0)) : Sp t (n + 1) (c + 1) 1 (ckd (t n)) K2 S2 V2 := by
  obtain ⟨hc, P, R, h0, hi, h1, h2, h3, h4, h5⟩ := h
  refine ⟨by omega, fu P c n, fu R (c + 1) (n + 1), (fu_n (by omega)).trans h0, fun i q => ?_, ?_, fun j j1 j2 => ?_, fun _ => rfl, fun q => by omega, fun _ => ?_⟩
  · rcases Nat.lt_or_ge i c with q1 | q1
    · obtain ⟨a1, a2, a3, a4⟩ := hi i q1
      rw [eK, eS, eV, pk_un (show i ≠ c by omega), pk_un (show i ≠ c by omega), vpL_n (show i ≠ c by omega), fu_n (show i ≠ c by omega), fu_n (show i ≠ c + 1 by omega), fu_n (show i + 1 ≠ c + 1 by omega)]
      refine ⟨a1, a2, a3, a4.more (fun eb x hx e1 e2 => ?_)⟩
      have hn0 : 0 < n := by have := a4.1; omega
      have hp := h3 hn0
      exact hno ⟨by rw [hp, e1, e2], by rw [e2]; exact hx⟩
    · have e : i = c := by omega
      subst e
      rw [eK, eS, eV, pk_us, pk_us, vpL_s, fu_s, fu_n (show i ≠ i + 1 by omega), fu_s]
      refine ⟨rfl, h1, h2, by omega, Nat.le_refl _, ?_⟩
      by_cases k4 : ckd (t n) = 4
      · refine Or.inl ⟨fun j j1 j2 => by rw [show j = n by omega]; exact k4, fun q => by omega, Or.inl ⟨by omega, ?_, k4⟩⟩
        rw [if_pos k4, show n + 1 - n = 1 by omega]
      · by_cases k3 : ckd (t n) = 3
        · refine Or.inr (Or.inl ⟨fun j j1 j2 => by rw [show j = n by omega]; exact k3, fun q => by omega, Or.inl ⟨by omega, ?_, k3⟩⟩)
          rw [if_neg k4, if_pos k3, show n + 1 - n = 1 by omega]
        · exact Or.inr (Or.inr ⟨rfl, k4, k3, hk, rfl⟩)
  · rw [fu_s]; exact Nat.le_refl _
  · rw [fu_s] at j1; omega
  · rw [fu_s, show c + 1 - 1 = c by omega, fu_s]; exact ⟨by omega, rfl, by omega⟩
/-- the last token goes on -/
theorem Sp.ext {t : Nat → Int32} {n c run : Nat} {pv : Int32} {K S K2 : Nat → Int32} {V V2 : Nat → Int64} (h : Sp t n c run pv K S V) (e1 : ckd (t n) = pv) (e2 : pv = 4 ∨ pv = 3)
    (eV : V2 = vp_updL V (c - 1) (if pv = 4 then 32 * V (c - 1) + (t n).toInt64 - 96 else V (c - 1) * 10 + (t n - 48).toInt64))
    (eK : (run + 1 ≤ (if pv = 4 then 9 else 5) ∧ K2 = K) ∨ ((if pv = 4 then 9 else 5) < run + 1 ∧ K2 = upd K (c - 1) 2)) : Sp t (n + 1) c (run + 1) pv K2 S V2 := by
  obtain ⟨hc, P, R, h0, hi, h1, h2, h3, h4, h5⟩ := h
  obtain ⟨c0, rc, hr⟩ := h5 e2
  have hl := hi (c - 1) (by omega)
  rw [show c - 1 + 1 = c by omega, rc] at hl
  obtain ⟨l1, l2, l3, l4, -, l5⟩ := hl
  have hn0 : 0 < n := by omega
  refine ⟨by omega, P, fu R c (n + 1), (fu_n (by omega)).trans h0, fun i q => ?_, ?_, fun j j1 j2 => ?_, fun _ => e1.symm, fun q => by omega, fun _ => ?_⟩
  · rcases Nat.lt_or_ge i (c - 1) with q1 | q1
    · obtain ⟨a1, a2, a3, a4⟩ := hi i q
      have hK : K2 i = K i := by rcases eK with ⟨-, e⟩ | ⟨-, e⟩ <;> rw [e]; exact pk_un (by omega)
      rw [hK, eV, vpL_n (show i ≠ c - 1 by omega), fu_n (show i ≠ c by omega), fu_n (show i + 1 ≠ c by omega)]
      refine ⟨a1, a2, a3, a4.more (fun eb => ?_)⟩
      exfalso
      obtain ⟨-, b2, -, b4⟩ := hi (i + 1) (by omega)
      have := b4.1
      have := b4.2.1
      omega
    · have e : i = c - 1 := by omega
      subst e
      rw [eV, vpL_s, show c - 1 + 1 = c by omega, fu_n (show c - 1 ≠ c by omega), fu_s]
      refine ⟨l1, l2, l3, by omega, Nat.le_refl _, ?_⟩
      have hkc : (run + 1 ≤ (if pv = 4 then 9 else 5) ∧ K2 (c - 1) = K (c - 1)) ∨ ((if pv = 4 then 9 else 5) < run + 1 ∧ K2 (c - 1) = 2) := by
        rcases eK with ⟨a, e⟩ | ⟨a, e⟩
        · exact Or.inl ⟨a, by rw [e]⟩
        · exact Or.inr ⟨a, by rw [e]; exact pk_us⟩
      have hp := h3 hn0
      have hsub : n + 1 - P (c - 1) = (n - P (c - 1)) + 1 := by omega
      have hadd : P (c - 1) + (n - P (c - 1)) = n := by omega
      rcases e2 with e2 | e2
      · rw [if_pos e2] at hkc ⊢
        rcases l5 with ⟨g1, -, g3⟩ | ⟨g1, -, -⟩ | ⟨g0, g1, g2, g3, -⟩
        · refine Or.inl ⟨fun j j1 j2 => ?_, fun q => by omega, ?_⟩
          · rcases Nat.lt_or_ge j n with z | z
            · exact g1 j j1 z
            · rw [show j = n by omega, e1, e2]
          · rcases hkc with ⟨a, ek⟩ | ⟨a, ek⟩
            · rcases g3 with ⟨b1, b2, b3⟩ | ⟨b1, -⟩
              · refine Or.inl ⟨by omega, ?_, by rw [ek]; exact b3⟩
                rw [hsub, b2]
                show _ = 32 * wv t (P (c - 1)) (n - P (c - 1)) + (t (P (c - 1) + (n - P (c - 1)))).toInt64 - 96
                rw [hadd]
              · omega
            · exact Or.inr ⟨by omega, ek⟩
        · have z := g1 (n - 1) (by omega) (by omega)
          rw [← hp, e2] at z
          exact absurd z (by decide)
        · have z : P (c - 1) = n - 1 := by omega
          rw [z, ← hp] at g1
          exact absurd e2 g1
      · have e4 : ¬ pv = 4 := by rw [e2]; decide
        rw [if_neg e4] at hkc ⊢
        rcases l5 with ⟨g1, -, -⟩ | ⟨g1, -, g3⟩ | ⟨g0, g1, g2, g3, -⟩
        · have z := g1 (n - 1) (by omega) (by omega)
          rw [← hp, e2] at z
          exact absurd z (by decide)
        · refine Or.inr (Or.inl ⟨fun j j1 j2 => ?_, fun q => by omega, ?_⟩)
          · rcases Nat.lt_or_ge j n with z | z
            · exact g1 j j1 z
            · rw [show j = n by omega, e1, e2]
          · rcases hkc with ⟨a, ek⟩ | ⟨a, ek⟩
            · rcases g3 with ⟨b1, b2, b3⟩ | ⟨b1, -⟩
              · refine Or.inl ⟨by omega, ?_, by rw [ek]; exact b3⟩
                rw [hsub, b2]
                show _ = dv t (P (c - 1)) (n - P (c - 1)) * 10 + (t (P (c - 1) + (n - P (c - 1))) - 48).toInt64
                rw [hadd]
              · omega
            · exact Or.inr ⟨by omega, ek⟩
        · have z : P (c - 1) = n - 1 := by omega
          rw [z, ← hp] at g2
          exact absurd e2 g2
  · rw [fu_s]; exact Nat.le_refl _
  · rw [fu_s] at j1; omega
  · rw [fu_s]; exact ⟨c0, rfl, by omega⟩
theorem ckd_1 (c : Int32) : ckd c ≠ 1 := by
  unfold ckd
  repeat' split
  all_goals decide
theorem ckd_4 {c : Int32} : ckd c = 4 ↔ (97 ≤ c ∧ c ≤ 122) := by
  unfold ckd
  constructor
  · intro h
    by_cases q : 97 ≤ c ∧ c ≤ 122
    · exact q
    · rw [if_neg q] at h
      exfalso
      revert h
      repeat' split
      all_goals decide
  · intro h
    rw [if_pos h]
theorem ckd_3 {c : Int32} : ckd c = 3 ↔ (48 ≤ c ∧ c ≤ 57) := by
  unfold ckd
  constructor
  · intro h
    by_cases q : 97 ≤ c ∧ c ≤ 122
    · rw [if_pos q] at h
      exact absurd h (by decide)
    · by_cases q2 : 48 ≤ c ∧ c ≤ 57
      · exact q2
      · rw [if_neg q, if_neg q2] at h
        exfalso
        revert h
        repeat' split
        all_goals decide
  · intro h
    have q : ¬ (97 ≤ c ∧ c ≤ 122) := fun q => absurd (Int32.le_trans q.1 h.2) (by decide)
    rw [if_neg q, if_pos h]
theorem ckd_n0 {c : Int32} (h1 : ¬ c = 32) (h2 : ¬ c = 10) : ckd c ≠ 0 := by
  unfold ckd
  rw [if_neg (fun q : c = 32 ∨ c = 10 => q.elim h1 h2)]
  repeat' split
  all_goals decide
theorem ckd_s {c : Int32} (h4 : ckd c ≠ 4) (h3 : ckd c ≠ 3) (h0 : ckd c ≠ 0) : (c = 40 ∧ ckd c = 5) ∨ (c = 41 ∧ ckd c = 6) ∨ (c = 59 ∧ ckd c = 7) ∨ (c ≠ 40 ∧ c ≠ 41 ∧ c ≠ 59 ∧ ckd c = 2) := by
  unfold ckd at h4 h3 h0 ⊢
  by_cases a4 : 97 ≤ c ∧ c ≤ 122
  · rw [if_pos a4] at h4; exact absurd rfl h4
  · rw [if_neg a4] at h4 h3 h0 ⊢
    by_cases a3 : 48 ≤ c ∧ c ≤ 57
    · rw [if_pos a3] at h3; exact absurd rfl h3
    · rw [if_neg a3] at h4 h3 h0 ⊢
      by_cases a0 : c = 32 ∨ c = 10
      · rw [if_pos a0] at h0; exact absurd rfl h0
      · rw [if_neg a0]
        by_cases b1 : c = 40
        · rw [if_pos b1]; exact Or.inl ⟨b1, rfl⟩
        · rw [if_neg b1]
          by_cases b2 : c = 41
          · rw [if_pos b2]; exact Or.inr (Or.inl ⟨b2, rfl⟩)
          · rw [if_neg b2]
            by_cases b3 : c = 59
            · rw [if_pos b3]; exact Or.inr (Or.inr (Or.inl ⟨b3, rfl⟩))
            · rw [if_neg b3]; exact Or.inr (Or.inr (Or.inr ⟨b1, b2, b3, rfl⟩))
theorem ckd_i {c : Int32} (h4 : ckd c ≠ 4) (h3 : ckd c ≠ 3) (h0 : ckd c ≠ 0) (a : ¬ c = 40) (b : ¬ c = 41) (d : ¬ c = 59) : ckd c = 2 := by
  rcases ckd_s h4 h3 h0 with ⟨q, -⟩ | ⟨q, -⟩ | ⟨q, -⟩ | ⟨-, -, -, q⟩
  · exact absurd q a
  · exact absurd q b
  · exact absurd q d
  · exact q
/-- from byte p on the next token is k, value v, from a to b -/
def Tn (t : Nat → Int32) (n p a b : Nat) (k : Int32) (v : Int64) : Prop := p ≤ a ∧ a ≤ n ∧ (∀ j, p ≤ j → j < a → ckd (t j) = 0) ∧ ((a = n ∧ b = n ∧ k = 1) ∨ ∃ k0, Tw t n a b k0 v ∧ k = kwm 15 k0 v)
theorem kj15 : ∀ j, j < 15 → nI (8 + j) ≠ 1 ∧ nI (8 + j) ≠ 2 ∧ nI (8 + j) ≠ 3 ∧ nI (8 + j) ≠ 4 ∧ nI (8 + j) ≠ 5 ∧ nI (8 + j) ≠ 6 ∧ nI (8 + j) ≠ 7 ∧ nI j ≠ -1 := by decide +kernel
theorem Tw.k {t : Nat → Int32} {n a b : Nat} {k : Int32} {v : Int64} (h : Tw t n a b k v) : kwm 15 k v ≠ 1 := by
  have g : ∀ x : Int32, x ≠ 4 → x ≠ 1 → kwm 15 x v ≠ 1 := fun x h1 h2 => by rw [kwm_not v h1]; exact h2
  obtain ⟨-, -, h⟩ := h
  rcases h with ⟨-, -, ⟨-, -, e⟩ | ⟨-, e⟩⟩ | ⟨-, -, ⟨-, -, e⟩ | ⟨-, e⟩⟩ | ⟨-, h4, -, -, e⟩
  · rw [e]
    rcases kwm_cases v with q | ⟨j, hj, -, q⟩
    · rw [q]; decide
    · rw [q]; exact (kj15 j hj).1
  · rw [e]; exact g 2 (by decide) (by decide)
  · rw [e]; exact g 3 (by decide) (by decide)
  · rw [e]; exact g 2 (by decide) (by decide)
  · rw [e]; exact g _ h4 (ckd_1 _)
/-- the tokens of a text of n bytes -/
def TX (t : Nat → Int32) (n ct : Nat) (P R : Nat → Nat) (S : Nat → Int32) (V : Nat → Int64) (K : Nat → Int32) : Prop := 0 < ct ∧ ct ≤ n + 1 ∧ R 0 = 0 ∧ ∀ i, i < ct → S i = nI (P i) ∧ Tn t n (R i) (P i) (R (i + 1)) (K i) (V i) ∧ (K i = 1 ↔ i + 1 = ct)
/-- the words that no name can be, put into the kinds up to the j-th -/
def Mk (n ct : Nat) (K : Nat → Int32) (V : Nat → Int64) (G : Nat → Int32) : Prop := ∀ i, i < ct → G i = kwm n (K i) (V i)
theorem Mk.zero (ct : Nat) (K : Nat → Int32) (V : Nat → Int64) : Mk 0 ct K V K := fun _ _ => rfl
/-- one word, up to token m -/
def Mi (n ct m : Nat) (K : Nat → Int32) (V : Nat → Int64) (G : Nat → Int32) : Prop := (∀ i, i < m → G i = kwm (n + 1) (K i) (V i)) ∧ ∀ i, m ≤ i → i < ct → G i = kwm n (K i) (V i)
theorem Mk.mi {n ct : Nat} {K G : Nat → Int32} {V : Nat → Int64} (h : Mk n ct K V G) : Mi n ct 0 K V G := ⟨fun i q => absurd q (Nat.not_lt_zero i), fun i _ q => h i q⟩
theorem Mi.mk {n ct : Nat} {K G : Nat → Int32} {V : Nat → Int64} (h : Mi n ct ct K V G) : Mk (n + 1) ct K V G := fun i q => h.1 i q
theorem Mi.yes {n ct m : Nat} {K G G2 : Nat → Int32} {V : Nat → Int64} (h : Mi n ct m K V G) (hm : m < ct) (h1 : G m = 4) (h2 : V m = kwv.getD n 0) (e : G2 = upd G m (nI (8 + n))) : Mi n ct (m + 1) K V G2 := by
  subst e
  refine ⟨fun i q => ?_, fun i q q2 => ?_⟩
  · by_cases z : i = m
    · subst z
      show upd G i (nI (8 + n)) i = if kwm n (K i) (V i) = 4 ∧ V i = kwv.getD n 0 then nI (8 + n) else kwm n (K i) (V i)
      rw [pk_us, if_pos ⟨by rw [← h.2 i (Nat.le_refl _) hm]; exact h1, h2⟩]
    · rw [pk_un z]; exact h.1 i (by omega)
  · rw [pk_un (by omega)]; exact h.2 i (by omega) q2
theorem Mi.no {n ct m : Nat} {K G : Nat → Int32} {V : Nat → Int64} (h : Mi n ct m K V G) (hm : m < ct) (h1 : ¬ (G m = 4 ∧ V m = kwv.getD n 0)) : Mi n ct (m + 1) K V G := by
  refine ⟨fun i q => ?_, fun i q q2 => h.2 i (by omega) q2⟩
  by_cases z : i = m
  · subst z
    show G i = if kwm n (K i) (V i) = 4 ∧ V i = kwv.getD n 0 then nI (8 + n) else kwm n (K i) (V i)
    have e := h.2 i (Nat.le_refl _) hm
    rw [if_neg (fun q => h1 ⟨e.trans q.1, q.2⟩)]
    exact e
  · exact h.1 i (by omega)
/-- the end of the scanner -/
theorem Sp.fin {t : Nat → Int32} {n c run : Nat} {pv : Int32} {K S K1 S1 K2 : Nat → Int32} {V V1 : Nat → Int64} (h : Sp t n c run pv K S V) (eK : K1 = upd K c 1) (eS : S1 = upd S c (nI n)) (eV : V1 = vp_updL V c 0) (hm : Mk 15 (c + 1) K1 V1 K2) : ∃ P R, TX t n (c + 1) P R S1 V1 K2 := by
  obtain ⟨hc, P, R, h0, hi, h1, h2, -, -, -⟩ := h
  refine ⟨fu P c n, fu R (c + 1) n, by omega, by omega, (fu_n (by omega)).trans h0, fun i q => ?_⟩
  have hk := hm i q
  rcases Nat.lt_or_ge i c with q1 | q1
  · obtain ⟨a1, a2, a3, a4⟩ := hi i q1
    have eV1 : V1 i = V i := by rw [eV]; exact if_neg (by omega)
    have eK1 : K1 i = K i := by rw [eK]; exact pk_un (by omega)
    rw [eV1, eK1] at hk
    rw [eS, pk_un (show i ≠ c by omega), eV1, fu_n (show i ≠ c by omega), fu_n (show i ≠ c + 1 by omega), fu_n (show i + 1 ≠ c + 1 by omega), hk]
    refine ⟨a1, ⟨a2, by have := a4.1; have := a4.2.1; omega, a3, Or.inr ⟨K i, a4, rfl⟩⟩, fun e => absurd e a4.k, fun e => by omega⟩
  · have e : i = c := by omega
    subst e
    have eK1 : K1 i = 1 := by rw [eK]; exact pk_us
    rw [eK1, kwm_not _ (by decide)] at hk
    rw [eS, pk_us, fu_s, fu_n (show i ≠ i + 1 by omega), fu_s, hk]
    exact ⟨rfl, ⟨h1, Nat.le_refl _, h2, Or.inl ⟨rfl, rfl, rfl⟩⟩, fun _ => rfl, fun _ => rfl⟩
theorem TX.nx {t : Nat → Int32} {n ct i : Nat} {P R : Nat → Nat} {S K : Nat → Int32} {V : Nat → Int64} (h : TX t n ct P R S V K) (hi : i < ct) (hk : K i ≠ 1) : i + 1 < ct := by
  have := (h.2.2.2 i hi).2.2
  rcases Nat.lt_or_ge (i + 1) ct with q | q
  · exact q
  · exact absurd (this.mpr (by omega)) hk
theorem TX.lt {t : Nat → Int32} {n ct i : Nat} {P R : Nat → Nat} {S K : Nat → Int32} {V : Nat → Int64} (h : TX t n ct P R S V K) (hi : i < ct) (hk : K i ≠ 1) : P i < R (i + 1) ∧ R (i + 1) ≤ n := by
  obtain ⟨-, -, -, q | ⟨k0, q, -⟩⟩ := (h.2.2.2 i hi).2.1
  · exact absurd q.2.2 hk
  · exact ⟨q.1, q.2.1⟩
theorem TX.le {t : Nat → Int32} {n ct i : Nat} {P R : Nat → Nat} {S K : Nat → Int32} {V : Nat → Int64} (h : TX t n ct P R S V K) (hi : i < ct) : R i ≤ P i ∧ P i ≤ R (i + 1) ∧ R (i + 1) ≤ n := by
  obtain ⟨h1, h2, -, q | ⟨k0, q, -⟩⟩ := (h.2.2.2 i hi).2.1
  · exact ⟨h1, by omega, by omega⟩
  · exact ⟨h1, Nat.le_of_lt q.1, q.2.1⟩
/-- a word that no name can be has two letters at least -/
theorem TX.two {t : Nat → Int32} {n ct i : Nat} {P R : Nat → Nat} {S K : Nat → Int32} {V : Nat → Int64} (h : TX t n ct P R S V K) (hi : i < ct) (hk : 8 ≤ K i) : P i + 2 ≤ R (i + 1) := by
  obtain ⟨-, -, -, q | ⟨k0, ⟨q1, q2, q⟩, e⟩⟩ := (h.2.2.2 i hi).2.1
  · rw [q.2.2] at hk; exact absurd hk (by decide)
  · have g : ∀ x : Int32, x ≠ 4 → ¬ 8 ≤ x → k0 ≠ x := fun x a b z => by rw [e, z, kwm_not _ a] at hk; exact b hk
    rcases q with ⟨w1, -, ⟨w2, w3, w4⟩ | ⟨w2, -⟩⟩ | ⟨-, -, ⟨-, -, w⟩ | ⟨-, w⟩⟩ | ⟨-, w4, w5, w0, w⟩
    · rcases Nat.lt_or_ge (R (i + 1)) (P i + 2) with z | z
      · exfalso
        have e1 : R (i + 1) - P i = 1 := by omega
        rw [w4] at e
        rcases kwm_cases (V i) with u | ⟨j, hj, u, -⟩
        · rw [e, u] at hk; exact absurd hk (by decide)
        · have h27 := kwv_ge j hj
          rw [← u, w3, e1] at h27
          have hc := ckd_4.mp (w1 (P i) (Nat.le_refl _) q1)
          obtain ⟨m, m1, m2, em⟩ := btw_c (m := t (P i)) (lo := 97) (hi := 122) (lo' := 97) (hi' := 122) (by decide) (by decide) (by rw [Int64.le_iff_toInt_le, Int32.toInt_toInt64]; have := Int32.le_iff_toInt_le.mp hc.1; exact this) (by rw [Int64.le_iff_toInt_le, Int32.toInt_toInt64]; have := Int32.le_iff_toInt_le.mp hc.2; exact this)
          have ew : wv t (P i) 1 = lN (m - 96) := by
            show 32 * (0 : Int64) + (t (P i + 0)).toInt64 - 96 = lN (m - 96)
            rw [Nat.add_zero, em, nI_l (by omega), show (32 : Int64) * 0 = 0 by decide, Int64.zero_add, show (96 : Int64) = lN 96 from rfl, lN_sub (by omega)]
          rw [ew, show (27 : Int64) = lN 27 from rfl, lN_le (by omega) (by omega)] at h27
          omega
      · exact z
    · omega
    · exact absurd w (g 3 (by decide) (by decide))
    · exact absurd w (g 2 (by decide) (by decide))
    · rcases ckd_s w4 w5 w0 with ⟨-, z⟩ | ⟨-, z⟩ | ⟨-, z⟩ | ⟨-, -, -, z⟩ <;> rw [z] at w
      · exact absurd w (g 5 (by decide) (by decide))
      · exact absurd w (g 6 (by decide) (by decide))
      · exact absurd w (g 7 (by decide) (by decide))
      · exact absurd w (g 2 (by decide) (by decide))
theorem Sp.blankx {t : Nat → Int32} {n c run : Nat} (run2 : Nat) {pv : Int32} {K S : Nat → Int32} {V : Nat → Int64} (h : Sp t n c run pv K S V) (hk : ckd (t n) = 0) : Sp t (n + 1) c run2 (ckd (t n)) K S V := by
  rw [hk]
  exact Sp.blank h hk
theorem Sp.pos {t : Nat → Int32} {n c run : Nat} {pv : Int32} {K S : Nat → Int32} {V : Nat → Int64} (h : Sp t n c run pv K S V) (e : ckd (t n) = pv) (e2 : ckd (t n) = 4 ∨ ckd (t n) = 3) : 0 < c := by
  obtain ⟨hc, P, R, h0, hi, h1, h2, h3, h4, h5⟩ := h
  rw [e] at e2
  exact (h5 e2).1
theorem Sp.newx {t : Nat → Int32} {n c run : Nat} {pv : Int32} {K S K2 S2 : Nat → Int32} {V V2 : Nat → Int64} (h : Sp t n c run pv K S V) (hno : ¬ (ckd (t n) = pv ∧ (ckd (t n) = 4 ∨ ckd (t n) = 3))) (hk : ¬ ckd (t n) = 0)
    (eK : Upp c (ckd (t n)) K K2) (eS : Upp c (nI n) S S2) (eV : UppL c (if ckd (t n) = 4 then 32 * 0 + (t n).toInt64 - 96 else if ckd (t n) = 3 then 0 * 10 + (t n - 48).toInt64 else 0) V V2) : Sp t (n + 1) (c + 1) 1 (ckd (t n)) K2 S2 V2 := Sp.new h hno hk eK eS eV
theorem Sp.extx {t : Nat → Int32} {n c run : Nat} {pv : Int32} {K S K2 : Nat → Int32} {V V2 : Nat → Int64} (h : Sp t n c run pv K S V) (e1 : ckd (t n) = pv) (e2 : ckd (t n) = 4 ∨ ckd (t n) = 3)
    (eV : UppL (c - 1) (if ckd (t n) = 4 then 32 * (V (c - 1)) + (t n).toInt64 - 96 else if ckd (t n) = 3 then (V (c - 1)) * 10 + (t n - 48).toInt64 else 0) V V2)
    (eK : (run + 1 ≤ (if ckd (t n) = 4 then 9 else 5) ∧ K2 = K) ∨ ((if ckd (t n) = 4 then 9 else 5) < run + 1 ∧ K2 = upd K (c - 1) 2)) : Sp t (n + 1) c (run + 1) (ckd (t n)) K2 S V2 := by
  subst e1
  refine Sp.ext h rfl e2 ?_ eK
  have eV2 : V2 = _ := eV
  rw [eV2]
  by_cases q : ckd (t n) = 4
  · rw [if_pos q, if_pos q]
  · rw [if_neg q, if_neg q, if_pos (e2.resolve_left q)]
def TXE (t : Nat → Int32) (n ct : Nat) (S : Nat → Int32) (V : Nat → Int64) (K : Nat → Int32) : Prop := ∃ P R, TX t n ct P R S V K
theorem Sp.finx {t : Nat → Int32} {n c run : Nat} {pv : Int32} {K S K1 S1 K2 : Nat → Int32} {V V1 : Nat → Int64} (h : Sp t n c run pv K S V) (eK : Upp c 1 K K1) (eS : Upp c (nI n) S S1) (eV : UppL c 0 V V1) (hm : Mk 15 (c + 1) K1 V1 K2) : TXE t n (c + 1) S1 V1 K2 := Sp.fin h eK eS eV hm
theorem Mi.yesx {n ct m : Nat} {kw : Int32} {w : Int64} {K G G2 : Nat → Int32} {V : Nat → Int64} (h : Mi n ct m K V G) (hm : m < ct) (h1 : G m = 4) (h2 : lg_cmp (V m) w = 0) (ew : kwv.getD n 0 = w) (ek : kw = nI (8 + n)) (e : Upp m kw G G2) : Mi n ct (m + 1) K V G2 := by
  refine Mi.yes h hm h1 ?_ (by rw [← ek]; exact e)
  rw [ew]
  unfold lg_cmp at h2
  split at h2
  · exact absurd h2 (by decide)
  · split at h2
    · next q => exact q
    · exact absurd h2 (by decide)
theorem Mi.nox {n ct m : Nat} {w : Int64} {K G : Nat → Int32} {V : Nat → Int64} (h : Mi n ct m K V G) (hm : m < ct) (h1 : ¬ lg_cmp (V m) w = 0) (ew : kwv.getD n 0 = w) : Mi n ct (m + 1) K V G := by
  refine Mi.no h hm (fun q => h1 ?_)
  rw [q.2, ew]
  unfold lg_cmp
  rw [if_neg (Int64.lt_irrefl), if_pos rfl]
/-- the letters of a string as a number -/
def wf (bs : List Int32) : Nat → Int64
  | 0 => 0
  | n + 1 => 32 * wf bs n + (bs.getD n 0).toInt64 - 96
def WF (bs : List Int32) (i : Nat) (w : Int64) : Prop := w = wf bs i
theorem WF.step {bs : List Int32} {i : Nat} {w : Int64} (h : WF bs i w) : WF bs (i + 1) (32 * w + (bs.getD i 0).toInt64 - 96) := by
  unfold WF at h ⊢
  rw [h]
  rfl
/-- what a part of a text is read as: an error's kind and place, or where the reader stands and the proofs' names -/
abbrev Rz9 := (Int32 × Int32) ⊕ (Nat × List Int64)
def fek (k e : Int32) : Int32 := if k = 2 then 1 else e
def flo (K S : Nat → Int32) (i : Nat) (e : Int32) : Int32 × Int32 := (fek (K i) e, S i)
def bd (x : Option Rz9) (k : Nat → List Int64 → Option Rz9) : Option Rz9 :=
  match x with
  | none => none
  | some (.inl e) => some (.inl e)
  | some (.inr p) => k p.1 p.2
/-- a number between lo and hi: no error, or which -/
def nmE (lo hi : Int64) (k : Int32) (v : Int64) : Option Int32 := if k = 3 then (if lo ≤ v ∧ v ≤ hi then none else some 3) else some 2
/-- a number that was not taken: the error's kind -/
def NmF (lo hi : Nat) (k : Int32) (v : Int64) (a : Int32) : Prop := ∃ e, nmE (lN lo) (lN hi) k v = some e ∧ a = fek k e
def nm (K S : Nat → Int32) (V : Nat → Int64) (lo hi : Int64) (i : Nat) (r : Option Rz9) : Option Rz9 :=
  match nmE lo hi (K i) (V i) with
  | none => r
  | some e => some (.inl (flo K S i e))
/-- conditions: 0 a fact, 1 facts joined by and, 2 what follows the first of them, 3 those joined by or, 4 what follows -/
def pr (K S : Nat → Int32) (V : Nat → Int64) (ml : List Int64) : Nat → Nat → Nat → Nat → List Int64 → Option Rz9
  | 0, _, _, _, _ => none
  | f + 1, m, o, i, pl =>
    if m = 0 then
      if (K i = 16 ∨ K i = 5) ∧ 8 ≤ o then some (.inl (flo K S i 5))
      else if K i = 5 then bd (pr K S V ml f 3 (o + 1) (i + 1) pl) (fun j pl2 => if K j = 6 then some (.inr (j + 1, pl2)) else some (.inl (flo K S j 2)))
      else if K i = 16 then pr K S V ml f 0 (o + 1) (i + 1) pl
      else if K i = 17 then nm K S V (lN 0) (lN 999) (i + 1) (some (.inr (i + 2, pl)))
      else if K i = 20 then nm K S V (lN 0) (lN 99999) (i + 1) (some (.inr (i + 2, pl)))
      else if K i = 18 then (if K (i + 1) = 4 then (if V (i + 1) ∈ pl then some (.inr (i + 2, pl)) else if pl.length = 8 then some (.inl (flo K S (i + 1) 5)) else some (.inr (i + 2, pl ++ [V (i + 1)]))) else some (.inl (flo K S (i + 1) 2)))
      else if K i = 19 then (if K (i + 1) = 4 then (if V (i + 1) ∈ ml then some (.inr (i + 2, pl)) else some (.inl (flo K S (i + 1) 4))) else some (.inl (flo K S (i + 1) 2)))
      else if K i = 21 ∨ K i = 22 then some (.inr (i + 1, pl))
      else some (.inl (flo K S i 2))
    else if m = 1 then bd (pr K S V ml f 0 o i pl) (fun j pl2 => pr K S V ml f 2 o j pl2)
    else if m = 2 then (if K i = 15 then bd (pr K S V ml f 0 o (i + 1) pl) (fun j pl2 => pr K S V ml f 2 o j pl2) else some (.inr (i, pl)))
    else if m = 3 then bd (pr K S V ml f 1 o i pl) (fun j pl2 => pr K S V ml f 4 o j pl2)
    else (if K i = 14 then bd (pr K S V ml f 1 o (i + 1) pl) (fun j pl2 => pr K S V ml f 4 o j pl2) else some (.inr (i, pl)))
theorem it_mono {α : Type} {c : Prop} [Decidable c] {a b a2 b2 : Option α} {r : α} (h1 : a = some r → a2 = some r) (h2 : b = some r → b2 = some r) (h : (if c then a else b) = some r) : (if c then a2 else b2) = some r := by
  by_cases q : c
  · rw [if_pos q] at h ⊢; exact h1 h
  · rw [if_neg q] at h ⊢; exact h2 h
theorem bd_mono {x y : Option Rz9} {k g : Nat → List Int64 → Option Rz9} {r : Rz9} (h1 : ∀ r, x = some r → y = some r) (h2 : ∀ j pl r, k j pl = some r → g j pl = some r) (h : bd x k = some r) : bd y g = some r := by
  cases x with
  | none => exact nomatch (show (none : Option Rz9) = some r from h)
  | some z =>
    rw [h1 z rfl]
    cases z with
    | inl e => exact h
    | inr p => exact h2 _ _ _ h
theorem pr_mono {K S : Nat → Int32} {V : Nat → Int64} {ml : List Int64} : ∀ (f m o i : Nat) (pl : List Int64) (r : Rz9), pr K S V ml f m o i pl = some r → pr K S V ml (f + 1) m o i pl = some r := by
  intro f
  induction f with
  | zero => intro m o i pl r h; exact nomatch (show (none : Option Rz9) = some r from h)
  | succ f ih =>
    intro m o i pl r h
    rw [pr] at h ⊢
    exact it_mono (it_mono id (it_mono (bd_mono (fun r h => ih _ _ _ _ r h) (fun _ _ _ h => h)) (it_mono (fun h => ih _ _ _ _ r h) id))) (it_mono (bd_mono (fun r h => ih _ _ _ _ r h) (fun j p r h => ih _ _ _ _ r h)) (it_mono (it_mono (bd_mono (fun r h => ih _ _ _ _ r h) (fun j p r h => ih _ _ _ _ r h)) id) (it_mono (bd_mono (fun r h => ih _ _ _ _ r h) (fun j p r h => ih _ _ _ _ r h)) (it_mono (bd_mono (fun r h => ih _ _ _ _ r h) (fun j p r h => ih _ _ _ _ r h)) id)))) h
theorem pr_le {K S : Nat → Int32} {V : Nat → Int64} {ml : List Int64} {f m o i : Nat} {pl : List Int64} {r : Rz9} (h : pr K S V ml f m o i pl = some r) : ∀ g, pr K S V ml (f + g) m o i pl = some r := by
  intro g
  induction g with
  | zero => exact h
  | succ g ih => exact pr_mono _ _ _ _ _ _ ih
def PRx (K S : Nat → Int32) (V : Nat → Int64) (ml : List Int64) (m o i : Nat) (pl : List Int64) (r : Rz9) : Prop := ∃ f, pr K S V ml f m o i pl = some r
theorem PRx.det {K S : Nat → Int32} {V : Nat → Int64} {ml : List Int64} {m o i : Nat} {pl : List Int64} {r r2 : Rz9} (h : PRx K S V ml m o i pl r) (h2 : PRx K S V ml m o i pl r2) : r = r2 := by
  obtain ⟨f, h⟩ := h
  obtain ⟨g, h2⟩ := h2
  have a := pr_le h g
  have b := pr_le h2 f
  rw [Nat.add_comm] at b
  rw [a] at b
  exact Option.some.inj b
theorem P_many {K S : Nat → Int32} {V : Nat → Int64} {ml : List Int64} {o i : Nat} {pl : List Int64} (h : K i = 16 ∨ K i = 5) (ho : 8 ≤ o) : PRx K S V ml 0 o i pl (.inl (flo K S i 5)) := ⟨0 + 1, by rw [pr, if_pos rfl, if_pos (And.intro h ho)]⟩
theorem P_manyx {a b : Int32} {K S : Nat → Int32} {V : Nat → Int64} {ml : List Int64} {o i : Nat} {pl : List Int64} (h : K i = 16 ∨ K i = 5) (ho : 8 ≤ o) (ha : a = fek (K i) 5) (hb : b = S i) : PRx K S V ml 0 o i pl (.inl (a, b)) := by
  rw [ha, hb]
  exact P_many h ho
theorem P_open {K S : Nat → Int32} {V : Nat → Int64} {ml : List Int64} {o i : Nat} {pl : List Int64} {j : Nat} {pl2 : List Int64} (h : K i = 5) (ho : o < 8) (h1 : PRx K S V ml 3 (o + 1) (i + 1) pl (.inr (j, pl2))) (h2 : K j = 6) : PRx K S V ml 0 o i pl (.inr (j + 1, pl2)) := by
  obtain ⟨f, h1⟩ := h1
  refine ⟨f + 1, ?_⟩
  rw [pr, if_pos rfl, if_neg (fun q : (K i = 16 ∨ K i = 5) ∧ 8 ≤ o => absurd q.2 (by omega)), if_pos h, h1]
  show (if K j = 6 then some (Sum.inr (j + 1, pl2)) else some (Sum.inl (flo K S j 2))) = (some (Sum.inr (j + 1, pl2)) : Option Rz9)
  rw [if_pos h2]
theorem P_openC {K S : Nat → Int32} {V : Nat → Int64} {ml : List Int64} {o i : Nat} {pl : List Int64} {j : Nat} {pl2 : List Int64} (h : K i = 5) (ho : o < 8) (h1 : PRx K S V ml 3 (o + 1) (i + 1) pl (.inr (j, pl2))) (h2 : ¬ K j = 6) : PRx K S V ml 0 o i pl (.inl (flo K S j 2)) := by
  obtain ⟨f, h1⟩ := h1
  refine ⟨f + 1, ?_⟩
  rw [pr, if_pos rfl, if_neg (fun q : (K i = 16 ∨ K i = 5) ∧ 8 ≤ o => absurd q.2 (by omega)), if_pos h, h1]
  show (if K j = 6 then some (Sum.inr (j + 1, pl2)) else some (Sum.inl (flo K S j 2))) = (some (Sum.inl (flo K S j 2)) : Option Rz9)
  rw [if_neg h2]
theorem P_openCx {a b : Int32} {K S : Nat → Int32} {V : Nat → Int64} {ml : List Int64} {o i : Nat} {pl : List Int64} {j : Nat} {pl2 : List Int64} (h : K i = 5) (ho : o < 8) (h1 : PRx K S V ml 3 (o + 1) (i + 1) pl (.inr (j, pl2))) (h2 : ¬ K j = 6) (ha : a = fek (K j) 2) (hb : b = S j) : PRx K S V ml 0 o i pl (.inl (a, b)) := by
  rw [ha, hb]
  exact P_openC h ho h1 h2
theorem P_openE {K S : Nat → Int32} {V : Nat → Int64} {ml : List Int64} {o i : Nat} {pl : List Int64} {e : Int32 × Int32} (h : K i = 5) (ho : o < 8) (h1 : PRx K S V ml 3 (o + 1) (i + 1) pl (.inl e)) : PRx K S V ml 0 o i pl (.inl e) := by
  obtain ⟨f, h1⟩ := h1
  refine ⟨f + 1, ?_⟩
  rw [pr, if_pos rfl, if_neg (fun q : (K i = 16 ∨ K i = 5) ∧ 8 ≤ o => absurd q.2 (by omega)), if_pos h, h1]
  rfl
theorem P_not {K S : Nat → Int32} {V : Nat → Int64} {ml : List Int64} {o i : Nat} {pl : List Int64} {r : Rz9} (h : K i = 16) (ho : o < 8) (h1 : PRx K S V ml 0 (o + 1) (i + 1) pl r) : PRx K S V ml 0 o i pl (r) := by
  obtain ⟨f, h1⟩ := h1
  refine ⟨f + 1, ?_⟩
  rw [pr, if_pos rfl, if_neg (fun q : (K i = 16 ∨ K i = 5) ∧ 8 ≤ o => absurd q.2 (by omega)), if_neg (by rw [h]; decide), if_pos h, h1]
theorem P_day {K S : Nat → Int32} {V : Nat → Int64} {ml : List Int64} {o i : Nat} {pl : List Int64} (h : K i = 17) (h1 : nmE (lN 0) (lN 999) (K (i + 1)) (V (i + 1)) = none) : PRx K S V ml 0 o i pl (.inr (i + 2, pl)) := ⟨0 + 1, by rw [pr, if_pos rfl, if_neg (fun q : (K i = 16 ∨ K i = 5) ∧ 8 ≤ o => absurd q.1 (by rw [h]; decide)), if_neg (by rw [h]; decide), if_neg (by rw [h]; decide), if_pos h]; unfold nm; rw [h1]⟩
theorem P_dayE {K S : Nat → Int32} {V : Nat → Int64} {ml : List Int64} {o i : Nat} {pl : List Int64} {e : Int32} (h : K i = 17) (h1 : nmE (lN 0) (lN 999) (K (i + 1)) (V (i + 1)) = some e) : PRx K S V ml 0 o i pl (.inl (flo K S (i + 1) e)) := ⟨0 + 1, by rw [pr, if_pos rfl, if_neg (fun q : (K i = 16 ∨ K i = 5) ∧ 8 ≤ o => absurd q.1 (by rw [h]; decide)), if_neg (by rw [h]; decide), if_neg (by rw [h]; decide), if_pos h]; unfold nm; rw [h1]⟩
theorem P_dayEx {a b : Int32} {K S : Nat → Int32} {V : Nat → Int64} {ml : List Int64} {o i : Nat} {pl : List Int64} (h : K i = 17) (h1 : NmF 0 999 (K (i + 1)) (V (i + 1)) a) (hb : b = S (i + 1)) : PRx K S V ml 0 o i pl (.inl (a, b)) := by
  obtain ⟨e, h1, ha⟩ := h1
  rw [ha, hb]
  exact P_dayE h h1
theorem P_sum {K S : Nat → Int32} {V : Nat → Int64} {ml : List Int64} {o i : Nat} {pl : List Int64} (h : K i = 20) (h1 : nmE (lN 0) (lN 99999) (K (i + 1)) (V (i + 1)) = none) : PRx K S V ml 0 o i pl (.inr (i + 2, pl)) := ⟨0 + 1, by rw [pr, if_pos rfl, if_neg (fun q : (K i = 16 ∨ K i = 5) ∧ 8 ≤ o => absurd q.1 (by rw [h]; decide)), if_neg (by rw [h]; decide), if_neg (by rw [h]; decide), if_neg (by rw [h]; decide), if_pos h]; unfold nm; rw [h1]⟩
theorem P_sumE {K S : Nat → Int32} {V : Nat → Int64} {ml : List Int64} {o i : Nat} {pl : List Int64} {e : Int32} (h : K i = 20) (h1 : nmE (lN 0) (lN 99999) (K (i + 1)) (V (i + 1)) = some e) : PRx K S V ml 0 o i pl (.inl (flo K S (i + 1) e)) := ⟨0 + 1, by rw [pr, if_pos rfl, if_neg (fun q : (K i = 16 ∨ K i = 5) ∧ 8 ≤ o => absurd q.1 (by rw [h]; decide)), if_neg (by rw [h]; decide), if_neg (by rw [h]; decide), if_neg (by rw [h]; decide), if_pos h]; unfold nm; rw [h1]⟩
theorem P_sumEx {a b : Int32} {K S : Nat → Int32} {V : Nat → Int64} {ml : List Int64} {o i : Nat} {pl : List Int64} (h : K i = 20) (h1 : NmF 0 99999 (K (i + 1)) (V (i + 1)) a) (hb : b = S (i + 1)) : PRx K S V ml 0 o i pl (.inl (a, b)) := by
  obtain ⟨e, h1, ha⟩ := h1
  rw [ha, hb]
  exact P_sumE h h1
theorem P_proofO {K S : Nat → Int32} {V : Nat → Int64} {ml : List Int64} {o i : Nat} {pl : List Int64} (h : K i = 18) (h1 : K (i + 1) = 4) (h2 : V (i + 1) ∈ pl) : PRx K S V ml 0 o i pl (.inr (i + 2, pl)) := ⟨0 + 1, by rw [pr, if_pos rfl, if_neg (fun q : (K i = 16 ∨ K i = 5) ∧ 8 ≤ o => absurd q.1 (by rw [h]; decide)), if_neg (by rw [h]; decide), if_neg (by rw [h]; decide), if_neg (by rw [h]; decide), if_neg (by rw [h]; decide), if_pos h, if_pos h1, if_pos h2]⟩
theorem P_proofF {K S : Nat → Int32} {V : Nat → Int64} {ml : List Int64} {o i : Nat} {pl : List Int64} (h : K i = 18) (h1 : K (i + 1) = 4) (h2 : ¬ V (i + 1) ∈ pl) (h3 : pl.length = 8) : PRx K S V ml 0 o i pl (.inl (flo K S (i + 1) 5)) := ⟨0 + 1, by rw [pr, if_pos rfl, if_neg (fun q : (K i = 16 ∨ K i = 5) ∧ 8 ≤ o => absurd q.1 (by rw [h]; decide)), if_neg (by rw [h]; decide), if_neg (by rw [h]; decide), if_neg (by rw [h]; decide), if_neg (by rw [h]; decide), if_pos h, if_pos h1, if_neg h2, if_pos h3]⟩
theorem P_proofFx {a b : Int32} {K S : Nat → Int32} {V : Nat → Int64} {ml : List Int64} {o i : Nat} {pl : List Int64} (h : K i = 18) (h1 : K (i + 1) = 4) (h2 : ¬ V (i + 1) ∈ pl) (h3 : pl.length = 8) (ha : a = fek (K (i + 1)) 5) (hb : b = S (i + 1)) : PRx K S V ml 0 o i pl (.inl (a, b)) := by
  rw [ha, hb]
  exact P_proofF h h1 h2 h3
theorem P_proofN {K S : Nat → Int32} {V : Nat → Int64} {ml : List Int64} {o i : Nat} {pl : List Int64} (h : K i = 18) (h1 : K (i + 1) = 4) (h2 : ¬ V (i + 1) ∈ pl) (h3 : ¬ pl.length = 8) : PRx K S V ml 0 o i pl (.inr (i + 2, pl ++ [V (i + 1)])) := ⟨0 + 1, by rw [pr, if_pos rfl, if_neg (fun q : (K i = 16 ∨ K i = 5) ∧ 8 ≤ o => absurd q.1 (by rw [h]; decide)), if_neg (by rw [h]; decide), if_neg (by rw [h]; decide), if_neg (by rw [h]; decide), if_neg (by rw [h]; decide), if_pos h, if_pos h1, if_neg h2, if_neg h3]⟩
theorem P_proofE {K S : Nat → Int32} {V : Nat → Int64} {ml : List Int64} {o i : Nat} {pl : List Int64} (h : K i = 18) (h1 : ¬ K (i + 1) = 4) : PRx K S V ml 0 o i pl (.inl (flo K S (i + 1) 2)) := ⟨0 + 1, by rw [pr, if_pos rfl, if_neg (fun q : (K i = 16 ∨ K i = 5) ∧ 8 ≤ o => absurd q.1 (by rw [h]; decide)), if_neg (by rw [h]; decide), if_neg (by rw [h]; decide), if_neg (by rw [h]; decide), if_neg (by rw [h]; decide), if_pos h, if_neg h1]⟩
theorem P_proofEx {a b : Int32} {K S : Nat → Int32} {V : Nat → Int64} {ml : List Int64} {o i : Nat} {pl : List Int64} (h : K i = 18) (h1 : ¬ K (i + 1) = 4) (ha : a = fek (K (i + 1)) 2) (hb : b = S (i + 1)) : PRx K S V ml 0 o i pl (.inl (a, b)) := by
  rw [ha, hb]
  exact P_proofE h h1
theorem P_done {K S : Nat → Int32} {V : Nat → Int64} {ml : List Int64} {o i : Nat} {pl : List Int64} (h : K i = 19) (h1 : K (i + 1) = 4) (h2 : V (i + 1) ∈ ml) : PRx K S V ml 0 o i pl (.inr (i + 2, pl)) := ⟨0 + 1, by rw [pr, if_pos rfl, if_neg (fun q : (K i = 16 ∨ K i = 5) ∧ 8 ≤ o => absurd q.1 (by rw [h]; decide)), if_neg (by rw [h]; decide), if_neg (by rw [h]; decide), if_neg (by rw [h]; decide), if_neg (by rw [h]; decide), if_neg (by rw [h]; decide), if_pos h, if_pos h1, if_pos h2]⟩
theorem P_doneF {K S : Nat → Int32} {V : Nat → Int64} {ml : List Int64} {o i : Nat} {pl : List Int64} (h : K i = 19) (h1 : K (i + 1) = 4) (h2 : ¬ V (i + 1) ∈ ml) : PRx K S V ml 0 o i pl (.inl (flo K S (i + 1) 4)) := ⟨0 + 1, by rw [pr, if_pos rfl, if_neg (fun q : (K i = 16 ∨ K i = 5) ∧ 8 ≤ o => absurd q.1 (by rw [h]; decide)), if_neg (by rw [h]; decide), if_neg (by rw [h]; decide), if_neg (by rw [h]; decide), if_neg (by rw [h]; decide), if_neg (by rw [h]; decide), if_pos h, if_pos h1, if_neg h2]⟩
theorem P_doneFx {a b : Int32} {K S : Nat → Int32} {V : Nat → Int64} {ml : List Int64} {o i : Nat} {pl : List Int64} (h : K i = 19) (h1 : K (i + 1) = 4) (h2 : ¬ V (i + 1) ∈ ml) (ha : a = fek (K (i + 1)) 4) (hb : b = S (i + 1)) : PRx K S V ml 0 o i pl (.inl (a, b)) := by
  rw [ha, hb]
  exact P_doneF h h1 h2
theorem P_doneE {K S : Nat → Int32} {V : Nat → Int64} {ml : List Int64} {o i : Nat} {pl : List Int64} (h : K i = 19) (h1 : ¬ K (i + 1) = 4) : PRx K S V ml 0 o i pl (.inl (flo K S (i + 1) 2)) := ⟨0 + 1, by rw [pr, if_pos rfl, if_neg (fun q : (K i = 16 ∨ K i = 5) ∧ 8 ≤ o => absurd q.1 (by rw [h]; decide)), if_neg (by rw [h]; decide), if_neg (by rw [h]; decide), if_neg (by rw [h]; decide), if_neg (by rw [h]; decide), if_neg (by rw [h]; decide), if_pos h, if_neg h1]⟩
theorem P_doneEx {a b : Int32} {K S : Nat → Int32} {V : Nat → Int64} {ml : List Int64} {o i : Nat} {pl : List Int64} (h : K i = 19) (h1 : ¬ K (i + 1) = 4) (ha : a = fek (K (i + 1)) 2) (hb : b = S (i + 1)) : PRx K S V ml 0 o i pl (.inl (a, b)) := by
  rw [ha, hb]
  exact P_doneE h h1
theorem P_plain {K S : Nat → Int32} {V : Nat → Int64} {ml : List Int64} {o i : Nat} {pl : List Int64} (h : K i = 21 ∨ K i = 22) : PRx K S V ml 0 o i pl (.inr (i + 1, pl)) := ⟨0 + 1, by rw [pr, if_pos rfl, if_neg (fun q : (K i = 16 ∨ K i = 5) ∧ 8 ≤ o => by rcases h with z | z <;> rw [z] at q <;> exact absurd q.1 (by decide)), if_neg (by rcases h with z | z <;> rw [z] <;> decide), if_neg (by rcases h with z | z <;> rw [z] <;> decide), if_neg (by rcases h with z | z <;> rw [z] <;> decide), if_neg (by rcases h with z | z <;> rw [z] <;> decide), if_neg (by rcases h with z | z <;> rw [z] <;> decide), if_neg (by rcases h with z | z <;> rw [z] <;> decide), if_pos h]⟩
theorem P_none {K S : Nat → Int32} {V : Nat → Int64} {ml : List Int64} {o i : Nat} {pl : List Int64} (h5 : ¬ K i = 5) (h : ¬ (16 ≤ K i ∧ K i ≤ 22)) : PRx K S V ml 0 o i pl (.inl (flo K S i 2)) := ⟨0 + 1, by rw [pr, if_pos rfl, if_neg (fun q : (K i = 16 ∨ K i = 5) ∧ 8 ≤ o => q.1.elim (fun z => h (by rw [z]; decide)) h5), if_neg h5, if_neg (fun z : K i = 16 => h (by rw [z]; decide)), if_neg (fun z : K i = 17 => h (by rw [z]; decide)), if_neg (fun z : K i = 20 => h (by rw [z]; decide)), if_neg (fun z : K i = 18 => h (by rw [z]; decide)), if_neg (fun z : K i = 19 => h (by rw [z]; decide)), if_neg (fun q : K i = 21 ∨ K i = 22 => q.elim (fun z => h (by rw [z]; decide)) (fun z => h (by rw [z]; decide)))]⟩
theorem P_nonex {a b : Int32} {K S : Nat → Int32} {V : Nat → Int64} {ml : List Int64} {o i : Nat} {pl : List Int64} (h5 : ¬ K i = 5) (h : ¬ (16 ≤ K i ∧ K i ≤ 22)) (ha : a = fek (K i) 2) (hb : b = S i) : PRx K S V ml 0 o i pl (.inl (a, b)) := by
  rw [ha, hb]
  exact P_none h5 h
theorem P_both {K S : Nat → Int32} {V : Nat → Int64} {ml : List Int64} {o i : Nat} {pl : List Int64} {j : Nat} {pl2 : List Int64} {r : Rz9} (h1 : PRx K S V ml 0 o i pl (.inr (j, pl2))) (h2 : PRx K S V ml 2 o j pl2 r) : PRx K S V ml 1 o i pl (r) := by
  obtain ⟨f, h1⟩ := h1
  obtain ⟨g, h2⟩ := h2
  refine ⟨f + g + 1, ?_⟩
  rw [pr, if_neg (by decide), if_pos rfl, pr_le h1 g]
  show pr K S V ml (f + g) 2 o j pl2 = some r
  rw [Nat.add_comm]
  exact pr_le h2 f
theorem P_bothE {K S : Nat → Int32} {V : Nat → Int64} {ml : List Int64} {o i : Nat} {pl : List Int64} {e : Int32 × Int32} (h1 : PRx K S V ml 0 o i pl (.inl e)) : PRx K S V ml 1 o i pl (.inl e) := by
  obtain ⟨f, h1⟩ := h1
  refine ⟨f + 1, ?_⟩
  rw [pr, if_neg (by decide), if_pos rfl, h1]
  rfl
theorem P_and {K S : Nat → Int32} {V : Nat → Int64} {ml : List Int64} {o i : Nat} {pl : List Int64} {j : Nat} {pl2 : List Int64} {r : Rz9} (h : K i = 15) (h1 : PRx K S V ml 0 o (i + 1) pl (.inr (j, pl2))) (h2 : PRx K S V ml 2 o j pl2 r) : PRx K S V ml 2 o i pl (r) := by
  obtain ⟨f, h1⟩ := h1
  obtain ⟨g, h2⟩ := h2
  refine ⟨f + g + 1, ?_⟩
  rw [pr, if_neg (by decide), if_neg (by decide), if_pos rfl, if_pos h, pr_le h1 g]
  show pr K S V ml (f + g) 2 o j pl2 = some r
  rw [Nat.add_comm]
  exact pr_le h2 f
theorem P_andE {K S : Nat → Int32} {V : Nat → Int64} {ml : List Int64} {o i : Nat} {pl : List Int64} {e : Int32 × Int32} (h : K i = 15) (h1 : PRx K S V ml 0 o (i + 1) pl (.inl e)) : PRx K S V ml 2 o i pl (.inl e) := by
  obtain ⟨f, h1⟩ := h1
  refine ⟨f + 1, ?_⟩
  rw [pr, if_neg (by decide), if_neg (by decide), if_pos rfl, if_pos h, h1]
  rfl
theorem P_cond {K S : Nat → Int32} {V : Nat → Int64} {ml : List Int64} {o i : Nat} {pl : List Int64} {j : Nat} {pl2 : List Int64} {r : Rz9} (h1 : PRx K S V ml 1 o i pl (.inr (j, pl2))) (h2 : PRx K S V ml 4 o j pl2 r) : PRx K S V ml 3 o i pl (r) := by
  obtain ⟨f, h1⟩ := h1
  obtain ⟨g, h2⟩ := h2
  refine ⟨f + g + 1, ?_⟩
  rw [pr, if_neg (by decide), if_neg (by decide), if_neg (by decide), if_pos rfl, pr_le h1 g]
  show pr K S V ml (f + g) 4 o j pl2 = some r
  rw [Nat.add_comm]
  exact pr_le h2 f
theorem P_condE {K S : Nat → Int32} {V : Nat → Int64} {ml : List Int64} {o i : Nat} {pl : List Int64} {e : Int32 × Int32} (h1 : PRx K S V ml 1 o i pl (.inl e)) : PRx K S V ml 3 o i pl (.inl e) := by
  obtain ⟨f, h1⟩ := h1
  refine ⟨f + 1, ?_⟩
  rw [pr, if_neg (by decide), if_neg (by decide), if_neg (by decide), if_pos rfl, h1]
  rfl
theorem P_or {K S : Nat → Int32} {V : Nat → Int64} {ml : List Int64} {o i : Nat} {pl : List Int64} {j : Nat} {pl2 : List Int64} {r : Rz9} (h : K i = 14) (h1 : PRx K S V ml 1 o (i + 1) pl (.inr (j, pl2))) (h2 : PRx K S V ml 4 o j pl2 r) : PRx K S V ml 4 o i pl (r) := by
  obtain ⟨f, h1⟩ := h1
  obtain ⟨g, h2⟩ := h2
  refine ⟨f + g + 1, ?_⟩
  rw [pr, if_neg (by decide), if_neg (by decide), if_neg (by decide), if_neg (by decide), if_pos h, pr_le h1 g]
  show pr K S V ml (f + g) 4 o j pl2 = some r
  rw [Nat.add_comm]
  exact pr_le h2 f
theorem P_orE {K S : Nat → Int32} {V : Nat → Int64} {ml : List Int64} {o i : Nat} {pl : List Int64} {e : Int32 × Int32} (h : K i = 14) (h1 : PRx K S V ml 1 o (i + 1) pl (.inl e)) : PRx K S V ml 4 o i pl (.inl e) := by
  obtain ⟨f, h1⟩ := h1
  refine ⟨f + 1, ?_⟩
  rw [pr, if_neg (by decide), if_neg (by decide), if_neg (by decide), if_neg (by decide), if_pos h, h1]
  rfl
theorem P_end2 {K S : Nat → Int32} {V : Nat → Int64} {ml : List Int64} {o i : Nat} {pl : List Int64} (h : ¬ K i = 15) : PRx K S V ml 2 o i pl (.inr (i, pl)) := ⟨0 + 1, by rw [pr, if_neg (by decide), if_neg (by decide), if_pos rfl, if_neg h]⟩
theorem P_end4 {K S : Nat → Int32} {V : Nat → Int64} {ml : List Int64} {o i : Nat} {pl : List Int64} (h : ¬ K i = 14) : PRx K S V ml 4 o i pl (.inr (i, pl)) := ⟨0 + 1, by rw [pr, if_neg (by decide), if_neg (by decide), if_neg (by decide), if_neg (by decide), if_neg h]⟩
def PnF (k : Int32) (v : Int64) (pl zpl : List Int64) : Prop := k = 4 ∧ ((v ∈ pl ∧ zpl = pl) ∨ (¬ v ∈ pl ∧ ¬ pl.length = 8 ∧ zpl = pl ++ [v]))
def PnE (k : Int32) (v : Int64) (pl : List Int64) (a : Int32) : Prop := ∃ e, a = fek k e ∧ ((¬ k = 4 ∧ e = 2) ∨ (k = 4 ∧ ¬ v ∈ pl ∧ pl.length = 8 ∧ e = 5))
def DnF (k : Int32) (v : Int64) (ml : List Int64) : Prop := k = 4 ∧ v ∈ ml
def DnE (k : Int32) (v : Int64) (ml : List Int64) (a : Int32) : Prop := ∃ e, a = fek k e ∧ ((¬ k = 4 ∧ e = 2) ∨ (k = 4 ∧ ¬ v ∈ ml ∧ e = 4))
theorem P_pn {K S : Nat → Int32} {V : Nat → Int64} {ml : List Int64} {o i : Nat} {pl : List Int64} {pl2 : List Int64} (h : K i = 18) (h1 : PnF (K (i + 1)) (V (i + 1)) pl pl2) : PRx K S V ml 0 o i pl (.inr (i + 2, pl2)) := by
  obtain ⟨a, ⟨b, e⟩ | ⟨b, d, e⟩⟩ := h1
  · rw [e]; exact P_proofO h a b
  · rw [e]; exact P_proofN h a b d
theorem P_pnE {K S : Nat → Int32} {V : Nat → Int64} {ml : List Int64} {o i : Nat} {pl : List Int64} {a b : Int32} (h : K i = 18) (h1 : PnE (K (i + 1)) (V (i + 1)) pl a) (hb : b = S (i + 1)) : PRx K S V ml 0 o i pl (.inl (a, b)) := by
  obtain ⟨e, ha, ⟨c, q⟩ | ⟨c, d, f, q⟩⟩ := h1
  · rw [q] at ha; exact P_proofEx h c ha hb
  · rw [q] at ha; exact P_proofFx h c d f ha hb
theorem P_dn {K S : Nat → Int32} {V : Nat → Int64} {ml : List Int64} {o i : Nat} {pl : List Int64} (h : K i = 19) (h1 : DnF (K (i + 1)) (V (i + 1)) ml) : PRx K S V ml 0 o i pl (.inr (i + 2, pl)) := P_done h h1.1 h1.2
theorem P_dnE {K S : Nat → Int32} {V : Nat → Int64} {ml : List Int64} {o i : Nat} {pl : List Int64} {a b : Int32} (h : K i = 19) (h1 : DnE (K (i + 1)) (V (i + 1)) ml a) (hb : b = S (i + 1)) : PRx K S V ml 0 o i pl (.inl (a, b)) := by
  obtain ⟨e, ha, ⟨c, q⟩ | ⟨c, d, q⟩⟩ := h1
  · rw [q] at ha; exact P_doneEx h c ha hb
  · rw [q] at ha; exact P_doneFx h c d ha hb
theorem k2122 {a : Int32} (h : a = 5 ∨ (16 ≤ a ∧ a ≤ 22)) (h5 : ¬ a = 5) (h16 : ¬ a = 16) (h17 : ¬ a = 17) (h18 : ¬ a = 18) (h19 : ¬ a = 19) (h20 : ¬ a = 20) : a = 21 ∨ a = 22 := by
  obtain ⟨h1, h2⟩ := h.resolve_left h5
  have g : ∀ n : Int32, ∀ z : Int, n.toInt = z → ¬ a = n → a.toInt ≠ z := fun n z e q w => q (Int32.toInt_inj.mp (w.trans e.symm))
  have a1 := Int32.le_iff_toInt_le.mp h1
  have a2 := Int32.le_iff_toInt_le.mp h2
  rw [show (16 : Int32).toInt = 16 by decide] at a1
  rw [show (22 : Int32).toInt = 22 by decide] at a2
  have b1 := g 16 16 (by decide) h16
  have b2 := g 17 17 (by decide) h17
  have b3 := g 18 18 (by decide) h18
  have b4 := g 19 19 (by decide) h19
  have b5 := g 20 20 (by decide) h20
  rcases (show a.toInt = 21 ∨ a.toInt = 22 by omega) with q | q
  · exact Or.inl (Int32.toInt_inj.mp (q.trans (by decide)))
  · exact Or.inr (Int32.toInt_inj.mp (q.trans (by decide)))
theorem bf8 {a : Int32} (h : a = 5 ∨ (16 ≤ a ∧ a ≤ 22)) (h5 : ¬ a = 5) : 8 ≤ a := Int32.le_trans (by decide) (h.resolve_left h5).1
/-- what is read from j on is read from i on -/
def Cn (K S : Nat → Int32) (V : Nat → Int64) (ml : List Int64) (m o i : Nat) (pl : List Int64) (m2 j : Nat) (pl2 : List Int64) : Prop := ∀ r, PRx K S V ml m2 o j pl2 r → PRx K S V ml m o i pl r
/-- what a statement without its semicolon is read as: an error, or where the reader stands, how many deposits, the milestones' names, the proofs' -/
abbrev Rs9 := (Int32 × Int32) ⊕ (Nat × Nat × List Int64 × List Int64)
abbrev Rt := (Int32 × Int32) ⊕ (List Int64 × List Int64)
def ns (K S : Nat → Int32) (V : Nat → Int64) (lo hi : Int64) (i : Nat) (r : Option Rs9) : Option Rs9 :=
  match nmE lo hi (K i) (V i) with
  | none => r
  | some e => some (.inl (flo K S i e))
def cs (x : Option Rz9) (d : Nat) (ml : List Int64) : Option Rs9 :=
  match x with
  | none => none
  | some (.inl e) => some (.inl e)
  | some (.inr p) => some (.inr (p.1, d, ml, p.2))
def stm (K S : Nat → Int32) (V : Nat → Int64) (f i d : Nat) (ml pl : List Int64) : Option Rs9 :=
  if K i = 8 then ns K S V (lN 0) (lN 3000) (i + 1) (if K (i + 2) = 3 ∧ ¬ (V (i + 2) = 360 ∨ V (i + 2) = 365) then some (.inl (flo K S (i + 2) 3)) else ns K S V (lN 360) (lN 365) (i + 2) (some (.inr (i + 3, d, ml, pl))))
  else if K i = 9 then ns K S V (lN 0) (lN 2000) (i + 1) (some (.inr (i + 2, d, ml, pl)))
  else if K i = 10 then ns K S V (lN 0) (lN 60) (i + 1) (some (.inr (i + 2, d, ml, pl)))
  else if K i = 11 then (if d = 6 then some (.inl (flo K S i 5)) else ns K S V (lN 1) (lN 99999) (i + 1) (some (.inr (i + 2, d + 1, ml, pl))))
  else if K i = 12 then (if ml.length = 10 then some (.inl (flo K S i 5)) else if K (i + 1) = 4 then (if V (i + 1) ∈ ml then some (.inl (flo K S (i + 1) 4)) else ns K S V (lN 1) (lN 99999) (i + 2) (ns K S V (lN 0) (lN 99) (i + 3) (if K (i + 4) = 13 then cs (pr K S V ml f 3 0 (i + 5) pl) d (ml ++ [V (i + 1)]) else some (.inl (flo K S (i + 4) 2))))) else some (.inl (flo K S (i + 1) 2)))
  else some (.inl (flo K S i 2))
theorem ns_mono {K S : Nat → Int32} {V : Nat → Int64} {lo hi : Int64} {i : Nat} {x y : Option Rs9} {r : Rs9} (h1 : x = some r → y = some r) (h : ns K S V lo hi i x = some r) : ns K S V lo hi i y = some r := by
  unfold ns at h ⊢
  cases hq : nmE lo hi (K i) (V i) with
  | none => rw [hq] at h; exact h1 h
  | some e => rw [hq] at h; exact h
theorem cs_mono {x y : Option Rz9} {d : Nat} {ml : List Int64} {r : Rs9} (h1 : ∀ r, x = some r → y = some r) (h : cs x d ml = some r) : cs y d ml = some r := by
  cases x with
  | none => exact nomatch (show (none : Option Rs9) = some r from h)
  | some z => rw [h1 z rfl]; exact h
theorem sa_mono {K S : Nat → Int32} {V : Nat → Int64} {f i d : Nat} {ml pl : List Int64} {r : Rs9} (h : stm K S V f i d ml pl = some r) : stm K S V (f + 1) i d ml pl = some r := by
  unfold stm at h ⊢
  exact it_mono id (it_mono id (it_mono id (it_mono id (it_mono (it_mono id (it_mono (it_mono id (ns_mono (ns_mono (it_mono (cs_mono (fun r h => pr_mono _ _ _ _ _ r h)) id)))) id)) id)))) h
theorem sa_le {K S : Nat → Int32} {V : Nat → Int64} {f i d : Nat} {ml pl : List Int64} {r : Rs9} (h : stm K S V f i d ml pl = some r) : ∀ g, stm K S V (f + g) i d ml pl = some r := by
  intro g
  induction g with
  | zero => exact h
  | succ g ih => exact sa_mono ih
def SRx (K S : Nat → Int32) (V : Nat → Int64) (i d : Nat) (ml pl : List Int64) (r : Rs9) : Prop := ∃ f, stm K S V f i d ml pl = some r
def pt (K S : Nat → Int32) (V : Nat → Int64) : Nat → Nat → Nat → List Int64 → List Int64 → Option Rt
  | 0, _, _, _, _ => none
  | f + 1, i, d, ml, pl =>
    if K i = 1 then some (.inr (ml, pl))
    else match stm K S V f i d ml pl with
      | none => none
      | some (.inl e) => some (.inl e)
      | some (.inr p) => if K p.1 = 7 then pt K S V f (p.1 + 1) p.2.1 p.2.2.1 p.2.2.2 else some (.inl (flo K S p.1 2))
theorem pt_mono {K S : Nat → Int32} {V : Nat → Int64} : ∀ (f i d : Nat) (ml pl : List Int64) (r : Rt), pt K S V f i d ml pl = some r → pt K S V (f + 1) i d ml pl = some r := by
  intro f
  induction f with
  | zero => intro i d ml pl r h; exact nomatch (show (none : Option Rt) = some r from h)
  | succ f ih =>
    intro i d ml pl r h
    rw [pt] at h ⊢
    by_cases q : K i = 1
    · rw [if_pos q] at h ⊢; exact h
    · rw [if_neg q] at h ⊢
      cases hs : stm K S V f i d ml pl with
      | none => rw [hs] at h; exact nomatch (show (none : Option Rt) = some r from h)
      | some z =>
        rw [hs] at h
        rw [sa_mono hs]
        cases z with
        | inl e => exact h
        | inr p => exact it_mono (fun h => ih _ _ _ _ r h) id h
theorem pt_le {K S : Nat → Int32} {V : Nat → Int64} {f i d : Nat} {ml pl : List Int64} {r : Rt} (h : pt K S V f i d ml pl = some r) : ∀ g, pt K S V (f + g) i d ml pl = some r := by
  intro g
  induction g with
  | zero => exact h
  | succ g ih => exact pt_mono _ _ _ _ _ _ ih
def TP (K S : Nat → Int32) (V : Nat → Int64) (i d : Nat) (ml pl : List Int64) (r : Rt) : Prop := ∃ f, pt K S V f i d ml pl = some r
theorem TP.det {K S : Nat → Int32} {V : Nat → Int64} {i d : Nat} {ml pl : List Int64} {r r2 : Rt} (h : TP K S V i d ml pl r) (h2 : TP K S V i d ml pl r2) : r = r2 := by
  obtain ⟨f, h⟩ := h
  obtain ⟨g, h2⟩ := h2
  have a := pt_le h g
  have b := pt_le h2 f
  rw [Nat.add_comm] at b
  rw [a] at b
  exact Option.some.inj b
theorem S_rate {K S : Nat → Int32} {V : Nat → Int64} {i d : Nat} {ml pl : List Int64} (h : K i = 8) (h1 : nmE (lN 0) (lN 3000) (K (i + 1)) (V (i + 1)) = none) (h2 : ¬ (K (i + 2) = 3 ∧ ¬ (V (i + 2) = 360 ∨ V (i + 2) = 365))) (h3 : nmE (lN 360) (lN 365) (K (i + 2)) (V (i + 2)) = none) : SRx K S V i d ml pl (.inr (i + 3, d, ml, pl)) := ⟨0 + 1, by unfold stm; rw [if_pos h, if_neg h2]; simp only [ns, h1, h3]⟩
theorem S_rateE {K S : Nat → Int32} {V : Nat → Int64} {i d : Nat} {ml pl : List Int64} {e : Int32} (h : K i = 8) (h1 : nmE (lN 0) (lN 3000) (K (i + 1)) (V (i + 1)) = some e) : SRx K S V i d ml pl (.inl (flo K S (i + 1) e)) := ⟨0 + 1, by unfold stm; rw [if_pos h]; simp only [ns, h1]⟩
theorem S_rateEx {a b : Int32} {K S : Nat → Int32} {V : Nat → Int64} {i d : Nat} {ml pl : List Int64} (h : K i = 8) (h1 : NmF 0 3000 (K (i + 1)) (V (i + 1)) a) (hb : b = S (i + 1)) : SRx K S V i d ml pl (.inl (a, b)) := by
  obtain ⟨e, h1, ha⟩ := h1
  rw [ha, hb]
  exact S_rateE h h1
theorem S_rateB {K S : Nat → Int32} {V : Nat → Int64} {i d : Nat} {ml pl : List Int64} (h : K i = 8) (h1 : nmE (lN 0) (lN 3000) (K (i + 1)) (V (i + 1)) = none) (h2 : K (i + 2) = 3 ∧ ¬ (V (i + 2) = 360 ∨ V (i + 2) = 365)) : SRx K S V i d ml pl (.inl (flo K S (i + 2) 3)) := ⟨0 + 1, by unfold stm; rw [if_pos h, if_pos h2]; simp only [ns, h1]⟩
theorem S_rateBx {a b : Int32} {K S : Nat → Int32} {V : Nat → Int64} {i d : Nat} {ml pl : List Int64} (h : K i = 8) (h1 : nmE (lN 0) (lN 3000) (K (i + 1)) (V (i + 1)) = none) (h2 : K (i + 2) = 3 ∧ ¬ (V (i + 2) = 360 ∨ V (i + 2) = 365)) (ha : a = fek (K (i + 2)) 3) (hb : b = S (i + 2)) : SRx K S V i d ml pl (.inl (a, b)) := by
  rw [ha, hb]
  exact S_rateB h h1 h2
theorem S_rateF {K S : Nat → Int32} {V : Nat → Int64} {i d : Nat} {ml pl : List Int64} {e : Int32} (h : K i = 8) (h1 : nmE (lN 0) (lN 3000) (K (i + 1)) (V (i + 1)) = none) (h2 : ¬ (K (i + 2) = 3 ∧ ¬ (V (i + 2) = 360 ∨ V (i + 2) = 365))) (h3 : nmE (lN 360) (lN 365) (K (i + 2)) (V (i + 2)) = some e) : SRx K S V i d ml pl (.inl (flo K S (i + 2) e)) := ⟨0 + 1, by unfold stm; rw [if_pos h, if_neg h2]; simp only [ns, h1, h3]⟩
theorem S_rateFx {a b : Int32} {K S : Nat → Int32} {V : Nat → Int64} {i d : Nat} {ml pl : List Int64} (h : K i = 8) (h1 : nmE (lN 0) (lN 3000) (K (i + 1)) (V (i + 1)) = none) (h2 : ¬ (K (i + 2) = 3 ∧ ¬ (V (i + 2) = 360 ∨ V (i + 2) = 365))) (h3 : NmF 360 365 (K (i + 2)) (V (i + 2)) a) (hb : b = S (i + 2)) : SRx K S V i d ml pl (.inl (a, b)) := by
  obtain ⟨e, h3, ha⟩ := h3
  rw [ha, hb]
  exact S_rateF h h1 h2 h3
theorem S_fee {K S : Nat → Int32} {V : Nat → Int64} {i d : Nat} {ml pl : List Int64} (h : K i = 9) (h1 : nmE (lN 0) (lN 2000) (K (i + 1)) (V (i + 1)) = none) : SRx K S V i d ml pl (.inr (i + 2, d, ml, pl)) := ⟨0 + 1, by unfold stm; rw [if_neg (by rw [h]; decide), if_pos h]; simp only [ns, h1]⟩
theorem S_feeE {K S : Nat → Int32} {V : Nat → Int64} {i d : Nat} {ml pl : List Int64} {e : Int32} (h : K i = 9) (h1 : nmE (lN 0) (lN 2000) (K (i + 1)) (V (i + 1)) = some e) : SRx K S V i d ml pl (.inl (flo K S (i + 1) e)) := ⟨0 + 1, by unfold stm; rw [if_neg (by rw [h]; decide), if_pos h]; simp only [ns, h1]⟩
theorem S_feeEx {a b : Int32} {K S : Nat → Int32} {V : Nat → Int64} {i d : Nat} {ml pl : List Int64} (h : K i = 9) (h1 : NmF 0 2000 (K (i + 1)) (V (i + 1)) a) (hb : b = S (i + 1)) : SRx K S V i d ml pl (.inl (a, b)) := by
  obtain ⟨e, h1, ha⟩ := h1
  rw [ha, hb]
  exact S_feeE h h1
theorem S_grace {K S : Nat → Int32} {V : Nat → Int64} {i d : Nat} {ml pl : List Int64} (h : K i = 10) (h1 : nmE (lN 0) (lN 60) (K (i + 1)) (V (i + 1)) = none) : SRx K S V i d ml pl (.inr (i + 2, d, ml, pl)) := ⟨0 + 1, by unfold stm; rw [if_neg (by rw [h]; decide), if_neg (by rw [h]; decide), if_pos h]; simp only [ns, h1]⟩
theorem S_graceE {K S : Nat → Int32} {V : Nat → Int64} {i d : Nat} {ml pl : List Int64} {e : Int32} (h : K i = 10) (h1 : nmE (lN 0) (lN 60) (K (i + 1)) (V (i + 1)) = some e) : SRx K S V i d ml pl (.inl (flo K S (i + 1) e)) := ⟨0 + 1, by unfold stm; rw [if_neg (by rw [h]; decide), if_neg (by rw [h]; decide), if_pos h]; simp only [ns, h1]⟩
theorem S_graceEx {a b : Int32} {K S : Nat → Int32} {V : Nat → Int64} {i d : Nat} {ml pl : List Int64} (h : K i = 10) (h1 : NmF 0 60 (K (i + 1)) (V (i + 1)) a) (hb : b = S (i + 1)) : SRx K S V i d ml pl (.inl (a, b)) := by
  obtain ⟨e, h1, ha⟩ := h1
  rw [ha, hb]
  exact S_graceE h h1
theorem S_depF {K S : Nat → Int32} {V : Nat → Int64} {i d : Nat} {ml pl : List Int64} (h : K i = 11) (hd : d = 6) : SRx K S V i d ml pl (.inl (flo K S i 5)) := ⟨0 + 1, by unfold stm; rw [if_neg (by rw [h]; decide), if_neg (by rw [h]; decide), if_neg (by rw [h]; decide), if_pos h, if_pos hd]⟩
theorem S_depFx {a b : Int32} {K S : Nat → Int32} {V : Nat → Int64} {i d : Nat} {ml pl : List Int64} (h : K i = 11) (hd : d = 6) (ha : a = fek (K i) 5) (hb : b = S i) : SRx K S V i d ml pl (.inl (a, b)) := by
  rw [ha, hb]
  exact S_depF h hd
theorem S_dep {K S : Nat → Int32} {V : Nat → Int64} {i d : Nat} {ml pl : List Int64} (h : K i = 11) (hd : ¬ d = 6) (h1 : nmE (lN 1) (lN 99999) (K (i + 1)) (V (i + 1)) = none) : SRx K S V i d ml pl (.inr (i + 2, d + 1, ml, pl)) := ⟨0 + 1, by unfold stm; rw [if_neg (by rw [h]; decide), if_neg (by rw [h]; decide), if_neg (by rw [h]; decide), if_pos h, if_neg hd]; simp only [ns, h1]⟩
theorem S_depE {K S : Nat → Int32} {V : Nat → Int64} {i d : Nat} {ml pl : List Int64} {e : Int32} (h : K i = 11) (hd : ¬ d = 6) (h1 : nmE (lN 1) (lN 99999) (K (i + 1)) (V (i + 1)) = some e) : SRx K S V i d ml pl (.inl (flo K S (i + 1) e)) := ⟨0 + 1, by unfold stm; rw [if_neg (by rw [h]; decide), if_neg (by rw [h]; decide), if_neg (by rw [h]; decide), if_pos h, if_neg hd]; simp only [ns, h1]⟩
theorem S_depEx {a b : Int32} {K S : Nat → Int32} {V : Nat → Int64} {i d : Nat} {ml pl : List Int64} (h : K i = 11) (hd : ¬ d = 6) (h1 : NmF 1 99999 (K (i + 1)) (V (i + 1)) a) (hb : b = S (i + 1)) : SRx K S V i d ml pl (.inl (a, b)) := by
  obtain ⟨e, h1, ha⟩ := h1
  rw [ha, hb]
  exact S_depE h hd h1
theorem S_milF {K S : Nat → Int32} {V : Nat → Int64} {i d : Nat} {ml pl : List Int64} (h : K i = 12) (hd : ml.length = 10) : SRx K S V i d ml pl (.inl (flo K S i 5)) := ⟨0 + 1, by unfold stm; rw [if_neg (by rw [h]; decide), if_neg (by rw [h]; decide), if_neg (by rw [h]; decide), if_neg (by rw [h]; decide), if_pos h, if_pos hd]⟩
theorem S_milFx {a b : Int32} {K S : Nat → Int32} {V : Nat → Int64} {i d : Nat} {ml pl : List Int64} (h : K i = 12) (hd : ml.length = 10) (ha : a = fek (K i) 5) (hb : b = S i) : SRx K S V i d ml pl (.inl (a, b)) := by
  rw [ha, hb]
  exact S_milF h hd
theorem S_milN {K S : Nat → Int32} {V : Nat → Int64} {i d : Nat} {ml pl : List Int64} (h : K i = 12) (hd : ¬ ml.length = 10) (hk : ¬ K (i + 1) = 4) : SRx K S V i d ml pl (.inl (flo K S (i + 1) 2)) := ⟨0 + 1, by unfold stm; rw [if_neg (by rw [h]; decide), if_neg (by rw [h]; decide), if_neg (by rw [h]; decide), if_neg (by rw [h]; decide), if_pos h, if_neg hd, if_neg hk]⟩
theorem S_milNx {a b : Int32} {K S : Nat → Int32} {V : Nat → Int64} {i d : Nat} {ml pl : List Int64} (h : K i = 12) (hd : ¬ ml.length = 10) (hk : ¬ K (i + 1) = 4) (ha : a = fek (K (i + 1)) 2) (hb : b = S (i + 1)) : SRx K S V i d ml pl (.inl (a, b)) := by
  rw [ha, hb]
  exact S_milN h hd hk
theorem S_milD {K S : Nat → Int32} {V : Nat → Int64} {i d : Nat} {ml pl : List Int64} (h : K i = 12) (hd : ¬ ml.length = 10) (hk : K (i + 1) = 4) (hm : V (i + 1) ∈ ml) : SRx K S V i d ml pl (.inl (flo K S (i + 1) 4)) := ⟨0 + 1, by unfold stm; rw [if_neg (by rw [h]; decide), if_neg (by rw [h]; decide), if_neg (by rw [h]; decide), if_neg (by rw [h]; decide), if_pos h, if_neg hd, if_pos hk, if_pos hm]⟩
theorem S_milDx {a b : Int32} {K S : Nat → Int32} {V : Nat → Int64} {i d : Nat} {ml pl : List Int64} (h : K i = 12) (hd : ¬ ml.length = 10) (hk : K (i + 1) = 4) (hm : V (i + 1) ∈ ml) (ha : a = fek (K (i + 1)) 4) (hb : b = S (i + 1)) : SRx K S V i d ml pl (.inl (a, b)) := by
  rw [ha, hb]
  exact S_milD h hd hk hm
theorem S_milA {K S : Nat → Int32} {V : Nat → Int64} {i d : Nat} {ml pl : List Int64} {e : Int32} (h : K i = 12) (hd : ¬ ml.length = 10) (hk : K (i + 1) = 4) (hm : ¬ V (i + 1) ∈ ml) (h1 : nmE (lN 1) (lN 99999) (K (i + 2)) (V (i + 2)) = some e) : SRx K S V i d ml pl (.inl (flo K S (i + 2) e)) := ⟨0 + 1, by unfold stm; rw [if_neg (by rw [h]; decide), if_neg (by rw [h]; decide), if_neg (by rw [h]; decide), if_neg (by rw [h]; decide), if_pos h, if_neg hd, if_pos hk, if_neg hm]; simp only [ns, h1]⟩
theorem S_milAx {a b : Int32} {K S : Nat → Int32} {V : Nat → Int64} {i d : Nat} {ml pl : List Int64} (h : K i = 12) (hd : ¬ ml.length = 10) (hk : K (i + 1) = 4) (hm : ¬ V (i + 1) ∈ ml) (h1 : NmF 1 99999 (K (i + 2)) (V (i + 2)) a) (hb : b = S (i + 2)) : SRx K S V i d ml pl (.inl (a, b)) := by
  obtain ⟨e, h1, ha⟩ := h1
  rw [ha, hb]
  exact S_milA h hd hk hm h1
theorem S_milP {K S : Nat → Int32} {V : Nat → Int64} {i d : Nat} {ml pl : List Int64} {e : Int32} (h : K i = 12) (hd : ¬ ml.length = 10) (hk : K (i + 1) = 4) (hm : ¬ V (i + 1) ∈ ml) (h1 : nmE (lN 1) (lN 99999) (K (i + 2)) (V (i + 2)) = none) (h3 : nmE (lN 0) (lN 99) (K (i + 3)) (V (i + 3)) = some e) : SRx K S V i d ml pl (.inl (flo K S (i + 3) e)) := ⟨0 + 1, by unfold stm; rw [if_neg (by rw [h]; decide), if_neg (by rw [h]; decide), if_neg (by rw [h]; decide), if_neg (by rw [h]; decide), if_pos h, if_neg hd, if_pos hk, if_neg hm]; simp only [ns, h1, h3]⟩
theorem S_milPx {a b : Int32} {K S : Nat → Int32} {V : Nat → Int64} {i d : Nat} {ml pl : List Int64} (h : K i = 12) (hd : ¬ ml.length = 10) (hk : K (i + 1) = 4) (hm : ¬ V (i + 1) ∈ ml) (h1 : nmE (lN 1) (lN 99999) (K (i + 2)) (V (i + 2)) = none) (h3 : NmF 0 99 (K (i + 3)) (V (i + 3)) a) (hb : b = S (i + 3)) : SRx K S V i d ml pl (.inl (a, b)) := by
  obtain ⟨e, h3, ha⟩ := h3
  rw [ha, hb]
  exact S_milP h hd hk hm h1 h3
theorem S_milW {K S : Nat → Int32} {V : Nat → Int64} {i d : Nat} {ml pl : List Int64} (h : K i = 12) (hd : ¬ ml.length = 10) (hk : K (i + 1) = 4) (hm : ¬ V (i + 1) ∈ ml) (h1 : nmE (lN 1) (lN 99999) (K (i + 2)) (V (i + 2)) = none) (h3 : nmE (lN 0) (lN 99) (K (i + 3)) (V (i + 3)) = none) (h4 : ¬ K (i + 4) = 13) : SRx K S V i d ml pl (.inl (flo K S (i + 4) 2)) := ⟨0 + 1, by unfold stm; rw [if_neg (by rw [h]; decide), if_neg (by rw [h]; decide), if_neg (by rw [h]; decide), if_neg (by rw [h]; decide), if_pos h, if_neg hd, if_pos hk, if_neg hm, if_neg h4]; simp only [ns, h1, h3]⟩
theorem S_milWx {a b : Int32} {K S : Nat → Int32} {V : Nat → Int64} {i d : Nat} {ml pl : List Int64} (h : K i = 12) (hd : ¬ ml.length = 10) (hk : K (i + 1) = 4) (hm : ¬ V (i + 1) ∈ ml) (h1 : nmE (lN 1) (lN 99999) (K (i + 2)) (V (i + 2)) = none) (h3 : nmE (lN 0) (lN 99) (K (i + 3)) (V (i + 3)) = none) (h4 : ¬ K (i + 4) = 13) (ha : a = fek (K (i + 4)) 2) (hb : b = S (i + 4)) : SRx K S V i d ml pl (.inl (a, b)) := by
  rw [ha, hb]
  exact S_milW h hd hk hm h1 h3 h4
theorem S_milC {K S : Nat → Int32} {V : Nat → Int64} {i d : Nat} {ml pl : List Int64} {e : Int32 × Int32} (h : K i = 12) (hd : ¬ ml.length = 10) (hk : K (i + 1) = 4) (hm : ¬ V (i + 1) ∈ ml) (h1 : nmE (lN 1) (lN 99999) (K (i + 2)) (V (i + 2)) = none) (h3 : nmE (lN 0) (lN 99) (K (i + 3)) (V (i + 3)) = none) (h4 : K (i + 4) = 13) (h5 : PRx K S V ml 3 0 (i + 5) pl (.inl e)) : SRx K S V i d ml pl (.inl e) := by
  obtain ⟨f, h5⟩ := h5
  refine ⟨f, ?_⟩
  unfold stm
  rw [if_neg (by rw [h]; decide), if_neg (by rw [h]; decide), if_neg (by rw [h]; decide), if_neg (by rw [h]; decide), if_pos h, if_neg hd, if_pos hk, if_neg hm, if_pos h4, h5]
  simp only [ns, h1, h3, cs]
theorem S_mil {K S : Nat → Int32} {V : Nat → Int64} {i d : Nat} {ml pl : List Int64} {j : Nat} {pl2 : List Int64} (h : K i = 12) (hd : ¬ ml.length = 10) (hk : K (i + 1) = 4) (hm : ¬ V (i + 1) ∈ ml) (h1 : nmE (lN 1) (lN 99999) (K (i + 2)) (V (i + 2)) = none) (h3 : nmE (lN 0) (lN 99) (K (i + 3)) (V (i + 3)) = none) (h4 : K (i + 4) = 13) (h5 : PRx K S V ml 3 0 (i + 5) pl (.inr (j, pl2))) : SRx K S V i d ml pl (.inr (j, d, ml ++ [V (i + 1)], pl2)) := by
  obtain ⟨f, h5⟩ := h5
  refine ⟨f, ?_⟩
  unfold stm
  rw [if_neg (by rw [h]; decide), if_neg (by rw [h]; decide), if_neg (by rw [h]; decide), if_neg (by rw [h]; decide), if_pos h, if_neg hd, if_pos hk, if_neg hm, if_pos h4, h5]
  simp only [ns, h1, h3, cs]
theorem S_none {K S : Nat → Int32} {V : Nat → Int64} {i d : Nat} {ml pl : List Int64} (h : ¬ (8 ≤ K i ∧ K i ≤ 12)) : SRx K S V i d ml pl (.inl (flo K S i 2)) := ⟨1, by unfold stm; rw [if_neg (fun z : K i = 8 => h (by rw [z]; decide)), if_neg (fun z : K i = 9 => h (by rw [z]; decide)), if_neg (fun z : K i = 10 => h (by rw [z]; decide)), if_neg (fun z : K i = 11 => h (by rw [z]; decide)), if_neg (fun z : K i = 12 => h (by rw [z]; decide))]⟩
theorem S_nonex {a b : Int32} {K S : Nat → Int32} {V : Nat → Int64} {i d : Nat} {ml pl : List Int64} (h : ¬ (8 ≤ K i ∧ K i ≤ 12)) (ha : a = fek (K i) 2) (hb : b = S i) : SRx K S V i d ml pl (.inl (a, b)) := by
  rw [ha, hb]
  exact S_none h
theorem T_end {K S : Nat → Int32} {V : Nat → Int64} {i d : Nat} {ml pl : List Int64} (h : K i = 1) : TP K S V i d ml pl (.inr (ml, pl)) := ⟨0 + 1, by rw [pt, if_pos h]⟩
theorem T_er {K S : Nat → Int32} {V : Nat → Int64} {i d : Nat} {ml pl : List Int64} {e : Int32 × Int32} (h : ¬ K i = 1) (h1 : SRx K S V i d ml pl (.inl e)) : TP K S V i d ml pl (.inl e) := by
  obtain ⟨f, h1⟩ := h1
  refine ⟨f + 1, ?_⟩
  rw [pt, if_neg h, h1]
theorem T_semi {K S : Nat → Int32} {V : Nat → Int64} {i d j d2 : Nat} {ml pl ml2 pl2 : List Int64} (h : ¬ K i = 1) (h1 : SRx K S V i d ml pl (.inr (j, d2, ml2, pl2))) (h2 : ¬ K j = 7) : TP K S V i d ml pl (.inl (flo K S j 2)) := by
  obtain ⟨f, h1⟩ := h1
  refine ⟨f + 1, ?_⟩
  rw [pt, if_neg h, h1]
  show (if K j = 7 then pt K S V f (j + 1) d2 ml2 pl2 else some (Sum.inl (flo K S j 2))) = (some (Sum.inl (flo K S j 2)) : Option Rt)
  rw [if_neg h2]
theorem T_semix {a b : Int32} {K S : Nat → Int32} {V : Nat → Int64} {i d j d2 : Nat} {ml pl ml2 pl2 : List Int64} (h : ¬ K i = 1) (h1 : SRx K S V i d ml pl (.inr (j, d2, ml2, pl2))) (h2 : ¬ K j = 7) (ha : a = fek (K j) 2) (hb : b = S j) : TP K S V i d ml pl (.inl (a, b)) := by
  rw [ha, hb]
  exact T_semi h h1 h2
theorem T_go {K S : Nat → Int32} {V : Nat → Int64} {i d j d2 : Nat} {ml pl ml2 pl2 : List Int64} {r : Rt} (h : ¬ K i = 1) (h1 : SRx K S V i d ml pl (.inr (j, d2, ml2, pl2))) (h2 : K j = 7) (h3 : TP K S V (j + 1) d2 ml2 pl2 r) : TP K S V i d ml pl r := by
  obtain ⟨f, h1⟩ := h1
  obtain ⟨g, h3⟩ := h3
  refine ⟨f + g + 1, ?_⟩
  rw [pt, if_neg h, sa_le h1 g]
  show (if K j = 7 then pt K S V (f + g) (j + 1) d2 ml2 pl2 else some (Sum.inl (flo K S j 2))) = some r
  rw [if_pos h2, Nat.add_comm]
  exact pt_le h3 f
def ST9 (K S : Nat → Int32) (V : Nat → Int64) (i d : Nat) (ml pl : List Int64) (j d2 : Nat) (ml2 pl2 : List Int64) : Prop := ∃ k, SRx K S V i d ml pl (.inr (k, d2, ml2, pl2)) ∧ K k = 7 ∧ j = k + 1
def SE9 (K S : Nat → Int32) (V : Nat → Int64) (i d : Nat) (ml pl : List Int64) (a b : Int32) : Prop := SRx K S V i d ml pl (.inl (a, b)) ∨ ∃ k d2 ml2 pl2, SRx K S V i d ml pl (.inr (k, d2, ml2, pl2)) ∧ ¬ K k = 7 ∧ a = fek (K k) 2 ∧ b = S k
theorem T_go9 {K S : Nat → Int32} {V : Nat → Int64} {i d j d2 : Nat} {ml pl ml2 pl2 : List Int64} {r : Rt} (h : ¬ K i = 1) (h1 : ST9 K S V i d ml pl j d2 ml2 pl2) (h2 : TP K S V j d2 ml2 pl2 r) : TP K S V i d ml pl r := by
  obtain ⟨k, a, b, e⟩ := h1
  subst e
  exact T_go h a b h2
theorem T_er9 {K S : Nat → Int32} {V : Nat → Int64} {i d : Nat} {ml pl : List Int64} {a b : Int32} (h : ¬ K i = 1) (h1 : SE9 K S V i d ml pl a b) : TP K S V i d ml pl (.inl (a, b)) := by
  rcases h1 with h1 | ⟨k, d2, ml2, pl2, h1, h2, h3, h4⟩
  · exact T_er h h1
  · exact T_semix h h1 h2 h3 h4
def Ctn (K S : Nat → Int32) (V : Nat → Int64) (i d : Nat) (ml pl : List Int64) (j d2 : Nat) (ml2 pl2 : List Int64) : Prop := ∀ r, TP K S V j d2 ml2 pl2 r → TP K S V i d ml pl r
theorem k812 {a : Int32} (h8 : ¬ a = 8) (h9 : ¬ a = 9) (h10 : ¬ a = 10) (h11 : ¬ a = 11) (h12 : ¬ a = 12) : ¬ (8 ≤ a ∧ a ≤ 12) := fun q => by
  have g : ∀ n : Int32, ∀ z : Int, n.toInt = z → ¬ a = n → a.toInt ≠ z := fun n z e q w => q (Int32.toInt_inj.mp (w.trans e.symm))
  have a1 := Int32.le_iff_toInt_le.mp q.1
  have a2 := Int32.le_iff_toInt_le.mp q.2
  rw [show (8 : Int32).toInt = 8 by decide] at a1
  rw [show (12 : Int32).toInt = 12 by decide] at a2
  have b1 := g 8 8 (by decide) h8
  have b2 := g 9 9 (by decide) h9
  have b3 := g 10 10 (by decide) h10
  have b4 := g 11 11 (by decide) h11
  have b5 := g 12 12 (by decide) h12
  omega
theorem lg_eq0 {a b : Int64} (h : lg_cmp a b = 0) : a = b := by
  unfold lg_cmp at h
  split at h
  · exact absurd h (by decide)
  · split at h
    · next q => exact q
    · exact absurd h (by decide)
theorem lg_0eq {a b : Int64} (h : a = b) : lg_cmp a b = 0 := by
  subst h
  unfold lg_cmp
  rw [if_neg (Int64.lt_irrefl), if_pos rfl]
def Nof (n : Nat) (w : Int64) (f : Nat → Int64) : Prop := ∀ j, j < n → f j ≠ w
theorem Nof.zero (w : Int64) (f : Nat → Int64) : Nof 0 w f := fun j h => absurd h (Nat.not_lt_zero j)
theorem Nof.step {n : Nat} {w : Int64} {f : Nat → Int64} (h : Nof n w f) (c : ¬ lg_cmp (f n) w = 0) : Nof (n + 1) w f := fun j hj e => by
  by_cases q : j = n
  · subst q; exact c (lg_0eq e)
  · exact h j (by omega) e
/-- the names of a row: a list -/
def NL (ml : List Int64) (n : Nat) (f : Nat → Int64) : Prop := ml.length = n ∧ ∀ k, k < n → ml[k]? = some (f k)
theorem NL.zero (f : Nat → Int64) : NL [] 0 f := ⟨rfl, fun k h => absurd h (Nat.not_lt_zero k)⟩
theorem NL.mem {ml : List Int64} {n k : Nat} {f : Nat → Int64} {w : Int64} (h : NL ml n f) (hk : k < n) (e : f k = w) : w ∈ ml := by
  have := h.2 k hk
  rw [e] at this
  exact List.mem_of_getElem? this
theorem NL.not {ml : List Int64} {n : Nat} {f : Nat → Int64} {w : Int64} (h : NL ml n f) (hn : ∀ k, k < n → f k ≠ w) : ¬ w ∈ ml := fun q => by
  obtain ⟨k, hk, e⟩ := List.mem_iff_getElem.mp q
  have hk2 : k < n := by rw [← h.1]; exact hk
  have := h.2 k hk2
  rw [List.getElem?_eq_getElem hk, e] at this
  exact hn k hk2 (Option.some.inj this).symm
theorem NL.put {ml : List Int64} {n : Nat} {f : Nat → Int64} (h : NL ml n f) (w : Int64) : NL (ml ++ [w]) (n + 1) (vp_updL f n w) := by
  refine ⟨by rw [List.length_append, h.1]; rfl, fun k hk => ?_⟩
  rcases Nat.lt_or_ge k n with q | q
  · rw [List.getElem?_append_left (by rw [h.1]; exact q), h.2 k q]
    exact congrArg some (if_neg (show ¬ k = n by omega)).symm
  · have e : k = n := by omega
    subst e
    rw [List.getElem?_append_right (by rw [h.1]; exact Nat.le_refl _), h.1, Nat.sub_self]
    exact congrArg some (if_pos rfl).symm
theorem NL.keep {ml : List Int64} {n : Nat} {f g : Nat → Int64} (h : NL ml n f) (e : ∀ k, k < n → g k = f k) : NL ml n g := ⟨h.1, fun k hk => by rw [e k hk]; exact h.2 k hk⟩
theorem nm_k {lo hi : Nat} {k : Int32} (v : Int64) (h : ¬ k = 3) : nmE (lN lo) (lN hi) k v = some 2 := if_neg h
theorem nm_lo {lo hi : Nat} {k : Int32} {v : Int64} (hk : k = 3) (hl : lo < 2147483648) (h : lg_cmp v (nI lo).toInt64 < 0) : nmE (lN lo) (lN hi) k v = some 3 := by
  unfold nmE
  rw [if_pos hk, if_neg]
  intro q
  rw [nI_l hl] at h
  exact absurd (lg_lt.mp h) (Int64.not_lt.mpr q.1)
theorem nm_hi {lo hi : Nat} {k : Int32} {v : Int64} (hk : k = 3) (hh : hi < 2147483648) (h : ¬ lg_cmp v (nI hi).toInt64 ≤ 0) : nmE (lN lo) (lN hi) k v = some 3 := by
  unfold nmE
  rw [if_pos hk, if_neg]
  intro q
  rw [nI_l hh] at h
  exact h (Int32.not_lt.mp (fun z => absurd (lg_gt.mp z) (Int64.not_lt.mpr q.2)))
theorem nm_ok {lo hi : Nat} {k : Int32} {v : Int64} (hk : k = 3) (hl : lo < 2147483648) (hh : hi < 2147483648) (h1 : ¬ lg_cmp v (nI lo).toInt64 < 0) (h2 : lg_cmp v (nI hi).toInt64 ≤ 0) : nmE (lN lo) (lN hi) k v = none := by
  unfold nmE
  rw [nI_l hl] at h1
  rw [nI_l hh] at h2
  rw [if_pos hk, if_pos]
  exact ⟨lg_nlt h1, lg_ngt (Int32.not_lt.mpr h2)⟩
theorem fek_2 {k : Int32} (h : k = 2) (e : Int32) : (1 : Int32) = fek k e := (if_pos h).symm
theorem fek_n {k : Int32} (h : ¬ k = 2) (e : Int32) : e = fek k e := (if_neg h).symm
theorem TX.go {t : Nat → Int32} {n ct i : Nat} {P R : Nat → Nat} {S K : Nat → Int32} {V : Nat → Int64} (h : TX t n ct P R S V K) (hi : i < ct) (hk : K i ≠ 1) : i + 1 < ct ∧ P i + 1 ≤ P (i + 1) ∧ P (i + 1) ≤ n := by
  have h1 := h.nx hi hk
  have h2 := h.lt hi hk
  have h3 := h.le h1
  refine ⟨h1, by omega, by omega⟩
theorem TX.go2 {t : Nat → Int32} {n ct i : Nat} {P R : Nat → Nat} {S K : Nat → Int32} {V : Nat → Int64} (h : TX t n ct P R S V K) (hi : i < ct) (hk : 8 ≤ K i) : i + 1 < ct ∧ P i + 2 ≤ P (i + 1) ∧ P (i + 1) ≤ n := by
  have hk1 : K i ≠ 1 := fun q => by rw [q] at hk; exact absurd hk (by decide)
  have h1 := h.nx hi hk1
  have h2 := h.two hi hk
  have h3 := h.le h1
  refine ⟨h1, by omega, by omega⟩
theorem wl_or (w : Int64) {k : Nat} (hk : k < 32) : (w <<< (5 : Int64)) ||| lN k = 32 * w + lN k := by
  apply Int64.toBitVec_inj.1
  have e1 : ((w <<< (5 : Int64)) ||| lN k).toBitVec = (w.toBitVec <<< (5 : Nat)) ||| BitVec.ofNat 64 k := by
    show (w.toBitVec <<< ((5 : Int64).toBitVec.smod 64)) ||| (lN k).toBitVec = (w.toBitVec <<< (5 : Nat)) ||| BitVec.ofNat 64 k
    rw [show (5 : Int64).toBitVec.smod 64 = 5#64 by decide]
    rfl
  have e2 : (32 * w + lN k).toBitVec = w.toBitVec * 32#64 + BitVec.ofNat 64 k := by
    show (32 : Int64).toBitVec * w.toBitVec + (lN k).toBitVec = w.toBitVec * 32#64 + BitVec.ofNat 64 k
    rw [BitVec.mul_comm]
    rfl
  rw [e1, e2]
  have e3 : w.toBitVec * 32#64 = w.toBitVec <<< (5 : Nat) := by
    apply BitVec.eq_of_toNat_eq
    rw [BitVec.toNat_mul, BitVec.toNat_shiftLeft, Nat.shiftLeft_eq]
    rfl
  rw [e3]
  refine (BitVec.add_eq_or_of_and_eq_zero _ _ ?_).symm
  apply BitVec.eq_of_getLsbD_eq
  intro j hj
  rw [BitVec.getLsbD_and, BitVec.getLsbD_shiftLeft, BitVec.getLsbD_ofNat]
  rcases Nat.lt_or_ge j 5 with q | q
  · simp [q]
  · have : k.testBit j = false := Nat.testBit_lt_two_pow (Nat.lt_of_lt_of_le hk (show 32 ≤ 2 ^ j from Nat.pow_le_pow_right (n := 2) (i := 5) (by decide) q))
    simp [this]
theorem ckd_n {c : Int32} (h : ckd c = 4) : ∃ m, 97 ≤ m ∧ m ≤ 122 ∧ c = nI m := by
  have hc := ckd_4.mp h
  exact btw_c (m := c) (lo := 97) (hi := 122) (lo' := 97) (hi' := 122) (by decide) (by decide) (by rw [Int64.le_iff_toInt_le, Int32.toInt_toInt64]; have := Int32.le_iff_toInt_le.mp hc.1; exact this) (by rw [Int64.le_iff_toInt_le, Int32.toInt_toInt64]; have := Int32.le_iff_toInt_le.mp hc.2; exact this)
theorem wl_let {w y1 y4 : Int64} {a y2 y3 : Int32} (h : ckd a = 4) (e1 : y1 = w <<< ((5 : Int32).toInt64 &&& 63)) (e2 : y2 = a - 97) (e3 : y3 = y2 + 1) (e4 : y4 = y1 ||| y3.toInt64) : y4 = 32 * w + a.toInt64 - 96 := by
  obtain ⟨m, m1, m2, rfl⟩ := ckd_n h
  have e5 : y3 = nI (m - 96) := by
    rw [e3, e2, show (97 : Int32) = nI 97 from rfl, nI_sub m1, show (1 : Int32) = nI 1 from rfl, nI_add]
    congr 1
    omega
  rw [e4, e1, e5, nI_l (by omega), nI_l (by omega), show ((5 : Int32).toInt64 &&& 63) = (5 : Int64) by decide, wl_or w (by omega), show (96 : Int64) = lN 96 from rfl, Int64.sub_eq_add_neg, Int64.add_assoc, ← Int64.sub_eq_add_neg, lN_sub (by omega)]
def bta (t : Nat → Int32) (n i : Nat) : Int32 := if i < n then t i else -1
theorem bt_in {t : Nat → Int32} {n i : Nat} (h : i < n) : bta t n i = t i := if_pos h
theorem bt_out {t : Nat → Int32} {n i : Nat} (h : n ≤ i) : bta t n i = -1 := if_neg (by omega)
/-- the bytes are not negative -/
def BYn (n : Nat) (t : Nat → Int32) : Prop := ∀ j, j < n → ¬ t j < 0
theorem bt_nb {t : Nat → Int32} {n i : Nat} (h : i < n → ckd (t i) ≠ 4) : ¬ (97 ≤ bta t n i ∧ bta t n i ≤ 122) := fun q => by
  rcases Nat.lt_or_ge i n with z | z
  · rw [bt_in z] at q; exact h z (ckd_4.mpr q)
  · rw [bt_out z] at q; exact absurd q.1 (by decide)
theorem bt_nd {t : Nat → Int32} {n i : Nat} (h : i < n → ckd (t i) ≠ 3) : ¬ (48 ≤ bta t n i ∧ bta t n i ≤ 57) := fun q => by
  rcases Nat.lt_or_ge i n with z | z
  · rw [bt_in z] at q; exact h z (ckd_3.mpr q)
  · rw [bt_out z] at q; exact absurd q.1 (by decide)
/-- the reference's token against the kind k and value v; ch is the byte where it begins -/
def TKR (k : Int32) (v : Int64) (ch tk kw vl : Int32) (wd : Int64) : Prop := (k = 1 ∧ tk = 0) ∨ (k = 2 ∧ tk = 1) ∨ (k = 3 ∧ tk = 3 ∧ v = vl.toInt64) ∨ (k = 4 ∧ tk = 2 ∧ kw = -1 ∧ wd = v) ∨ (∃ j, j < 15 ∧ k = nI (8 + j) ∧ tk = 2 ∧ kw = nI j) ∨ (k = 5 ∧ tk = 4 ∧ ch = 40) ∨ (k = 6 ∧ tk = 4 ∧ ch = 41) ∨ (k = 7 ∧ tk = 4 ∧ ch = 59)
def TKI (P : Nat → Nat) (V : Nat → Int64) (K t : Nat → Int32) (i : Nat) (tk kw vl : Int32) (wd : Int64) : Prop := TKR (K i) (V i) (t (P i)) tk kw vl wd
theorem TKR.ill {k : Int32} {v : Int64} {ch tk kw vl : Int32} {wd : Int64} (h : TKR k v ch tk kw vl wd) (e : tk = 1) : k = 2 := by
  rcases h with ⟨a, b⟩ | ⟨a, b⟩ | ⟨a, b, c⟩ | ⟨a, b, c, d⟩ | ⟨j, hj, a, b, c⟩ | ⟨a, b, c⟩ | ⟨a, b, c⟩ | ⟨a, b, c⟩
  · rw [b] at e; exact absurd e (by decide)
  · exact a
  · rw [b] at e; exact absurd e (by decide)
  · rw [b] at e; exact absurd e (by decide)
  · rw [b] at e; exact absurd e (by decide)
  · rw [b] at e; exact absurd e (by decide)
  · rw [b] at e; exact absurd e (by decide)
  · rw [b] at e; exact absurd e (by decide)
theorem TKR.nill {k : Int32} {v : Int64} {ch tk kw vl : Int32} {wd : Int64} (h : TKR k v ch tk kw vl wd) (e : ¬ tk = 1) : ¬ k = 2 := by
  rcases h with ⟨a, b⟩ | ⟨a, b⟩ | ⟨a, b, c⟩ | ⟨a, b, c, d⟩ | ⟨j, hj, a, b, c⟩ | ⟨a, b, c⟩ | ⟨a, b, c⟩ | ⟨a, b, c⟩
  · intro z; rw [a] at z; exact absurd z (by decide)
  · exact absurd b e
  · intro z; rw [a] at z; exact absurd z (by decide)
  · intro z; rw [a] at z; exact absurd z (by decide)
  · intro z; rw [a] at z; exact (kj15 j hj).2.1 z
  · intro z; rw [a] at z; exact absurd z (by decide)
  · intro z; rw [a] at z; exact absurd z (by decide)
  · intro z; rw [a] at z; exact absurd z (by decide)
theorem TKR.end {k : Int32} {v : Int64} {ch tk kw vl : Int32} {wd : Int64} (h : TKR k v ch tk kw vl wd) (e : tk = 0) : k = 1 := by
  rcases h with ⟨a, b⟩ | ⟨a, b⟩ | ⟨a, b, c⟩ | ⟨a, b, c, d⟩ | ⟨j, hj, a, b, c⟩ | ⟨a, b, c⟩ | ⟨a, b, c⟩ | ⟨a, b, c⟩
  · exact a
  · rw [b] at e; exact absurd e (by decide)
  · rw [b] at e; exact absurd e (by decide)
  · rw [b] at e; exact absurd e (by decide)
  · rw [b] at e; exact absurd e (by decide)
  · rw [b] at e; exact absurd e (by decide)
  · rw [b] at e; exact absurd e (by decide)
  · rw [b] at e; exact absurd e (by decide)
theorem TKR.nend {k : Int32} {v : Int64} {ch tk kw vl : Int32} {wd : Int64} (h : TKR k v ch tk kw vl wd) (e : ¬ tk = 0) : ¬ k = 1 := by
  rcases h with ⟨a, b⟩ | ⟨a, b⟩ | ⟨a, b, c⟩ | ⟨a, b, c, d⟩ | ⟨j, hj, a, b, c⟩ | ⟨a, b, c⟩ | ⟨a, b, c⟩ | ⟨a, b, c⟩
  · exact absurd b e
  · intro z; rw [a] at z; exact absurd z (by decide)
  · intro z; rw [a] at z; exact absurd z (by decide)
  · intro z; rw [a] at z; exact absurd z (by decide)
  · intro z; rw [a] at z; exact (kj15 j hj).1 z
  · intro z; rw [a] at z; exact absurd z (by decide)
  · intro z; rw [a] at z; exact absurd z (by decide)
  · intro z; rw [a] at z; exact absurd z (by decide)
theorem TKR.num {k : Int32} {v : Int64} {ch tk kw vl : Int32} {wd : Int64} (h : TKR k v ch tk kw vl wd) (e : tk = 3) : k = 3 ∧ v = vl.toInt64 := by
  rcases h with ⟨a, b⟩ | ⟨a, b⟩ | ⟨a, b, c⟩ | ⟨a, b, c, d⟩ | ⟨j, hj, a, b, c⟩ | ⟨a, b, c⟩ | ⟨a, b, c⟩ | ⟨a, b, c⟩
  · rw [b] at e; exact absurd e (by decide)
  · rw [b] at e; exact absurd e (by decide)
  · exact ⟨a, c⟩
  · rw [b] at e; exact absurd e (by decide)
  · rw [b] at e; exact absurd e (by decide)
  · rw [b] at e; exact absurd e (by decide)
  · rw [b] at e; exact absurd e (by decide)
  · rw [b] at e; exact absurd e (by decide)
theorem TKR.nnum {k : Int32} {v : Int64} {ch tk kw vl : Int32} {wd : Int64} (h : TKR k v ch tk kw vl wd) (e : ¬ tk = 3) : ¬ k = 3 := by
  rcases h with ⟨a, b⟩ | ⟨a, b⟩ | ⟨a, b, c⟩ | ⟨a, b, c, d⟩ | ⟨j, hj, a, b, c⟩ | ⟨a, b, c⟩ | ⟨a, b, c⟩ | ⟨a, b, c⟩
  · intro z; rw [a] at z; exact absurd z (by decide)
  · intro z; rw [a] at z; exact absurd z (by decide)
  · exact absurd b e
  · intro z; rw [a] at z; exact absurd z (by decide)
  · intro z; rw [a] at z; exact (kj15 j hj).2.2.1 z
  · intro z; rw [a] at z; exact absurd z (by decide)
  · intro z; rw [a] at z; exact absurd z (by decide)
  · intro z; rw [a] at z; exact absurd z (by decide)
theorem TKR.nam {k : Int32} {v : Int64} {ch tk kw vl : Int32} {wd : Int64} (h : TKR k v ch tk kw vl wd) (e : tk = 2) (e2 : kw = -1) : k = 4 ∧ wd = v := by
  rcases h with ⟨a, b⟩ | ⟨a, b⟩ | ⟨a, b, c⟩ | ⟨a, b, c, d⟩ | ⟨j, hj, a, b, c⟩ | ⟨a, b, c⟩ | ⟨a, b, c⟩ | ⟨a, b, c⟩
  · rw [b] at e; exact absurd e (by decide)
  · rw [b] at e; exact absurd e (by decide)
  · rw [b] at e; exact absurd e (by decide)
  · exact ⟨a, d⟩
  · rw [c] at e2; exact absurd e2 (kj15 j hj).2.2.2.2.2.2.2
  · rw [b] at e; exact absurd e (by decide)
  · rw [b] at e; exact absurd e (by decide)
  · rw [b] at e; exact absurd e (by decide)
theorem TKR.nnam {k : Int32} {v : Int64} {ch tk kw vl : Int32} {wd : Int64} (h : TKR k v ch tk kw vl wd) (e : ¬ (tk = 2 ∧ kw = -1)) : ¬ k = 4 := by
  rcases h with ⟨a, b⟩ | ⟨a, b⟩ | ⟨a, b, c⟩ | ⟨a, b, c, d⟩ | ⟨j, hj, a, b, c⟩ | ⟨a, b, c⟩ | ⟨a, b, c⟩ | ⟨a, b, c⟩
  · intro z; rw [a] at z; exact absurd z (by decide)
  · intro z; rw [a] at z; exact absurd z (by decide)
  · intro z; rw [a] at z; exact absurd z (by decide)
  · exact absurd ⟨b, c⟩ e
  · intro z; rw [a] at z; exact (kj15 j hj).2.2.2.1 z
  · intro z; rw [a] at z; exact absurd z (by decide)
  · intro z; rw [a] at z; exact absurd z (by decide)
  · intro z; rw [a] at z; exact absurd z (by decide)
theorem TKR.s40 {k : Int32} {v : Int64} {ch tk kw vl : Int32} {wd : Int64} (h : TKR k v ch tk kw vl wd) (e : tk = 4) (e2 : ch = 40) : k = 5 := by
  rcases h with ⟨a, b⟩ | ⟨a, b⟩ | ⟨a, b, c⟩ | ⟨a, b, c, d⟩ | ⟨j, hj, a, b, c⟩ | ⟨a, b, c⟩ | ⟨a, b, c⟩ | ⟨a, b, c⟩
  · rw [b] at e; exact absurd e (by decide)
  · rw [b] at e; exact absurd e (by decide)
  · rw [b] at e; exact absurd e (by decide)
  · rw [b] at e; exact absurd e (by decide)
  · rw [b] at e; exact absurd e (by decide)
  · exact a
  · rw [c] at e2; exact absurd e2 (by decide)
  · rw [c] at e2; exact absurd e2 (by decide)
theorem TKR.n40 {k : Int32} {v : Int64} {ch tk kw vl : Int32} {wd : Int64} (h : TKR k v ch tk kw vl wd) (e : ¬ (tk = 4 ∧ ch = 40)) : ¬ k = 5 := by
  rcases h with ⟨a, b⟩ | ⟨a, b⟩ | ⟨a, b, c⟩ | ⟨a, b, c, d⟩ | ⟨j, hj, a, b, c⟩ | ⟨a, b, c⟩ | ⟨a, b, c⟩ | ⟨a, b, c⟩
  · intro z; rw [a] at z; exact absurd z (by decide)
  · intro z; rw [a] at z; exact absurd z (by decide)
  · intro z; rw [a] at z; exact absurd z (by decide)
  · intro z; rw [a] at z; exact absurd z (by decide)
  · intro z; rw [a] at z; exact (kj15 j hj).2.2.2.2.1 z
  · exact absurd ⟨b, c⟩ e
  · intro z; rw [a] at z; exact absurd z (by decide)
  · intro z; rw [a] at z; exact absurd z (by decide)
theorem TKR.s41 {k : Int32} {v : Int64} {ch tk kw vl : Int32} {wd : Int64} (h : TKR k v ch tk kw vl wd) (e : tk = 4) (e2 : ch = 41) : k = 6 := by
  rcases h with ⟨a, b⟩ | ⟨a, b⟩ | ⟨a, b, c⟩ | ⟨a, b, c, d⟩ | ⟨j, hj, a, b, c⟩ | ⟨a, b, c⟩ | ⟨a, b, c⟩ | ⟨a, b, c⟩
  · rw [b] at e; exact absurd e (by decide)
  · rw [b] at e; exact absurd e (by decide)
  · rw [b] at e; exact absurd e (by decide)
  · rw [b] at e; exact absurd e (by decide)
  · rw [b] at e; exact absurd e (by decide)
  · rw [c] at e2; exact absurd e2 (by decide)
  · exact a
  · rw [c] at e2; exact absurd e2 (by decide)
theorem TKR.n41 {k : Int32} {v : Int64} {ch tk kw vl : Int32} {wd : Int64} (h : TKR k v ch tk kw vl wd) (e : ¬ (tk = 4 ∧ ch = 41)) : ¬ k = 6 := by
  rcases h with ⟨a, b⟩ | ⟨a, b⟩ | ⟨a, b, c⟩ | ⟨a, b, c, d⟩ | ⟨j, hj, a, b, c⟩ | ⟨a, b, c⟩ | ⟨a, b, c⟩ | ⟨a, b, c⟩
  · intro z; rw [a] at z; exact absurd z (by decide)
  · intro z; rw [a] at z; exact absurd z (by decide)
  · intro z; rw [a] at z; exact absurd z (by decide)
  · intro z; rw [a] at z; exact absurd z (by decide)
  · intro z; rw [a] at z; exact (kj15 j hj).2.2.2.2.2.1 z
  · intro z; rw [a] at z; exact absurd z (by decide)
  · exact absurd ⟨b, c⟩ e
  · intro z; rw [a] at z; exact absurd z (by decide)
theorem TKR.s59 {k : Int32} {v : Int64} {ch tk kw vl : Int32} {wd : Int64} (h : TKR k v ch tk kw vl wd) (e : tk = 4) (e2 : ch = 59) : k = 7 := by
  rcases h with ⟨a, b⟩ | ⟨a, b⟩ | ⟨a, b, c⟩ | ⟨a, b, c, d⟩ | ⟨j, hj, a, b, c⟩ | ⟨a, b, c⟩ | ⟨a, b, c⟩ | ⟨a, b, c⟩
  · rw [b] at e; exact absurd e (by decide)
  · rw [b] at e; exact absurd e (by decide)
  · rw [b] at e; exact absurd e (by decide)
  · rw [b] at e; exact absurd e (by decide)
  · rw [b] at e; exact absurd e (by decide)
  · rw [c] at e2; exact absurd e2 (by decide)
  · rw [c] at e2; exact absurd e2 (by decide)
  · exact a
theorem TKR.n59 {k : Int32} {v : Int64} {ch tk kw vl : Int32} {wd : Int64} (h : TKR k v ch tk kw vl wd) (e : ¬ (tk = 4 ∧ ch = 59)) : ¬ k = 7 := by
  rcases h with ⟨a, b⟩ | ⟨a, b⟩ | ⟨a, b, c⟩ | ⟨a, b, c, d⟩ | ⟨j, hj, a, b, c⟩ | ⟨a, b, c⟩ | ⟨a, b, c⟩ | ⟨a, b, c⟩
  · intro z; rw [a] at z; exact absurd z (by decide)
  · intro z; rw [a] at z; exact absurd z (by decide)
  · intro z; rw [a] at z; exact absurd z (by decide)
  · intro z; rw [a] at z; exact absurd z (by decide)
  · intro z; rw [a] at z; exact (kj15 j hj).2.2.2.2.2.2.1 z
  · intro z; rw [a] at z; exact absurd z (by decide)
  · intro z; rw [a] at z; exact absurd z (by decide)
  · exact absurd ⟨b, c⟩ e
theorem TKR.kwd {k : Int32} {v : Int64} {ch tk kw vl : Int32} {wd : Int64} (h : TKR k v ch tk kw vl wd) {n : Nat} (hn : n < 15) (e : tk = 2) (e2 : kw = nI n) : k = nI (8 + n) := by
  rcases h with ⟨a, b⟩ | ⟨a, b⟩ | ⟨a, b, c⟩ | ⟨a, b, c, d⟩ | ⟨j, hj, a, b, c⟩ | ⟨a, b, c⟩ | ⟨a, b, c⟩ | ⟨a, b, c⟩
  · rw [b] at e; exact absurd e (by decide)
  · rw [b] at e; exact absurd e (by decide)
  · rw [b] at e; exact absurd e (by decide)
  · rw [c] at e2; exact absurd e2.symm (kj15 n hn).2.2.2.2.2.2.2
  · rw [c] at e2; rw [a, (nI_eq (by omega) (by omega)).mp e2]
  · rw [b] at e; exact absurd e (by decide)
  · rw [b] at e; exact absurd e (by decide)
  · rw [b] at e; exact absurd e (by decide)
theorem TKR.nkwd {k : Int32} {v : Int64} {ch tk kw vl : Int32} {wd : Int64} (h : TKR k v ch tk kw vl wd) {n : Nat} (hn : n < 15) (e : ¬ (tk = 2 ∧ kw = nI n)) : ¬ k = nI (8 + n) := by
  rcases h with ⟨a, b⟩ | ⟨a, b⟩ | ⟨a, b, c⟩ | ⟨a, b, c, d⟩ | ⟨j, hj, a, b, c⟩ | ⟨a, b, c⟩ | ⟨a, b, c⟩ | ⟨a, b, c⟩
  · intro z; rw [a] at z; exact (kj15 n hn).1 z.symm
  · intro z; rw [a] at z; exact (kj15 n hn).2.1 z.symm
  · intro z; rw [a] at z; exact (kj15 n hn).2.2.1 z.symm
  · intro z; rw [a] at z; exact (kj15 n hn).2.2.2.1 z.symm
  · intro z; rw [a] at z; have q := (nI_eq (by omega) (by omega)).mp z; exact e ⟨b, by rw [c, show j = n by omega]⟩
  · intro z; rw [a] at z; exact (kj15 n hn).2.2.2.2.1 z.symm
  · intro z; rw [a] at z; exact (kj15 n hn).2.2.2.2.2.1 z.symm
  · intro z; rw [a] at z; exact (kj15 n hn).2.2.2.2.2.2.1 z.symm
theorem TKR.word {f : Nat → Int64} {k : Int32} {v : Int64} (ch : Int32) {kw : Int32} (vl : Int32) {wd : Int64} (hk : KW 15 f) (h : (kw = -1 ∧ ∀ j, j < 15 → f j ≠ wd) ∨ ∃ n, n < 15 ∧ kw = nI n ∧ f n = wd) (ew : wd = v) (e : k = kwm 15 4 v) : TKR k v ch 2 kw vl wd := by
  subst ew
  rcases h with ⟨h1, h2⟩ | ⟨n, h1, h2, h3⟩
  · refine Or.inr (Or.inr (Or.inr (Or.inl ⟨?_, rfl, h1, rfl⟩)))
    rw [e]
    exact kwm_none 15 (fun j hj q => h2 j hj (by rw [hk j hj]; exact q))
  · refine Or.inr (Or.inr (Or.inr (Or.inr (Or.inl ⟨n, h1, ?_, rfl, h2⟩))))
    rw [e, ← h3, hk n h1]
    exact kwm_hit n h1
/-- the letters from a up to i -/
def Wlq (t : Nat → Int32) (a i : Nat) (w : Int64) : Prop := i - a ≤ 9 → w = wv t a (i - a)
theorem Wlq.zero (t : Nat → Int32) (a : Nat) : Wlq t a a 0 := fun _ => by rw [Nat.sub_self]; rfl
theorem Wlq.step {t : Nat → Int32} {n a i : Nat} {u y1 y2 y3 : Int64} (h : Wlq t a i u) (hai : a ≤ i) (hn : i < n) (e1 : y1 = 32 * u) (e2 : y2 = y1 + (bta t n i).toInt64) (e3 : y3 = y2 - 96) : Wlq t a (i + 1) y3 := fun q => by
  rw [e3, e2, e1, h (by omega), bt_in hn, show i + 1 - a = (i - a) + 1 by omega]
  show _ = 32 * wv t a (i - a) + (t (a + (i - a))).toInt64 - 96
  rw [show a + (i - a) = i by omega]
theorem Wlq.far {t : Nat → Int32} {a i : Nat} {u : Int64} (h : a + 9 ≤ i) : Wlq t a (i + 1) u := fun q => by omega
/-- the digits from a up to i -/
def Dq (t : Nat → Int32) (a i : Nat) (u : Int32) : Prop := i - a ≤ 5 → ∃ x, x < 10 ^ (i - a) ∧ u = nI x ∧ dv t a (i - a) = lN x
theorem Dq.zero (t : Nat → Int32) (a : Nat) : Dq t a a 0 := fun _ => ⟨0, by rw [Nat.sub_self]; decide, rfl, by rw [Nat.sub_self]; rfl⟩
theorem ckd_d {c : Int32} (h : ckd c = 3) : ∃ m, 48 ≤ m ∧ m ≤ 57 ∧ c = nI m := by
  have hc := ckd_3.mp h
  exact btw_c (m := c) (lo := 48) (hi := 57) (lo' := 48) (hi' := 57) (by decide) (by decide) (by rw [Int64.le_iff_toInt_le, Int32.toInt_toInt64]; have := Int32.le_iff_toInt_le.mp hc.1; exact this) (by rw [Int64.le_iff_toInt_le, Int32.toInt_toInt64]; have := Int32.le_iff_toInt_le.mp hc.2; exact this)
theorem Dq.step {t : Nat → Int32} {n a i : Nat} {u y1 y2 y3 : Int32} (h : Dq t a i u) (hai : a ≤ i) (hn : i < n) (hd : ckd (t i) = 3) (e1 : y1 = 10 * u) (e2 : y2 = y1 + bta t n i) (e3 : y3 = y2 - 48) : Dq t a (i + 1) y3 := fun q => by
  obtain ⟨x, x1, x2, x3⟩ := h (by omega)
  obtain ⟨m, m1, m2, em⟩ := ckd_d hd
  refine ⟨10 * x + (m - 48), ?_, ?_, ?_⟩
  · rw [show i + 1 - a = (i - a) + 1 by omega, Nat.pow_succ]
    omega
  · rw [e3, e2, e1, x2, bt_in hn, em, show (10 : Int32) = nI 10 from rfl, show (48 : Int32) = nI 48 from rfl, nI_mul, nI_add, nI_sub (by omega)]
    congr 1
    omega
  · rw [show i + 1 - a = (i - a) + 1 by omega]
    show dv t a (i - a) * 10 + (t (a + (i - a)) - 48).toInt64 = _
    rw [show a + (i - a) = i by omega, x3, em, show (48 : Int32) = nI 48 from rfl, nI_sub m1, nI_l (by omega), show (10 : Int64) = lN 10 from rfl, lN_mul, lN_add]
    congr 1
    omega
theorem Dq.far {t : Nat → Int32} {a i : Nat} {u : Int32} (h : a + 5 ≤ i) : Dq t a (i + 1) u := fun q => by omega
theorem Dq.num {t : Nat → Int32} {a b : Nat} {u : Int32} {v : Int64} {k ch kw : Int32} {wd : Int64} (h : Dq t a b u) (hb : b - a ≤ 5) (ev : v = dv t a (b - a)) (ek : k = 3) : TKR k v ch 3 kw u wd := by
  obtain ⟨x, x1, x2, x3⟩ := h hb
  refine Or.inr (Or.inr (Or.inl ⟨ek, rfl, ?_⟩))
  have hx : x < 2 ^ 31 := Nat.lt_of_lt_of_le x1 (Nat.le_trans (Nat.pow_le_pow_right (by decide) hb) (by decide))
  rw [ev, x3, x2, nI_l hx]
theorem TKR.k4 {k : Int32} {v : Int64} {ch tk kw vl : Int32} {wd : Int64} (h : TKR k v ch tk kw vl wd) (e : tk = 4) : k ≠ 1 := by
  rcases h with ⟨a, b⟩ | ⟨a, b⟩ | ⟨a, b, c⟩ | ⟨a, b, c, d⟩ | ⟨j, hj, a, b, c⟩ | ⟨a, b, c⟩ | ⟨a, b, c⟩ | ⟨a, b, c⟩
  · rw [b] at e; exact absurd e (by decide)
  · rw [b] at e; exact absurd e (by decide)
  · rw [b] at e; exact absurd e (by decide)
  · rw [b] at e; exact absurd e (by decide)
  · rw [b] at e; exact absurd e (by decide)
  · rw [a]; decide
  · rw [a]; decide
  · rw [a]; decide
theorem TKR.wd {k : Int32} {v : Int64} {ch tk kw vl : Int32} {wd : Int64} (h : TKR k v ch tk kw vl wd) (e : k = 4) : wd = v := by
  rcases h with ⟨a, b⟩ | ⟨a, b⟩ | ⟨a, b, c⟩ | ⟨a, b, c, d⟩ | ⟨j, hj, a, b, c⟩ | ⟨a, b, c⟩ | ⟨a, b, c⟩ | ⟨a, b, c⟩
  · rw [a] at e; exact absurd e (by decide)
  · rw [a] at e; exact absurd e (by decide)
  · rw [a] at e; exact absurd e (by decide)
  · exact d
  · rw [a] at e; exact absurd e (kj15 j hj).2.2.2.1
  · rw [a] at e; exact absurd e (by decide)
  · rw [a] at e; exact absurd e (by decide)
  · rw [a] at e; exact absurd e (by decide)
theorem TKR.fk {k : Int32} {v : Int64} {ch tk kw vl : Int32} {wd : Int64} (h : TKR k v ch tk kw vl wd) (e : tk = 1) (a : Int32) : (1 : Int32) = fek k a := fek_2 (h.ill e) a
theorem TKR.fn {k : Int32} {v : Int64} {ch tk kw vl : Int32} {wd : Int64} (h : TKR k v ch tk kw vl wd) (e : ¬ tk = 1) (a : Int32) : a = fek k a := fek_n (h.nill e) a
theorem TX.s {t : Nat → Int32} {n ct i : Nat} {P R : Nat → Nat} {S K : Nat → Int32} {V : Nat → Int64} (h : TX t n ct P R S V K) (hi : i < ct) : nI (P i) = S i := ((h.2.2.2 i hi).1).symm
theorem TX.t {t : Nat → Int32} {n ct i : Nat} {P R : Nat → Nat} {S K : Nat → Int32} {V : Nat → Int64} (h : TX t n ct P R S V K) (hi : i < ct) : Tn t n (R i) (P i) (R (i + 1)) (K i) (V i) := (h.2.2.2 i hi).2.1
theorem nm_ok2 {lo hi : Nat} {k : Int32} {v u : Int64} (hk : k = 3) (ev : v = u) (hl : lo < 2147483648) (hh : hi < 2147483648) (h : (nI lo).toInt64 ≤ u ∧ u ≤ (nI hi).toInt64) : nmE (lN lo) (lN hi) k v = none := by
  rw [nI_l hl, nI_l hh, ← ev] at h
  unfold nmE
  rw [if_pos hk, if_pos h]
theorem nm_no2 {lo hi : Nat} {k : Int32} {v u : Int64} (hk : k = 3) (ev : v = u) (hl : lo < 2147483648) (hh : hi < 2147483648) (h : ¬ ((nI lo).toInt64 ≤ u ∧ u ≤ (nI hi).toInt64)) : nmE (lN lo) (lN hi) k v = some 3 := by
  rw [nI_l hl, nI_l hh, ← ev] at h
  unfold nmE
  rw [if_pos hk, if_neg h]
theorem i64_36 {v : Int64} {u : Int32} (ev : v = u.toInt64) (n : Nat) (hn : n < 2147483648) : v = lN n ↔ u = nI n := by
  rw [ev, ← nI_l hn]
  constructor
  · intro q
    have := congrArg Int64.toInt q
    rw [Int32.toInt_toInt64, Int32.toInt_toInt64] at this
    exact Int32.toInt_inj.mp this
  · intro q; rw [q]
theorem TKR.n2 {k : Int32} {v : Int64} {ch tk kw vl : Int32} {wd : Int64} (h : TKR k v ch tk kw vl wd) (e : ¬ tk = 2) (lo hi : Int32) (hl : 8 ≤ lo) : ¬ (lo ≤ k ∧ k ≤ hi) := fun q => by
  have q8 : (8 : Int32) ≤ k := Int32.le_trans hl q.1
  rcases h with ⟨a, b⟩ | ⟨a, b⟩ | ⟨a, b, c⟩ | ⟨a, b, c, d⟩ | ⟨j, hj, a, b, c⟩ | ⟨a, b, c⟩ | ⟨a, b, c⟩ | ⟨a, b, c⟩
  · rw [a] at q8; exact absurd q8 (by decide)
  · rw [a] at q8; exact absurd q8 (by decide)
  · rw [a] at q8; exact absurd q8 (by decide)
  · rw [a] at q8; exact absurd q8 (by decide)
  · exact e b
  · rw [a] at q8; exact absurd q8 (by decide)
  · rw [a] at q8; exact absurd q8 (by decide)
  · rw [a] at q8; exact absurd q8 (by decide)
/-- a word that is none of lo to hi -/
theorem TKR.nsw {k : Int32} {v : Int64} {ch tk kw vl : Int32} {wd : Int64} (h : TKR k v ch tk kw vl wd) (lo hi : Nat) (hh : hi < 15 ∧ lo ≤ hi) (e : ∀ n, lo ≤ n → n ≤ hi → ¬ kw = nI n) : ¬ (nI (8 + lo) ≤ k ∧ k ≤ nI (8 + hi)) := fun q => by
  obtain ⟨hh, hl⟩ := hh
  have q8 : (8 : Int32) ≤ nI (8 + lo) := nI_le (a := 8) (b := 8 + lo) (by omega) (by omega)
  have q9 := Int32.le_trans q8 q.1
  rcases h with ⟨a, b⟩ | ⟨a, b⟩ | ⟨a, b, c⟩ | ⟨a, b, c, d⟩ | ⟨j, hj, a, b, c⟩ | ⟨a, b, c⟩ | ⟨a, b, c⟩ | ⟨a, b, c⟩
  · rw [a] at q9; exact absurd q9 (by decide)
  · rw [a] at q9; exact absurd q9 (by decide)
  · rw [a] at q9; exact absurd q9 (by decide)
  · rw [a] at q9; exact absurd q9 (by decide)
  · rw [a] at q
    have z1 := (nI_leI (a := 8 + lo) (b := 8 + j) (by omega) (by omega)).mp q.1
    have z2 := (nI_leI (a := 8 + j) (b := 8 + hi) (by omega) (by omega)).mp q.2
    exact e j (by omega) (by omega) c
  · rw [a] at q9; exact absurd q9 (by decide)
  · rw [a] at q9; exact absurd q9 (by decide)
  · rw [a] at q9; exact absurd q9 (by decide)
def CpL (n : Nat) (f g : Nat → Int64) : Prop := ∀ j, j < n → g j = f j
theorem CpL.zero (f g : Nat → Int64) : CpL 0 f g := fun j h => absurd h (Nat.not_lt_zero j)
theorem CpL.step {n : Nat} {f g : Nat → Int64} (h : CpL n f g) (hn : n < 2147483648) : CpL (n + 1) f (vp_updL g (nI n).toNatClampNeg (f n)) := fun j hj => by
  rw [nI_clamp hn]
  by_cases q : j = n
  · subst q; exact if_pos rfl
  · exact (if_neg q).trans (h j (by omega))
theorem NL.cp {ml : List Int64} {n m : Nat} {f g : Nat → Int64} (h : NL ml n f) (hn : n ≤ m) (hc : CpL m f g) : NL ml n g := h.keep (fun k hk => hc k (by omega))
/-- a byte of an int -/
def Rbb {α : Type} (f : Nat → α) : Prop := f = f
def bw (w sh : Int32) : Int32 := (w.toUInt32 >>> (sh.toUInt32 &&& Int32.toUInt32 31)).toInt32 &&& 255
theorem andb9 (x : Int32) : ∃ n, n < 256 ∧ x &&& 255 = nI n := by
  obtain ⟨k, hk, ek⟩ := pk_andE x (m := 255) 8 (by decide)
  exact ⟨k, hk, ek⟩
theorem bw_n (w sh : Int32) : ∃ n, n < 256 ∧ bw w sh = nI n := andb9 _
theorem ch255 : ∀ n, n < 256 → vp_nar .char (((nI n).toUInt32 % 65536).toInt32) = nI n := by decide +kernel
theorem bw_c {w sh y1 y2 y3 : Int32} (e1 : y1 = (w.toUInt32 >>> (sh.toUInt32 &&& Int32.toUInt32 31)).toInt32) (e2 : y2 = y1 &&& 255) (e3 : y3 = (y2.toUInt32 % 65536).toInt32) : vp_nar .char y3 = bw w sh := by
  obtain ⟨n, hn, en⟩ := andb9 y1
  rw [e3, e2, en, ch255 n hn, ← en, e1]
  rfl
theorem bw_i {w sh y1 y2 : Int32} (e1 : y1 = (w.toUInt32 >>> (sh.toUInt32 &&& Int32.toUInt32 31)).toInt32) (e2 : y2 = y1 &&& 255) : y2 = bw w sh := by
  rw [e2, e1]
  rfl
def A4 (n : Nat) (w : Int32) (f g : Nat → Int32) : Prop := g = upd (upd (upd (upd f n (bw w 24)) (n + 1) (bw w 16)) (n + 2) (bw w 8)) (n + 3) (bw w 0)
theorem A4.of {n : Nat} {w v1 v2 v3 v4 : Int32} {f g1 g2 g3 g4 : Nat → Int32} (h1 : Upp n v1 f g1) (h2 : Upp (n + 1) v2 g1 g2) (h3 : Upp (n + 2) v3 g2 g3) (h4 : Upp (n + 3) v4 g3 g4) (e1 : v1 = bw w 24) (e2 : v2 = bw w 16) (e3 : v3 = bw w 8) (e4 : v4 = bw w 0) : A4 n w f g4 := by
  unfold A4
  unfold Upp at h1 h2 h3 h4
  rw [h4, h3, h2, h1, e1, e2, e3, e4]
/-- the bytes of both buffers -/
def Byq (n : Nat) (f g : Nat → Int32) : Prop := ∀ j, j < n → f j = g j ∧ ¬ g j < 0
theorem Byq.zero (f g : Nat → Int32) : Byq 0 f g := fun j h => absurd h (Nat.not_lt_zero j)
theorem Byq.up {n : Nat} {w sh : Int32} {f g : Nat → Int32} (h : Byq n f g) : Byq (n + 1) (upd f n (bw w sh)) (upd g n (bw w sh)) := fun j hj => by
  by_cases q : j = n
  · subst q
    rw [pk_us, pk_us]
    obtain ⟨k, hk, e⟩ := bw_n w sh
    exact ⟨rfl, by rw [e]; exact nI_pos (by omega)⟩
  · rw [pk_un q, pk_un q]; exact h j (by omega)
theorem Byq.a4 {n : Nat} {w : Int32} {f g f2 g2 : Nat → Int32} (h : Byq n f g) (a : A4 n w f f2) (b : A4 n w g g2) : Byq (n + 4) f2 g2 := by
  unfold A4 at a b
  rw [a, b]
  exact (((h.up).up).up).up
def A20 (n : Nat) (w1 w2 w3 w4 w5 : Int32) (f g : Nat → Int32) : Prop := ∃ g1 g2 g3 g4, A4 n w1 f g1 ∧ A4 (n + 4) w2 g1 g2 ∧ A4 (n + 4 + 4) w3 g2 g3 ∧ A4 (n + 4 + 4 + 4) w4 g3 g4 ∧ A4 (n + 4 + 4 + 4 + 4) w5 g4 g
theorem Byq.a20 {n : Nat} {w1 w2 w3 w4 w5 : Int32} {f g f2 g2 : Nat → Int32} (h : Byq n f g) (a : A20 n w1 w2 w3 w4 w5 f f2) (b : A20 n w1 w2 w3 w4 w5 g g2) : Byq (n + 20) f2 g2 := by
  obtain ⟨a1, a2, a3, a4, p1, p2, p3, p4, p5⟩ := a
  obtain ⟨b1, b2, b3, b4, q1, q2, q3, q4, q5⟩ := b
  exact ((((h.a4 p1 q1).a4 p2 q2).a4 p3 q3).a4 p4 q4).a4 p5 q5
theorem TX.bytes {t u : Nat → Int32} {n nb ct : Nat} {P R : Nat → Nat} {S K : Nat → Int32} {V : Nat → Int64} (h : TX t n ct P R S V K) (hb : Byq nb t u) (hn : n ≤ nb) : TX u n ct P R S V K := by
  have e : ∀ j, j < n → u j = t j := fun j hj => ((hb j (by omega)).1).symm
  have hw : ∀ (a m : Nat), a + m ≤ n → wv u a m = wv t a m := by
    intro a m
    induction m with
    | zero => intro _; rfl
    | succ m ih =>
      intro q
      show 32 * wv u a m + (u (a + m)).toInt64 - 96 = 32 * wv t a m + (t (a + m)).toInt64 - 96
      rw [ih (by omega), e (a + m) (by omega)]
  have hd : ∀ (a m : Nat), a + m ≤ n → dv u a m = dv t a m := by
    intro a m
    induction m with
    | zero => intro _; rfl
    | succ m ih =>
      intro q
      show dv u a m * 10 + (u (a + m) - 48).toInt64 = dv t a m * 10 + (t (a + m) - 48).toInt64
      rw [ih (by omega), e (a + m) (by omega)]
  have hT : ∀ a b k v, Tw t n a b k v → Tw u n a b k v := by
    intro a b k v q
    obtain ⟨h1, h2, h3⟩ := q
    refine ⟨h1, h2, ?_⟩
    rcases h3 with ⟨g1, g2, g3⟩ | ⟨g1, g2, g3⟩ | ⟨g0, g1, g2, g3, g4⟩
    · refine Or.inl ⟨fun j j1 j2 => by rw [e j (by omega)]; exact g1 j j1 j2, fun q => by rw [e b q]; exact g2 q, ?_⟩
      rcases g3 with ⟨a1, a2, a3⟩ | g3
      · exact Or.inl ⟨a1, by rw [hw a (b - a) (by omega)]; exact a2, a3⟩
      · exact Or.inr g3
    · refine Or.inr (Or.inl ⟨fun j j1 j2 => by rw [e j (by omega)]; exact g1 j j1 j2, fun q => by rw [e b q]; exact g2 q, ?_⟩)
      rcases g3 with ⟨a1, a2, a3⟩ | g3
      · exact Or.inl ⟨a1, by rw [hd a (b - a) (by omega)]; exact a2, a3⟩
      · exact Or.inr g3
    · have ea := e a (by omega)
      exact Or.inr (Or.inr ⟨g0, by rw [ea]; exact g1, by rw [ea]; exact g2, by rw [ea]; exact g3, by rw [ea]; exact g4⟩)
  obtain ⟨h1, h2, h3, h4⟩ := h
  refine ⟨h1, h2, h3, fun i hi => ?_⟩
  obtain ⟨a1, ⟨b1, b2, b3, b4⟩, a3⟩ := h4 i hi
  refine ⟨a1, ⟨b1, b2, fun j j1 j2 => by rw [e j (by omega)]; exact b3 j j1 j2, ?_⟩, a3⟩
  rcases b4 with b4 | ⟨k0, b4, b5⟩
  · exact Or.inl b4
  · exact Or.inr ⟨k0, hT _ _ _ _ b4, b5⟩
theorem Byq.pos {n nb : Nat} {f g : Nat → Int32} (h : Byq nb f g) (hn : n ≤ nb) : BYn n g := fun j hj => (h j (by omega)).2
theorem NL.ex (n : Nat) (f : Nat → Int64) : ∃ ml, NL ml n f := by
  induction n with
  | zero => exact ⟨[], NL.zero f⟩
  | succ n ih =>
    obtain ⟨ml, h⟩ := ih
    refine ⟨ml ++ [f n], ?_⟩
    have q := NL.put h (f n)
    refine q.keep (fun k hk => ?_)
    show f k = if k = n then f n else f k
    by_cases z : k = n
    · rw [if_pos z, z]
    · rw [if_neg z]
/-- the names of both rows -/
def NLE (n : Nat) (f g : Nat → Int64) : Prop := ∀ k, k < n → f k = g k
theorem NLE.of {ml : List Int64} {n : Nat} {f g : Nat → Int64} (h1 : NL ml n f) (h2 : NL ml n g) : NLE n f g := fun k hk => Option.some.inj ((h1.2 k hk).symm.trans (h2.2 k hk))
def Eqi (a b : Int32) : Prop := a = b
/-- the answer that was put into the long row -/
def OutV (r : Int32) (f : Nat → Int64) : Prop := f 0 = r.toInt64
theorem OutV.of {r : Int32} {f g : Nat → Int64} (h : UppL 0 r.toInt64 f g) : OutV r g := by
  unfold OutV
  unfold UppL at h
  rw [h]
  exact if_pos rfl
theorem NL.n {ml : List Int64} {n m : Nat} {f g : Nat → Int64} (h1 : NL ml n f) (h2 : NL ml m g) : n = m := h1.1.symm.trans h2.1
/-- the word that begins at i, read up to the next space -/
def wfv (bs : List Int32) : Nat → Nat → Int64 → Int64
  | 0, _, v => v
  | n + 1, i, v => if bs.getD i 0 = 32 then v else wfv bs n (i + 1) (32 * v + (bs.getD i 0).toInt64 - 96)
theorem wfv_end {bs : List Int32} {n i : Nat} {v r : Int64} (h : wfv bs (n + 1) i v = r) (c : bs.getD i 0 = 32) : v = r := by
  simp only [wfv] at h
  rw [if_pos c] at h
  exact h
theorem wfv_on {bs : List Int32} {n i : Nat} {v r : Int64} (h : wfv bs (n + 1) i v = r) (c : ¬ bs.getD i 0 = 32) : wfv bs n (i + 1) (32 * v + (bs.getD i 0).toInt64 - 96) = r := by
  simp only [wfv] at h
  rw [if_neg c] at h
  exact h
theorem KW.zero (f : Nat → Int64) : KW 0 f := fun k h => absurd h (Nat.not_lt_zero k)
theorem KW.put {n : Nat} {f : Nat → Int64} (h : KW n f) {v : Int64} (e : v = kwv.getD n 0) : KW (n + 1) (vp_updL f n v) := fun k hk => by
  by_cases q : k = n
  · subst q
    exact pk_uLs.trans e
  · have h1 : vp_updL f n v k = f k := if_neg q
    rw [h1]
    exact h k (by omega)
theorem Zs.ri {f : Nat → Int32} (h : Zs f) : RI 0 0 0 0 f := ⟨h.2 13 (by decide) (by decide), h.2 14 (by decide) (by decide), h.2 15 (by decide) (by decide), h.2 4 (by decide) (by decide), 365, by decide, by decide, h.1⟩
theorem Rng.zero (N B : Nat) (h : 0 < B) : Rng N B (fun _ => 0) := fun _ _ => ⟨0, h, rfl⟩
theorem Bit.zero (N : Nat) : Bit N (fun _ => 0) := fun _ _ => Or.inl rfl
theorem CW.zero (f g : Nat → Int32) : CW 0 f g := fun m h => absurd h (Nat.not_lt_zero m)
theorem Win.zero (p n : Nat) (mp : Nat → Nat) : Win p n 0 mp := fun j hj => absurd hj (Nat.not_lt_zero j)
