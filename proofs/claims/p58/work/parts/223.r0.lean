/-- the numbers of an account's row that matter (all but the fees) -/
def Ab (r s : Nat → Int32) : Prop := ∀ j, j < 86 → j ≠ 9 → s j = r j
theorem Ab.rf (r : Nat → Int32) : Ab r r := fun _ _ _ => rfl
theorem Ab.get {r s : Nat → Int32} (h : Ab r s) {j : Nat} (hj : j < 86) (h9 : j ≠ 9) : s j = r j := h j hj h9
theorem Ab.getI {r s : Nat → Int32} (h : Ab r s) {j : Nat} (hj : j < 86) (h9 : j ≠ 9) : s (nI j).toNatClampNeg = r j := by
  rw [nI_clamp (by omega)]
  exact h j hj h9
theorem Ab.put {r s : Nat → Int32} (h : Ab r s) (k : Nat) (v : Int32) : Ab (upd r k v) (upd s k v) := fun j hj h9 => by
  by_cases e : j = k
  · subst e; rw [pk_us, pk_us]
  · rw [pk_un e, pk_un e]; exact h j hj h9
theorem Ab.putI {r s : Nat → Int32} (h : Ab r s) {k : Nat} (hk : k < 2147483648) (v : Int32) : Ab (upd r k v) (upd s (nI k).toNatClampNeg v) := by
  rw [nI_clamp hk]
  exact h.put k v
theorem Ab.far {r s : Nat → Int32} (h : Ab r s) {k : Nat} (hk : k < 2147483648) (v : Int32) (h86 : 86 ≤ k) : Ab r (upd s (nI k).toNatClampNeg v) := fun j hj h9 => by
  rw [nI_clamp hk, pk_un (by omega)]
  exact h j hj h9
theorem Ab.fee {r s : Nat → Int32} (h : Ab r s) (v : Int32) : Ab r (upd s 9 v) := fun j hj h9 => by
  rw [pk_un h9]
  exact h j hj h9
theorem Ab.tr {a b c : Nat → Int32} (h : Ab a b) (g : Ab b c) : Ab a c := fun j hj h9 => (g j hj h9).trans (h j hj h9)
theorem Ab.sy {a b : Nat → Int32} (h : Ab a b) : Ab b a := fun j hj h9 => (h j hj h9).symm
theorem Ab.cp {r s t : Nat → Int32} (h : Ab r s) (c : Cp 326 s t) : Ab r t := fun j hj h9 => (c j (by omega)).trans (h j hj h9)
/-- how many entries are kept behind an entry of x -/
def entN (k : Nat) (x : Int32) : Nat := if x = 0 then k else min (k + 1) 60
def eN (r : Nat → Int32) : Nat := (r 15).toNatClampNeg
theorem eN_of {r : Nat → Int32} {k : Nat} (h : r 15 = nI k) (hk : k < 2147483648) : eN r = k := by
  unfold eN
  rw [h, nI_clamp hk]
def entR (x : Int32) (r : Nat → Int32) : Nat → Int32 := if x = 0 then r else upd r 15 (nI (min (eN r + 1) 60))
theorem entR_n {x : Int32} {r : Nat → Int32} {j : Nat} (h : j ≠ 15) : entR x r j = r j := by
  unfold entR
  by_cases q : x = 0
  · rw [if_pos q]
  · rw [if_neg q, pk_un h]
theorem entR_0 {r s : Nat → Int32} (h : Ab r s) : Ab (entR 0 r) s := by
  unfold entR
  rw [if_pos rfl]
  exact h
theorem entR_1 {x : Int32} {r s : Nat → Int32} {k : Nat} (h0 : ¬ x = 0) (e : r 15 = nI k) (hk : k ≤ 60) (h : Ab (upd r 15 (nI (min (k + 1) 60))) s) : Ab (entR x r) s := by
  unfold entR
  rw [if_neg h0, eN_of e (by omega)]
  exact h
theorem entR_e {x : Int32} {r : Nat → Int32} {k : Nat} (e : r 15 = nI k) (hk : k ≤ 60) : entR x r 15 = nI (entN k x) := by
  unfold entR entN
  by_cases q : x = 0
  · rw [if_pos q, if_pos q]; exact e
  · rw [if_neg q, if_neg q, pk_us, eN_of e (by omega)]
/-- a payment of x for milestone m -/
def mkP (m : Nat) (x : Int32) (r : Nat → Int32) : Nat → Int32 := entR x (upd (upd (upd r 6 (r 6 - x)) 10 (r 10 + x)) (16 + 7 * m + 1) (r (16 + 7 * m + 1) + x))
def refR (x : Int32) (r : Nat → Int32) : Nat → Int32 := entR x (upd (upd r 6 (r 6 - x)) 11 (r 11 + x))
def remR (r : Nat → Int32) (m : Nat) : Int32 := if 3 ≤ r (16 + 7 * m + 2) then 0 else r (16 + 7 * m + 0) - r (16 + 7 * m + 1)
theorem remR_0 {r : Nat → Int32} {m : Nat} (h : 3 ≤ r (16 + 7 * m + 2)) : remR r m = 0 := if_pos h
theorem remR_1 {r : Nat → Int32} {m : Nat} (h : ¬ 3 ≤ r (16 + 7 * m + 2)) : remR r m = r (16 + 7 * m + 0) - r (16 + 7 * m + 1) := if_neg h
/-- the available money, the first n milestones' frozen amounts taken away -/
def avR (r : Nat → Int32) : Nat → Int32
  | 0 => r 6
  | n + 1 => avR r n - r (16 + 7 * n + 3)
/-- the set of the milestones that are done -/
def dnB (v : Int32) : Prop := v = 3 ∨ v = 4
def doR (r : Nat → Int32) : Nat → Int32
  | 0 => 0
  | n + 1 => doR r n ||| (if r (16 + 7 * n + 2) = 3 ∨ r (16 + 7 * n + 2) = 4 then (1 : Int32) <<< (nI n &&& 31) else 0)
theorem doR_y {r : Nat → Int32} {n : Nat} (h : r (16 + 7 * n + 2) = 3 ∨ r (16 + 7 * n + 2) = 4) : doR r (n + 1) = doR r n ||| (1 : Int32) <<< (nI n &&& 31) := by
  rw [doR, if_pos h]
theorem doR_n {r : Nat → Int32} {n : Nat} (h : ¬ (r (16 + 7 * n + 2) = 3 ∨ r (16 + 7 * n + 2) = 4)) : doR r (n + 1) = doR r n ||| 0 := by
  rw [doR, if_neg h]
def clR (m : Nat) (r : Nat → Int32) : Nat → Int32 := if remR r m = 0 then upd r (16 + 7 * m + 2) 3 else r
def minI (a b : Int32) : Int32 := if b < a then b else a
abbrev ripe (r : Nat → Int32) (m : Nat) : Prop := r (16 + 7 * m + 2) = 1 ∧ r (16 + 7 * m + 4) + r 3 ≤ r 4
/-- a step of the day's payments -/
def pstep (n m : Nat) (r : Nat → Int32) : Nat → Int32 := if ripe r m ∧ 0 < minI (remR r m) (avR r n) then clR m (mkP m (minI (remR r m) (avR r n)) r) else r
theorem pstep_y {n m : Nat} {r : Nat → Int32} (h : ripe r m) (h2 : 0 < minI (remR r m) (avR r n)) : pstep n m r = clR m (mkP m (minI (remR r m) (avR r n)) r) := if_pos ⟨h, h2⟩
theorem pstep_n {n m : Nat} {r : Nat → Int32} (h : ¬ (ripe r m ∧ 0 < minI (remR r m) (avR r n))) : pstep n m r = r := if_neg h
/-- the first k places of an order, one after the other -/
def pays (n : Nat) (o : Nat → Nat) (r : Nat → Int32) : Nat → Nat → Int32
  | 0 => r
  | k + 1 => pstep n (o k) (pays n o r k)
/-- bit v of a set -/
abbrev btQ (s v : Int32) : Prop := (s >>> (v &&& 31)) &&& 1 = 1
/-- a fact of a condition -/
abbrev fcP (r : Nat → Int32) (m : Nat) (a b d x y : Int32) : Prop := (a = 0 ∧ b ≤ d) ∨ (a = 1 ∧ btQ x b) ∨ (a = 2 ∧ btQ y b) ∨ (a = 3 ∧ b ≤ r 10) ∨ (a = 4 ∧ r (16 + 7 * m + 5) = 1) ∨ (a ≠ 0 ∧ a ≠ 1 ∧ a ≠ 2 ∧ a ≠ 3 ∧ a ≠ 4)
def hdF (r : Nat → Int32) (m : Nat) (d x y c : Int32) : Bool := decide (fcP r m (c / 100000) (c - c / 100000 * 100000) d x y)
/-- a code's step over the values that wait -/
def stp (F : Int32 → Bool) (c : Int32) (st : List Bool) : List Bool :=
  if c = -3 then (match st with | b :: t => (!b) :: t | [] => [])
  else if c < 0 then (match st with | b :: a :: t => (if c = -1 then a && b else a || b) :: t | _ => [])
  else F c :: st
def evf (F : Int32 → Bool) (f : Nat → Int32) : Nat → Nat → List Bool → List Bool
  | 0, _, st => st
  | n + 1, k, st => evf F f n (k + 1) (stp F (f k) st)
def bI (b : Bool) : Int32 := if b = true then 1 else 0
/-- the condition of milestone m -/
def hdV (F : Int32 → Bool) (f : Nat → Int32) (q : Nat → Nat) (m : Nat) : Bool := (evf F f (q (m + 1) - q m) (q m) []).headD false
/-- n codes from k on: how many values wait behind them, never none where one is wanted, never more than 31 -/
def dpf (f : Nat → Int32) : Nat → Nat → Nat → Option Nat
  | 0, _, d => some d
  | n + 1, k, d => if f k = -3 then (if 1 ≤ d then dpf f n (k + 1) d else none) else if f k < 0 then (if 2 ≤ d then dpf f n (k + 1) (d - 1) else none) else if d < 31 then dpf f n (k + 1) (d + 1) else none
/-- the conditions: codes f, milestone m's from q m to q (m + 1) -/
def CQ (n : Nat) (f : Nat → Int32) (q : Nat → Nat) : Prop := q 0 = 0 ∧ ∀ m, m < n → q m ≤ q (m + 1) ∧ q (m + 1) ≤ 350 ∧ dpf f (q (m + 1) - q m) (q m) 0 = some 1
/-- the values that wait, in the reference's row -/
def Stk : List Bool → (Nat → Int32) → Prop
  | [], _ => True
  | b :: t, f => f t.length = bI b ∧ Stk t f
theorem Stk.cp : ∀ {st : List Bool} {f g : Nat → Int32}, Stk st f → (∀ j, j < st.length → g j = f j) → Stk st g
  | [], _, _, _, _ => trivial
  | b :: t, f, g, h, k => ⟨(k t.length (by simp)).trans h.1, Stk.cp h.2 (fun j hj => k j (by simp; omega))⟩
theorem Stk.push {st : List Bool} {f : Nat → Int32} (h : Stk st f) (b : Bool) : Stk (b :: st) (upd f st.length (bI b)) := ⟨pk_us, h.cp (fun j hj => pk_un (by omega))⟩
theorem Stk.top {b : Bool} {st : List Bool} {f : Nat → Int32} (h : Stk (b :: st) f) : f st.length = bI b := h.1
/-- one milestone becomes due, if its condition holds -/
def dstep (f : Nat → Int32) (q : Nat → Nat) (dn : Int32) (m : Nat) (r : Nat → Int32) : Nat → Int32 := if r (16 + 7 * m + 2) = 0 ∧ hdV (hdF r m (r 4) (r 12) dn) f q m = true then upd (upd r (16 + 7 * m + 2) 1) (16 + 7 * m + 4) (r 4) else r
def dues (f : Nat → Int32) (q : Nat → Nat) (dn : Int32) (r : Nat → Int32) : Nat → Nat → Int32
  | 0 => r
  | k + 1 => dstep f q dn k (dues f q dn r k)
def Rdk {α : Type} (f : Nat → α) : Prop := f = f
def Rde {α : Type} (f : Nat → α) : Prop := f = f
def Rdl {α : Type} (f : Nat → α) : Prop := f = f
def Rcp {α : Type} (f : Nat → α) : Prop := f = f
theorem Ab.tw {r s : Nat → Int32} {k : Nat} {v w : Int32} (h : Ab (upd (upd r k v) k w) s) : Ab (upd r k w) s := fun j hj h9 => by
  rw [h j hj h9]
  by_cases e : j = k
  · subst e; rw [pk_us, pk_us]
  · rw [pk_un e, pk_un e, pk_un e]
def Avq (r : Nat → Int32) (i : Nat) (v : Int32) : Prop := v = avR r i
theorem Avq.zero (r : Nat → Int32) : Avq r 0 (r 6) := rfl
theorem Avq.step {r : Nat → Int32} {i : Nat} {v : Int32} (h : Avq r i v) : Avq r (i + 1) (v - r (16 + 7 * i + 3)) := by
  unfold Avq at h ⊢
  rw [h]
  rfl
def Doq (r : Nat → Int32) (i : Nat) (v : Int32) : Prop := v = doR r i
theorem Doq.zero (r : Nat → Int32) : Doq r 0 0 := rfl
theorem Doq.yes {r : Nat → Int32} {i : Nat} {v : Int32} (h : Doq r i v) (c : r (16 + 7 * i + 2) = 3 ∨ r (16 + 7 * i + 2) = 4) : Doq r (i + 1) (v ||| (1 : Int32) <<< (nI i &&& 31)) := by
  unfold Doq at h ⊢
  rw [doR_y c, h]
theorem Doq.no {r : Nat → Int32} {i : Nat} {v : Int32} (h : Doq r i v) (c : ¬ (r (16 + 7 * i + 2) = 3 ∨ r (16 + 7 * i + 2) = 4)) : Doq r (i + 1) (v ||| 0) := by
  unfold Doq at h ⊢
  rw [doR_n c, h]
theorem fc_0 {r : Nat → Int32} {m : Nat} {a b d x y : Int32} (h : a = 0) : fcP r m a b d x y ↔ b ≤ d := by
  subst h
  refine ⟨fun q => ?_, fun q => Or.inl ⟨rfl, q⟩⟩
  rcases q with q | q | q | q | q | q
  · exact q.2
  · exact absurd q.1 (by decide)
  · exact absurd q.1 (by decide)
  · exact absurd q.1 (by decide)
  · exact absurd q.1 (by decide)
  · exact absurd rfl q.1
theorem fc_1 {r : Nat → Int32} {m : Nat} {a b d x y : Int32} (h : a = 1) : fcP r m a b d x y ↔ btQ x b := by
  subst h
  refine ⟨fun q => ?_, fun q => Or.inr (Or.inl ⟨rfl, q⟩)⟩
  rcases q with q | q | q | q | q | q
  · exact absurd q.1 (by decide)
  · exact q.2
  · exact absurd q.1 (by decide)
  · exact absurd q.1 (by decide)
  · exact absurd q.1 (by decide)
  · exact absurd rfl q.2.1
theorem fc_2 {r : Nat → Int32} {m : Nat} {a b d x y : Int32} (h : a = 2) : fcP r m a b d x y ↔ btQ y b := by
  subst h
  refine ⟨fun q => ?_, fun q => Or.inr (Or.inr (Or.inl ⟨rfl, q⟩))⟩
  rcases q with q | q | q | q | q | q
  · exact absurd q.1 (by decide)
  · exact absurd q.1 (by decide)
  · exact q.2
  · exact absurd q.1 (by decide)
  · exact absurd q.1 (by decide)
  · exact absurd rfl q.2.2.1
theorem fc_3 {r : Nat → Int32} {m : Nat} {a b d x y : Int32} (h : a = 3) : fcP r m a b d x y ↔ b ≤ r 10 := by
  subst h
  refine ⟨fun q => ?_, fun q => Or.inr (Or.inr (Or.inr (Or.inl ⟨rfl, q⟩)))⟩
  rcases q with q | q | q | q | q | q
  · exact absurd q.1 (by decide)
  · exact absurd q.1 (by decide)
  · exact absurd q.1 (by decide)
  · exact q.2
  · exact absurd q.1 (by decide)
  · exact absurd rfl q.2.2.2.1
theorem fc_4 {r : Nat → Int32} {m : Nat} {a b d x y : Int32} (h : a = 4) : fcP r m a b d x y ↔ r (16 + 7 * m + 5) = 1 := by
  subst h
  refine ⟨fun q => ?_, fun q => Or.inr (Or.inr (Or.inr (Or.inr (Or.inl ⟨rfl, q⟩))))⟩
  rcases q with q | q | q | q | q | q
  · exact absurd q.1 (by decide)
  · exact absurd q.1 (by decide)
  · exact absurd q.1 (by decide)
  · exact absurd q.1 (by decide)
  · exact q.2
  · exact absurd rfl q.2.2.2.2
theorem fc_5 {r : Nat → Int32} {m : Nat} {a b d x y : Int32} (h0 : ¬ a = 0) (h1 : ¬ a = 1) (h2 : ¬ a = 2) (h3 : ¬ a = 3) (h4 : ¬ a = 4) : fcP r m a b d x y := Or.inr (Or.inr (Or.inr (Or.inr (Or.inr ⟨h0, h1, h2, h3, h4⟩))))
theorem dpf_at {f : Nat → Int32} {b i d : Nat} (hi : i < b) (h : dpf f (b - i) i d = some 1) : (f i = -3 ∧ 1 ≤ d ∧ dpf f (b - (i + 1)) (i + 1) d = some 1) ∨ (¬ f i = -3 ∧ f i < 0 ∧ 2 ≤ d ∧ dpf f (b - (i + 1)) (i + 1) (d - 1) = some 1) ∨ (¬ f i = -3 ∧ ¬ f i < 0 ∧ d < 31 ∧ dpf f (b - (i + 1)) (i + 1) (d + 1) = some 1) := by
  rw [show b - i = (b - (i + 1)) + 1 by omega, dpf] at h
  by_cases e : f i = -3
  · rw [if_pos e] at h
    by_cases q : 1 ≤ d
    · rw [if_pos q] at h; exact Or.inl ⟨e, q, h⟩
    · rw [if_neg q] at h; exact nomatch h
  · rw [if_neg e] at h
    by_cases e2 : f i < 0
    · rw [if_pos e2] at h
      by_cases q : 2 ≤ d
      · rw [if_pos q] at h; exact Or.inr (Or.inl ⟨e, e2, q, h⟩)
      · rw [if_neg q] at h; exact nomatch h
    · rw [if_neg e2] at h
      by_cases q : d < 31
      · rw [if_pos q] at h; exact Or.inr (Or.inr ⟨e, e2, q, h⟩)
      · rw [if_neg q] at h; exact nomatch h
theorem evf_at {F : Int32 → Bool} {f : Nat → Int32} {b i : Nat} {st : List Bool} (hi : i < b) : evf F f (b - i) i st = evf F f (b - (i + 1)) (i + 1) (stp F (f i) st) := by
  rw [show b - i = (b - (i + 1)) + 1 by omega]
  rfl
/-- the reference's row of values, behind the codes from a to i; b is where the codes end -/
def HB9 (F : Int32 → Bool) (f : Nat → Int32) (a b i tp : Nat) (g : Nat → Int32) : Prop := ∃ st : List Bool, st.length = tp ∧ Stk st g ∧ evf F f (b - i) i st = evf F f (b - a) a [] ∧ dpf f (b - i) i tp = some 1
theorem HB9.zero {F : Int32 → Bool} {f : Nat → Int32} {a b : Nat} {g : Nat → Int32} (h : dpf f (b - a) a 0 = some 1) : HB9 F f a b a 0 g := ⟨[], rfl, trivial, rfl, h⟩
theorem HB9.n1 {F : Int32 → Bool} {f : Nat → Int32} {a b i tp : Nat} {g : Nat → Int32} (h : HB9 F f a b i tp g) (hi : i < b) (e : f i = -3) : 1 ≤ tp := by
  obtain ⟨st, h1, h2, h3, h4⟩ := h
  rcases dpf_at hi h4 with q | q | q
  · exact q.2.1
  · exact absurd e q.1
  · exact absurd e q.1
theorem HB9.n2 {F : Int32 → Bool} {f : Nat → Int32} {a b i tp : Nat} {g : Nat → Int32} (h : HB9 F f a b i tp g) (hi : i < b) (e : ¬ f i = -3) (e2 : f i < 0) : 2 ≤ tp := by
  obtain ⟨st, h1, h2, h3, h4⟩ := h
  rcases dpf_at hi h4 with q | q | q
  · exact absurd q.1 e
  · exact q.2.2.1
  · exact absurd e2 q.2.1
theorem HB9.n3 {F : Int32 → Bool} {f : Nat → Int32} {a b i tp : Nat} {g : Nat → Int32} (h : HB9 F f a b i tp g) (hi : i < b) (e : ¬ f i = -3) (e2 : 0 ≤ f i) : tp < 31 := by
  obtain ⟨st, h1, h2, h3, h4⟩ := h
  rcases dpf_at hi h4 with q | q | q
  · exact absurd q.1 e
  · exact absurd q.2.1 (Int32.not_lt.mpr e2)
  · exact q.2.2.1
theorem bI_nar (b : Bool) : vp_nar .boolean (bI b) = bI b := by cases b <;> rfl
theorem bI_z {b : Bool} {v : Int32} (h : v = bI b) : (v = 0 ↔ b = false) := by
  subst h
  cases b <;> decide
theorem HB9.not {F : Int32 → Bool} {f : Nat → Int32} {a b i tp : Nat} {g g2 : Nat → Int32} {v : Int32} (h : HB9 F f a b i tp g) (hi : i < b) (e : f i = -3) (hv : (¬ g (tp - 1) = 0 ∧ v = 0) ∨ (g (tp - 1) = 0 ∧ v = 1)) (hg : Upp (tp - 1) (vp_nar .boolean v) g g2) : HB9 F f a b (i + 1) tp g2 := by
  obtain ⟨st, h1, h2, h3, h4⟩ := h
  unfold Upp at hg
  rcases dpf_at hi h4 with q | q | q
  · cases st with
    | nil =>
      have := q.2.1
      rw [← h1] at this
      exact absurd this (by decide)
    | cons c t =>
      have hl : t.length + 1 = tp := h1
      have ht : tp - 1 = t.length := by omega
      rw [ht] at hv hg
      have hc := h2.1
      have hvb : v = bI (!c) := by
        rcases hv with ⟨a1, a2⟩ | ⟨a1, a2⟩
        · cases c with
          | true => rw [a2]; rfl
          | false => exact absurd ((bI_z hc).mpr rfl) a1
        · cases c with
          | true => exact absurd ((bI_z hc).mp a1) (by decide)
          | false => rw [a2]; rfl
      refine ⟨(!c) :: t, hl, ⟨?_, ?_⟩, ?_, q.2.2⟩
      · rw [hg, pk_us, hvb, bI_nar]
      · exact h2.2.cp (fun j hj => by rw [hg]; exact pk_un (by omega))
      · rw [← h3, evf_at hi]
        unfold stp
        rw [if_pos e]
  · exact absurd e q.1
  · exact absurd e q.1
theorem HB9.bin {F : Int32 → Bool} {f : Nat → Int32} {a b i tp : Nat} {g g2 : Nat → Int32} {v : Int32} (h : HB9 F f a b i tp g) (hi : i < b) (e : ¬ f i = -3) (e2 : f i < 0)
    (hv : (f i = -1 ∧ ((g (tp - 1 - 1) = 0 ∧ v = 0) ∨ (¬ g (tp - 1 - 1) = 0 ∧ g (tp - 1) = 0 ∧ v = 0) ∨ (¬ g (tp - 1 - 1) = 0 ∧ ¬ g (tp - 1) = 0 ∧ v = 1))) ∨ (¬ f i = -1 ∧ ((¬ g (tp - 1 - 1) = 0 ∧ v = 1) ∨ (g (tp - 1 - 1) = 0 ∧ g (tp - 1) = 0 ∧ v = 0) ∨ (g (tp - 1 - 1) = 0 ∧ ¬ g (tp - 1) = 0 ∧ v = 1))))
    (hg : Upp (tp - 1 - 1) (vp_nar .boolean v) g g2) : HB9 F f a b (i + 1) (tp - 1) g2 := by
  obtain ⟨st, h1, h2, h3, h4⟩ := h
  unfold Upp at hg
  rcases dpf_at hi h4 with q | q | q
  · exact absurd q.1 e
  · match st, h1, h2, h3 with
    | [], h1, h2, h3 => exact absurd (show 2 ≤ 0 by rw [show (0 : Nat) = tp from h1]; exact q.2.2.1) (by decide)
    | [_], h1, h2, h3 => exact absurd (show 2 ≤ 1 by rw [show (1 : Nat) = tp from h1]; exact q.2.2.1) (by decide)
    | c :: d :: t, h1, h2, h3 =>
      have hl : t.length + 1 + 1 = tp := h1
      have ht : tp - 1 = t.length + 1 := by omega
      have ht2 : t.length + 1 - 1 = t.length := by omega
      rw [ht, ht2] at hv hg
      have hc : g (t.length + 1) = bI c := h2.1
      have hd : g t.length = bI d := h2.2.1
      have hvb : v = bI (if f i = -1 then d && c else d || c) := by
        rcases hv with ⟨a0, a1⟩ | ⟨a0, a1⟩
        · rw [if_pos a0]
          rcases a1 with ⟨a1, a2⟩ | ⟨a1, a2, a3⟩ | ⟨a1, a2, a3⟩
          · rw [(bI_z hd).mp a1, a2]; rfl
          · rw [(bI_z hc).mp a2, a3]; cases d <;> rfl
          · cases d with
            | false => exact absurd ((bI_z hd).mpr rfl) a1
            | true => cases c with
              | false => exact absurd ((bI_z hc).mpr rfl) a2
              | true => rw [a3]; rfl
        · rw [if_neg a0]
          rcases a1 with ⟨a1, a2⟩ | ⟨a1, a2, a3⟩ | ⟨a1, a2, a3⟩
          · cases d with
            | false => exact absurd ((bI_z hd).mpr rfl) a1
            | true => rw [a2]; rfl
          · rw [(bI_z hd).mp a1, (bI_z hc).mp a2, a3]; rfl
          · rw [(bI_z hd).mp a1, a3]
            cases c with
            | false => exact absurd ((bI_z hc).mpr rfl) a2
            | true => rfl
      refine ⟨(if f i = -1 then d && c else d || c) :: t, by rw [ht]; rfl, ⟨?_, ?_⟩, ?_, q.2.2.2⟩
      · rw [hg, pk_us, hvb, bI_nar]
      · exact h2.2.2.cp (fun j hj => by rw [hg]; exact pk_un (by omega))
      · rw [← h3, evf_at hi]
        unfold stp
        rw [if_neg e, if_pos e2]
  · exact absurd e2 q.2.1
theorem HB9.push {r : Nat → Int32} {m : Nat} {d x y : Int32} {f : Nat → Int32} {a b i tp : Nat} {g g2 : Nat → Int32} {v : Int32} (h : HB9 (hdF r m d x y) f a b i tp g) (hi : i < b) (e : ¬ f i = -3) (e2 : 0 ≤ f i)
    (hv : (fcP r m (f i / 100000) (f i - f i / 100000 * 100000) d x y ∧ v = 1) ∨ (¬ (fcP r m (f i / 100000) (f i - f i / 100000 * 100000) d x y) ∧ v = 0)) (hg : Upp tp (vp_nar .boolean v) g g2) : HB9 (hdF r m d x y) f a b (i + 1) (tp + 1) g2 := by
  obtain ⟨st, h1, h2, h3, h4⟩ := h
  unfold Upp at hg
  have n2 : ¬ f i < 0 := Int32.not_lt.mpr e2
  rcases dpf_at hi h4 with q | q | q
  · exact absurd q.1 e
  · exact absurd q.2.1 n2
  · have hvb : v = bI (hdF r m d x y (f i)) := by
      unfold hdF
      rcases hv with ⟨a1, a2⟩ | ⟨a1, a2⟩
      · rw [decide_eq_true a1, a2]; rfl
      · rw [decide_eq_false a1, a2]; rfl
    refine ⟨hdF r m d x y (f i) :: st, by rw [← h1]; rfl, ⟨?_, ?_⟩, ?_, q.2.2.2⟩
    · rw [hg, h1, pk_us, hvb, bI_nar]
    · exact h2.cp (fun j hj => by rw [hg]; exact pk_un (by omega))
    · rw [← h3, evf_at hi]
      unfold stp
      rw [if_neg e, if_neg n2]
theorem HB9.fin {F : Int32 → Bool} {f : Nat → Int32} {a b tp : Nat} {g : Nat → Int32} (h : HB9 F f a b b tp g) : g 0 = bI ((evf F f (b - a) a []).headD false) := by
  obtain ⟨st, h1, h2, h3, h4⟩ := h
  rw [Nat.sub_self] at h3 h4
  have e : tp = 1 := Option.some.inj h4
  rw [← h3]
  match st, h1, h2 with
  | [], h1, h2 => exact absurd (show (0 : Nat) = 1 from h1.trans e) (by decide)
  | [c], h1, h2 => exact h2.1
  | c :: d :: t, h1, h2 => exact absurd (h1.trans e) (by simp)
theorem bI_iff {y : Int32} {b : Bool} (h : y = bI b) : (y = 1 ∧ b = true) ∨ (y = 0 ∧ ¬ b = true) := by
  subst h
  cases b
  · exact Or.inr ⟨rfl, by decide⟩
  · exact Or.inl ⟨rfl, rfl⟩
def Elq (n : Nat) (q : Nat → Nat) (f : Nat → Int32) : Prop := ∀ m, m < n → Elem m (q m) f ∧ Elem (m + 1) (q (m + 1)) f
theorem due_n {f : Nat → Int32} {q : Nat → Nat} {dn : Int32} {r s : Nat → Int32} {i : Nat} (h : Ab (dues f q dn r i) s) (hn : ¬ ((dues f q dn r i) (16 + 7 * i + 2) = 0 ∧ hdV (hdF (dues f q dn r i) i ((dues f q dn r i) 4) ((dues f q dn r i) 12) dn) f q i = true)) : Ab (dues f q dn r (i + 1)) s := by
  show Ab (dstep f q dn i (dues f q dn r i)) s
  unfold dstep
  rw [if_neg hn]
  exact h
theorem due_y {f : Nat → Int32} {q : Nat → Nat} {dn : Int32} {r s : Nat → Int32} {i : Nat} (c : (dues f q dn r i) (16 + 7 * i + 2) = 0) (h1 : hdV (hdF (dues f q dn r i) i ((dues f q dn r i) 4) ((dues f q dn r i) 12) dn) f q i = true) (h : Ab (upd (upd (dues f q dn r i) (16 + 7 * i + 2) 1) (16 + 7 * i + 4) ((dues f q dn r i) 4)) s) : Ab (dues f q dn r (i + 1)) s := by
  show Ab (dstep f q dn i (dues f q dn r i)) s
  unfold dstep
  rw [if_pos ⟨c, h1⟩]
  exact h
/-- o comes before m -/
abbrev befR (r : Nat → Int32) (o m : Nat) : Prop := r (16 + 7 * o + 6) < r (16 + 7 * m + 6) ∨ (r (16 + 7 * o + 6) = r (16 + 7 * m + 6) ∧ o < m)
/-- how many due milestones of the first n come before m -/
def dbR (r : Nat → Int32) (m : Nat) : Nat → Nat
  | 0 => 0
  | n + 1 => dbR r m n + (if r (16 + 7 * n + 2) = 1 ∧ befR r n m then 1 else 0)
theorem dbR_le (r : Nat → Int32) (m : Nat) : ∀ n, dbR r m n ≤ n := by
  intro n
  induction n with
  | zero => exact Nat.le_refl 0
  | succ n ih =>
    rw [dbR]
    split <;> omega
def Dbq (r : Nat → Int32) (m i n : Nat) : Prop := n = dbR r m i
theorem Dbq.zero (r : Nat → Int32) (m : Nat) : Dbq r m 0 0 := rfl
theorem Dbq.yes {r : Nat → Int32} {m i n : Nat} (h : Dbq r m i n) (hd : r (16 + 7 * i + 2) = 1) (hb : befR r i m) : Dbq r m (i + 1) (n + 1) := by
  unfold Dbq at h ⊢
  rw [dbR, if_pos ⟨hd, hb⟩, h]
theorem Dbq.no {r : Nat → Int32} {m i n : Nat} (h : Dbq r m i n) (hn : ¬ (r (16 + 7 * i + 2) = 1 ∧ befR r i m)) : Dbq r m (i + 1) (n + 0) := by
  unfold Dbq at h ⊢
  rw [dbR, if_neg hn, h]
def Dwq (r : Nat → Int32) (n k i : Nat) : Prop := ∀ m, m < i → ¬ (r (16 + 7 * m + 2) = 1 ∧ dbR r m n = k)
theorem Dwq.zero (r : Nat → Int32) (n k : Nat) : Dwq r n k 0 := fun m h => absurd h (Nat.not_lt_zero m)
theorem Dwq.step {r : Nat → Int32} {n k i : Nat} (h : Dwq r n k i) (hn : ¬ (r (16 + 7 * i + 2) = 1 ∧ dbR r i n = k)) : Dwq r n k (i + 1) := fun m hm => by
  by_cases e : m = i
  · subst e; exact hn
  · exact h m (by omega)
def DueP (r : Nat → Int32) (m : Nat) : Prop := r (16 + 7 * m + 2) = 1
def DbrP (r : Nat → Int32) (m n k : Nat) : Prop := dbR r m n = k
theorem dbR_lt {r : Nat → Int32} {m : Nat} : ∀ (n : Nat), m < n → dbR r m n < n
  | 0, h => absurd h (Nat.not_lt_zero m)
  | n + 1, h => by
    show dbR r m n + (if r (16 + 7 * n + 2) = 1 ∧ befR r n m then 1 else 0) < n + 1
    by_cases e : m = n
    · subst e
      rw [if_neg (fun q => q.2.elim (fun z => absurd z Int32.lt_irrefl) (fun z => absurd z.2 (Nat.lt_irrefl m)))]
      have := dbR_le r m m
      omega
    · have := dbR_lt (r := r) (m := m) n (by omega)
      by_cases c : r (16 + 7 * n + 2) = 1 ∧ befR r n m
      · rw [if_pos c]; omega
      · rw [if_neg c]; omega
theorem DbrP.lt {r : Nat → Int32} {m n k : Nat} (hm : m < n) (h : DbrP r m n k) : k < n := by
  unfold DbrP at h
  rw [← h]
  exact dbR_lt n hm
def Orq (r : Nat → Int32) (n M : Nat) (o : Nat → Int32) : Prop := ∀ k, k < M → ∃ m, m < n ∧ o k = nI m ∧ DueP r m ∧ DbrP r m n k
theorem Orq.zero (r : Nat → Int32) (n : Nat) (o : Nat → Int32) : Orq r n 0 o := fun k h => absurd h (Nat.not_lt_zero k)
theorem Orq.step {r : Nat → Int32} {n M m : Nat} {o o2 : Nat → Int32} (h : Orq r n M o) (hu : Upp M (nI m) o o2) (hm : m < n) (hd : DueP r m) (hb : DbrP r m n M) : Orq r n (M + 1) o2 := fun k hk => by
  unfold Upp at hu
  by_cases e : k = M
  · subst e; exact ⟨m, hm, by rw [hu]; exact pk_us, hd, hb⟩
  · obtain ⟨m2, a, b, c⟩ := h k (by omega)
    exact ⟨m2, a, by rw [hu, pk_un e]; exact b, c⟩
theorem Orq.get {r : Nat → Int32} {n M k : Nat} {o : Nat → Int32} (h : Orq r n M o) (hk : k < M) : ∃ m, m < n ∧ o k = nI m := by
  obtain ⟨m, a, b, -⟩ := h k hk
  exact ⟨m, a, b⟩
def oqN (o : Nat → Int32) (k : Nat) : Nat := (o k).toNatClampNeg
theorem oqN_e {o : Nat → Int32} {k m : Nat} (h : o k = nI m) (hm : m < 2147483648) : oqN o k = m := by
  unfold oqN
  rw [h, nI_clamp hm]
/-- the due milestones in the order of their payments -/
def Ord (r : Nat → Int32) (n M : Nat) (o : Nat → Nat) : Prop := (∀ k, k < M → o k < n ∧ r (16 + 7 * o k + 2) = 1 ∧ dbR r (o k) n = k) ∧ ∀ m, m < n → ¬ (r (16 + 7 * m + 2) = 1 ∧ dbR r m n = M)
theorem Orq.ord {r : Nat → Int32} {n M : Nat} {o : Nat → Int32} (h : Orq r n M o) (hw : Dwq r n M n) (hn : n ≤ 10) : Ord r n M (oqN o) := by
  refine ⟨fun k hk => ?_, hw⟩
  obtain ⟨m, a, b, c, d⟩ := h k hk
  rw [oqN_e b (by omega)]
  exact ⟨a, c, d⟩
theorem pays_y {n m i : Nat} {o : Nat → Nat} {r s : Nat → Int32} (ho : o i = m) (hr : ripe (pays n o r i) m) (hp : 0 < minI (remR (pays n o r i) m) (avR (pays n o r i) n)) (h : Ab (clR m (mkP m (minI (remR (pays n o r i) m) (avR (pays n o r i) n)) (pays n o r i))) s) : Ab (pays n o r (i + 1)) s := by
  subst ho
  show Ab (pstep n (o i) (pays n o r i)) s
  rw [pstep_y hr hp]
  exact h
theorem pays_n {n m i : Nat} {o : Nat → Nat} {r s : Nat → Int32} (ho : o i = m) (hn : ¬ (ripe (pays n o r i) m ∧ 0 < minI (remR (pays n o r i) m) (avR (pays n o r i) n))) (h : Ab (pays n o r i) s) : Ab (pays n o r (i + 1)) s := by
  subst ho
  show Ab (pstep n (o i) (pays n o r i)) s
  rw [pstep_n hn]
  exact h
def PdR (r : Nat → Int32) (n : Nat) (s : Nat → Int32) : Prop := ∃ M o, Ord r n M o ∧ Ab (pays n o r M) s
/-- the accrued parts behind a day's interest; a credit -/
def pqQ (p : Int64) (r : Nat → Int32) : Int64 := p + (r 6 + r 7).toInt64 * (r 0).toInt64
def crC (p : Int64) (r : Nat → Int32) : Int32 := (p / (10000 * (r 1).toInt64)).toInt32
def crQ (p : Int64) (r : Nat → Int32) : Int64 := p - p / (10000 * (r 1).toInt64) * (10000 * (r 1).toInt64)
def crR (p : Int64) (r : Nat → Int32) : Nat → Int32 := entR (crC p r) (upd (upd r 7 (r 7 + crC p r)) 8 (r 8 + crC p r))
/-- a day of the reference -/
def DyR (f : Nat → Int32) (q : Nat → Nat) (n dy : Nat) (r : Nat → Int32) (p : Int64) (s : Nat → Int32) (p2 : Int64) : Prop :=
  ∃ r2, (((dy + 1) % 30 = 0 ∧ r2 = crR (pqQ p r) (upd r 4 (nI (dy + 1))) ∧ p2 = crQ (pqQ p r) (upd r 4 (nI (dy + 1)))) ∨ (¬ (dy + 1) % 30 = 0 ∧ r2 = upd r 4 (nI (dy + 1)) ∧ p2 = pqQ p r)) ∧ PdR (dues f q (doR r2 n) r2 n) n s
def DysR (f : Nat → Int32) (q : Nat → Nat) (n : Nat) : Nat → Nat → (Nat → Int32) → Int64 → (Nat → Int32) → Int64 → Prop
  | 0, _, r, p, s, p2 => Ab r s ∧ p2 = p
  | k + 1, dy, r, p, s, p2 => ∃ t p1, DysR f q n k dy r p t p1 ∧ DyR f q n (dy + k) t p1 s p2
theorem DysR.step {f : Nat → Int32} {q : Nat → Nat} {n k dy : Nat} {r t s : Nat → Int32} {p p1 p2 : Int64} (h : DysR f q n k dy r p t p1) (h2 : DyR f q n (dy + k) t p1 s p2) : DysR f q n (k + 1) dy r p s p2 := ⟨t, p1, h, h2⟩
def ShL (i : Nat) (f0 f : Nat → Int64) : Prop := ∀ x, f x = if x + 1 < i then f0 (x + 1) else f0 x
theorem ShL.zero (f : Nat → Int64) : ShL 1 f f := fun x => by rw [if_neg (by omega)]
theorem ShL.step {i : Nat} {f0 f : Nat → Int64} (h1 : 1 ≤ i) (h2 : i < 10) (h : ShL i f0 f) : ShL (i + 1) f0 (vp_updL f (nI (i - 1)).toNatClampNeg (f i)) := by
  rw [nI_clamp (by omega)]
  intro x
  by_cases e : x = i - 1
  · rw [e, vpL_s, if_pos (by omega), h i, if_neg (by omega), show i - 1 + 1 = i by omega]
  · rw [vpL_n e, h x]
    by_cases q : x + 1 < i
    · rw [if_pos q, if_pos (by omega)]
    · rw [if_neg q, if_neg (by omega)]
/-- the reference remembers an account: fs, its parts q -/
def Hrem (ed : Nat) (fh : Nat → Int32) (fl : Nat → Int64) (fs : Nat → Int32) (q : Int64) (ed2 : Nat) (zh : Nat → Int32) (zl : Nat → Int64) : Prop := ed2 = min (ed + 1) 10 ∧ (∀ i, i + 1 < ed2 → (∀ j, j < 326 → zh (326 * i + j) = fh (326 * (i + (ed + 1 - ed2)) + j)) ∧ zl i = fl (i + (ed + 1 - ed2))) ∧ (∀ j, j < 326 → zh (326 * (ed2 - 1) + j) = fs j) ∧ zl (ed2 - 1) = q
theorem Hrem.one {ed : Nat} {fh fs zh : Nat → Int32} {fl zl : Nat → Int64} {q : Int64} (hn : ed < 10) (hc : Hcp ed 326 fs fh zh) (hu : UppL ed q fl zl) : Hrem ed fh fl fs q (ed + 1) zh zl := by
  unfold UppL at hu
  refine ⟨by omega, fun i hi => ⟨fun j hj => ?_, ?_⟩, fun j hj => ?_, ?_⟩
  · rw [hc, if_neg (by omega), show i + (ed + 1 - (ed + 1)) = i by omega]
  · rw [hu, vpL_n (by omega), show i + (ed + 1 - (ed + 1)) = i by omega]
  · rw [show ed + 1 - 1 = ed by omega, hc, if_pos (by omega), show 326 * ed + j - 326 * ed = j by omega]
  · rw [show ed + 1 - 1 = ed by omega, hu]; exact vpL_s
theorem Hrem.ten {ed : Nat} {fh fs f0 zh : Nat → Int32} {fl l0 zl : Nat → Int64} {q : Int64} (hn : ed = 10) (hs : Shf 3260 fh f0) (hl : ShL 10 fl l0) (hc : Hcp (ed - 1) 326 fs f0 zh) (hu : UppL (ed - 1) q l0 zl) : Hrem ed fh fl fs q (ed - 1 + 1) zh zl := by
  unfold UppL at hu
  refine ⟨by omega, fun i hi => ⟨fun j hj => ?_, ?_⟩, fun j hj => ?_, ?_⟩
  · rw [hc, if_neg (by omega), hs, if_pos (by omega)]
    congr 1
    omega
  · rw [hu, vpL_n (by omega), hl, if_pos (by omega)]
    congr 1
    omega
  · rw [show ed - 1 + 1 - 1 = ed - 1 by omega, hc, if_pos (by omega)]
    congr 1
    omega
  · rw [show ed - 1 + 1 - 1 = ed - 1 by omega, hu]; exact vpL_s
def Hund (ed : Nat) (fh : Nat → Int32) (fl : Nat → Int64) (fs : Nat → Int32) (q : Int64) (ed2 : Nat) (zs : Nat → Int32) (zq : Int64) : Prop := (ed = 0 ∧ ed2 = ed ∧ zs = fs ∧ zq = q) ∨ (0 < ed ∧ ed2 = ed - 1 ∧ (∀ j, j < 326 → zs j = fh (326 * (ed - 1) + j)) ∧ zq = fl (ed - 1))
theorem nI_ij {a b : Nat} (h : nI a = nI b) (ha : a < 2147483648) (hb : b < 2147483648) : a = b := (nI_eq ha hb).mp h
theorem mil_y0 {i : Int32} {n : Nat} (h : 0 ≤ i.toInt64 ∧ i.toInt64 ≤ -1) (_ : n = 0) : ∃ k, k < n ∧ i = nI k := (btw_no h.1 h.2).elim
theorem mil_n0 {i : Int32} {n : Nat} (_ : ¬ (0 ≤ i.toInt64 ∧ i.toInt64 ≤ -1)) (e : n = 0) : ¬ (∃ k, k < n ∧ i = nI k) := fun ⟨k, hk, _⟩ => by omega
theorem mil_y {i : Int32} {n : Nat} (h : 0 ≤ i.toInt64 ∧ i.toInt64 ≤ (nI (n - 1)).toInt64) (hn : 0 < n ∧ n < 2147483648) : ∃ k, k < n ∧ i = nI k := by
  obtain ⟨k, a, b⟩ := btw_nat h.1 h.2 (by omega)
  exact ⟨k, by omega, b⟩
theorem mil_n {i : Int32} {n : Nat} (h : ¬ (0 ≤ i.toInt64 ∧ i.toInt64 ≤ (nI (n - 1)).toInt64)) (hn : 0 < n ∧ n < 2147483648) : ¬ (∃ k, k < n ∧ i = nI k) := fun ⟨k, hk, e⟩ => h (by
  rw [e, nI_l (by omega), nI_l (by omega)]
  exact ⟨(lN_le (a := 0) (by omega) (by omega)).mpr (by omega), (lN_le (by omega) (by omega)).mpr (by omega)⟩)
theorem rng_y {lo hi : Nat} {i : Int32} (hl : lo < 2147483648) (hh : hi < 2147483648) (h : lN lo ≤ i.toInt64 ∧ i.toInt64 ≤ lN hi) : ∃ n, (lo ≤ n ∧ n ≤ hi) ∧ i = nI n := by
  obtain ⟨n, a, b, c⟩ := btw_c (m := i) (lo := lo) (hi := hi) (lo' := lN lo) (hi' := lN hi) (lN_toInt (by omega)) (lN_toInt (by omega)) h.1 h.2
  exact ⟨n, ⟨a, b⟩, c⟩
theorem rng_n {lo hi : Nat} {i : Int32} (hl : lo < 2147483648) (hh : hi < 2147483648) (h : ¬ (lN lo ≤ i.toInt64 ∧ i.toInt64 ≤ lN hi)) : ¬ (∃ n, (lo ≤ n ∧ n ≤ hi) ∧ i = nI n) := fun ⟨n, ⟨a, b⟩, e⟩ => h (by
  rw [e, nI_l (by omega)]
  exact ⟨(lN_le (by omega) (by omega)).mpr a, (lN_le (by omega) (by omega)).mpr b⟩)
/-- what is allowed -/
def AcDep (r : Nat → Int32) (x : Int32) : Prop := (1 ≤ x.toInt64 ∧ x.toInt64 ≤ 99999) ∧ (r 5).toInt64 + x.toInt64 ≤ 9999999
def AcGra (x : Int32) : Prop := 0 ≤ x.toInt64 ∧ x.toInt64 ≤ 60
def AcPin (r : Nat → Int32) (x : Int32) : Prop := 1 ≤ x.toInt64 ∧ x.toInt64 ≤ (r 7).toInt64
def AcRat (a b : Int32) : Prop := (0 ≤ a.toInt64 ∧ a.toInt64 ≤ 3000) ∧ (b = 360 ∨ b = 365)
def AcAny (_ : Nat) : Prop := True
def AcApp (r : Nat → Int32) (k : Nat) : Prop := ¬ 3 ≤ r (16 + 7 * k + 2)
def AcOpn (r : Nat → Int32) (k : Nat) : Prop := r (16 + 7 * k + 2) ≤ 1
def AcDis (r : Nat → Int32) (k : Nat) : Prop := r (16 + 7 * k + 2) = 2
def AcPay (r : Nat → Int32) (n : Nat) (x : Int32) (k : Nat) : Prop := (1 ≤ x.toInt64 ∧ x.toInt64 ≤ (remR r k).toInt64) ∧ r (16 + 7 * k + 2) ≤ 1 ∧ x ≤ avR r n
def AcRes (r : Nat → Int32) (j : Int32) (k : Nat) : Prop := r (16 + 7 * k + 2) = 2 ∧ ∃ n, (0 ≤ n ∧ n ≤ 1000) ∧ j = nI n
def AcClo (r : Nat → Int32) (n : Nat) : Prop := ∀ m, m < n → 3 ≤ r (16 + 7 * m + 2)
/-- what the edits do to the row -/
def depR (x : Int32) (r : Nat → Int32) : Nat → Int32 := entR x (upd (upd r 5 (r 5 + x)) 6 (r 6 + x))
def graR (x : Int32) (r : Nat → Int32) : Nat → Int32 := upd r 3 x
def pinR (x : Int32) (r : Nat → Int32) : Nat → Int32 := entR x (upd r 7 (r 7 - x))
def ratR (a b : Int32) (r : Nat → Int32) : Nat → Int32 := upd (upd r 0 a) 1 b
def subR (k : Nat) (r : Nat → Int32) : Nat → Int32 := upd r 12 (r 12 ||| (1 : Int32) <<< (nI k &&& 31))
def appR (k : Nat) (r : Nat → Int32) : Nat → Int32 := upd r (16 + 7 * k + 5) 1
def payR (x : Int32) (k : Nat) (r : Nat → Int32) : Nat → Int32 := clR k (mkP k x r)
def disR (n k : Nat) (r : Nat → Int32) : Nat → Int32 := upd (upd r (16 + 7 * k + 3) (minI (remR r k) (avR r n))) (16 + 7 * k + 2) 2
def wdrR (k : Nat) (r : Nat → Int32) : Nat → Int32 := upd (upd r (16 + 7 * k + 3) 0) (16 + 7 * k + 2) 0
def canR (k : Nat) (r : Nat → Int32) : Nat → Int32 := upd r (16 + 7 * k + 2) 5
def splS (n k : Nat) (r : Nat → Int32) : Int32 := minI (remR r k) (avR r n + r (16 + 7 * k + 3))
def splB (n k : Nat) (j : Int32) (r : Nat → Int32) : Int32 := ((splS n k r).toInt64 * j.toInt64 / 1000).toInt32
def resR (n : Nat) (j : Int32) (k : Nat) (r : Nat → Int32) : Nat → Int32 := upd (refR (splS n k r - splB n k j r) (mkP k (splB n k j r) (upd r (16 + 7 * k + 3) 0))) (16 + 7 * k + 2) 4
def cloR (r : Nat → Int32) : Nat → Int32 := refR (r 6) r
def EdM (P : Prop) (op : (Nat → Int32) → Nat → Int32) (ed : Nat) (fh : Nat → Int32) (fl : Nat → Int64) (fs : Nat → Int32) (q : Int64) (ed2 : Nat) (zh : Nat → Int32) (zl : Nat → Int64) (zs : Nat → Int32) : Prop := (P ∧ Hrem ed fh fl fs q ed2 zh zl ∧ Ab (op fs) zs) ∨ (¬ P ∧ ed2 = ed ∧ zh = fh ∧ zl = fl ∧ zs = fs)
def EdK (n : Nat) (i : Int32) (P : Nat → Prop) (op : Nat → (Nat → Int32) → Nat → Int32) (ed : Nat) (fh : Nat → Int32) (fl : Nat → Int64) (fs : Nat → Int32) (q : Int64) (ed2 : Nat) (zh : Nat → Int32) (zl : Nat → Int64) (zs : Nat → Int32) : Prop := (∃ k, k < n ∧ i = nI k ∧ P k ∧ Hrem ed fh fl fs q ed2 zh zl ∧ Ab (op k fs) zs) ∨ (¬ (∃ k, k < n ∧ i = nI k ∧ P k) ∧ ed2 = ed ∧ zh = fh ∧ zl = fl ∧ zs = fs)
def EdP (i : Int32) (ed : Nat) (fh : Nat → Int32) (fl : Nat → Int64) (f : Nat → Int32) (cq : Nat → Nat) (n dy : Nat) (fs : Nat → Int32) (q : Int64) (ed2 : Nat) (zh : Nat → Int32) (zl : Nat → Int64) (zs : Nat → Int32) (zq : Int64) : Prop := (∃ N, (1 ≤ N ∧ N ≤ 120) ∧ i = nI N ∧ dy + N ≤ 9999 ∧ Hrem ed fh fl fs q ed2 zh zl ∧ DysR f cq n N dy fs q zs zq) ∨ (¬ (∃ N, (1 ≤ N ∧ N ≤ 120) ∧ i = nI N ∧ dy + N ≤ 9999) ∧ ed2 = ed ∧ zh = fh ∧ zl = fl ∧ zs = fs ∧ zq = q)
def Acl (r : Nat → Int32) (i : Nat) (v : Int32) : Prop := (v = 1 ∧ ∀ m, m < i → 3 ≤ r (16 + 7 * m + 2)) ∨ (v = 0 ∧ ¬ ∀ m, m < i → 3 ≤ r (16 + 7 * m + 2))
theorem Acl.zero (r : Nat → Int32) : Acl r 0 1 := Or.inl ⟨rfl, fun m h => absurd h (Nat.not_lt_zero m)⟩
theorem Acl.y {r : Nat → Int32} {i : Nat} {v : Int32} (h : Acl r i v) (c : ¬ v = 0) (h3 : 3 ≤ r (16 + 7 * i + 2)) : Acl r (i + 1) 1 := by
  rcases h with ⟨-, q⟩ | ⟨q, -⟩
  · refine Or.inl ⟨rfl, fun m hm => ?_⟩
    by_cases e : m = i
    · subst e; exact h3
    · exact q m (by omega)
  · exact absurd q c
theorem Acl.n {r : Nat → Int32} {i : Nat} {v : Int32} (_ : Acl r i v) (h3 : ¬ 3 ≤ r (16 + 7 * i + 2)) : Acl r (i + 1) 0 := Or.inr ⟨rfl, fun q => h3 (q i (by omega))⟩
theorem Acl.z {r : Nat → Int32} {i : Nat} {v : Int32} (h : Acl r i v) (c : v = 0) : Acl r (i + 1) 0 := by
  rcases h with ⟨q, -⟩ | ⟨-, q⟩
  · rw [q] at c; exact absurd c (by decide)
  · exact Or.inr ⟨rfl, fun z => q (fun m hm => z m (by omega))⟩
theorem Acl.fin {r : Nat → Int32} {n : Nat} {v : Int32} (h : Acl r n v) (_ : v = 0 ∨ v = 1) : (v = 1 ∧ (∀ m, m < n → 3 ≤ r (16 + 7 * m + 2))) ∨ (v = 0 ∧ ¬ (∀ m, m < n → 3 ≤ r (16 + 7 * m + 2))) := h
