def bt (x : Int32) (i : Nat) : Bool := x.toBitVec.getLsbD i
theorem b_ext {x y : Int32} (h : ∀ i, i < 32 → bt x i = bt y i) : x = y := Int32.toBitVec_inj.mp (BitVec.eq_of_getLsbD_eq (fun i hi => h i hi))
theorem b_or (x y : Int32) (i : Nat) : bt (x ||| y) i = (bt x i || bt y i) := by unfold bt; rw [Int32.toBitVec_or, BitVec.getLsbD_or]
theorem b_and (x y : Int32) (i : Nat) : bt (x &&& y) i = (bt x i && bt y i) := by unfold bt; rw [Int32.toBitVec_and, BitVec.getLsbD_and]
theorem b_xor (x y : Int32) (i : Nat) : bt (x ^^^ y) i = (bt x i ^^ bt y i) := by unfold bt; rw [Int32.toBitVec_xor, BitVec.getLsbD_xor]
theorem b_big {x : Int32} {i : Nat} (h : 32 ≤ i) : bt x i = false := BitVec.getLsbD_of_ge _ _ h
theorem b_255 (i : Nat) : bt 255 i = decide (i < 8) := by
  rcases Nat.lt_or_ge i 32 with h | h
  · exact (by decide +kernel : ∀ i, i < 32 → bt 255 i = decide (i < 8)) i h
  · rw [b_big h, decide_eq_false (by omega)]
theorem b_65535 (i : Nat) : bt 65535 i = decide (i < 16) := by
  rcases Nat.lt_or_ge i 32 with h | h
  · exact (by decide +kernel : ∀ i, i < 32 → bt 65535 i = decide (i < 16)) i h
  · rw [b_big h, decide_eq_false (by omega)]
theorem b_m1 : ∀ i, i < 32 → bt (-1) i = true := by decide +kernel
theorem b_0 (i : Nat) : bt 0 i = false := BitVec.getLsbD_zero
theorem s_l : ∀ n, n < 32 → ((nI n &&& 31).toBitVec.smod 32).toNat = n := by decide +kernel
theorem s_u : ∀ n, n < 32 → (((nI n).toUInt32 &&& Int32.toUInt32 31).toBitVec % 32).toNat = n := by decide +kernel
theorem b_shl (n : Nat) (hn : n < 32) (x : Int32) {i : Nat} (hi : i < 32) : bt (x <<< (nI n &&& 31)) i = (decide (n ≤ i) && bt x (i - n)) := by
  unfold bt
  rw [Int32.toBitVec_shiftLeft]
  show (x.toBitVec <<< ((nI n &&& 31).toBitVec.smod 32).toNat).getLsbD i = _
  rw [s_l n hn, BitVec.getLsbD_shiftLeft]
  rcases Nat.lt_or_ge i n with h | h
  · simp [h, Nat.not_le.mpr h]
  · simp [hi, h, Nat.not_lt.mpr h]
theorem b_ushr (n : Nat) (hn : n < 32) (x : Int32) (i : Nat) : bt ((x.toUInt32 >>> ((nI n).toUInt32 &&& Int32.toUInt32 31)).toInt32) i = bt x (n + i) := by
  show (x.toUInt32 >>> ((nI n).toUInt32 &&& Int32.toUInt32 31)).toBitVec.getLsbD i = x.toUInt32.toBitVec.getLsbD (n + i)
  rw [UInt32.toBitVec_shiftRight]
  show (x.toUInt32.toBitVec >>> (((nI n).toUInt32 &&& Int32.toUInt32 31).toBitVec % 32).toNat).getLsbD i = _
  rw [s_u n hn, BitVec.getLsbD_ushiftRight]
theorem b_sshr (n : Nat) (hn : n < 32) (x : Int32) {i : Nat} (hi : i < 32) : bt (x >>> (nI n &&& 31)) i = if n + i < 32 then bt x (n + i) else bt x 31 := by
  unfold bt
  rw [Int32.toBitVec_shiftRight]
  show (x.toBitVec.sshiftRight ((nI n &&& 31).toBitVec.smod 32).toNat).getLsbD i = _
  rw [s_l n hn, BitVec.getLsbD_sshiftRight, BitVec.msb_eq_getLsbD_last]
  simp [hi]

/-- the numbers of an account's row that matter (all but the fees) -/
def Ab (r s : Nat → Int32) : Prop := ∀ j, j < 86 → j ≠ 9 → s j = r j
theorem Ab.rf (r : Nat → Int32) : Ab r r := fun _ _ _ => rfl
theorem Ab.get {r s : Nat → Int32} (h : Ab r s) {j : Nat} (hj : j < 86) (h9 : j ≠ 9) : s j = r j := h j hj h9
theorem Ab.getI {r s : Nat → Int32} (h : Ab r s) {j : Nat} (hj : j < 86) (h9 : j ≠ 9) : s (nI j).toNatClampNeg = r j := by
  rw [nI_clamp (by omega)]
  exact h j hj h9
theorem Ab.put {r s : Nat → Int32} (h : Ab r s) (k : Nat) (v : Int32) : Ab (upd r k v) (upd s k v) := fun j hj h9 => by
  by_cases e : j = k
  · subst e; rw [pk_us, pk_us]
  · rw [pk_un e, pk_un e]; exact h j hj h9
theorem Ab.putI {r s : Nat → Int32} (h : Ab r s) {k : Nat} (hk : k < 2147483648) (v : Int32) : Ab (upd r k v) (upd s (nI k).toNatClampNeg v) := by
  rw [nI_clamp hk]
  exact h.put k v
theorem Ab.far {r s : Nat → Int32} (h : Ab r s) {k : Nat} (hk : k < 2147483648) (v : Int32) (h86 : 86 ≤ k) : Ab r (upd s (nI k).toNatClampNeg v) := fun j hj h9 => by
  rw [nI_clamp hk, pk_un (by omega)]
  exact h j hj h9
theorem Ab.fee {r s : Nat → Int32} (h : Ab r s) (v : Int32) : Ab r (upd s 9 v) := fun j hj h9 => by
  rw [pk_un h9]
  exact h j hj h9
theorem Ab.tr {a b c : Nat → Int32} (h : Ab a b) (g : Ab b c) : Ab a c := fun j hj h9 => (g j hj h9).trans (h j hj h9)
theorem Ab.sy {a b : Nat → Int32} (h : Ab a b) : Ab b a := fun j hj h9 => (h j hj h9).symm
theorem Ab.cp {r s t : Nat → Int32} (h : Ab r s) (c : Cp 326 s t) : Ab r t := fun j hj h9 => (c j (by omega)).trans (h j hj h9)
/-- how many entries are kept behind an entry of x -/
def entN (k : Nat) (x : Int32) : Nat := if x = 0 then k else min (k + 1) 60
def eN (r : Nat → Int32) : Nat := (r 15).toNatClampNeg
theorem eN_of {r : Nat → Int32} {k : Nat} (h : r 15 = nI k) (hk : k < 2147483648) : eN r = k := by
  unfold eN
  rw [h, nI_clamp hk]
def entR (x : Int32) (r : Nat → Int32) : Nat → Int32 := if x = 0 then r else upd r 15 (nI (min (eN r + 1) 60))
theorem entR_n {x : Int32} {r : Nat → Int32} {j : Nat} (h : j ≠ 15) : entR x r j = r j := by
  unfold entR
  by_cases q : x = 0
  · rw [if_pos q]
  · rw [if_neg q, pk_un h]
theorem entR_0 {r s : Nat → Int32} (h : Ab r s) : Ab (entR 0 r) s := by
  unfold entR
  rw [if_pos rfl]
  exact h
theorem entR_1 {x : Int32} {r s : Nat → Int32} {k : Nat} (h0 : ¬ x = 0) (e : r 15 = nI k) (hk : k ≤ 60) (h : Ab (upd r 15 (nI (min (k + 1) 60))) s) : Ab (entR x r) s := by
  unfold entR
  rw [if_neg h0, eN_of e (by omega)]
  exact h
theorem entR_e {x : Int32} {r : Nat → Int32} {k : Nat} (e : r 15 = nI k) (hk : k ≤ 60) : entR x r 15 = nI (entN k x) := by
  unfold entR entN
  by_cases q : x = 0
  · rw [if_pos q, if_pos q]; exact e
  · rw [if_neg q, if_neg q, pk_us, eN_of e (by omega)]
/-- a payment of x for milestone m -/
def mkP (m : Nat) (x : Int32) (r : Nat → Int32) : Nat → Int32 := entR x (upd (upd (upd r 6 (r 6 - x)) 10 (r 10 + x)) (16 + 7 * m + 1) (r (16 + 7 * m + 1) + x))
def refR (x : Int32) (r : Nat → Int32) : Nat → Int32 := entR x (upd (upd r 6 (r 6 - x)) 11 (r 11 + x))
def remR (r : Nat → Int32) (m : Nat) : Int32 := if 3 ≤ r (16 + 7 * m + 2) then 0 else r (16 + 7 * m + 0) - r (16 + 7 * m + 1)
theorem remR_0 {r : Nat → Int32} {m : Nat} (h : 3 ≤ r (16 + 7 * m + 2)) : remR r m = 0 := if_pos h
theorem remR_1 {r : Nat → Int32} {m : Nat} (h : ¬ 3 ≤ r (16 + 7 * m + 2)) : remR r m = r (16 + 7 * m + 0) - r (16 + 7 * m + 1) := if_neg h
/-- the available money, the first n milestones' frozen amounts taken away -/
def avR (r : Nat → Int32) : Nat → Int32
  | 0 => r 6
  | n + 1 => avR r n - r (16 + 7 * n + 3)
/-- the set of the milestones that are done -/
def dnB (v : Int32) : Prop := v = 3 ∨ v = 4
def doR (r : Nat → Int32) : Nat → Int32
  | 0 => 0
  | n + 1 => doR r n ||| (if r (16 + 7 * n + 2) = 3 ∨ r (16 + 7 * n + 2) = 4 then (1 : Int32) <<< (nI n &&& 31) else 0)
theorem doR_y {r : Nat → Int32} {n : Nat} (h : r (16 + 7 * n + 2) = 3 ∨ r (16 + 7 * n + 2) = 4) : doR r (n + 1) = doR r n ||| (1 : Int32) <<< (nI n &&& 31) := by
  rw [doR, if_pos h]
theorem doR_n {r : Nat → Int32} {n : Nat} (h : ¬ (r (16 + 7 * n + 2) = 3 ∨ r (16 + 7 * n + 2) = 4)) : doR r (n + 1) = doR r n ||| 0 := by
  rw [doR, if_neg h]
def clR (m : Nat) (r : Nat → Int32) : Nat → Int32 := if remR r m = 0 then upd r (16 + 7 * m + 2) 3 else r
def minI (a b : Int32) : Int32 := if b < a then b else a
abbrev ripe (r : Nat → Int32) (m : Nat) : Prop := r (16 + 7 * m + 2) = 1 ∧ r (16 + 7 * m + 4) + r 3 ≤ r 4
/-- a step of the day's payments -/
def pstep (n m : Nat) (r : Nat → Int32) : Nat → Int32 := if ripe r m ∧ 0 < minI (remR r m) (avR r n) then clR m (mkP m (minI (remR r m) (avR r n)) r) else r
theorem pstep_y {n m : Nat} {r : Nat → Int32} (h : ripe r m) (h2 : 0 < minI (remR r m) (avR r n)) : pstep n m r = clR m (mkP m (minI (remR r m) (avR r n)) r) := if_pos ⟨h, h2⟩
theorem pstep_n {n m : Nat} {r : Nat → Int32} (h : ¬ (ripe r m ∧ 0 < minI (remR r m) (avR r n))) : pstep n m r = r := if_neg h
/-- the first k places of an order, one after the other -/
def pays (n : Nat) (o : Nat → Nat) (r : Nat → Int32) : Nat → Nat → Int32
  | 0 => r
  | k + 1 => pstep n (o k) (pays n o r k)
/-- bit v of a set -/
abbrev btQ (s v : Int32) : Prop := (s >>> (v &&& 31)) &&& 1 = 1
/-- a fact of a condition -/
abbrev fcP (r : Nat → Int32) (m : Nat) (a b d x y : Int32) : Prop := (a = 0 ∧ b ≤ d) ∨ (a = 1 ∧ btQ x b) ∨ (a = 2 ∧ btQ y b) ∨ (a = 3 ∧ b ≤ r 10) ∨ (a = 4 ∧ r (16 + 7 * m + 5) = 1) ∨ (a ≠ 0 ∧ a ≠ 1 ∧ a ≠ 2 ∧ a ≠ 3 ∧ a ≠ 4)
def hdF (r : Nat → Int32) (m : Nat) (d x y c : Int32) : Bool := decide (fcP r m (c / 100000) (c - c / 100000 * 100000) d x y)
/-- a code's step over the values that wait -/
def stp (F : Int32 → Bool) (c : Int32) (st : List Bool) : List Bool :=
  if c = -3 then (match st with | b :: t => (!b) :: t | [] => [])
  else if c < 0 then (match st with | b :: a :: t => (if c = -1 then a && b else a || b) :: t | _ => [])
  else F c :: st
def evf (F : Int32 → Bool) (f : Nat → Int32) : Nat → Nat → List Bool → List Bool
  | 0, _, st => st
  | n + 1, k, st => evf F f n (k + 1) (stp F (f k) st)
def bI (b : Bool) : Int32 := if b = true then 1 else 0
/-- the condition of milestone m -/
def hdV (F : Int32 → Bool) (f : Nat → Int32) (q : Nat → Nat) (m : Nat) : Bool := (evf F f (q (m + 1) - q m) (q m) []).headD false
/-- n codes from k on: how many values wait behind them, never none where one is wanted, never more than 31 -/
def dpf (f : Nat → Int32) : Nat → Nat → Nat → Option Nat
  | 0, _, d => some d
  | n + 1, k, d => if f k = -3 then (if 1 ≤ d then dpf f n (k + 1) d else none) else if f k < 0 then (if 2 ≤ d then dpf f n (k + 1) (d - 1) else none) else if d < 31 then dpf f n (k + 1) (d + 1) else none
/-- the conditions: codes f, milestone m's from q m to q (m + 1) -/
def CQ (n : Nat) (f : Nat → Int32) (q : Nat → Nat) : Prop := q 0 = 0 ∧ ∀ m, m < n → q m ≤ q (m + 1) ∧ q (m + 1) ≤ 350 ∧ dpf f (q (m + 1) - q m) (q m) 0 = some 1
/-- the values that wait, in the reference's row -/
def Stk : List Bool → (Nat → Int32) → Prop
  | [], _ => True
  | b :: t, f => f t.length = bI b ∧ Stk t f
theorem Stk.cp : ∀ {st : List Bool} {f g : Nat → Int32}, Stk st f → (∀ j, j < st.length → g j = f j) → Stk st g
  | [], _, _, _, _ => trivial
  | b :: t, f, g, h, k => ⟨(k t.length (by simp)).trans h.1, Stk.cp h.2 (fun j hj => k j (by simp; omega))⟩
theorem Stk.push {st : List Bool} {f : Nat → Int32} (h : Stk st f) (b : Bool) : Stk (b :: st) (upd f st.length (bI b)) := ⟨pk_us, h.cp (fun j hj => pk_un (by omega))⟩
theorem Stk.top {b : Bool} {st : List Bool} {f : Nat → Int32} (h : Stk (b :: st) f) : f st.length = bI b := h.1
/-- one milestone becomes due, if its condition holds -/
def dstep (f : Nat → Int32) (q : Nat → Nat) (dn : Int32) (m : Nat) (r : Nat → Int32) : Nat → Int32 := if r (16 + 7 * m + 2) = 0 ∧ hdV (hdF r m (r 4) (r 12) dn) f q m = true then upd (upd r (16 + 7 * m + 2) 1) (16 + 7 * m + 4) (r 4) else r
def dues (f : Nat → Int32) (q : Nat → Nat) (dn : Int32) (r : Nat → Int32) : Nat → Nat → Int32
  | 0 => r
  | k + 1 => dstep f q dn k (dues f q dn r k)
def Rdk {α : Type} (f : Nat → α) : Prop := f = f
def Rde {α : Type} (f : Nat → α) : Prop := f = f
def Rdl {α : Type} (f : Nat → α) : Prop := f = f
def Rcp {α : Type} (f : Nat → α) : Prop := f = f
theorem Ab.tw {r s : Nat → Int32} {k : Nat} {v w : Int32} (h : Ab (upd (upd r k v) k w) s) : Ab (upd r k w) s := fun j hj h9 => by
  rw [h j hj h9]
  by_cases e : j = k
  · subst e; rw [pk_us, pk_us]
  · rw [pk_un e, pk_un e, pk_un e]
def Avq (r : Nat → Int32) (i : Nat) (v : Int32) : Prop := v = avR r i
theorem Avq.zero (r : Nat → Int32) : Avq r 0 (r 6) := rfl
theorem Avq.step {r : Nat → Int32} {i : Nat} {v : Int32} (h : Avq r i v) : Avq r (i + 1) (v - r (16 + 7 * i + 3)) := by
  unfold Avq at h ⊢
  rw [h]
  rfl
def Doq (r : Nat → Int32) (i : Nat) (v : Int32) : Prop := v = doR r i
theorem Doq.zero (r : Nat → Int32) : Doq r 0 0 := rfl
theorem Doq.yes {r : Nat → Int32} {i : Nat} {v : Int32} (h : Doq r i v) (c : r (16 + 7 * i + 2) = 3 ∨ r (16 + 7 * i + 2) = 4) : Doq r (i + 1) (v ||| (1 : Int32) <<< (nI i &&& 31)) := by
  unfold Doq at h ⊢
  rw [doR_y c, h]
theorem Doq.no {r : Nat → Int32} {i : Nat} {v : Int32} (h : Doq r i v) (c : ¬ (r (16 + 7 * i + 2) = 3 ∨ r (16 + 7 * i + 2) = 4)) : Doq r (i + 1) (v ||| 0) := by
  unfold Doq at h ⊢
  rw [doR_n c, h]
theorem fc_0 {r : Nat → Int32} {m : Nat} {a b d x y : Int32} (h : a = 0) : fcP r m a b d x y ↔ b ≤ d := by
  subst h
  refine ⟨fun q => ?_, fun q => Or.inl ⟨rfl, q⟩⟩
  rcases q with q | q | q | q | q | q
  · exact q.2
  · exact absurd q.1 (by decide)
  · exact absurd q.1 (by decide)
  · exact absurd q.1 (by decide)
  · exact absurd q.1 (by decide)
  · exact absurd rfl q.1
theorem fc_1 {r : Nat → Int32} {m : Nat} {a b d x y : Int32} (h : a = 1) : fcP r m a b d x y ↔ btQ x b := by
  subst h
  refine ⟨fun q => ?_, fun q => Or.inr (Or.inl ⟨rfl, q⟩)⟩
  rcases q with q | q | q | q | q | q
  · exact absurd q.1 (by decide)
  · exact q.2
  · exact absurd q.1 (by decide)
  · exact absurd q.1 (by decide)
  · exact absurd q.1 (by decide)
  · exact absurd rfl q.2.1
theorem fc_2 {r : Nat → Int32} {m : Nat} {a b d x y : Int32} (h : a = 2) : fcP r m a b d x y ↔ btQ y b := by
  subst h
  refine ⟨fun q => ?_, fun q => Or.inr (Or.inr (Or.inl ⟨rfl, q⟩))⟩
  rcases q with q | q | q | q | q | q
  · exact absurd q.1 (by decide)
  · exact absurd q.1 (by decide)
  · exact q.2
  · exact absurd q.1 (by decide)
  · exact absurd q.1 (by decide)
  · exact absurd rfl q.2.2.1
theorem fc_3 {r : Nat → Int32} {m : Nat} {a b d x y : Int32} (h : a = 3) : fcP r m a b d x y ↔ b ≤ r 10 := by
  subst h
  refine ⟨fun q => ?_, fun q => Or.inr (Or.inr (Or.inr (Or.inl ⟨rfl, q⟩)))⟩
  rcases q with q | q | q | q | q | q
  · exact absurd q.1 (by decide)
  · exact absurd q.1 (by decide)
  · exact absurd q.1 (by decide)
  · exact q.2
  · exact absurd q.1 (by decide)
  · exact absurd rfl q.2.2.2.1
theorem fc_4 {r : Nat → Int32} {m : Nat} {a b d x y : Int32} (h : a = 4) : fcP r m a b d x y ↔ r (16 + 7 * m + 5) = 1 := by
  subst h
  refine ⟨fun q => ?_, fun q => Or.inr (Or.inr (Or.inr (Or.inr (Or.inl ⟨rfl, q⟩))))⟩
  rcases q with q | q | q | q | q | q
  · exact absurd q.1 (by decide)
  · exact absurd q.1 (by decide)
  · exact absurd q.1 (by decide)
  · exact absurd q.1 (by decide)
  · exact q.2
  · exact absurd rfl q.2.2.2.2
theorem fc_5 {r : Nat → Int32} {m : Nat} {a b d x y : Int32} (h0 : ¬ a = 0) (h1 : ¬ a = 1) (h2 : ¬ a = 2) (h3 : ¬ a = 3) (h4 : ¬ a = 4) : fcP r m a b d x y := Or.inr (Or.inr (Or.inr (Or.inr (Or.inr ⟨h0, h1, h2, h3, h4⟩))))
theorem dpf_at {f : Nat → Int32} {b i d : Nat} (hi : i < b) (h : dpf f (b - i) i d = some 1) : (f i = -3 ∧ 1 ≤ d ∧ dpf f (b - (i + 1)) (i + 1) d = some 1) ∨ (¬ f i = -3 ∧ f i < 0 ∧ 2 ≤ d ∧ dpf f (b - (i + 1)) (i + 1) (d - 1) = some 1) ∨ (¬ f i = -3 ∧ ¬ f i < 0 ∧ d < 31 ∧ dpf f (b - (i + 1)) (i + 1) (d + 1) = some 1) := by
  rw [show b - i = (b - (i + 1)) + 1 by omega, dpf] at h
  by_cases e : f i = -3
  · rw [if_pos e] at h
    by_cases q : 1 ≤ d
    · rw [if_pos q] at h; exact Or.inl ⟨e, q, h⟩
    · rw [if_neg q] at h; exact nomatch h
  · rw [if_neg e] at h
    by_cases e2 : f i < 0
    · rw [if_pos e2] at h
      by_cases q : 2 ≤ d
      · rw [if_pos q] at h; exact Or.inr (Or.inl ⟨e, e2, q, h⟩)
      · rw [if_neg q] at h; exact nomatch h
    · rw [if_neg e2] at h
      by_cases q : d < 31
      · rw [if_pos q] at h; exact Or.inr (Or.inr ⟨e, e2, q, h⟩)
      · rw [if_neg q] at h; exact nomatch h
theorem evf_at {F : Int32 → Bool} {f : Nat → Int32} {b i : Nat} {st : List Bool} (hi : i < b) : evf F f (b - i) i st = evf F f (b - (i + 1)) (i + 1) (stp F (f i) st) := by
  rw [show b - i = (b - (i + 1)) + 1 by omega]
  rfl
/-- the reference's row of values, behind the codes from a to i; b is where the codes end -/
def HB9 (F : Int32 → Bool) (f : Nat → Int32) (a b i tp : Nat) (g : Nat → Int32) : Prop := ∃ st : List Bool, st.length = tp ∧ Stk st g ∧ evf F f (b - i) i st = evf F f (b - a) a [] ∧ dpf f (b - i) i tp = some 1
theorem HB9.zero {F : Int32 → Bool} {f : Nat → Int32} {a b : Nat} {g : Nat → Int32} (h : dpf f (b - a) a 0 = some 1) : HB9 F f a b a 0 g := ⟨[], rfl, trivial, rfl, h⟩
theorem HB9.n1 {F : Int32 → Bool} {f : Nat → Int32} {a b i tp : Nat} {g : Nat → Int32} (h : HB9 F f a b i tp g) (hi : i < b) (e : f i = -3) : 1 ≤ tp := by
  obtain ⟨st, h1, h2, h3, h4⟩ := h
  rcases dpf_at hi h4 with q | q | q
  · exact q.2.1
  · exact absurd e q.1
  · exact absurd e q.1
theorem HB9.n2 {F : Int32 → Bool} {f : Nat → Int32} {a b i tp : Nat} {g : Nat → Int32} (h : HB9 F f a b i tp g) (hi : i < b) (e : ¬ f i = -3) (e2 : f i < 0) : 2 ≤ tp := by
  obtain ⟨st, h1, h2, h3, h4⟩ := h
  rcases dpf_at hi h4 with q | q | q
  · exact absurd q.1 e
  · exact q.2.2.1
  · exact absurd e2 q.2.1
theorem HB9.n3 {F : Int32 → Bool} {f : Nat → Int32} {a b i tp : Nat} {g : Nat → Int32} (h : HB9 F f a b i tp g) (hi : i < b) (e : ¬ f i = -3) (e2 : 0 ≤ f i) : tp < 31 := by
  obtain ⟨st, h1, h2, h3, h4⟩ := h
  rcases dpf_at hi h4 with q | q | q
  · exact absurd q.1 e
  · exact absurd q.2.1 (Int32.not_lt.mpr e2)
  · exact q.2.2.1
theorem bI_nar (b : Bool) : vp_nar .boolean (bI b) = bI b := by cases b <;> rfl
theorem bI_z {b : Bool} {v : Int32} (h : v = bI b) : (v = 0 ↔ b = false) := by
  subst h
  cases b <;> decide
theorem HB9.not {F : Int32 → Bool} {f : Nat → Int32} {a b i tp : Nat} {g g2 : Nat → Int32} {v : Int32} (h : HB9 F f a b i tp g) (hi : i < b) (e : f i = -3) (hv : (¬ g (tp - 1) = 0 ∧ v = 0) ∨ (g (tp - 1) = 0 ∧ v = 1)) (hg : Upp (tp - 1) (vp_nar .boolean v) g g2) : HB9 F f a b (i + 1) tp g2 := by
  obtain ⟨st, h1, h2, h3, h4⟩ := h
  unfold Upp at hg
  rcases dpf_at hi h4 with q | q | q
  · cases st with
    | nil =>
      have := q.2.1
      rw [← h1] at this
      exact absurd this (by decide)
    | cons c t =>
      have hl : t.length + 1 = tp := h1
      have ht : tp - 1 = t.length := by omega
      rw [ht] at hv hg
      have hc := h2.1
      have hvb : v = bI (!c) := by
        rcases hv with ⟨a1, a2⟩ | ⟨a1, a2⟩
        · cases c with
          | true => rw [a2]; rfl
          | false => exact absurd ((bI_z hc).mpr rfl) a1
        · cases c with
          | true => exact absurd ((bI_z hc).mp a1) (by decide)
          | false => rw [a2]; rfl
      refine ⟨(!c) :: t, hl, ⟨?_, ?_⟩, ?_, q.2.2⟩
      · rw [hg, pk_us, hvb, bI_nar]
      · exact h2.2.cp (fun j hj => by rw [hg]; exact pk_un (by omega))
      · rw [← h3, evf_at hi]
        unfold stp
        rw [if_pos e]
  · exact absurd e q.1
  · exact absurd e q.1
theorem HB9.bin {F : Int32 → Bool} {f : Nat → Int32} {a b i tp : Nat} {g g2 : Nat → Int32} {v : Int32} (h : HB9 F f a b i tp g) (hi : i < b) (e : ¬ f i = -3) (e2 : f i < 0)
    (hv : (f i = -1 ∧ ((g (tp - 1 - 1) = 0 ∧ v = 0) ∨ (¬ g (tp - 1 - 1) = 0 ∧ g (tp - 1) = 0 ∧ v = 0) ∨ (¬ g (tp - 1 - 1) = 0 ∧ ¬ g (tp - 1) = 0 ∧ v = 1))) ∨ (¬ f i = -1 ∧ ((¬ g (tp - 1 - 1) = 0 ∧ v = 1) ∨ (g (tp - 1 - 1) = 0 ∧ g (tp - 1) = 0 ∧ v = 0) ∨ (g (tp - 1 - 1) = 0 ∧ ¬ g (tp - 1) = 0 ∧ v = 1))))
    (hg : Upp (tp - 1 - 1) (vp_nar .boolean v) g g2) : HB9 F f a b (i + 1) (tp - 1) g2 := by
  obtain ⟨st, h1, h2, h3, h4⟩ := h
  unfold Upp at hg
  rcases dpf_at hi h4 with q | q | q
  · exact absurd q.1 e
  · match st, h1, h2, h3 with
    | [], h1, h2, h3 => exact absurd (show 2 ≤ 0 by rw [show (0 : Nat) = tp from h1]; exact q.2.2.1) (by decide)
    | [_], h1, h2, h3 => exact absurd (show 2 ≤ 1 by rw [show (1 : Nat) = tp from h1]; exact q.2.2.1) (by decide)
    | c :: d :: t, h1, h2, h3 =>
      have hl : t.length + 1 + 1 = tp := h1
      have ht : tp - 1 = t.length + 1 := by omega
      have ht2 : t.length + 1 - 1 = t.length := by omega
      rw [ht, ht2] at hv hg
      have hc : g (t.length + 1) = bI c := h2.1
      have hd : g t.length = bI d := h2.2.1
      have hvb : v = bI (if f i = -1 then d && c else d || c) := by
        rcases hv with ⟨a0, a1⟩ | ⟨a0, a1⟩
        · rw [if_pos a0]
          rcases a1 with ⟨a1, a2⟩ | ⟨a1, a2, a3⟩ | ⟨a1, a2, a3⟩
          · rw [(bI_z hd).mp a1, a2]; rfl
          · rw [(bI_z hc).mp a2, a3]; cases d <;> rfl
          · cases d with
            | false => exact absurd ((bI_z hd).mpr rfl) a1
            | true => cases c with
              | false => exact absurd ((bI_z hc).mpr rfl) a2
              | true => rw [a3]; rfl
        · rw [if_neg a0]
          rcases a1 with ⟨a1, a2⟩ | ⟨a1, a2, a3⟩ | ⟨a1, a2, a3⟩
          · cases d with
            | false => exact absurd ((bI_z hd).mpr rfl) a1
            | true => rw [a2]; rfl
          · rw [(bI_z hd).mp a1, (bI_z hc).mp a2, a3]; rfl
          · rw [(bI_z hd).mp a1, a3]
            cases c with
            | false => exact absurd ((bI_z hc).mpr rfl) a2
            | true => rfl
      refine ⟨(if f i = -1 then d && c else d || c) :: t, by rw [ht]; rfl, ⟨?_, ?_⟩, ?_, q.2.2.2⟩
      · rw [hg, pk_us, hvb, bI_nar]
      · exact h2.2.2.cp (fun j hj => by rw [hg]; exact pk_un (by omega))
      · rw [← h3, evf_at hi]
        unfold stp
        rw [if_neg e, if_pos e2]
  · exact absurd e2 q.2.1
theorem HB9.push {r : Nat → Int32} {m : Nat} {d x y : Int32} {f : Nat → Int32} {a b i tp : Nat} {g g2 : Nat → Int32} {v : Int32} (h : HB9 (hdF r m d x y) f a b i tp g) (hi : i < b) (e : ¬ f i = -3) (e2 : 0 ≤ f i)
    (hv : (fcP r m (f i / 100000) (f i - f i / 100000 * 100000) d x y ∧ v = 1) ∨ (¬ (fcP r m (f i / 100000) (f i - f i / 100000 * 100000) d x y) ∧ v = 0)) (hg : Upp tp (vp_nar .boolean v) g g2) : HB9 (hdF r m d x y) f a b (i + 1) (tp + 1) g2 := by
  obtain ⟨st, h1, h2, h3, h4⟩ := h
  unfold Upp at hg
  have n2 : ¬ f i < 0 := Int32.not_lt.mpr e2
  rcases dpf_at hi h4 with q | q | q
  · exact absurd q.1 e
  · exact absurd q.2.1 n2
  · have hvb : v = bI (hdF r m d x y (f i)) := by
      unfold hdF
      rcases hv with ⟨a1, a2⟩ | ⟨a1, a2⟩
      · rw [decide_eq_true a1, a2]; rfl
      · rw [decide_eq_false a1, a2]; rfl
    refine ⟨hdF r m d x y (f i) :: st, by rw [← h1]; rfl, ⟨?_, ?_⟩, ?_, q.2.2.2⟩
    · rw [hg, h1, pk_us, hvb, bI_nar]
    · exact h2.cp (fun j hj => by rw [hg]; exact pk_un (by omega))
    · rw [← h3, evf_at hi]
      unfold stp
      rw [if_neg e, if_neg n2]
theorem HB9.fin {F : Int32 → Bool} {f : Nat → Int32} {a b tp : Nat} {g : Nat → Int32} (h : HB9 F f a b b tp g) : g 0 = bI ((evf F f (b - a) a []).headD false) := by
  obtain ⟨st, h1, h2, h3, h4⟩ := h
  rw [Nat.sub_self] at h3 h4
  have e : tp = 1 := Option.some.inj h4
  rw [← h3]
  match st, h1, h2 with
  | [], h1, h2 => exact absurd (show (0 : Nat) = 1 from h1.trans e) (by decide)
  | [c], h1, h2 => exact h2.1
  | c :: d :: t, h1, h2 => exact absurd (h1.trans e) (by simp)
theorem bI_iff {y : Int32} {b : Bool} (h : y = bI b) : (y = 1 ∧ b = true) ∨ (y = 0 ∧ ¬ b = true) := by
  subst h
  cases b
  · exact Or.inr ⟨rfl, by decide⟩
  · exact Or.inl ⟨rfl, rfl⟩
def Elq (n : Nat) (q : Nat → Nat) (f : Nat → Int32) : Prop := ∀ m, m < n → Elem m (q m) f ∧ Elem (m + 1) (q (m + 1)) f
theorem due_n {f : Nat → Int32} {q : Nat → Nat} {dn : Int32} {r s : Nat → Int32} {i : Nat} (h : Ab (dues f q dn r i) s) (hn : ¬ ((dues f q dn r i) (16 + 7 * i + 2) = 0 ∧ hdV (hdF (dues f q dn r i) i ((dues f q dn r i) 4) ((dues f q dn r i) 12) dn) f q i = true)) : Ab (dues f q dn r (i + 1)) s := by
  show Ab (dstep f q dn i (dues f q dn r i)) s
  unfold dstep
  rw [if_neg hn]
  exact h
theorem due_y {f : Nat → Int32} {q : Nat → Nat} {dn : Int32} {r s : Nat → Int32} {i : Nat} (c : (dues f q dn r i) (16 + 7 * i + 2) = 0) (h1 : hdV (hdF (dues f q dn r i) i ((dues f q dn r i) 4) ((dues f q dn r i) 12) dn) f q i = true) (h : Ab (upd (upd (dues f q dn r i) (16 + 7 * i + 2) 1) (16 + 7 * i + 4) ((dues f q dn r i) 4)) s) : Ab (dues f q dn r (i + 1)) s := by
  show Ab (dstep f q dn i (dues f q dn r i)) s
  unfold dstep
  rw [if_pos ⟨c, h1⟩]
  exact h
/-- o comes before m -/
abbrev befR (r : Nat → Int32) (o m : Nat) : Prop := r (16 + 7 * o + 6) < r (16 + 7 * m + 6) ∨ (r (16 + 7 * o + 6) = r (16 + 7 * m + 6) ∧ o < m)
/-- how many due milestones of the first n come before m -/
def dbR (r : Nat → Int32) (m : Nat) : Nat → Nat
  | 0 => 0
  | n + 1 => dbR r m n + (if r (16 + 7 * n + 2) = 1 ∧ befR r n m then 1 else 0)
theorem dbR_le (r : Nat → Int32) (m : Nat) : ∀ n, dbR r m n ≤ n := by
  intro n
  induction n with
  | zero => exact Nat.le_refl 0
  | succ n ih =>
    rw [dbR]
    split <;> omega
def Dbq (r : Nat → Int32) (m i n : Nat) : Prop := n = dbR r m i
theorem Dbq.zero (r : Nat → Int32) (m : Nat) : Dbq r m 0 0 := rfl
theorem Dbq.yes {r : Nat → Int32} {m i n : Nat} (h : Dbq r m i n) (hd : r (16 + 7 * i + 2) = 1) (hb : befR r i m) : Dbq r m (i + 1) (n + 1) := by
  unfold Dbq at h ⊢
  rw [dbR, if_pos ⟨hd, hb⟩, h]
theorem Dbq.no {r : Nat → Int32} {m i n : Nat} (h : Dbq r m i n) (hn : ¬ (r (16 + 7 * i + 2) = 1 ∧ befR r i m)) : Dbq r m (i + 1) (n + 0) := by
  unfold Dbq at h ⊢
  rw [dbR, if_neg hn, h]
def Dwq (r : Nat → Int32) (n k i : Nat) : Prop := ∀ m, m < i → ¬ (r (16 + 7 * m + 2) = 1 ∧ dbR r m n = k)
theorem Dwq.zero (r : Nat → Int32) (n k : Nat) : Dwq r n k 0 := fun m h => absurd h (Nat.not_lt_zero m)
theorem Dwq.step {r : Nat → Int32} {n k i : Nat} (h : Dwq r n k i) (hn : ¬ (r (16 + 7 * i + 2) = 1 ∧ dbR r i n = k)) : Dwq r n k (i + 1) := fun m hm => by
  by_cases e : m = i
  · subst e; exact hn
  · exact h m (by omega)
def DueP (r : Nat → Int32) (m : Nat) : Prop := r (16 + 7 * m + 2) = 1
def DbrP (r : Nat → Int32) (m n k : Nat) : Prop := dbR r m n = k
theorem dbR_lt {r : Nat → Int32} {m : Nat} : ∀ (n : Nat), m < n → dbR r m n < n
  | 0, h => absurd h (Nat.not_lt_zero m)
  | n + 1, h => by
    show dbR r m n + (if r (16 + 7 * n + 2) = 1 ∧ befR r n m then 1 else 0) < n + 1
    by_cases e : m = n
    · subst e
      rw [if_neg (fun q => q.2.elim (fun z => absurd z Int32.lt_irrefl) (fun z => absurd z.2 (Nat.lt_irrefl m)))]
      have := dbR_le r m m
      omega
    · have := dbR_lt (r := r) (m := m) n (by omega)
      by_cases c : r (16 + 7 * n + 2) = 1 ∧ befR r n m
      · rw [if_pos c]; omega
      · rw [if_neg c]; omega
theorem DbrP.lt {r : Nat → Int32} {m n k : Nat} (hm : m < n) (h : DbrP r m n k) : k < n := by
  unfold DbrP at h
  rw [← h]
  exact dbR_lt n hm
def Orq (r : Nat → Int32) (n M : Nat) (o : Nat → Int32) : Prop := ∀ k, k < M → ∃ m, m < n ∧ o k = nI m ∧ DueP r m ∧ DbrP r m n k
theorem Orq.zero (r : Nat → Int32) (n : Nat) (o : Nat → Int32) : Orq r n 0 o := fun k h => absurd h (Nat.not_lt_zero k)
theorem Orq.step {r : Nat → Int32} {n M m : Nat} {o o2 : Nat → Int32} (h : Orq r n M o) (hu : Upp M (nI m) o o2) (hm : m < n) (hd : DueP r m) (hb : DbrP r m n M) : Orq r n (M + 1) o2 := fun k hk => by
  unfold Upp at hu
  by_cases e : k = M
  · subst e; exact ⟨m, hm, by rw [hu]; exact pk_us, hd, hb⟩
  · obtain ⟨m2, a, b, c⟩ := h k (by omega)
    exact ⟨m2, a, by rw [hu, pk_un e]; exact b, c⟩
theorem Orq.get {r : Nat → Int32} {n M k : Nat} {o : Nat → Int32} (h : Orq r n M o) (hk : k < M) : ∃ m, m < n ∧ o k = nI m := by
  obtain ⟨m, a, b, -⟩ := h k hk
  exact ⟨m, a, b⟩
def oqN (o : Nat → Int32) (k : Nat) : Nat := (o k).toNatClampNeg
theorem oqN_e {o : Nat → Int32} {k m : Nat} (h : o k = nI m) (hm : m < 2147483648) : oqN o k = m := by
  unfold oqN
  rw [h, nI_clamp hm]
/-- the due milestones in the order of their payments -/
def Ord (r : Nat → Int32) (n M : Nat) (o : Nat → Nat) : Prop := (∀ k, k < M → o k < n ∧ r (16 + 7 * o k + 2) = 1 ∧ dbR r (o k) n = k) ∧ ∀ m, m < n → ¬ (r (16 + 7 * m + 2) = 1 ∧ dbR r m n = M)
theorem Orq.ord {r : Nat → Int32} {n M : Nat} {o : Nat → Int32} (h : Orq r n M o) (hw : Dwq r n M n) (hn : n ≤ 10) : Ord r n M (oqN o) := by
  refine ⟨fun k hk => ?_, hw⟩
  obtain ⟨m, a, b, c, d⟩ := h k hk
  rw [oqN_e b (by omega)]
  exact ⟨a, c, d⟩
theorem pays_y {n m i : Nat} {o : Nat → Nat} {r s : Nat → Int32} (ho : o i = m) (hr : ripe (pays n o r i) m) (hp : 0 < minI (remR (pays n o r i) m) (avR (pays n o r i) n)) (h : Ab (clR m (mkP m (minI (remR (pays n o r i) m) (avR (pays n o r i) n)) (pays n o r i))) s) : Ab (pays n o r (i + 1)) s := by
  subst ho
  show Ab (pstep n (o i) (pays n o r i)) s
  rw [pstep_y hr hp]
  exact h
theorem pays_n {n m i : Nat} {o : Nat → Nat} {r s : Nat → Int32} (ho : o i = m) (hn : ¬ (ripe (pays n o r i) m ∧ 0 < minI (remR (pays n o r i) m) (avR (pays n o r i) n))) (h : Ab (pays n o r i) s) : Ab (pays n o r (i + 1)) s := by
  subst ho
  show Ab (pstep n (o i) (pays n o r i)) s
  rw [pstep_n hn]
  exact h
def PdR (r : Nat → Int32) (n : Nat) (s : Nat → Int32) : Prop := ∃ M o, Ord r n M o ∧ Ab (pays n o r M) s
/-- the accrued parts behind a day's interest; a credit -/
def pqQ (p : Int64) (r : Nat → Int32) : Int64 := p + (r 6 + r 7).toInt64 * (r 0).toInt64
def crC (p : Int64) (r : Nat → Int32) : Int32 := (p / (10000 * (r 1).toInt64)).toInt32
def crQ (p : Int64) (r : Nat → Int32) : Int64 := p - p / (10000 * (r 1).toInt64) * (10000 * (r 1).toInt64)
def crR (p : Int64) (r : Nat → Int32) : Nat → Int32 := entR (crC p r) (upd (upd r 7 (r 7 + crC p r)) 8 (r 8 + crC p r))
/-- a day of the reference -/
def DyR (f : Nat → Int32) (q : Nat → Nat) (n dy : Nat) (r : Nat → Int32) (p : Int64) (s : Nat → Int32) (p2 : Int64) : Prop :=
  ∃ r2, (((dy + 1) % 30 = 0 ∧ r2 = crR (pqQ p r) (upd r 4 (nI (dy + 1))) ∧ p2 = crQ (pqQ p r) (upd r 4 (nI (dy + 1)))) ∨ (¬ (dy + 1) % 30 = 0 ∧ r2 = upd r 4 (nI (dy + 1)) ∧ p2 = pqQ p r)) ∧ PdR (dues f q (doR r2 n) r2 n) n s
def DysR (f : Nat → Int32) (q : Nat → Nat) (n : Nat) : Nat → Nat → (Nat → Int32) → Int64 → (Nat → Int32) → Int64 → Prop
  | 0, _, r, p, s, p2 => Ab r s ∧ p2 = p
  | k + 1, dy, r, p, s, p2 => ∃ t p1, DysR f q n k dy r p t p1 ∧ DyR f q n (dy + k) t p1 s p2
theorem DysR.step {f : Nat → Int32} {q : Nat → Nat} {n k dy : Nat} {r t s : Nat → Int32} {p p1 p2 : Int64} (h : DysR f q n k dy r p t p1) (h2 : DyR f q n (dy + k) t p1 s p2) : DysR f q n (k + 1) dy r p s p2 := ⟨t, p1, h, h2⟩
def ShL (i : Nat) (f0 f : Nat → Int64) : Prop := ∀ x, f x = if x + 1 < i then f0 (x + 1) else f0 x
theorem ShL.zero (f : Nat → Int64) : ShL 1 f f := fun x => by rw [if_neg (by omega)]
theorem ShL.step {i : Nat} {f0 f : Nat → Int64} (h1 : 1 ≤ i) (h2 : i < 10) (h : ShL i f0 f) : ShL (i + 1) f0 (vp_updL f (nI (i - 1)).toNatClampNeg (f i)) := by
  rw [nI_clamp (by omega)]
  intro x
  by_cases e : x = i - 1
  · rw [e, vpL_s, if_pos (by omega), h i, if_neg (by omega), show i - 1 + 1 = i by omega]
  · rw [vpL_n e, h x]
    by_cases q : x + 1 < i
    · rw [if_pos q, if_pos (by omega)]
    · rw [if_neg q, if_neg (by omega)]
/-- the reference remembers an account: fs, its parts q -/
def Hrem (ed : Nat) (fh : Nat → Int32) (fl : Nat → Int64) (fs : Nat → Int32) (q : Int64) (ed2 : Nat) (zh : Nat → Int32) (zl : Nat → Int64) : Prop := ed2 = min (ed + 1) 10 ∧ (∀ i, i + 1 < ed2 → (∀ j, j < 326 → zh (326 * i + j) = fh (326 * (i + (ed + 1 - ed2)) + j)) ∧ zl i = fl (i + (ed + 1 - ed2))) ∧ (∀ j, j < 326 → zh (326 * (ed2 - 1) + j) = fs j) ∧ zl (ed2 - 1) = q
theorem Hrem.one {ed : Nat} {fh fs zh : Nat → Int32} {fl zl : Nat → Int64} {q : Int64} (hn : ed < 10) (hc : Hcp ed 326 fs fh zh) (hu : UppL ed q fl zl) : Hrem ed fh fl fs q (ed + 1) zh zl := by
  unfold UppL at hu
  refine ⟨by omega, fun i hi => ⟨fun j hj => ?_, ?_⟩, fun j hj => ?_, ?_⟩
  · rw [hc, if_neg (by omega), show i + (ed + 1 - (ed + 1)) = i by omega]
  · rw [hu, vpL_n (by omega), show i + (ed + 1 - (ed + 1)) = i by omega]
  · rw [show ed + 1 - 1 = ed by omega, hc, if_pos (by omega), show 326 * ed + j - 326 * ed = j by omega]
  · rw [show ed + 1 - 1 = ed by omega, hu]; exact vpL_s
theorem Hrem.ten {ed : Nat} {fh fs f0 zh : Nat → Int32} {fl l0 zl : Nat → Int64} {q : Int64} (hn : ed = 10) (hs : Shf 3260 fh f0) (hl : ShL 10 fl l0) (hc : Hcp (ed - 1) 326 fs f0 zh) (hu : UppL (ed - 1) q l0 zl) : Hrem ed fh fl fs q (ed - 1 + 1) zh zl := by
  unfold UppL at hu
  refine ⟨by omega, fun i hi => ⟨fun j hj => ?_, ?_⟩, fun j hj => ?_, ?_⟩
  · rw [hc, if_neg (by omega), hs, if_pos (by omega)]
    congr 1
    omega
  · rw [hu, vpL_n (by omega), hl, if_pos (by omega)]
    congr 1
    omega
  · rw [show ed - 1 + 1 - 1 = ed - 1 by omega, hc, if_pos (by omega)]
    congr 1
    omega
  · rw [show ed - 1 + 1 - 1 = ed - 1 by omega, hu]; exact vpL_s
def Hund (ed : Nat) (fh : Nat → Int32) (fl : Nat → Int64) (fs : Nat → Int32) (q : Int64) (ed2 : Nat) (zs : Nat → Int32) (zq : Int64) : Prop := (ed = 0 ∧ ed2 = ed ∧ zs = fs ∧ zq = q) ∨ (0 < ed ∧ ed2 = ed - 1 ∧ (∀ j, j < 326 → zs j = fh (326 * (ed - 1) + j)) ∧ zq = fl (ed - 1))
theorem nI_ij {a b : Nat} (h : nI a = nI b) (ha : a < 2147483648) (hb : b < 2147483648) : a = b := (nI_eq ha hb).mp h
theorem mil_y0 {i : Int32} {n : Nat} (h : 0 ≤ i.toInt64 ∧ i.toInt64 ≤ -1) (_ : n = 0) : ∃ k, k < n ∧ i = nI k := (btw_no h.1 h.2).elim
theorem mil_n0 {i : Int32} {n : Nat} (_ : ¬ (0 ≤ i.toInt64 ∧ i.toInt64 ≤ -1)) (e : n = 0) : ¬ (∃ k, k < n ∧ i = nI k) := fun ⟨k, hk, _⟩ => by omega
theorem mil_y {i : Int32} {n : Nat} (h : 0 ≤ i.toInt64 ∧ i.toInt64 ≤ (nI (n - 1)).toInt64) (hn : 0 < n ∧ n < 2147483648) : ∃ k, k < n ∧ i = nI k := by
  obtain ⟨k, a, b⟩ := btw_nat h.1 h.2 (by omega)
  exact ⟨k, by omega, b⟩
theorem mil_n {i : Int32} {n : Nat} (h : ¬ (0 ≤ i.toInt64 ∧ i.toInt64 ≤ (nI (n - 1)).toInt64)) (hn : 0 < n ∧ n < 2147483648) : ¬ (∃ k, k < n ∧ i = nI k) := fun ⟨k, hk, e⟩ => h (by
  rw [e, nI_l (by omega), nI_l (by omega)]
  exact ⟨(lN_le (a := 0) (by omega) (by omega)).mpr (by omega), (lN_le (by omega) (by omega)).mpr (by omega)⟩)
theorem rng_y {lo hi : Nat} {i : Int32} (hl : lo < 2147483648) (hh : hi < 2147483648) (h : lN lo ≤ i.toInt64 ∧ i.toInt64 ≤ lN hi) : ∃ n, (lo ≤ n ∧ n ≤ hi) ∧ i = nI n := by
  obtain ⟨n, a, b, c⟩ := btw_c (m := i) (lo := lo) (hi := hi) (lo' := lN lo) (hi' := lN hi) (lN_toInt (by omega)) (lN_toInt (by omega)) h.1 h.2
  exact ⟨n, ⟨a, b⟩, c⟩
theorem rng_n {lo hi : Nat} {i : Int32} (hl : lo < 2147483648) (hh : hi < 2147483648) (h : ¬ (lN lo ≤ i.toInt64 ∧ i.toInt64 ≤ lN hi)) : ¬ (∃ n, (lo ≤ n ∧ n ≤ hi) ∧ i = nI n) := fun ⟨n, ⟨a, b⟩, e⟩ => h (by
  rw [e, nI_l (by omega)]
  exact ⟨(lN_le (by omega) (by omega)).mpr a, (lN_le (by omega) (by omega)).mpr b⟩)
/-- what is allowed -/
def AcDep (r : Nat → Int32) (x : Int32) : Prop := (1 ≤ x.toInt64 ∧ x.toInt64 ≤ 99999) ∧ (r 5).toInt64 + x.toInt64 ≤ 9999999
def AcGra (x : Int32) : Prop := 0 ≤ x.toInt64 ∧ x.toInt64 ≤ 60
def AcPin (r : Nat → Int32) (x : Int32) : Prop := 1 ≤ x.toInt64 ∧ x.toInt64 ≤ (r 7).toInt64
def AcRat (a b : Int32) : Prop := (0 ≤ a.toInt64 ∧ a.toInt64 ≤ 3000) ∧ (b = 360 ∨ b = 365)
def AcAny (_ : Nat) : Prop := True
def AcApp (r : Nat → Int32) (k : Nat) : Prop := ¬ 3 ≤ r (16 + 7 * k + 2)
def AcOpn (r : Nat → Int32) (k : Nat) : Prop := r (16 + 7 * k + 2) ≤ 1
def AcDis (r : Nat → Int32) (k : Nat) : Prop := r (16 + 7 * k + 2) = 2
def AcPay (r : Nat → Int32) (n : Nat) (x : Int32) (k : Nat) : Prop := (1 ≤ x.toInt64 ∧ x.toInt64 ≤ (remR r k).toInt64) ∧ r (16 + 7 * k + 2) ≤ 1 ∧ x ≤ avR r n
def AcRes (r : Nat → Int32) (j : Int32) (k : Nat) : Prop := r (16 + 7 * k + 2) = 2 ∧ ∃ n, (0 ≤ n ∧ n ≤ 1000) ∧ j = nI n
def AcClo (r : Nat → Int32) (n : Nat) : Prop := ∀ m, m < n → 3 ≤ r (16 + 7 * m + 2)
/-- what the edits do to the row -/
def depR (x : Int32) (r : Nat → Int32) : Nat → Int32 := entR x (upd (upd r 5 (r 5 + x)) 6 (r 6 + x))
def graR (x : Int32) (r : Nat → Int32) : Nat → Int32 := upd r 3 x
def pinR (x : Int32) (r : Nat → Int32) : Nat → Int32 := entR x (upd r 7 (r 7 - x))
def ratR (a b : Int32) (r : Nat → Int32) : Nat → Int32 := upd (upd r 0 a) 1 b
def subR (k : Nat) (r : Nat → Int32) : Nat → Int32 := upd r 12 (r 12 ||| (1 : Int32) <<< (nI k &&& 31))
def appR (k : Nat) (r : Nat → Int32) : Nat → Int32 := upd r (16 + 7 * k + 5) 1
def payR (x : Int32) (k : Nat) (r : Nat → Int32) : Nat → Int32 := clR k (mkP k x r)
def disR (n k : Nat) (r : Nat → Int32) : Nat → Int32 := upd (upd r (16 + 7 * k + 3) (minI (remR r k) (avR r n))) (16 + 7 * k + 2) 2
def wdrR (k : Nat) (r : Nat → Int32) : Nat → Int32 := upd (upd r (16 + 7 * k + 3) 0) (16 + 7 * k + 2) 0
def canR (k : Nat) (r : Nat → Int32) : Nat → Int32 := upd r (16 + 7 * k + 2) 5
def splS (n k : Nat) (r : Nat → Int32) : Int32 := minI (remR r k) (avR r n + r (16 + 7 * k + 3))
def splB (n k : Nat) (j : Int32) (r : Nat → Int32) : Int32 := ((splS n k r).toInt64 * j.toInt64 / 1000).toInt32
def resR (n : Nat) (j : Int32) (k : Nat) (r : Nat → Int32) : Nat → Int32 := upd (refR (splS n k r - splB n k j r) (mkP k (splB n k j r) (upd r (16 + 7 * k + 3) 0))) (16 + 7 * k + 2) 4
def cloR (r : Nat → Int32) : Nat → Int32 := refR (r 6) r
def EdM (P : Prop) (op : (Nat → Int32) → Nat → Int32) (ed : Nat) (fh : Nat → Int32) (fl : Nat → Int64) (fs : Nat → Int32) (q : Int64) (ed2 : Nat) (zh : Nat → Int32) (zl : Nat → Int64) (zs : Nat → Int32) : Prop := (P ∧ Hrem ed fh fl fs q ed2 zh zl ∧ Ab (op fs) zs) ∨ (¬ P ∧ ed2 = ed ∧ zh = fh ∧ zl = fl ∧ zs = fs)
def EdK (n : Nat) (i : Int32) (P : Nat → Prop) (op : Nat → (Nat → Int32) → Nat → Int32) (ed : Nat) (fh : Nat → Int32) (fl : Nat → Int64) (fs : Nat → Int32) (q : Int64) (ed2 : Nat) (zh : Nat → Int32) (zl : Nat → Int64) (zs : Nat → Int32) : Prop := (∃ k, k < n ∧ i = nI k ∧ P k ∧ Hrem ed fh fl fs q ed2 zh zl ∧ Ab (op k fs) zs) ∨ (¬ (∃ k, k < n ∧ i = nI k ∧ P k) ∧ ed2 = ed ∧ zh = fh ∧ zl = fl ∧ zs = fs)
def EdP (i : Int32) (ed : Nat) (fh : Nat → Int32) (fl : Nat → Int64) (f : Nat → Int32) (cq : Nat → Nat) (n dy : Nat) (fs : Nat → Int32) (q : Int64) (ed2 : Nat) (zh : Nat → Int32) (zl : Nat → Int64) (zs : Nat → Int32) (zq : Int64) : Prop := (∃ N, (1 ≤ N ∧ N ≤ 120) ∧ i = nI N ∧ dy + N ≤ 9999 ∧ Hrem ed fh fl fs q ed2 zh zl ∧ DysR f cq n N dy fs q zs zq) ∨ (¬ (∃ N, (1 ≤ N ∧ N ≤ 120) ∧ i = nI N ∧ dy + N ≤ 9999) ∧ ed2 = ed ∧ zh = fh ∧ zl = fl ∧ zs = fs ∧ zq = q)
def Acl (r : Nat → Int32) (i : Nat) (v : Int32) : Prop := (v = 1 ∧ ∀ m, m < i → 3 ≤ r (16 + 7 * m + 2)) ∨ (v = 0 ∧ ¬ ∀ m, m < i → 3 ≤ r (16 + 7 * m + 2))
theorem Acl.zero (r : Nat → Int32) : Acl r 0 1 := Or.inl ⟨rfl, fun m h => absurd h (Nat.not_lt_zero m)⟩
theorem Acl.y {r : Nat → Int32} {i : Nat} {v : Int32} (h : Acl r i v) (c : ¬ v = 0) (h3 : 3 ≤ r (16 + 7 * i + 2)) : Acl r (i + 1) 1 := by
  rcases h with ⟨-, q⟩ | ⟨q, -⟩
  · refine Or.inl ⟨rfl, fun m hm => ?_⟩
    by_cases e : m = i
    · subst e; exact h3
    · exact q m (by omega)
  · exact absurd q c
theorem Acl.n {r : Nat → Int32} {i : Nat} {v : Int32} (_ : Acl r i v) (h3 : ¬ 3 ≤ r (16 + 7 * i + 2)) : Acl r (i + 1) 0 := Or.inr ⟨rfl, fun q => h3 (q i (by omega))⟩
theorem Acl.z {r : Nat → Int32} {i : Nat} {v : Int32} (h : Acl r i v) (c : v = 0) : Acl r (i + 1) 0 := by
  rcases h with ⟨q, -⟩ | ⟨-, q⟩
  · rw [q] at c; exact absurd c (by decide)
  · exact Or.inr ⟨rfl, fun z => q (fun m hm => z m (by omega))⟩
theorem Acl.fin {r : Nat → Int32} {n : Nat} {v : Int32} (h : Acl r n v) (_ : v = 0 ∨ v = 1) : (v = 1 ∧ (∀ m, m < n → 3 ≤ r (16 + 7 * m + 2))) ∨ (v = 0 ∧ ¬ (∀ m, m < n → 3 ≤ r (16 + 7 * m + 2))) := h

theorem cpy_at {α : Type} (f g : Nat → α) (n : Nat) : ∀ j, j < n → va_cpy f g 0 0 n j = f j := fun j hj => by
  unfold va_cpy
  rw [if_pos (by omega)]
  congr 1
  omega
def avC (p : Int32) (f : Nat → Int32) : Nat → Int32
  | 0 => p
  | n + 1 => avC p f n - f n
def Avc (p : Int32) (f : Nat → Int32) (i : Nat) (v : Int32) : Prop := v = avC p f i
theorem Avc.zero (p : Int32) (f : Nat → Int32) : Avc p f 0 p := rfl
theorem Avc.step {p : Int32} {f : Nat → Int32} {i : Nat} {v : Int32} (h : Avc p f i v) : Avc p f (i + 1) (v - f i) := by
  unfold Avc at h ⊢
  rw [h]
  rfl
def rmC (fs fp fam : Nat → Int32) (m : Nat) : Int32 := if 3 ≤ fs m then 0 else fam m - fp m
theorem rmC_0 {fs fp fam : Nat → Int32} {m : Nat} (h : 3 ≤ fs m) : rmC fs fp fam m = 0 := if_pos h
theorem rmC_1 {fs fp fam : Nat → Int32} {m : Nat} (h : ¬ 3 ≤ fs m) : rmC fs fp fam m = fam m - fp m := if_neg h
def doC (f : Nat → Int32) : Nat → Int32
  | 0 => 0
  | n + 1 => doC f n ||| (if f n = 3 ∨ f n = 4 then (1 : Int32) <<< (nI n &&& 31) else 0)
def Doc (f : Nat → Int32) (i : Nat) (v : Int32) : Prop := v = doC f i
theorem Doc.zero (f : Nat → Int32) : Doc f 0 0 := rfl
theorem or0 (x : Int32) : x ||| 0 = x := Int32.toBitVec_inj.mp (by rw [Int32.toBitVec_or]; show x.toBitVec ||| 0#32 = x.toBitVec; exact BitVec.or_zero)
theorem Doc.yes {f : Nat → Int32} {i : Nat} {v : Int32} (h : Doc f i v) (c : f i = 3 ∨ f i = 4) : Doc f (i + 1) (v ||| (1 : Int32) <<< (nI i &&& 31)) := by
  unfold Doc at h ⊢
  rw [doC, if_pos c, h]
theorem Doc.no {f : Nat → Int32} {i : Nat} {v : Int32} (h : Doc f i v) (c : ¬ (f i = 3 ∨ f i = 4)) : Doc f (i + 1) v := by
  unfold Doc at h ⊢
  rw [doC, if_neg c, or0, h]
abbrev btC (a b : Int32) : Prop := (a.toUInt32 >>> (b.toUInt32 &&& Int32.toUInt32 31)).toInt32 &&& 1 = 1
def wAn (a b : Int32) : Int32 := (a <<< (1 &&& 31)) ||| (if b = 0 then 0 else 1)
/-- a step and its operand as a code -/
def EncS (s o c : Int32) : Prop := (s = 16 ∧ c = -3) ∨ (s = 15 ∧ c = -1) ∨ (s = 14 ∧ c = -2) ∨ (s = 17 ∧ ∃ v, v < 100000 ∧ o = nI v ∧ c = nI v) ∨ (s = 18 ∧ ∃ v, v < 31 ∧ o = nI v ∧ c = nI (100000 + v)) ∨ (s = 19 ∧ ∃ v, v < 31 ∧ o = nI v ∧ c = nI (200000 + v)) ∨ (s = 20 ∧ ∃ v, v < 100000 ∧ o = nI v ∧ c = nI (300000 + v)) ∨ (s = 21 ∧ c = nI 400000) ∨ (s = 22 ∧ c = nI 500000)
def CE (n : Nat) (f s o : Nat → Int32) : Prop := ∀ k, k < n → EncS (s k) (o k) (f k)
def Ens (n : Nat) (q : Nat → Nat) (f : Nat → Int32) : Prop := ∀ m, m < n → f m = nI (q (m + 1))
theorem Ens.at {n m : Nat} {q : Nat → Nat} {f : Nat → Int32} (h : Ens n q f) (hm : m < n) : f m = nI (q (m + 1)) := h m hm
theorem CQ.mono {n : Nat} {f : Nat → Int32} {q : Nat → Nat} (h : CQ n f q) : ∀ {m : Nat}, m ≤ n → q m ≤ q n := by
  intro m hm
  have g : ∀ k, m + k ≤ n → q m ≤ q (m + k) := by
    intro k
    induction k with
    | zero => intro _; exact Nat.le_refl _
    | succ k ih =>
      intro hk
      exact Nat.le_trans (ih (by omega)) (h.2 (m + k) (by omega)).1
  have := g (n - m) (by omega)
  rw [show m + (n - m) = n by omega] at this
  exact this
abbrev fcG (p ap a b d x y : Int32) : Prop := (a = 0 ∧ b ≤ d) ∨ (a = 1 ∧ btQ x b) ∨ (a = 2 ∧ btQ y b) ∨ (a = 3 ∧ b ≤ p) ∨ (a = 4 ∧ ap = 1) ∨ (a ≠ 0 ∧ a ≠ 1 ∧ a ≠ 2 ∧ a ≠ 3 ∧ a ≠ 4)
def hdG (p ap d x y c : Int32) : Bool := decide (fcG p ap (c / 100000) (c - c / 100000 * 100000) d x y)
theorem hdFG (r : Nat → Int32) (m : Nat) (d x y : Int32) : hdF r m d x y = hdG (r 10) (r (16 + 7 * m + 5)) d x y := rfl
/-- the values that wait, as a number's bits -/
def bn : List Bool → Nat
  | [] => 0
  | b :: t => 2 * bn t + b.toNat
theorem bn_lt : ∀ st : List Bool, bn st < 2 ^ st.length
  | [] => by decide
  | b :: t => by
    have h := bn_lt t
    show 2 * bn t + b.toNat < 2 ^ (t.length + 1)
    rw [Nat.pow_succ]
    have : b.toNat ≤ 1 := Bool.toNat_le b
    omega
theorem bn_31 {st : List Bool} (h : st.length ≤ 31) : bn st < 2147483648 := Nat.lt_of_lt_of_le (bn_lt st) (Nat.le_trans (Nat.pow_le_pow_right (by decide) h) (by decide))
theorem nI_bt (n i : Nat) (hi : i < 32) : (nI n).toBitVec.getLsbD i = n.testBit i := by
  show (BitVec.ofNat 32 n).getLsbD i = n.testBit i
  rw [BitVec.getLsbD_ofNat]
  simp [hi]
theorem nI_x1 (x : Nat) (b : Bool) : nI (2 * x + b.toNat) ^^^ 1 = nI (2 * x + (!b).toNat) := by
  apply Int32.toBitVec_inj.mp
  apply BitVec.eq_of_getLsbD_eq
  intro i hi
  rw [Int32.toBitVec_xor, BitVec.getLsbD_xor, nI_bt _ _ hi, nI_bt _ _ hi, show (1 : Int32) = nI 1 from rfl, nI_bt _ _ hi]
  cases i with
  | zero =>
    rw [Nat.testBit_zero, Nat.testBit_zero, Nat.testBit_zero]
    cases b
    · rw [show (2 * x + false.toNat) % 2 = 0 by show (2 * x + 0) % 2 = 0; omega, show (2 * x + (!false).toNat) % 2 = 1 by show (2 * x + 1) % 2 = 1; omega]; rfl
    · rw [show (2 * x + true.toNat) % 2 = 1 by show (2 * x + 1) % 2 = 1; omega, show (2 * x + (!true).toNat) % 2 = 0 by show (2 * x + 0) % 2 = 0; omega]; rfl
  | succ i =>
    rw [Nat.testBit_succ, Nat.testBit_succ, Nat.testBit_succ, show (2 * x + b.toNat) / 2 = x by have := Bool.toNat_le b; omega, show (2 * x + (!b).toNat) / 2 = x by have := Bool.toNat_le (!b); omega, show 1 / 2 = 0 by decide, Nat.zero_testBit, Bool.xor_false]
theorem nI_o1 (x : Nat) (d c : Bool) : nI (2 * x + d.toNat) ||| nI c.toNat = nI (2 * x + (d || c).toNat) := by
  apply Int32.toBitVec_inj.mp
  apply BitVec.eq_of_getLsbD_eq
  intro i hi
  rw [Int32.toBitVec_or, BitVec.getLsbD_or, nI_bt _ _ hi, nI_bt _ _ hi, nI_bt _ _ hi]
  cases i with
  | zero =>
    rw [Nat.testBit_zero, Nat.testBit_zero, Nat.testBit_zero]
    cases d <;> cases c <;> simp <;> omega
  | succ i =>
    rw [Nat.testBit_succ, Nat.testBit_succ, Nat.testBit_succ, show (2 * x + d.toNat) / 2 = x by have := Bool.toNat_le d; omega, show (2 * x + (d || c).toNat) / 2 = x by have := Bool.toNat_le (d || c); omega, show c.toNat / 2 = 0 by have := Bool.toNat_le c; omega, Nat.zero_testBit, Bool.or_false]
theorem m2_bt : ∀ i, i < 32 → (-2 : Int32).toBitVec.getLsbD i = decide (1 ≤ i) := by decide +kernel
theorem m1_bt : ∀ i, i < 32 → (-1 : Int32).toBitVec.getLsbD i = true := by decide +kernel
theorem nI_m1 (n : Nat) : nI n &&& -1 = nI n := by
  apply Int32.toBitVec_inj.mp
  apply BitVec.eq_of_getLsbD_eq
  intro i hi
  rw [Int32.toBitVec_and, BitVec.getLsbD_and, m1_bt i hi, Bool.and_true]
theorem nI_m2 (x : Nat) (d : Bool) : nI (2 * x + d.toNat) &&& -2 = nI (2 * x + 0) := by
  apply Int32.toBitVec_inj.mp
  apply BitVec.eq_of_getLsbD_eq
  intro i hi
  rw [Int32.toBitVec_and, BitVec.getLsbD_and, m2_bt i hi, nI_bt _ _ hi, nI_bt _ _ hi]
  cases i with
  | zero =>
    rw [Nat.testBit_zero, Nat.testBit_zero, show (2 * x + 0) % 2 = 0 by omega]
    cases d <;> simp
  | succ i =>
    rw [Nat.testBit_succ, Nat.testBit_succ, show (2 * x + d.toNat) / 2 = x by have := Bool.toNat_le d; omega, show (2 * x + 0) / 2 = x by omega, show decide (1 ≤ i + 1) = true from decide_eq_true (by omega), Bool.and_true]
theorem nI_a1 (x : Nat) (d c : Bool) : nI (2 * x + d.toNat) &&& (nI c.toNat ||| -2) = nI (2 * x + (d && c).toNat) := by
  cases c
  · rw [show nI false.toNat ||| -2 = (-2 : Int32) by decide, nI_m2, Bool.and_false]; rfl
  · rw [show nI true.toNat ||| -2 = (-1 : Int32) by decide, nI_m1, Bool.and_true]
/-- the class's number of answers, behind the codes from a to i -/
def HC9 (F : Int32 → Bool) (f : Nat → Int32) (a b i : Nat) (w : Int32) : Prop := ∃ st : List Bool, w = nI (bn st) ∧ st.length ≤ 31 ∧ evf F f (b - i) i st = evf F f (b - a) a [] ∧ dpf f (b - i) i st.length = some 1
theorem HC9.zero {F : Int32 → Bool} {f : Nat → Int32} {a b : Nat} (h : dpf f (b - a) a 0 = some 1) : HC9 F f a b a 0 := ⟨[], rfl, by decide, rfl, h⟩
theorem En_k16 {s o c : Int32} (e : EncS s o c) (h : s = 16) : c = -3 := by
  subst h
  rcases e with q | q | q | q | q | q | q | q | q
  · exact q.2
  all_goals exact absurd q.1 (by decide)
theorem En_k15 {s o c : Int32} (e : EncS s o c) (h : s = 15) : c = -1 := by
  subst h
  rcases e with q | q | q | q | q | q | q | q | q
  · exact absurd q.1 (by decide)
  · exact q.2
  all_goals exact absurd q.1 (by decide)
theorem En_k14 {s o c : Int32} (e : EncS s o c) (h : s = 14) : c = -2 := by
  subst h
  rcases e with q | q | q | q | q | q | q | q | q
  · exact absurd q.1 (by decide)
  · exact absurd q.1 (by decide)
  · exact q.2
  all_goals exact absurd q.1 (by decide)
theorem HC9.not {F : Int32 → Bool} {f : Nat → Int32} {a b i : Nat} {w s o : Int32} (h : HC9 F f a b i w) (hi : i < b) (e : EncS s o (f i)) (hs : s = 16) : HC9 F f a b (i + 1) (w ^^^ 1) := by
  have e := En_k16 e hs
  obtain ⟨st, h1, h2, h3, h4⟩ := h
  rcases dpf_at hi h4 with q | q | q
  · match st, h1, h2, h3, q with
    | [], h1, h2, h3, q => exact absurd q.2.1 (by decide)
    | c :: t, h1, h2, h3, q =>
      refine ⟨(!c) :: t, ?_, h2, ?_, q.2.2⟩
      · rw [h1]; exact nI_x1 _ _
      · rw [← h3, evf_at hi]
        unfold stp
        rw [if_pos e]
  · exact absurd e q.1
  · exact absurd e q.1
theorem HC9.bin {F : Int32 → Bool} {f : Nat → Int32} {a b i : Nat} {w w2 : Int32} (h : HC9 F f a b i w) (hi : i < b) (e : ¬ f i = -3) (e2 : f i < 0) (hw : ∀ (x : Nat) (d c : Bool), 4 * x + 2 * d.toNat + c.toNat < 2147483648 → w = nI (2 * (2 * x + d.toNat) + c.toNat) → w2 = nI (2 * x + (if f i = -1 then d && c else d || c).toNat)) : HC9 F f a b (i + 1) w2 := by
  obtain ⟨st, h1, h2, h3, h4⟩ := h
  rcases dpf_at hi h4 with q | q | q
  · exact absurd q.1 e
  · match st, h1, h2, h3, q with
    | [], h1, h2, h3, q => exact absurd q.2.2.1 (by decide)
    | [_], h1, h2, h3, q => exact absurd q.2.2.1 (by simp)
    | c :: d :: t, h1, h2, h3, q =>
      refine ⟨(if f i = -1 then d && c else d || c) :: t, ?_, ?_, ?_, q.2.2.2⟩
      · refine hw (bn t) d c ?_ h1
        have := bn_31 h2
        have e9 : bn (c :: d :: t) = 2 * (2 * bn t + d.toNat) + c.toNat := rfl
        omega
      · have : t.length + 1 + 1 ≤ 31 := h2
        show t.length + 1 ≤ 31
        omega
      · rw [← h3, evf_at hi]
        unfold stp
        rw [if_neg e, if_pos e2]
  · exact absurd e2 q.2.1
theorem w_sr {x : Nat} {d c : Bool} (h : 4 * x + 2 * d.toNat + c.toNat < 2147483648) : ((nI (2 * (2 * x + d.toNat) + c.toNat)).toUInt32 >>> ((1 : Int32).toUInt32 &&& Int32.toUInt32 31)).toInt32 = nI (2 * x + d.toNat) := by
  rw [pk_ushrN (by omega) 1 1 (by decide)]
  congr 1
  have := Bool.toNat_le c
  omega
theorem w_an {x : Nat} {d c : Bool} (h : 4 * x + 2 * d.toNat + c.toNat < 2147483648) : nI (2 * (2 * x + d.toNat) + c.toNat) &&& 1 = nI c.toNat := by
  rw [pk_andN (by omega) 1 (by decide)]
  congr 1
  have := Bool.toNat_le c
  omega
theorem HC9.and {F : Int32 → Bool} {f : Nat → Int32} {a b i : Nat} {w s o : Int32} (h : HC9 F f a b i w) (hi : i < b) (e : EncS s o (f i)) (hs : s = 15) : HC9 F f a b (i + 1) ((w.toUInt32 >>> ((1 : Int32).toUInt32 &&& Int32.toUInt32 31)).toInt32 &&& ((w &&& 1) ||| -2)) := by
  have e := En_k15 e hs
  refine h.bin hi (by rw [e]; decide) (by rw [e]; decide) (fun x d c hb hw => ?_)
  rw [hw, w_sr hb, w_an hb, nI_a1, if_pos e]
theorem HC9.or {F : Int32 → Bool} {f : Nat → Int32} {a b i : Nat} {w s o : Int32} (h : HC9 F f a b i w) (hi : i < b) (e : EncS s o (f i)) (hs : s = 14) : HC9 F f a b (i + 1) ((w.toUInt32 >>> ((1 : Int32).toUInt32 &&& Int32.toUInt32 31)).toInt32 ||| (w &&& 1)) := by
  have e := En_k14 e hs
  refine h.bin hi (by rw [e]; decide) (by rw [e]; decide) (fun x d c hb hw => ?_)
  rw [hw, w_sr hb, w_an hb, nI_o1, if_neg (by rw [e]; decide)]
theorem HC9.psh {F : Int32 → Bool} {f : Nat → Int32} {a b i : Nat} {w v : Int32} (h : HC9 F f a b i w) (hi : i < b) (e : 0 ≤ f i) (hv : (v = 1 ∧ F (f i) = true) ∨ (v = 0 ∧ ¬ F (f i) = true)) : HC9 F f a b (i + 1) (wAn w v) := by
  have n2 : ¬ f i < 0 := Int32.not_lt.mpr e
  obtain ⟨st, h1, h2, h3, h4⟩ := h
  rcases dpf_at hi h4 with q | q | q
  · rw [q.1] at e; exact absurd e (by decide)
  · exact absurd q.2.1 n2
  · have hb : (if v = 0 then (0 : Int32) else 1) = nI (F (f i)).toNat := by
      rcases hv with ⟨a1, a2⟩ | ⟨a1, a2⟩
      · rw [a1, a2]; decide
      · rw [a1, Bool.eq_false_iff.mpr a2]; decide
    refine ⟨F (f i) :: st, ?_, q.2.2.1, ?_, q.2.2.2⟩
    · unfold wAn
      have hlt := bn_31 h2
      rw [hb, h1, show ((1 : Int32) &&& 31) = 1 by decide, pk_shlN 1 1 (by decide) (by omega), show bn st * 2 ^ 1 = 2 * bn st + false.toNat by show bn st * 2 = 2 * bn st + 0; omega, nI_o1, Bool.false_or]
      rfl
    · rw [← h3, evf_at hi]
      unfold stp
      rw [if_neg q.1, if_neg n2]
theorem HC9.fin {F : Int32 → Bool} {f : Nat → Int32} {a b : Nat} {w : Int32} (h : HC9 F f a b b w) : (w &&& 1 = 1) ↔ (evf F f (b - a) a []).headD false = true := by
  obtain ⟨st, h1, h2, h3, h4⟩ := h
  rw [Nat.sub_self] at h3 h4
  have e : st.length = 1 := Option.some.inj h4
  rw [← h3]
  match st, h1, e with
  | [c], h1, e =>
    rw [h1]
    show nI (bn [c]) &&& 1 = 1 ↔ c = true
    cases c <;> decide
def EnX (v k : Nat) : Prop := nI (100000 * k + v) / 100000 = nI k ∧ nI (100000 * k + v) - nI (100000 * k + v) / 100000 * 100000 = nI v ∧ 0 ≤ nI (100000 * k + v)
theorem enx {v k : Nat} (hv : v < 100000) (hk : k < 6) : EnX v k := by
  have h1 : nI (100000 * k + v) / 100000 = nI k := by
    rw [show (100000 : Int32) = nI 100000 from rfl, nI_div (by omega) (by omega) (by omega)]
    congr 1
    omega
  refine ⟨h1, ?_, nI_pos' (by omega)⟩
  rw [show (100000 : Int32) = nI 100000 from rfl, nI_rem (by omega) (by omega) (by omega)]
  congr 1
  omega
theorem En_kind {s o c : Int32} (e : EncS s o c) (h6 : ¬ s = 14) (h5 : ¬ s = 15) (h4 : ¬ s = 16) : ∃ v k, v < 100000 ∧ k < 6 ∧ c = nI (100000 * k + v) ∧ ((s = 17 ∧ k = 0 ∧ o = nI v) ∨ (s = 18 ∧ k = 1 ∧ v < 31 ∧ o = nI v) ∨ (s = 19 ∧ k = 2 ∧ v < 31 ∧ o = nI v) ∨ (s = 20 ∧ k = 3 ∧ o = nI v) ∨ (s = 21 ∧ k = 4) ∨ (s = 22 ∧ k = 5)) := by
  rcases e with q | q | q | ⟨q, v, hv, ho, hc⟩ | ⟨q, v, hv, ho, hc⟩ | ⟨q, v, hv, ho, hc⟩ | ⟨q, v, hv, ho, hc⟩ | ⟨q, hc⟩ | ⟨q, hc⟩
  · exact absurd q.1 h4
  · exact absurd q.1 h5
  · exact absurd q.1 h6
  · exact ⟨v, 0, hv, by omega, by rw [hc]; congr 1; omega, Or.inl ⟨q, rfl, ho⟩⟩
  · exact ⟨v, 1, by omega, by omega, by rw [hc], Or.inr (Or.inl ⟨q, rfl, hv, ho⟩)⟩
  · exact ⟨v, 2, by omega, by omega, by rw [hc], Or.inr (Or.inr (Or.inl ⟨q, rfl, hv, ho⟩))⟩
  · exact ⟨v, 3, hv, by omega, by rw [hc], Or.inr (Or.inr (Or.inr (Or.inl ⟨q, rfl, ho⟩)))⟩
  · exact ⟨0, 4, by omega, by omega, by rw [hc], Or.inr (Or.inr (Or.inr (Or.inr (Or.inl ⟨q, rfl⟩))))⟩
  · exact ⟨0, 5, by omega, by omega, by rw [hc], Or.inr (Or.inr (Or.inr (Or.inr (Or.inr ⟨q, rfl⟩))))⟩
theorem n17 {s : Int32} {k : Int32} (h : s = k) (h1 : k ≠ 14) (h2 : k ≠ 15) (h3 : k ≠ 16) : ¬ s = 14 ∧ ¬ s = 15 ∧ ¬ s = 16 := ⟨fun q => h1 (h.symm.trans q), fun q => h2 (h.symm.trans q), fun q => h3 (h.symm.trans q)⟩
theorem En_pos {s o c : Int32} (e : EncS s o c) {k : Int32} (h : s = k) (hk : k ≠ 14 ∧ k ≠ 15 ∧ k ≠ 16 := by decide) : 0 ≤ c := by
  obtain ⟨a, b, d⟩ := n17 h hk.1 hk.2.1 hk.2.2
  obtain ⟨v, k, hv, hk, hc, -⟩ := En_kind e a b d
  rw [hc]
  exact (enx hv hk).2.2
theorem En_alw {s o c : Int32} (h6 : ¬ s = 14) (h5 : ¬ s = 15) (h4 : ¬ s = 16) (e : EncS s o c) : 0 ≤ c := by
  obtain ⟨v, k, hv, hk, hc, -⟩ := En_kind e h6 h5 h4
  rw [hc]
  exact (enx hv hk).2.2
theorem bt_uq {x : Int32} {v : Nat} (hv : v < 31) : btQ x (nI v) ↔ btC x (nI v) := by
  have h : (x >>> (nI v &&& 31)) &&& 1 = (x.toUInt32 >>> ((nI v).toUInt32 &&& Int32.toUInt32 31)).toInt32 &&& 1 := by
    apply Int32.toBitVec_inj.mp
    apply BitVec.eq_of_getLsbD_eq
    intro i hi
    rw [Int32.toBitVec_and, Int32.toBitVec_and, BitVec.getLsbD_and, BitVec.getLsbD_and]
    cases i with
    | zero =>
      congr 1
      have h1 := b_sshr v (by omega) x (i := 0) (by omega)
      have h2 := b_ushr v (by omega) x 0
      unfold bt at h1 h2
      rw [h1, h2, if_pos (by omega)]
    | succ i =>
      rw [show (1 : Int32) = nI 1 from rfl, nI_bt _ _ hi, Nat.testBit_succ, show 1 / 2 = 0 by decide, Nat.zero_testBit, Bool.and_false, Bool.and_false]
  unfold btQ btC
  rw [h]
theorem hdG_at {p ap d x y : Int32} {v k : Nat} (hv : v < 100000) (hk : k < 6) : hdG p ap d x y (nI (100000 * k + v)) = true ↔ fcG p ap (nI k) (nI v) d x y := by
  unfold hdG
  rw [(enx hv hk).2.1, (enx hv hk).1]
  exact decide_eq_true_iff
theorem fcg_0 {p ap a b d x y : Int32} (h : a = 0) : fcG p ap a b d x y ↔ b ≤ d := by
  subst h
  refine ⟨fun q => ?_, fun q => Or.inl ⟨rfl, q⟩⟩
  rcases q with q | q | q | q | q | q
  · exact q.2
  · exact absurd q.1 (by decide)
  · exact absurd q.1 (by decide)
  · exact absurd q.1 (by decide)
  · exact absurd q.1 (by decide)
  · exact absurd rfl q.1
theorem fcg_1 {p ap a b d x y : Int32} (h : a = 1) : fcG p ap a b d x y ↔ btQ x b := by
  subst h
  refine ⟨fun q => ?_, fun q => Or.inr (Or.inl ⟨rfl, q⟩)⟩
  rcases q with q | q | q | q | q | q
  · exact absurd q.1 (by decide)
  · exact q.2
  · exact absurd q.1 (by decide)
  · exact absurd q.1 (by decide)
  · exact absurd q.1 (by decide)
  · exact absurd rfl q.2.1
theorem fcg_2 {p ap a b d x y : Int32} (h : a = 2) : fcG p ap a b d x y ↔ btQ y b := by
  subst h
  refine ⟨fun q => ?_, fun q => Or.inr (Or.inr (Or.inl ⟨rfl, q⟩))⟩
  rcases q with q | q | q | q | q | q
  · exact absurd q.1 (by decide)
  · exact absurd q.1 (by decide)
  · exact q.2
  · exact absurd q.1 (by decide)
  · exact absurd q.1 (by decide)
  · exact absurd rfl q.2.2.1
theorem fcg_3 {p ap a b d x y : Int32} (h : a = 3) : fcG p ap a b d x y ↔ b ≤ p := by
  subst h
  refine ⟨fun q => ?_, fun q => Or.inr (Or.inr (Or.inr (Or.inl ⟨rfl, q⟩)))⟩
  rcases q with q | q | q | q | q | q
  · exact absurd q.1 (by decide)
  · exact absurd q.1 (by decide)
  · exact absurd q.1 (by decide)
  · exact q.2
  · exact absurd q.1 (by decide)
  · exact absurd rfl q.2.2.2.1
theorem fcg_4 {p ap a b d x y : Int32} (h : a = 4) : fcG p ap a b d x y ↔ ap = 1 := by
  subst h
  refine ⟨fun q => ?_, fun q => Or.inr (Or.inr (Or.inr (Or.inr (Or.inl ⟨rfl, q⟩))))⟩
  rcases q with q | q | q | q | q | q
  · exact absurd q.1 (by decide)
  · exact absurd q.1 (by decide)
  · exact absurd q.1 (by decide)
  · exact absurd q.1 (by decide)
  · exact q.2
  · exact absurd rfl q.2.2.2.2
theorem fcg_5 {p ap a b d x y : Int32} (h0 : ¬ a = 0) (h1 : ¬ a = 1) (h2 : ¬ a = 2) (h3 : ¬ a = 3) (h4 : ¬ a = 4) : fcG p ap a b d x y := Or.inr (Or.inr (Or.inr (Or.inr (Or.inr ⟨h0, h1, h2, h3, h4⟩))))
theorem En_17 {p ap d x y s o c : Int32} (e : EncS s o c) (h : s = 17) : hdG p ap d x y c = true ↔ o ≤ d := by
  obtain ⟨a, b, z⟩ := n17 h (by decide) (by decide) (by decide)
  obtain ⟨v, k, hv, hk, hc, q⟩ := En_kind e a b z
  subst h
  rcases q with q | q | q | q | q | q
  · obtain ⟨-, e1, e2⟩ := q
    subst e1 e2
    rw [hc, hdG_at hv hk]
    exact fcg_0 rfl
  · exact absurd q.1 (by decide)
  · exact absurd q.1 (by decide)
  · exact absurd q.1 (by decide)
  · exact absurd q.1 (by decide)
  · exact absurd q.1 (by decide)
theorem En_18 {p ap d x y s o c : Int32} (e : EncS s o c) (h : s = 18) : hdG p ap d x y c = true ↔ btC x o := by
  obtain ⟨a, b, z⟩ := n17 h (by decide) (by decide) (by decide)
  obtain ⟨v, k, hv, hk, hc, q⟩ := En_kind e a b z
  subst h
  rcases q with q | q | q | q | q | q
  · exact absurd q.1 (by decide)
  · obtain ⟨-, e1, hv3, e2⟩ := q
    subst e1 e2
    rw [hc, hdG_at hv hk, ← bt_uq hv3]
    exact fcg_1 rfl
  · exact absurd q.1 (by decide)
  · exact absurd q.1 (by decide)
  · exact absurd q.1 (by decide)
  · exact absurd q.1 (by decide)
theorem En_19 {p ap d x y s o c : Int32} (e : EncS s o c) (h : s = 19) : hdG p ap d x y c = true ↔ btC y o := by
  obtain ⟨a, b, z⟩ := n17 h (by decide) (by decide) (by decide)
  obtain ⟨v, k, hv, hk, hc, q⟩ := En_kind e a b z
  subst h
  rcases q with q | q | q | q | q | q
  · exact absurd q.1 (by decide)
  · exact absurd q.1 (by decide)
  · obtain ⟨-, e1, hv3, e2⟩ := q
    subst e1 e2
    rw [hc, hdG_at hv hk, ← bt_uq hv3]
    exact fcg_2 rfl
  · exact absurd q.1 (by decide)
  · exact absurd q.1 (by decide)
  · exact absurd q.1 (by decide)
theorem En_20 {p ap d x y s o c : Int32} (e : EncS s o c) (h : s = 20) : hdG p ap d x y c = true ↔ o ≤ p := by
  obtain ⟨a, b, z⟩ := n17 h (by decide) (by decide) (by decide)
  obtain ⟨v, k, hv, hk, hc, q⟩ := En_kind e a b z
  subst h
  rcases q with q | q | q | q | q | q
  · exact absurd q.1 (by decide)
  · exact absurd q.1 (by decide)
  · exact absurd q.1 (by decide)
  · obtain ⟨-, e1, e2⟩ := q
    subst e1 e2
    rw [hc, hdG_at hv hk]
    exact fcg_3 rfl
  · exact absurd q.1 (by decide)
  · exact absurd q.1 (by decide)
theorem En_21 {p d x y s o c : Int32} (e : EncS s o c) (h : s = 21) : ∀ {a4 : Int32}, (a4 = 0 ∨ a4 = 1) → (a4 = 1 ∧ hdG p a4 d x y c = true) ∨ (a4 = 0 ∧ ¬ hdG p a4 d x y c = true) := by
  obtain ⟨a, b, z⟩ := n17 h (by decide) (by decide) (by decide)
  obtain ⟨v, k, hv, hk, hc, q⟩ := En_kind e a b z
  subst h
  rcases q with q | q | q | q | q | q
  · exact absurd q.1 (by decide)
  · exact absurd q.1 (by decide)
  · exact absurd q.1 (by decide)
  · exact absurd q.1 (by decide)
  · obtain ⟨-, e1⟩ := q
    subst e1
    intro a4 ha
    rw [hc, hdG_at hv hk, fcg_4 (a := nI 4) rfl]
    rcases ha with z9 | z9
    · exact Or.inr ⟨z9, by rw [z9]; decide⟩
    · exact Or.inl ⟨z9, z9⟩
  · exact absurd q.1 (by decide)
theorem En_22 {p ap d x y s o c : Int32} (e : EncS s o c) (h1 : ¬ s = 14) (h2 : ¬ s = 15) (h3 : ¬ s = 16) (h4 : ¬ s = 17) (h5 : ¬ s = 18) (h6 : ¬ s = 19) (h7 : ¬ s = 20) (h8 : ¬ s = 21) : hdG p ap d x y c = true := by
  obtain ⟨v, k, hv, hk, hc, q⟩ := En_kind e h1 h2 h3
  rcases q with q | q | q | q | q | q
  · exact absurd q.1 h4
  · exact absurd q.1 h5
  · exact absurd q.1 h6
  · exact absurd q.1 h7
  · exact absurd q.1 h8
  · obtain ⟨-, e1⟩ := q
    subst e1
    rw [hc, hdG_at hv hk]
    exact fcg_5 (by decide) (by decide) (by decide) (by decide) (by decide)

theorem i_add {a b : Int32} (h1 : -2147483648 ≤ a.toInt + b.toInt) (h2 : a.toInt + b.toInt ≤ 2147483647) : (a + b).toInt = a.toInt + b.toInt := by
  rw [Int32.toInt_add]
  exact Int.bmod_eq_of_le (by omega) (by omega)
theorem i_sub {a b : Int32} (h1 : -2147483648 ≤ a.toInt - b.toInt) (h2 : a.toInt - b.toInt ≤ 2147483647) : (a - b).toInt = a.toInt - b.toInt := by
  rw [Int32.toInt_sub]
  exact Int.bmod_eq_of_le (by omega) (by omega)
theorem l_add {a b : Int64} (h1 : -9223372036854775808 ≤ a.toInt + b.toInt) (h2 : a.toInt + b.toInt ≤ 9223372036854775807) : (a + b).toInt = a.toInt + b.toInt := by
  rw [Int64.toInt_add]
  exact Int.bmod_eq_of_le (by omega) (by omega)
theorem l_sub {a b : Int64} (h1 : -9223372036854775808 ≤ a.toInt - b.toInt) (h2 : a.toInt - b.toInt ≤ 9223372036854775807) : (a - b).toInt = a.toInt - b.toInt := by
  rw [Int64.toInt_sub]
  exact Int.bmod_eq_of_le (by omega) (by omega)
theorem l_mul {a b : Int64} (h1 : -9223372036854775808 ≤ a.toInt * b.toInt) (h2 : a.toInt * b.toInt ≤ 9223372036854775807) : (a * b).toInt = a.toInt * b.toInt := by
  rw [Int64.toInt_mul]
  exact Int.bmod_eq_of_le (by omega) (by omega)
theorem i_mul {a b : Int32} (h1 : -2147483648 ≤ a.toInt * b.toInt) (h2 : a.toInt * b.toInt ≤ 2147483647) : (a * b).toInt = a.toInt * b.toInt := by
  rw [Int32.toInt_mul]
  exact Int.bmod_eq_of_le (by omega) (by omega)
theorem i_le {a b : Int32} : a ≤ b ↔ a.toInt ≤ b.toInt := Int32.le_iff_toInt_le
theorem i_lt {a b : Int32} : a < b ↔ a.toInt < b.toInt := Int32.lt_iff_toInt_lt
theorem i_inj {a b : Int32} (h : a.toInt = b.toInt) : a = b := Int32.toInt_inj.mp h
theorem l_inj {a b : Int64} (h : a.toInt = b.toInt) : a = b := Int64.toInt_inj.mp h
theorem i_w (a : Int32) : a.toInt64.toInt = a.toInt := Int32.toInt_toInt64 a
theorem i_n {n : Nat} (h : n < 2147483648) : (nI n).toInt = (n : Int) := nI_toInt h
def tI (r : Nat → Int32) (j : Nat) : Int := (r j).toInt
def fsI (f : Nat → Int) : Nat → Int
  | 0 => 0
  | n + 1 => fsI f n + f (16 + 7 * n + 3)
/-- a milestone's numbers -/
def MI9 (f : Nat → Int) (m : Nat) : Prop := 1 ≤ f (16 + 7 * m + 0) ∧ f (16 + 7 * m + 0) ≤ 99999 ∧ 0 ≤ f (16 + 7 * m + 1) ∧ f (16 + 7 * m + 1) ≤ f (16 + 7 * m + 0) ∧ 0 ≤ f (16 + 7 * m + 2) ∧ f (16 + 7 * m + 2) ≤ 5 ∧ 0 ≤ f (16 + 7 * m + 3) ∧ (f (16 + 7 * m + 2) ≠ 2 → f (16 + 7 * m + 3) = 0)
/-- the bounds of an account's numbers -/
def WI (n : Nat) (f : Nat → Int) (Q : Int) : Prop := (0 ≤ f 0 ∧ f 0 ≤ 3000) ∧ (360 ≤ f 1 ∧ f 1 ≤ 365) ∧ (0 ≤ f 4 ∧ f 4 ≤ 20000) ∧ (0 ≤ f 6 ∧ f 6 ≤ f 5 ∧ f 5 ≤ 9999999) ∧ (0 ≤ f 7 ∧ f 7 ≤ f 8 ∧ f 8 ≤ 2000000000) ∧ (0 ≤ Q ∧ Q ≤ 3650000 + 30 * (3000 * (9999999 + f 8))) ∧ fsI f n ≤ f 6 ∧ ∀ m, m < n → MI9 f m
def WFa (n : Nat) (r : Nat → Int32) (q : Int64) : Prop := WI n (tI r) q.toInt
theorem fsI_cong {f g : Nat → Int} : ∀ {n : Nat}, (∀ m, m < n → g (16 + 7 * m + 3) = f (16 + 7 * m + 3)) → fsI g n = fsI f n
  | 0, _ => rfl
  | n + 1, h => by
    show fsI g n + g (16 + 7 * n + 3) = fsI f n + f (16 + 7 * n + 3)
    rw [fsI_cong (fun m hm => h m (by omega)), h n (by omega)]
theorem fsI_pos {f : Nat → Int} : ∀ {n : Nat}, (∀ m, m < n → MI9 f m) → 0 ≤ fsI f n
  | 0, _ => Int.le_refl 0
  | n + 1, h => by
    have := fsI_pos (n := n) (fun m hm => h m (by omega))
    have := (h n (by omega)).2.2.2.2.2.2.1
    show 0 ≤ fsI f n + f (16 + 7 * n + 3)
    omega
theorem fsI_upd {f g : Nat → Int} {k : Nat} : ∀ {n : Nat}, k < n → (∀ m, m ≠ k → g (16 + 7 * m + 3) = f (16 + 7 * m + 3)) → fsI g n = fsI f n - f (16 + 7 * k + 3) + g (16 + 7 * k + 3)
  | 0, hk, _ => absurd hk (Nat.not_lt_zero k)
  | n + 1, hk, h => by
    show fsI g n + g (16 + 7 * n + 3) = fsI f n + f (16 + 7 * n + 3) - f (16 + 7 * k + 3) + g (16 + 7 * k + 3)
    by_cases e : n = k
    · subst e
      rw [fsI_cong (fun m hm => h m (by omega))]
      omega
    · rw [fsI_upd (n := n) (by omega) h, h n e]
      omega
theorem fsI_le {f : Nat → Int} {k : Nat} : ∀ {n : Nat}, k < n → (∀ m, m < n → MI9 f m) → f (16 + 7 * k + 3) ≤ fsI f n
  | 0, hk, _ => absurd hk (Nat.not_lt_zero k)
  | n + 1, hk, h => by
    show f (16 + 7 * k + 3) ≤ fsI f n + f (16 + 7 * n + 3)
    have p1 := fsI_pos (n := n) (fun m hm => h m (by omega))
    have p2 := (h n (by omega)).2.2.2.2.2.2.1
    by_cases e : n = k
    · subst e; omega
    · have := fsI_le (n := n) (by omega : k < n) (fun m hm => h m (by omega))
      omega
/-- numbers that no bound speaks of may change -/
theorem WI.cong {n : Nat} {f g : Nat → Int} {Q : Int} (h : WI n f Q) (h0 : ∀ j, j = 0 ∨ j = 1 ∨ j = 4 ∨ j = 5 ∨ j = 6 ∨ j = 7 ∨ j = 8 → g j = f j) (hm : ∀ m i, m < n → i < 4 → g (16 + 7 * m + i) = f (16 + 7 * m + i)) : WI n g Q := by
  obtain ⟨a0, a1, a4, a6, a7, aQ, aS, aM⟩ := h
  refine ⟨?_, ?_, ?_, ?_, ?_, ?_, ?_, fun m hm9 => ?_⟩
  · rw [h0 0 (by omega)]; exact a0
  · rw [h0 1 (by omega)]; exact a1
  · rw [h0 4 (by omega)]; exact a4
  · rw [h0 6 (by omega), h0 5 (by omega)]; exact a6
  · rw [h0 7 (by omega), h0 8 (by omega)]; exact a7
  · rw [h0 8 (by omega)]; exact aQ
  · rw [fsI_cong (fun m hm9 => hm m 3 hm9 (by omega)), h0 6 (by omega)]; exact aS
  · unfold MI9
    rw [hm m 0 hm9 (by omega), hm m 1 hm9 (by omega), hm m 2 hm9 (by omega), hm m 3 hm9 (by omega)]
    exact aM m hm9
theorem avR_I {n0 n : Nat} {r : Nat → Int32} {q : Int64} (h : WFa n0 r q) (hn : n ≤ n0) : (avR r n).toInt = tI r 6 - fsI (tI r) n ∧ 0 ≤ tI r 6 - fsI (tI r) n := by
  obtain ⟨a0, a1, a4, a6, a7, aQ, aS, aM⟩ := h
  have hmono : ∀ k, k ≤ n0 → fsI (tI r) k ≤ fsI (tI r) n0 := by
    intro k hk
    have g : ∀ d, k + d ≤ n0 → fsI (tI r) k ≤ fsI (tI r) (k + d) := by
      intro d
      induction d with
      | zero => intro _; exact Int.le_refl _
      | succ d ih =>
        intro hd
        have := ih (by omega)
        have := (aM (k + d) (by omega)).2.2.2.2.2.2.1
        show fsI (tI r) k ≤ fsI (tI r) (k + d) + tI r (16 + 7 * (k + d) + 3)
        omega
    have := g (n0 - k) (by omega)
    rw [show k + (n0 - k) = n0 by omega] at this
    exact this
  have key : ∀ k, k ≤ n0 → (avR r k).toInt = tI r 6 - fsI (tI r) k := by
    intro k
    induction k with
    | zero => intro _; show (r 6).toInt = (r 6).toInt - 0; omega
    | succ k ih =>
      intro hk
      have e := ih (by omega)
      have p := (aM k (by omega)).2.2.2.2.2.2.1
      have m1 := hmono (k + 1) hk
      have m2 := fsI_pos (f := tI r) (n := k) (fun m hm => aM m (by omega))
      have e3 : fsI (tI r) (k + 1) = fsI (tI r) k + tI r (16 + 7 * k + 3) := rfl
      show (avR r k - r (16 + 7 * k + 3)).toInt = _
      have e4 : (r (16 + 7 * k + 3)).toInt = tI r (16 + 7 * k + 3) := rfl
      rw [i_sub (by rw [e, e4]; omega) (by rw [e, e4]; omega), e, e4]
      omega
  refine ⟨key n hn, ?_⟩
  have := hmono n hn
  omega
theorem remR_I {n m : Nat} {r : Nat → Int32} {q : Int64} (h : WFa n r q) (hm : m < n) : (remR r m).toInt = (if 3 ≤ tI r (16 + 7 * m + 2) then 0 else tI r (16 + 7 * m + 0) - tI r (16 + 7 * m + 1)) ∧ 0 ≤ (remR r m).toInt ∧ (remR r m).toInt ≤ 99999 ∧ (remR r m).toInt ≤ tI r (16 + 7 * m + 0) - tI r (16 + 7 * m + 1) := by
  obtain ⟨a1, a2, a3, a4, a5, a6, a7, a8⟩ := h.2.2.2.2.2.2.2 m hm
  have e0 : (r (16 + 7 * m + 0)).toInt = tI r (16 + 7 * m + 0) := rfl
  have e1 : (r (16 + 7 * m + 1)).toInt = tI r (16 + 7 * m + 1) := rfl
  have e2 : (r (16 + 7 * m + 2)).toInt = tI r (16 + 7 * m + 2) := rfl
  have e3 : (3 : Int32).toInt = 3 := by decide
  by_cases c : 3 ≤ r (16 + 7 * m + 2)
  · have c2 := i_le.mp c
    rw [e3, e2] at c2
    rw [remR_0 c, if_pos c2]
    have z : (0 : Int32).toInt = 0 := by decide
    rw [z]
    omega
  · have c2 : ¬ 3 ≤ tI r (16 + 7 * m + 2) := fun q => c (i_le.mpr (by rw [e3, e2]; exact q))
    rw [remR_1 c, if_neg c2, i_sub (by rw [e0, e1]; omega) (by rw [e0, e1]; omega), e0, e1]
    omega
theorem minI_I (a b : Int32) : (minI a b).toInt = min a.toInt b.toInt := by
  unfold minI
  by_cases c : b < a
  · rw [if_pos c]
    have := i_lt.mp c
    omega
  · rw [if_neg c]
    have : ¬ b.toInt < a.toInt := fun q => c (i_lt.mpr q)
    omega

def entC (k : Nat) (x : Int32) : Nat := if x ≤ 0 then k else min (k + 1) 60
theorem entCN {k : Nat} {x : Int32} (h : 0 ≤ x) : entC k x = entN k x := by
  unfold entC entN
  by_cases e : x = 0
  · rw [if_pos e, if_pos (by rw [e]; exact Int32.le_refl 0)]
  · rw [if_neg e, if_neg (fun q => e (Int32.le_antisymm q h))]
theorem fee_sum (a b x f : Int32) : (a + (x - f)) + (b + f) = a + b + x := by
  have e : (a + (x - f)) + (b + f) = a + b + (x - f + f) := by ac_rfl
  rw [e, Int32.sub_add_cancel]
def PaidS (m : Nat) (fs zp fam zs : Nat → Int32) : Prop := zs = if ¬ 3 ≤ fs m ∧ rmC fs zp fam m = 0 then upd fs m 3 else fs
theorem PaidS.y {m : Nat} {fs zp fam zs : Nat → Int32} (h : ¬ 3 ≤ fs m) (c : rmC fs zp fam m = 0) (hu : Upp m 3 fs zs) : PaidS m fs zp fam zs := by
  unfold PaidS
  rw [if_pos ⟨h, c⟩]
  exact hu
theorem PaidS.c {m : Nat} {fs zp fam : Nat → Int32} (h : 3 ≤ fs m) : PaidS m fs zp fam fs := by
  unfold PaidS
  rw [if_neg (fun q => q.1 h)]
theorem PaidS.n {m : Nat} {fs zp fam : Nat → Int32} (c : ¬ rmC fs zp fam m = 0) : PaidS m fs zp fam fs := by
  unfold PaidS
  rw [if_neg (fun q => c q.2)]
theorem bI_t {P : Prop} [Decidable P] (h : P) : bI (decide P) = 1 := by rw [decide_eq_true h]; rfl
theorem bI_f {P : Prop} [Decidable P] (h : ¬ P) : bI (decide P) = 0 := by rw [decide_eq_false h]; rfl
/-- the class's account is the one of the row r, with the accrued parts q -/
def RC0 (n : Nat) (r : Nat → Int32) (q : Int64) (i6 i7 i8 : Int32) (i9 i11 : Int64) (i12 i13 i15 i16 i17 i18 i19 : Int32) (kp : Nat) (fs fp ff fd fam : Nat → Int32) : Prop :=
  WFa n r q ∧ (n ≤ 10 ∧ kp ≤ 60) ∧ (r 4 = i6 ∧ r 5 = i7 ∧ r 6 = i8 ∧ (r 7).toInt64 = i9 ∧ q = i11 ∧ r 10 = i12 + i13 ∧ r 0 = i15 ∧ r 1 = i16 ∧ r 3 = i17 ∧ r 12 = i18 ∧ r 15 = nI kp) ∧
  ∀ m, m < n → r (16 + 7 * m + 0) = fam m ∧ r (16 + 7 * m + 1) = fp m ∧ r (16 + 7 * m + 2) = fs m ∧ r (16 + 7 * m + 3) = ff m ∧ r (16 + 7 * m + 4) = fd m ∧ r (16 + 7 * m + 5) = bI (decide (btC i19 (nI m)))
theorem RC0.av {n : Nat} {r : Nat → Int32} {q : Int64} {i6 i7 i8 : Int32} {i9 i11 : Int64} {i12 i13 i15 i16 i17 i18 i19 : Int32} {kp : Nat} {fs fp ff fd fam : Nat → Int32} (h : RC0 n r q i6 i7 i8 i9 i11 i12 i13 i15 i16 i17 i18 i19 kp fs fp ff fd fam) : avC i8 ff n = avR r n := by
  obtain ⟨-, -, ⟨-, -, e6, -⟩, hm⟩ := h
  have g : ∀ k, k ≤ n → avC i8 ff k = avR r k := by
    intro k
    induction k with
    | zero => intro _; exact e6.symm
    | succ k ih =>
      intro hk
      show avC i8 ff k - ff k = avR r k - r (16 + 7 * k + 3)
      rw [ih (by omega), (hm k (by omega)).2.2.2.1]
  exact g n (Nat.le_refl n)
theorem RC0.rm {n m : Nat} {r : Nat → Int32} {q : Int64} {i6 i7 i8 : Int32} {i9 i11 : Int64} {i12 i13 i15 i16 i17 i18 i19 : Int32} {kp : Nat} {fs fp ff fd fam : Nat → Int32} (h : RC0 n r q i6 i7 i8 i9 i11 i12 i13 i15 i16 i17 i18 i19 kp fs fp ff fd fam) (hm : m < n) : rmC fs fp fam m = remR r m := by
  obtain ⟨e0, e1, e2, -⟩ := h.2.2.2 m hm
  unfold rmC remR
  rw [e0, e1, e2]
theorem RC0.dq {n : Nat} {r : Nat → Int32} {q : Int64} {i6 i7 i8 : Int32} {i9 i11 : Int64} {i12 i13 i15 i16 i17 i18 i19 : Int32} {kp : Nat} {fs fp ff fd fam : Nat → Int32} (h : RC0 n r q i6 i7 i8 i9 i11 i12 i13 i15 i16 i17 i18 i19 kp fs fp ff fd fam) : doC fs n = doR r n := by
  have g : ∀ k, k ≤ n → doC fs k = doR r k := by
    intro k
    induction k with
    | zero => intro _; rfl
    | succ k ih =>
      intro hk
      rw [doC, doR, ih (by omega), (h.2.2.2 k (by omega)).2.2.1]
  exact g n (Nat.le_refl n)
/-- the milestone's condition: the row's function is the class's -/
theorem RC0.hd {n m : Nat} {r : Nat → Int32} {q : Int64} {i6 i7 i8 : Int32} {i9 i11 : Int64} {i12 i13 i15 i16 i17 i18 i19 : Int32} {kp : Nat} {fs fp ff fd fam : Nat → Int32} (h : RC0 n r q i6 i7 i8 i9 i11 i12 i13 i15 i16 i17 i18 i19 kp fs fp ff fd fam) (hm : m < n) (dn : Int32) : hdF r m (r 4) (r 12) dn = hdG (i12 + i13) (bI (decide (btC i19 (nI m)))) i6 i18 dn := by
  obtain ⟨-, -, ⟨e4, -, -, -, -, e10, -, -, -, e12, -⟩, hq⟩ := h
  rw [hdFG, e10, (hq m hm).2.2.2.2.2, e4, e12]
/-- a change of cells that RC0 speaks of: the new row by its cells -/
theorem RC0.mk {n : Nat} {r r2 : Nat → Int32} {q q2 : Int64} {i6 i7 i8 : Int32} {i9 i11 : Int64} {i12 i13 i15 i16 i17 i18 i19 : Int32} {kp kp2 : Nat} {fs fp ff fd fam fs2 fp2 ff2 fd2 : Nat → Int32} {j6 j7 j8 : Int32} {j9 j11 : Int64} {j12 j13 j15 j16 j17 j18 : Int32} (h : RC0 n r q i6 i7 i8 i9 i11 i12 i13 i15 i16 i17 i18 i19 kp fs fp ff fd fam)
    (hw : WFa n r2 q2) (hk : kp2 ≤ 60) (e4 : r2 4 = j6) (e5 : r2 5 = j7) (e6 : r2 6 = j8) (e7 : (r2 7).toInt64 = j9) (eq : q2 = j11) (e10 : r2 10 = j12 + j13) (e0 : r2 0 = j15) (e1 : r2 1 = j16) (e3 : r2 3 = j17) (e12 : r2 12 = j18) (e15 : r2 15 = nI kp2)
    (hm : ∀ m, m < n → r2 (16 + 7 * m + 0) = r (16 + 7 * m + 0) ∧ r2 (16 + 7 * m + 1) = fp2 m ∧ r2 (16 + 7 * m + 2) = fs2 m ∧ r2 (16 + 7 * m + 3) = ff2 m ∧ r2 (16 + 7 * m + 4) = fd2 m ∧ r2 (16 + 7 * m + 5) = r (16 + 7 * m + 5)) : RC0 n r2 q2 j6 j7 j8 j9 j11 j12 j13 j15 j16 j17 j18 i19 kp2 fs2 fp2 ff2 fd2 fam := by
  refine ⟨hw, ⟨h.2.1.1, hk⟩, ⟨e4, e5, e6, e7, eq, e10, e0, e1, e3, e12, e15⟩, fun m hm9 => ?_⟩
  obtain ⟨a0, a1, a2, a3, a4, a5⟩ := hm m hm9
  obtain ⟨b0, b1, b2, b3, b4, b5⟩ := h.2.2.2 m hm9
  exact ⟨a0.trans b0, a1, a2, a3, a4, a5.trans b5⟩

/-- cells that neither bounds nor milestones speak of -/
theorem WFa.set {n : Nat} {r : Nat → Int32} {q : Int64} (h : WFa n r q) (k : Nat) (v : Int32) (hk : k = 3 ∨ k = 10 ∨ k = 12 ∨ k = 15 ∨ k = 11 ∨ ∃ m, k = 16 + 7 * m + 4 ∨ k = 16 + 7 * m + 5) : WFa n (upd r k v) q := by
  have d1 : ∀ j, (j = 0 ∨ j = 1 ∨ j = 4 ∨ j = 5 ∨ j = 6 ∨ j = 7 ∨ j = 8) → j ≠ k := fun j hj => by rcases hk with e | e | e | e | e | ⟨m9, e | e⟩ <;> omega
  have d2 : ∀ m i, i < 4 → 16 + 7 * m + i ≠ k := fun m i hi => by rcases hk with e | e | e | e | e | ⟨m9, e | e⟩ <;> omega
  refine WI.cong h (fun j hj => ?_) (fun m i hm hi => ?_)
  · unfold tI
    rw [pk_un (d1 j hj)]
  · unfold tI
    rw [pk_un (d2 m i hi)]
theorem entR_w {n : Nat} {r : Nat → Int32} {q : Int64} {x : Int32} (h : WFa n r q) : WFa n (entR x r) q := by
  unfold entR
  by_cases c : x = 0
  · rw [if_pos c]; exact h
  · rw [if_neg c]; exact h.set 15 _ (by omega)
theorem ent15 {r : Nat → Int32} {k : Nat} {x : Int32} (e : r 15 = nI k) (hk : k ≤ 60) (hx : 0 ≤ x) : entR x r 15 = nI (entC k x) := by
  rw [entCN hx]
  exact entR_e e hk
theorem entC_60 {k : Nat} {x : Int32} (h : k ≤ 60) : entC k x ≤ 60 := by
  unfold entC
  split <;> omega
/-- a payment of x for milestone m -/
theorem WFa.pay {n m : Nat} {r : Nat → Int32} {q : Int64} {x : Int32} (h : WFa n r q) (hm : m < n) (h0 : 0 ≤ x.toInt) (h1 : x.toInt ≤ (remR r m).toInt) (h2 : x.toInt ≤ tI r 6 - fsI (tI r) n) : WFa n (mkP m x r) q := by
  unfold mkP
  refine entR_w ?_
  have hr := remR_I h hm
  obtain ⟨a0, a1, a4, a6, a7, aQ, aS, aM⟩ := h
  have p0 := fsI_pos aM
  have e6 : (r 6 - x).toInt = tI r 6 - x.toInt := i_sub (by show _ ≤ tI r 6 - _; omega) (by show tI r 6 - _ ≤ _; omega)
  have eM := aM m hm
  have e1 : (r (16 + 7 * m + 1) + x).toInt = tI r (16 + 7 * m + 1) + x.toInt := i_add (by show _ ≤ tI r (16 + 7 * m + 1) + _; have := eM.2.2.1; omega) (by show tI r (16 + 7 * m + 1) + _ ≤ _; have := eM.2.1; omega)
  refine ⟨?_, ?_, ?_, ?_, ?_, ?_, ?_, fun k hk => ?_⟩
  · show 0 ≤ (upd _ _ _ 0).toInt ∧ (upd _ _ _ 0).toInt ≤ 3000
    rw [pk_un (by omega), pk_un (by omega), pk_un (by omega)]; exact a0
  · show 360 ≤ (upd _ _ _ 1).toInt ∧ (upd _ _ _ 1).toInt ≤ 365
    rw [pk_un (by omega), pk_un (by omega), pk_un (by omega)]; exact a1
  · show 0 ≤ (upd _ _ _ 4).toInt ∧ (upd _ _ _ 4).toInt ≤ 20000
    rw [pk_un (by omega), pk_un (by omega), pk_un (by omega)]; exact a4
  · show 0 ≤ (upd _ _ _ 6).toInt ∧ (upd _ _ _ 6).toInt ≤ (upd _ _ _ 5).toInt ∧ (upd _ _ _ 5).toInt ≤ 9999999
    rw [pk_un (show 6 ≠ 16 + 7 * m + 1 by omega), pk_un (show 6 ≠ 10 by omega), pk_us, pk_un (show 5 ≠ 16 + 7 * m + 1 by omega), pk_un (show 5 ≠ 10 by omega), pk_un (show 5 ≠ 6 by omega), e6]
    have e5 : (r 5).toInt = tI r 5 := rfl
    rw [e5]
    omega
  · show 0 ≤ (upd _ _ _ 7).toInt ∧ (upd _ _ _ 7).toInt ≤ (upd _ _ _ 8).toInt ∧ (upd _ _ _ 8).toInt ≤ 2000000000
    rw [pk_un (by omega), pk_un (by omega), pk_un (by omega), pk_un (by omega), pk_un (by omega), pk_un (by omega)]; exact a7
  · show 0 ≤ q.toInt ∧ q.toInt ≤ 3650000 + 30 * (3000 * (9999999 + (upd _ _ _ 8).toInt))
    rw [pk_un (by omega), pk_un (by omega), pk_un (by omega)]; exact aQ
  · rw [fsI_cong (f := tI r) (fun k hk => by unfold tI; rw [pk_un (by omega), pk_un (by omega), pk_un (by omega)])]
    show _ ≤ (upd _ _ _ 6).toInt
    rw [pk_un (show 6 ≠ 16 + 7 * m + 1 by omega), pk_un (show 6 ≠ 10 by omega), pk_us, e6]
    omega
  · have ek := aM k hk
    by_cases c : k = m
    · subst c
      have f0 : tI (upd (upd (upd r 6 (r 6 - x)) 10 (r 10 + x)) (16 + 7 * k + 1) (r (16 + 7 * k + 1) + x)) (16 + 7 * k + 1) = tI r (16 + 7 * k + 1) + x.toInt := by unfold tI; rw [pk_us]; exact e1
      have fo : ∀ i, i < 4 → i ≠ 1 → tI (upd (upd (upd r 6 (r 6 - x)) 10 (r 10 + x)) (16 + 7 * k + 1) (r (16 + 7 * k + 1) + x)) (16 + 7 * k + i) = tI r (16 + 7 * k + i) := fun i hi h1 => by unfold tI; rw [pk_un (by omega), pk_un (by omega), pk_un (by omega)]
      unfold MI9 at ek ⊢
      rw [f0, fo 0 (by omega) (by omega), fo 2 (by omega) (by omega), fo 3 (by omega) (by omega)]
      omega
    · have fo : ∀ i, i < 4 → tI (upd (upd (upd r 6 (r 6 - x)) 10 (r 10 + x)) (16 + 7 * m + 1) (r (16 + 7 * m + 1) + x)) (16 + 7 * k + i) = tI r (16 + 7 * k + i) := fun i hi => by unfold tI; rw [pk_un (by omega), pk_un (by omega), pk_un (by omega)]
      unfold MI9 at ek ⊢
      rw [fo 0 (by omega), fo 1 (by omega), fo 2 (by omega), fo 3 (by omega)]
      exact ek
/-- another state of milestone m, which freezes nothing -/
theorem WFa.st {n m : Nat} {r : Nat → Int32} {q : Int64} {v : Int32} (h : WFa n r q) (hv : 0 ≤ v.toInt ∧ v.toInt ≤ 5) (hf : v.toInt ≠ 2 → tI r (16 + 7 * m + 3) = 0) : WFa n (upd r (16 + 7 * m + 2) v) q := by
  obtain ⟨a0, a1, a4, a6, a7, aQ, aS, aM⟩ := h
  have fc : ∀ j, j ≠ 16 + 7 * m + 2 → tI (upd r (16 + 7 * m + 2) v) j = tI r j := fun j hj => by unfold tI; rw [pk_un hj]
  refine ⟨?_, ?_, ?_, ?_, ?_, ?_, ?_, fun k hk => ?_⟩
  · rw [fc 0 (by omega)]; exact a0
  · rw [fc 1 (by omega)]; exact a1
  · rw [fc 4 (by omega)]; exact a4
  · rw [fc 6 (by omega), fc 5 (by omega)]; exact a6
  · rw [fc 7 (by omega), fc 8 (by omega)]; exact a7
  · rw [fc 8 (by omega)]; exact aQ
  · rw [fsI_cong (f := tI r) (fun k hk => fc _ (by omega)), fc 6 (by omega)]; exact aS
  · have ek := aM k hk
    by_cases c : k = m
    · subst c
      have f2 : tI (upd r (16 + 7 * k + 2) v) (16 + 7 * k + 2) = v.toInt := by unfold tI; rw [pk_us]
      unfold MI9 at ek ⊢
      rw [f2, fc (16 + 7 * k + 0) (by omega), fc (16 + 7 * k + 1) (by omega), fc (16 + 7 * k + 3) (by omega)]
      exact ⟨ek.1, ek.2.1, ek.2.2.1, ek.2.2.2.1, hv.1, hv.2, ek.2.2.2.2.2.2.1, hf⟩
    · unfold MI9 at ek ⊢
      rw [fc (16 + 7 * k + 0) (by omega), fc (16 + 7 * k + 1) (by omega), fc (16 + 7 * k + 2) (by omega), fc (16 + 7 * k + 3) (by omega)]
      exact ek

theorem upd_m {r : Nat → Int32} {k j : Nat} {v : Int32} (h : j ≠ k) : upd r k v j = r j := pk_un h
/-- the row behind a payment, cell by cell -/
theorem mkP_o {m : Nat} {x : Int32} {r : Nat → Int32} {j : Nat} (h6 : j ≠ 6) (h10 : j ≠ 10) (h15 : j ≠ 15) (h1 : j ≠ 16 + 7 * m + 1) : mkP m x r j = r j := by
  unfold mkP
  rw [entR_n h15, pk_un h1, pk_un h10, pk_un h6]
theorem mkP_6 {m : Nat} {x : Int32} {r : Nat → Int32} : mkP m x r 6 = r 6 - x := by
  unfold mkP
  rw [entR_n (by omega), pk_un (by omega), pk_un (by omega), pk_us]
theorem mkP_10 {m : Nat} {x : Int32} {r : Nat → Int32} : mkP m x r 10 = r 10 + x := by
  unfold mkP
  rw [entR_n (by omega), pk_un (by omega), pk_us]
theorem mkP_1 {m : Nat} {x : Int32} {r : Nat → Int32} : mkP m x r (16 + 7 * m + 1) = r (16 + 7 * m + 1) + x := by
  unfold mkP
  rw [entR_n (by omega), pk_us]
theorem mkP_15 {m k : Nat} {x : Int32} {r : Nat → Int32} (e : r 15 = nI k) (hk : k ≤ 60) (hx : 0 ≤ x) : mkP m x r 15 = nI (entC k x) := by
  unfold mkP
  refine ent15 ?_ hk hx
  rw [pk_un (by omega), pk_un (by omega), pk_un (by omega)]
  exact e
/-- a payment, and the milestone becomes paid if nothing remains -/
theorem RC0.payz {n m : Nat} {r : Nat → Int32} {q : Int64} {i6 i7 i8 : Int32} {i9 i11 : Int64} {i12 i13 i15 i16 i17 i18 i19 : Int32} {kp ky : Nat} {fs fp ff fd fam zs zp : Nat → Int32} {x z12 z13 : Int32} (h : RC0 n r q i6 i7 i8 i9 i11 i12 i13 i15 i16 i17 i18 i19 kp fs fp ff fd fam) (hm : m < n)
    (ho : ¬ 3 ≤ fs m) (hn2 : fs m ≠ 2) (hx0 : 0 ≤ x) (hx1 : x ≤ remR r m) (hx2 : x ≤ avR r n) (hk : ky = entC kp x) (hs : z12 + z13 = i12 + i13 + x) (hp : Upp m (fp m + x) fp zp) (hpd : PaidS m fs zp fam zs) : RC0 n (clR m (mkP m x r)) q i6 i7 (i8 - x) i9 i11 z12 z13 i15 i16 i17 i18 i19 ky zs zp ff fd fam := by
  have hw := h.1
  have hM := h.2.2.2 m hm
  obtain ⟨⟨hn, hkp⟩, ⟨e4, e5, e6, e7, eq, e10, e0, e1, e3, e12, e15⟩, hq⟩ := h.2
  have av := avR_I hw (Nat.le_refl n)
  have z0 : (0 : Int32).toInt = 0 := by decide
  have w1 : WFa n (mkP m x r) q := hw.pay hm (by have := i_le.mp hx0; omega) (i_le.mp hx1) (by have := i_le.mp hx2; omega)
  have hrm : remR (mkP m x r) m = rmC fs zp fam m := by
    unfold remR rmC
    unfold Upp at hp
    rw [mkP_o (by omega) (by omega) (by omega) (by omega), mkP_1, mkP_o (by omega) (by omega) (by omega) (by omega), hM.1, hM.2.1, hM.2.2.1, hp, pk_us]
  have st2 : tI (mkP m x r) (16 + 7 * m + 3) = 0 := by
    unfold tI
    rw [mkP_o (by omega) (by omega) (by omega) (by omega)]
    have eM := hw.2.2.2.2.2.2.2 m hm
    refine eM.2.2.2.2.2.2.2 (fun c => hn2 ?_)
    refine i_inj ?_
    rw [← hM.2.2.1]
    exact c
  have w2 : WFa n (clR m (mkP m x r)) q := by
    unfold clR
    by_cases c : remR (mkP m x r) m = 0
    · rw [if_pos c]; exact w1.st (by decide) (fun _ => st2)
    · rw [if_neg c]; exact w1
  have hc : ∀ j, j ≠ 16 + 7 * m + 2 → clR m (mkP m x r) j = mkP m x r j := fun j hj => by
    unfold clR
    by_cases c : remR (mkP m x r) m = 0
    · rw [if_pos c, pk_un hj]
    · rw [if_neg c]
  have hst : ∀ k, k < n → clR m (mkP m x r) (16 + 7 * k + 2) = zs k := fun k hk => by
    unfold PaidS at hpd
    unfold clR
    by_cases c : remR (mkP m x r) m = 0
    · rw [if_pos c, hpd, if_pos ⟨ho, hrm.symm.trans c⟩]
      by_cases d : k = m
      · subst d; rw [pk_us, pk_us]
      · rw [pk_un (by omega), pk_un d, mkP_o (by omega) (by omega) (by omega) (by omega)]; exact (hq k hk).2.2.1
    · rw [if_neg c, hpd, if_neg (fun z => c (hrm.trans z.2)), mkP_o (by omega) (by omega) (by omega) (by omega)]; exact (hq k hk).2.2.1
  unfold Upp at hp
  refine RC0.mk h w2 (by rw [hk]; exact entC_60 hkp) ?_ ?_ ?_ ?_ eq ?_ ?_ ?_ ?_ ?_ ?_ (fun k hk9 => ?_)
  · rw [hc _ (by omega), mkP_o (by omega) (by omega) (by omega) (by omega)]; exact e4
  · rw [hc _ (by omega), mkP_o (by omega) (by omega) (by omega) (by omega)]; exact e5
  · rw [hc _ (by omega), mkP_6, e6]
  · rw [hc _ (by omega), mkP_o (by omega) (by omega) (by omega) (by omega)]; exact e7
  · rw [hc _ (by omega), mkP_10, e10, hs]
  · rw [hc _ (by omega), mkP_o (by omega) (by omega) (by omega) (by omega)]; exact e0
  · rw [hc _ (by omega), mkP_o (by omega) (by omega) (by omega) (by omega)]; exact e1
  · rw [hc _ (by omega), mkP_o (by omega) (by omega) (by omega) (by omega)]; exact e3
  · rw [hc _ (by omega), mkP_o (by omega) (by omega) (by omega) (by omega)]; exact e12
  · rw [hc _ (by omega), mkP_15 e15 hkp hx0, hk]
  · obtain ⟨a0, a1, a2, a3, a4, a5⟩ := hq k hk9
    refine ⟨?_, ?_, hst k hk9, ?_, ?_, ?_⟩
    · rw [hc _ (by omega), mkP_o (by omega) (by omega) (by omega) (by omega)]
    · rw [hc _ (by omega), hp]
      by_cases d : k = m
      · subst d; rw [mkP_1, pk_us, a1]
      · rw [mkP_o (by omega) (by omega) (by omega) (by omega), pk_un d, a1]
    · rw [hc _ (by omega), mkP_o (by omega) (by omega) (by omega) (by omega)]; exact a3
    · rw [hc _ (by omega), mkP_o (by omega) (by omega) (by omega) (by omega)]; exact a4
    · rw [hc _ (by omega), mkP_o (by omega) (by omega) (by omega) (by omega)]
theorem min_le9 (a b : Int32) : minI a b ≤ a ∧ minI a b ≤ b := by
  have := minI_I a b
  exact ⟨i_le.mpr (by omega), i_le.mpr (by omega)⟩
theorem RC0.pst_y {n i : Nat} {b : Nat → Nat} {ra : Nat → Int32} {q : Int64} {i6 i7 i8 : Int32} {i9 i11 : Int64} {i12 i13 i15 i16 i17 i18 i19 : Int32} {kp ky : Nat} {fs fp ff fd fam zs zp : Nat → Int32} {z12 z13 : Int32} (h : RC0 n (pays n b ra i) q i6 i7 i8 i9 i11 i12 i13 i15 i16 i17 i18 i19 kp fs fp ff fd fam) (hm : b i < n)
    (hr : fs (b i) = 1 ∧ fd (b i) + i17 ≤ i6) (hp0 : 0 < minI (rmC fs fp fam (b i)) (avC i8 ff n)) (hk : ky = entC kp (minI (rmC fs fp fam (b i)) (avC i8 ff n))) (hs : z12 + z13 = i12 + i13 + minI (rmC fs fp fam (b i)) (avC i8 ff n)) (hp : Upp (b i) (fp (b i) + minI (rmC fs fp fam (b i)) (avC i8 ff n)) fp zp) (hpd : PaidS (b i) fs zp fam zs) : RC0 n (pays n b ra (i + 1)) q i6 i7 (i8 - minI (rmC fs fp fam (b i)) (avC i8 ff n)) i9 i11 z12 z13 i15 i16 i17 i18 i19 ky zs zp ff fd fam := by
  obtain ⟨e4, -, -, -, -, -, -, -, e3, -, -⟩ := h.2.2.1
  have hM := h.2.2.2 (b i) hm
  have e1 := h.rm hm
  have e2 := h.av
  have hrip : ripe (pays n b ra i) (b i) := ⟨by rw [hM.2.2.1]; exact hr.1, by rw [hM.2.2.2.2.1, e3, e4]; exact hr.2⟩
  rw [e1, e2] at hp0 hk hs hp ⊢
  show RC0 n (pstep n (b i) (pays n b ra i)) _ _ _ _ _ _ _ _ _ _ _ _ _ _ _ _ _ _ _
  rw [pstep_y hrip hp0]
  have ml := min_le9 (remR (pays n b ra i) (b i)) (avR (pays n b ra i) n)
  exact RC0.payz h hm (by rw [hr.1]; decide) (by rw [hr.1]; decide) (Int32.le_of_lt hp0) ml.1 ml.2 hk hs hp hpd
theorem RC0.pst_n {n i : Nat} {b : Nat → Nat} {ra : Nat → Int32} {q : Int64} {i6 i7 i8 : Int32} {i9 i11 : Int64} {i12 i13 i15 i16 i17 i18 i19 : Int32} {kp : Nat} {fs fp ff fd fam : Nat → Int32} (h : RC0 n (pays n b ra i) q i6 i7 i8 i9 i11 i12 i13 i15 i16 i17 i18 i19 kp fs fp ff fd fam) (hm : b i < n)
    (hn : ¬ ((fs (b i) = 1 ∧ fd (b i) + i17 ≤ i6) ∧ 0 < minI (rmC fs fp fam (b i)) (avC i8 ff n))) : RC0 n (pays n b ra (i + 1)) q i6 i7 i8 i9 i11 i12 i13 i15 i16 i17 i18 i19 kp fs fp ff fd fam := by
  obtain ⟨e4, -, -, -, -, -, -, -, e3, -, -⟩ := h.2.2.1
  have hM := h.2.2.2 (b i) hm
  have e1 := h.rm hm
  have e2 := h.av
  show RC0 n (pstep n (b i) (pays n b ra i)) _ _ _ _ _ _ _ _ _ _ _ _ _ _ _ _ _ _ _
  rw [pstep_n (fun z => hn ?_)]
  · exact h
  · rw [e1, e2]
    refine ⟨⟨?_, ?_⟩, z.2⟩
    · rw [← hM.2.2.1]; exact z.1.1
    · rw [← hM.2.2.2.2.1, ← e3, ← e4]; exact z.1.2

theorem RC0.due_n {n i : Nat} {f : Nat → Int32} {cq : Nat → Nat} {dn : Int32} {ra : Nat → Int32} {q : Int64} {i6 i7 i8 : Int32} {i9 i11 : Int64} {i12 i13 i15 i16 i17 i18 i19 : Int32} {kp : Nat} {fs fp ff fd fam : Nat → Int32} (h : RC0 n (dues f cq dn ra i) q i6 i7 i8 i9 i11 i12 i13 i15 i16 i17 i18 i19 kp fs fp ff fd fam) (hi : i < n) (hn : ¬ (fs i = 0 ∧ hdV (hdG (i12 + i13) (bI (decide (btC i19 (nI i)))) i6 i18 dn) f cq i = true)) : RC0 n (dues f cq dn ra (i + 1)) q i6 i7 i8 i9 i11 i12 i13 i15 i16 i17 i18 i19 kp fs fp ff fd fam := by
  have hM := h.2.2.2 i hi
  have hh := h.hd hi dn
  show RC0 n (dstep f cq dn i (dues f cq dn ra i)) _ _ _ _ _ _ _ _ _ _ _ _ _ _ _ _ _ _ _
  unfold dstep
  rw [if_neg (fun z => hn ⟨by rw [← hM.2.2.1]; exact z.1, by rw [← hh]; exact z.2⟩)]
  exact h
theorem RC0.due_y {n i : Nat} {f : Nat → Int32} {cq : Nat → Nat} {dn : Int32} {ra : Nat → Int32} {q : Int64} {i6 i7 i8 : Int32} {i9 i11 : Int64} {i12 i13 i15 i16 i17 i18 i19 : Int32} {kp : Nat} {fs fp ff fd fam zs zd : Nat → Int32} (h : RC0 n (dues f cq dn ra i) q i6 i7 i8 i9 i11 i12 i13 i15 i16 i17 i18 i19 kp fs fp ff fd fam) (hi : i < n) (c : fs i = 0) (h1 : hdV (hdG (i12 + i13) (bI (decide (btC i19 (nI i)))) i6 i18 dn) f cq i = true) (hu : Upp i 1 fs zs) (hd : Upp i i6 fd zd) : RC0 n (dues f cq dn ra (i + 1)) q i6 i7 i8 i9 i11 i12 i13 i15 i16 i17 i18 i19 kp zs fp ff zd fam := by
  have hM := h.2.2.2 i hi
  have hh := h.hd hi dn
  have hw := h.1
  obtain ⟨⟨hn, hkp⟩, ⟨e4, e5, e6, e7, eq, e10, e0, e1, e3, e12, e15⟩, hq⟩ := h.2
  show RC0 n (dstep f cq dn i (dues f cq dn ra i)) _ _ _ _ _ _ _ _ _ _ _ _ _ _ _ _ _ _ _
  unfold dstep
  rw [if_pos ⟨by rw [hM.2.2.1]; exact c, by rw [hh]; exact h1⟩]
  unfold Upp at hu hd
  generalize dues f cq dn ra i = r at *
  have eM := hw.2.2.2.2.2.2.2 i hi
  have hf : tI r (16 + 7 * i + 3) = 0 := by
    refine eM.2.2.2.2.2.2.2 (fun z => ?_)
    have z2 : (r (16 + 7 * i + 2)).toInt = 2 := z
    rw [hM.2.2.1, c] at z2
    exact absurd z2 (by decide)
  refine RC0.mk h ((hw.st (by decide) (fun _ => hf)).set _ _ (Or.inr (Or.inr (Or.inr (Or.inr (Or.inr ⟨i, Or.inl rfl⟩)))))) hkp ?_ ?_ ?_ ?_ eq ?_ ?_ ?_ ?_ ?_ ?_ (fun k hk => ?_)
  · rw [pk_un (by omega), pk_un (by omega)]; exact e4
  · rw [pk_un (by omega), pk_un (by omega)]; exact e5
  · rw [pk_un (by omega), pk_un (by omega)]; exact e6
  · rw [pk_un (by omega), pk_un (by omega)]; exact e7
  · rw [pk_un (by omega), pk_un (by omega)]; exact e10
  · rw [pk_un (by omega), pk_un (by omega)]; exact e0
  · rw [pk_un (by omega), pk_un (by omega)]; exact e1
  · rw [pk_un (by omega), pk_un (by omega)]; exact e3
  · rw [pk_un (by omega), pk_un (by omega)]; exact e12
  · rw [pk_un (by omega), pk_un (by omega)]; exact e15
  · obtain ⟨a0, a1, a2, a3, a4, a5⟩ := hq k hk
    refine ⟨?_, ?_, ?_, ?_, ?_, ?_⟩
    · rw [pk_un (by omega), pk_un (by omega)]
    · rw [pk_un (by omega), pk_un (by omega)]; exact a1
    · rw [pk_un (by omega), hu]
      by_cases d : k = i
      · subst d; rw [pk_us, pk_us]
      · rw [pk_un (by omega), pk_un d]; exact a2
    · rw [pk_un (by omega), pk_un (by omega)]; exact a3
    · rw [hd]
      by_cases d : k = i
      · subst d; rw [pk_us, pk_us]; exact e4
      · rw [pk_un (by omega), pk_un (by omega), pk_un d]; exact a4
    · rw [pk_un (by omega), pk_un (by omega)]
/-- what was credited leaves room for a credit more -/
def Cap0 (r : Nat → Int32) : Prop := tI r 8 ≤ 1000000000
theorem Cap0.day {r : Nat → Int32} {v : Int32} (h : Cap0 r) : Cap0 (upd r 4 v) := by
  unfold Cap0 tI
  rw [pk_un (by omega)]
  exact h
theorem pqQ_toInt {n : Nat} {r : Nat → Int32} {q : Int64} (h : WFa n r q) (hc : Cap0 r) : (pqQ q r).toInt = q.toInt + (tI r 6 + tI r 7) * tI r 0 ∧ (r 6 + r 7).toInt64.toInt = tI r 6 + tI r 7 := by
  obtain ⟨a0, a1, a4, a6, a7, aQ, aS, aM⟩ := h
  unfold Cap0 at hc
  have e : (r 6 + r 7).toInt = tI r 6 + tI r 7 := i_add (by show _ ≤ tI r 6 + tI r 7; omega) (by show tI r 6 + tI r 7 ≤ _; omega)
  have b1 : 0 ≤ (tI r 6 + tI r 7) * tI r 0 := Int.mul_nonneg (by omega) (by omega)
  have b2 : (tI r 6 + tI r 7) * tI r 0 ≤ 1009999999 * 3000 := Int.mul_le_mul (by omega) (by omega) (by omega) (by decide)
  have m : ((r 6 + r 7).toInt64 * (r 0).toInt64).toInt = (tI r 6 + tI r 7) * tI r 0 := by
    have z : (r 0).toInt = tI r 0 := rfl
    rw [l_mul (by rw [i_w, i_w, e, z]; omega) (by rw [i_w, i_w, e, z]; omega), i_w, i_w, e, z]
  refine ⟨?_, by rw [i_w, e]⟩
  unfold pqQ
  rw [l_add (by rw [m]; omega) (by rw [m]; omega), m]


theorem z_0 : (0 : Int32).toInt = 0 := by decide
theorem zl_0 : (0 : Int64).toInt = 0 := by decide
theorem z_1 : (1 : Int32).toInt = 1 := by decide
theorem zl_1 : (1 : Int64).toInt = 1 := by decide
theorem z_2 : (2 : Int32).toInt = 2 := by decide
theorem zl_2 : (2 : Int64).toInt = 2 := by decide
theorem z_3 : (3 : Int32).toInt = 3 := by decide
theorem zl_3 : (3 : Int64).toInt = 3 := by decide
theorem z_4 : (4 : Int32).toInt = 4 := by decide
theorem zl_4 : (4 : Int64).toInt = 4 := by decide
theorem z_5 : (5 : Int32).toInt = 5 := by decide
theorem zl_5 : (5 : Int64).toInt = 5 := by decide
theorem z_1000 : (1000 : Int32).toInt = 1000 := by decide
theorem zl_1000 : (1000 : Int64).toInt = 1000 := by decide
theorem z_3000 : (3000 : Int32).toInt = 3000 := by decide
theorem zl_3000 : (3000 : Int64).toInt = 3000 := by decide
theorem z_10000 : (10000 : Int32).toInt = 10000 := by decide
theorem zl_10000 : (10000 : Int64).toInt = 10000 := by decide
theorem z_99999 : (99999 : Int32).toInt = 99999 := by decide
theorem zl_99999 : (99999 : Int64).toInt = 99999 := by decide
theorem z_360 : (360 : Int32).toInt = 360 := by decide
theorem zl_360 : (360 : Int64).toInt = 360 := by decide
theorem z_365 : (365 : Int32).toInt = 365 := by decide
theorem zl_365 : (365 : Int64).toInt = 365 := by decide
theorem z_9999999 : (9999999 : Int32).toInt = 9999999 := by decide
theorem zl_9999999 : (9999999 : Int64).toInt = 9999999 := by decide
theorem l_le {a b : Int64} : a ≤ b ↔ a.toInt ≤ b.toInt := Int64.le_iff_toInt_le
theorem l_lt {a b : Int64} : a < b ↔ a.toInt < b.toInt := Int64.lt_iff_toInt_lt
theorem i_wle {a b : Int32} : a.toInt64 ≤ b.toInt64 ↔ a ≤ b := by rw [l_le, i_le, i_w, i_w]
theorem w1_le {x : Int32} : 1 ≤ x.toInt64 ↔ 1 ≤ x := by rw [l_le, i_le, i_w, z_1, zl_1]
theorem w0_le {x : Int32} : 0 ≤ x.toInt64 ↔ 0 ≤ x := by rw [l_le, i_le, i_w, z_0, zl_0]
theorem w5_le {x : Int32} : x.toInt64 ≤ 99999 ↔ x ≤ 99999 := by rw [l_le, i_le, i_w, z_99999, zl_99999]
theorem w3_le {x : Int32} : x.toInt64 ≤ 3000 ↔ x ≤ 3000 := by rw [l_le, i_le, i_w, z_3000, zl_3000]
theorem ac_gra {x : Int32} (g : 0 ≤ x ∧ x ≤ 60) : AcGra x := ⟨w0_le.mpr g.1, by rw [l_le, i_w]; exact i_le.mp g.2⟩
theorem ac_gra_n {x : Int32} (g : ¬ (0 ≤ x ∧ x ≤ 60)) : ¬ AcGra x := fun q => g ⟨w0_le.mp q.1, by have q2 := q.2; rw [l_le, i_w] at q2; exact i_le.mpr q2⟩
theorem l360 {x : Int32} (h : x.toInt64 = 360) : x = 360 := i_inj (by have e := congrArg Int64.toInt h; rw [i_w, zl_360] at e; rw [z_360]; exact e)
theorem l365 {x : Int32} (h : x.toInt64 = 365) : x = 365 := i_inj (by have e := congrArg Int64.toInt h; rw [i_w, zl_365] at e; rw [z_365]; exact e)
theorem bas_or {x : Int32} (h : x.toInt64 = 360 ∨ x.toInt64 = 365) : x = 360 ∨ x = 365 := h.imp l360 l365
theorem ac_rat {a b : Int32} (g : 0 ≤ a ∧ a ≤ 3000) (h : b.toInt64 = 360 ∨ b.toInt64 = 365) : AcRat a b := ⟨⟨w0_le.mpr g.1, w3_le.mpr g.2⟩, bas_or h⟩
theorem ac_rat_n1 {a b : Int32} (g : ¬ (0 ≤ a ∧ a ≤ 3000)) : ¬ AcRat a b := fun q => g ⟨w0_le.mp q.1.1, w3_le.mp q.1.2⟩
theorem ac_rat_n2 {a b : Int32} (g : ¬ (b.toInt64 = 360 ∨ b.toInt64 = 365)) : ¬ AcRat a b := fun q => g (q.2.imp (fun e => by rw [e]; decide) (fun e => by rw [e]; decide))
theorem tI_c {r s : Nat → Int32} {j k : Nat} (h : s j = r k) : tI s j = tI r k := congrArg Int32.toInt h
theorem tI_v {s : Nat → Int32} {j : Nat} {v : Int32} (h : s j = v) : tI s j = v.toInt := congrArg Int32.toInt h
/-- another row with the same milestones -/
theorem WFa.sc {n : Nat} {r s : Nat → Int32} {q q2 : Int64} (h : WFa n r q) (hm : ∀ m i, m < n → i < 4 → s (16 + 7 * m + i) = r (16 + 7 * m + i)) (a0 : 0 ≤ tI s 0 ∧ tI s 0 ≤ 3000) (a1 : 360 ≤ tI s 1 ∧ tI s 1 ≤ 365) (a4 : 0 ≤ tI s 4 ∧ tI s 4 ≤ 20000) (a6 : 0 ≤ tI s 6 ∧ tI s 6 ≤ tI s 5 ∧ tI s 5 ≤ 9999999) (a7 : 0 ≤ tI s 7 ∧ tI s 7 ≤ tI s 8 ∧ tI s 8 ≤ 2000000000) (aQ : 0 ≤ q2.toInt ∧ q2.toInt ≤ 3650000 + 30 * (3000 * (9999999 + tI s 8))) (aS : fsI (tI r) n ≤ tI s 6) : WFa n s q2 := by
  have e : ∀ m i, m < n → i < 4 → tI s (16 + 7 * m + i) = tI r (16 + 7 * m + i) := fun m i hm9 hi => tI_c (hm m i hm9 hi)
  refine ⟨a0, a1, a4, a6, a7, aQ, ?_, fun m hm9 => ?_⟩
  · rw [fsI_cong (f := tI r) (fun m hm9 => e m 3 hm9 (by omega))]; exact aS
  · have ek := h.2.2.2.2.2.2.2 m hm9
    unfold MI9 at ek ⊢
    rw [e m 0 hm9 (by omega), e m 1 hm9 (by omega), e m 2 hm9 (by omega), e m 3 hm9 (by omega)]
    exact ek
/-- another state and another frozen amount of milestone k -/
theorem WFa.fs {n k : Nat} {r s : Nat → Int32} {q : Int64} (h : WFa n r q) (hk : k < n) (ho : ∀ j, j ≠ 16 + 7 * k + 3 → j ≠ 16 + 7 * k + 2 → s j = r j) (hv : 0 ≤ tI s (16 + 7 * k + 3)) (hb : fsI (tI r) n - tI r (16 + 7 * k + 3) + tI s (16 + 7 * k + 3) ≤ tI r 6) (hs : 0 ≤ tI s (16 + 7 * k + 2) ∧ tI s (16 + 7 * k + 2) ≤ 5) (hz : tI s (16 + 7 * k + 2) ≠ 2 → tI s (16 + 7 * k + 3) = 0) : WFa n s q := by
  obtain ⟨a0, a1, a4, a6, a7, aQ, aS, aM⟩ := h
  have fc : ∀ j, j ≠ 16 + 7 * k + 3 → j ≠ 16 + 7 * k + 2 → tI s j = tI r j := fun j h3 h2 => tI_c (ho j h3 h2)
  refine ⟨?_, ?_, ?_, ?_, ?_, ?_, ?_, fun m hm => ?_⟩
  · rw [fc 0 (by omega) (by omega)]; exact a0
  · rw [fc 1 (by omega) (by omega)]; exact a1
  · rw [fc 4 (by omega) (by omega)]; exact a4
  · rw [fc 6 (by omega) (by omega), fc 5 (by omega) (by omega)]; exact a6
  · rw [fc 7 (by omega) (by omega), fc 8 (by omega) (by omega)]; exact a7
  · rw [fc 8 (by omega) (by omega)]; exact aQ
  · rw [fsI_upd (f := tI r) hk (fun m hm => fc _ (by omega) (by omega)), fc 6 (by omega) (by omega)]; exact hb
  · have ek := aM m hm
    by_cases c : m = k
    · subst c
      unfold MI9 at ek ⊢
      rw [fc (16 + 7 * m + 0) (by omega) (by omega), fc (16 + 7 * m + 1) (by omega) (by omega)]
      exact ⟨ek.1, ek.2.1, ek.2.2.1, ek.2.2.2.1, hs.1, hs.2, hv, hz⟩
    · unfold MI9 at ek ⊢
      rw [fc (16 + 7 * m + 0) (by omega) (by omega), fc (16 + 7 * m + 1) (by omega) (by omega), fc (16 + 7 * m + 2) (by omega) (by omega), fc (16 + 7 * m + 3) (by omega) (by omega)]
      exact ek
/-- a refund of x -/
theorem WFa.ref {n : Nat} {r : Nat → Int32} {q : Int64} {x : Int32} (h : WFa n r q) (h0 : 0 ≤ x.toInt) (h2 : x.toInt ≤ tI r 6 - fsI (tI r) n) : WFa n (refR x r) q := by
  unfold refR
  refine entR_w ?_
  obtain ⟨a0, a1, a4, a6, a7, aQ, aS, aM⟩ := h
  have p0 := fsI_pos aM
  have e6 : (r 6 - x).toInt = tI r 6 - x.toInt := i_sub (by show _ ≤ tI r 6 - _; omega) (by show tI r 6 - _ ≤ _; omega)
  have f6 : tI (upd (upd r 6 (r 6 - x)) 11 (r 11 + x)) 6 = tI r 6 - x.toInt := by rw [tI_v ((pk_un (by omega)).trans pk_us), e6]
  have fo : ∀ j, j ≠ 6 → j ≠ 11 → upd (upd r 6 (r 6 - x)) 11 (r 11 + x) j = r j := fun j h6 h11 => (pk_un h11).trans (pk_un h6)
  refine WFa.sc (r := r) (q := q) ⟨a0, a1, a4, a6, a7, aQ, aS, aM⟩ (fun m i _ _ => fo _ (by omega) (by omega)) ?_ ?_ ?_ ?_ ?_ ?_ ?_
  · rw [tI_c (fo 0 (by omega) (by omega))]; exact a0
  · rw [tI_c (fo 1 (by omega) (by omega))]; exact a1
  · rw [tI_c (fo 4 (by omega) (by omega))]; exact a4
  · rw [f6, tI_c (fo 5 (by omega) (by omega))]; omega
  · rw [tI_c (fo 7 (by omega) (by omega)), tI_c (fo 8 (by omega) (by omega))]; exact a7
  · rw [tI_c (fo 8 (by omega) (by omega))]; exact aQ
  · rw [f6]; omega
theorem fsI_z {f : Nat → Int} : ∀ {n : Nat}, (∀ m, m < n → f (16 + 7 * m + 3) = 0) → fsI f n = 0
  | 0, _ => rfl
  | n + 1, h => by
    show fsI f n + f (16 + 7 * n + 3) = 0
    rw [fsI_z (fun m hm => h m (by omega)), h n (by omega)]
    rfl
theorem ky60 {ky kp : Nat} {x : Int32} (hk : ky = entC kp x) (h : kp = 60) : ky = 60 := by
  rw [hk, h]
  unfold entC
  split <;> omega
/-- how many are closed -/
def ccC (f : Nat → Int32) : Nat → Nat
  | 0 => 0
  | n + 1 => ccC f n + (if 3 ≤ f n then 1 else 0)
theorem ccC_le (f : Nat → Int32) : ∀ n, ccC f n ≤ n
  | 0 => Nat.le_refl 0
  | n + 1 => by
    have := ccC_le f n
    rw [ccC]
    split <;> omega
theorem ccC_all {f : Nat → Int32} : ∀ {n : Nat}, ccC f n = n ↔ ∀ m, m < n → 3 ≤ f m
  | 0 => ⟨fun _ m hm => absurd hm (Nat.not_lt_zero m), fun _ => rfl⟩
  | n + 1 => by
    have l := ccC_le f n
    rw [ccC]
    by_cases c : 3 ≤ f n
    · rw [if_pos c]
      refine ⟨fun e m hm => ?_, fun h => ?_⟩
      · by_cases d : m = n
        · subst d; exact c
        · exact (ccC_all (n := n)).mp (by omega) m (by omega)
      · have := (ccC_all (n := n)).mpr (fun m hm => h m (by omega))
        omega
    · rw [if_neg c]
      refine ⟨fun e => by omega, fun h => absurd (h n (by omega)) c⟩
def Ccq (f : Nat → Int32) (i k : Nat) : Prop := k = ccC f i
theorem Ccq.zero (f : Nat → Int32) : Ccq f 0 0 := rfl
theorem Ccq.yes {f : Nat → Int32} {i k : Nat} (h : Ccq f i k) (c : 3 ≤ f i) : Ccq f (i + 1) (k + 1) := by
  unfold Ccq at h ⊢
  rw [ccC, if_pos c, h]
theorem Ccq.no {f : Nat → Int32} {i k : Nat} (h : Ccq f i k) (c : ¬ 3 ≤ f i) : Ccq f (i + 1) k := by
  unfold Ccq at h ⊢
  rw [ccC, if_neg c, h]
  rfl
/-- the order of payment -/
def Bor (n : Nat) (b : Nat → Nat) (f : Nat → Int32) : Prop := ∀ k, k < n → b k < n ∧ f k = nI (b k)
theorem Bor.at {n k : Nat} {b : Nat → Nat} {f : Nat → Int32} (h : Bor n b f) (hk : k < n) : b k < n ∧ f k = nI (b k) := h k hk
theorem Ens.prev {n m : Nat} {q : Nat → Nat} {f : Nat → Int32} {y : Int32} (h : Ens n q f) (h0 : 0 < m ∧ m < 2147483648) (hm : m < n) (e : y = f (nI (m - 1)).toNatClampNeg) : y = nI (q m) := by
  rw [e, nI_clamp (by omega), h (m - 1) (by omega), show m - 1 + 1 = m by omega]
/-- what is remembered of the class's account -/
def HrC (wn wc : Nat) (mi : Nat → Nat → Int32) (ml : Nat → Nat → Int64) (mk : Nat → Nat) (mf : Nat → Nat → Nat → Int32) (i6 i7 i8 : Int32) (i9 i11 : Int64) (i12 i13 i15 i16 i17 i18 i19 : Int32) (kp : Nat) (fs fp ff fd : Nat → Int32) (wn2 wc2 : Nat) (mi2 : Nat → Nat → Int32) (ml2 : Nat → Nat → Int64) (mk2 : Nat → Nat) (mf2 : Nat → Nat → Nat → Int32) : Prop :=
  wn2 = (wn + 1) % 10 ∧ wc2 = min (wc + 1) 10 ∧ mi2 wn 6 = i6 ∧ mi2 wn 7 = i7 ∧ mi2 wn 8 = i8 ∧ ml2 wn 9 = i9 ∧ ml2 wn 11 = i11 ∧ mi2 wn 12 = i12 ∧ mi2 wn 13 = i13 ∧ mi2 wn 15 = i15 ∧ mi2 wn 16 = i16 ∧ mi2 wn 17 = i17 ∧ mi2 wn 18 = i18 ∧ mi2 wn 19 = i19 ∧ mk2 wn = kp ∧ Cp 10 fs (mf2 wn 3) ∧ Cp 10 fp (mf2 wn 4) ∧ Cp 10 ff (mf2 wn 5) ∧ Cp 10 fd (mf2 wn 6) ∧ ∀ s9, s9 ≠ wn → mi2 s9 = mi s9 ∧ ml2 s9 = ml s9 ∧ mk2 s9 = mk s9 ∧ mf2 s9 = mf s9
def HuC (wn wc : Nat) (mi : Nat → Nat → Int32) (ml : Nat → Nat → Int64) (mk : Nat → Nat) (mf : Nat → Nat → Nat → Int32) (i6 i7 i8 : Int32) (i9 i11 : Int64) (i12 i13 i15 i16 i17 i18 i19 : Int32) (kp : Nat) (fs fp ff fd : Nat → Int32) (z6 z7 z8 : Int32) (z9 z11 : Int64) (z12 z13 z15 z16 z17 z18 z19 : Int32) (ky : Nat) (zs zp zf zd : Nat → Int32) (wn2 wc2 : Nat) : Prop :=
  (wc = 0 ∧ wn2 = wn ∧ wc2 = wc ∧ z6 = i6 ∧ z7 = i7 ∧ z8 = i8 ∧ z9 = i9 ∧ z11 = i11 ∧ z12 = i12 ∧ z13 = i13 ∧ z15 = i15 ∧ z16 = i16 ∧ z17 = i17 ∧ z18 = i18 ∧ z19 = i19 ∧ ky = kp ∧ zs = fs ∧ zp = fp ∧ zf = ff ∧ zd = fd) ∨
  (0 < wc ∧ wn2 = (wn + 9) % 10 ∧ wc2 = wc - 1 ∧ z6 = mi wn2 6 ∧ z7 = mi wn2 7 ∧ z8 = mi wn2 8 ∧ z9 = ml wn2 9 ∧ z11 = ml wn2 11 ∧ z12 = mi wn2 12 ∧ z13 = mi wn2 13 ∧ z15 = mi wn2 15 ∧ z16 = mi wn2 16 ∧ z17 = mi wn2 17 ∧ z18 = mi wn2 18 ∧ z19 = mi wn2 19 ∧ ky = mk wn2 ∧ Cp 10 (mf wn2 3) zs ∧ Cp 10 (mf wn2 4) zp ∧ Cp 10 (mf wn2 5) zf ∧ Cp 10 (mf wn2 6) zd)
/-- a day, as a function of the row -/
def day2 (dy : Nat) (r : Nat → Int32) (q : Int64) : Nat → Int32 := if (dy + 1) % 30 = 0 then crR (pqQ q r) (upd r 4 (nI (dy + 1))) else upd r 4 (nI (dy + 1))
def dayQ (dy : Nat) (r : Nat → Int32) (q : Int64) : Int64 := if (dy + 1) % 30 = 0 then crQ (pqQ q r) (upd r 4 (nI (dy + 1))) else pqQ q r
def dayR (f : Nat → Int32) (cq : Nat → Nat) (n : Nat) (b : Nat → Nat) (dy : Nat) (r : Nat → Int32) (q : Int64) : Nat → Int32 := pays n b (dues f cq (doR (day2 dy r q) n) (day2 dy r q) n) n
def dysP (f : Nat → Int32) (cq : Nat → Nat) (n : Nat) (b : Nat → Nat) (dy : Nat) (r : Nat → Int32) (q : Int64) : Nat → (Nat → Int32) × Int64
  | 0 => (r, q)
  | k + 1 => (dayR f cq n b (dy + k) (dysP f cq n b dy r q k).1 (dysP f cq n b dy r q k).2, dayQ (dy + k) (dysP f cq n b dy r q k).1 (dysP f cq n b dy r q k).2)
def Cap (sm : Prop) (r : Nat → Int32) : Prop := ¬ sm → Cap0 r
def Cpd (r : Nat → Int32) (q : Int64) : Prop := Cap0 r ∧ q.toInt ≤ 3650000 + (tI r 4 % 30) * (3000 * (9999999 + tI r 8))
def Capd (sm : Prop) (r : Nat → Int32) (q : Int64) : Prop := ¬ sm → Cpd r q
theorem Cap.day {sm : Prop} {r : Nat → Int32} {q : Int64} {v : Int32} (h : Capd sm r q) : Cap sm (upd r 4 v) := fun ns => Cap0.day (h ns).1
def CapN (sm : Prop) (f : Nat → Int32) (cq : Nat → Nat) (n : Nat) (b : Nat → Nat) (dy N : Nat) (r : Nat → Int32) (q : Int64) : Prop := ∀ k, k < N → Capd sm (dysP f cq n b dy r q k).1 (dysP f cq n b dy r q k).2
theorem CapN.le {sm : Prop} {f : Nat → Int32} {cq : Nat → Nat} {n : Nat} {b : Nat → Nat} {dy N M : Nat} {r : Nat → Int32} {q : Int64} (h : CapN sm f cq n b dy N r q) (hM : M ≤ N) : CapN sm f cq n b dy M r q := fun k hk => h k (by omega)

theorem RC0.dep_a {n : Nat} {r : Nat → Int32} {q : Int64} {i6 i7 i8 : Int32} {i9 i11 : Int64} {i12 i13 i15 i16 i17 i18 i19 : Int32} {kp : Nat} {fs fp ff fd fam : Nat → Int32} {x : Int32} (h : RC0 n r q i6 i7 i8 i9 i11 i12 i13 i15 i16 i17 i18 i19 kp fs fp ff fd fam) (g : 1 ≤ x ∧ x ≤ 99999) (hc : i7 + x ≤ 9999999) : AcDep r x := by
  have g1 := i_le.mp g.1
  have g2 := i_le.mp g.2
  rw [z_1] at g1
  rw [z_99999] at g2
  have hw := h.1
  obtain ⟨⟨hn, hkp⟩, ⟨e4, e5, e6, e7, eq, e10, e0, e1, e3, e12, e15⟩, hq⟩ := h.2
  obtain ⟨a0, a1, a4, a6, a7, aQ, aS, aM⟩ := h.1
  have s5 : (r 5 + x).toInt = tI r 5 + x.toInt := i_add (by show _ ≤ tI r 5 + _; omega) (by show tI r 5 + _ ≤ _; omega)
  have hc2 := i_le.mp hc
  rw [z_9999999, ← e5, s5] at hc2
  refine ⟨⟨w1_le.mpr g.1, w5_le.mpr g.2⟩, l_le.mpr ?_⟩
  rw [zl_9999999, l_add (by rw [i_w, i_w]; show _ ≤ tI r 5 + _; omega) (by rw [i_w, i_w]; show tI r 5 + _ ≤ _; omega), i_w, i_w]
  exact hc2

theorem RC0.dep_r1 {r : Nat → Int32} {x : Int32} (g : ¬ (1 ≤ x ∧ x ≤ 99999)) : ¬ AcDep r x := fun q => g ⟨w1_le.mp q.1.1, w5_le.mp q.1.2⟩

theorem RC0.dep_r2 {n : Nat} {r : Nat → Int32} {q : Int64} {i6 i7 i8 : Int32} {i9 i11 : Int64} {i12 i13 i15 i16 i17 i18 i19 : Int32} {kp : Nat} {fs fp ff fd fam : Nat → Int32} {x : Int32} (h : RC0 n r q i6 i7 i8 i9 i11 i12 i13 i15 i16 i17 i18 i19 kp fs fp ff fd fam) (g : 1 ≤ x ∧ x ≤ 99999) (hc : 9999999 < i7 + x) : ¬ AcDep r x := by
  have g1 := i_le.mp g.1
  have g2 := i_le.mp g.2
  rw [z_1] at g1
  rw [z_99999] at g2
  have hw := h.1
  obtain ⟨⟨hn, hkp⟩, ⟨e4, e5, e6, e7, eq, e10, e0, e1, e3, e12, e15⟩, hq⟩ := h.2
  obtain ⟨a0, a1, a4, a6, a7, aQ, aS, aM⟩ := h.1
  intro q9
  have s5 : (r 5 + x).toInt = tI r 5 + x.toInt := i_add (by show _ ≤ tI r 5 + _; omega) (by show tI r 5 + _ ≤ _; omega)
  have hc2 := i_lt.mp hc
  rw [z_9999999, ← e5, s5] at hc2
  have q2 := l_le.mp q9.2
  rw [zl_9999999, l_add (by rw [i_w, i_w]; show _ ≤ tI r 5 + _; omega) (by rw [i_w, i_w]; show tI r 5 + _ ≤ _; omega), i_w, i_w] at q2
  have q3 : tI r 5 + x.toInt ≤ 9999999 := q2
  omega

theorem RC0.dep {n : Nat} {r : Nat → Int32} {q : Int64} {i6 i7 i8 : Int32} {i9 i11 : Int64} {i12 i13 i15 i16 i17 i18 i19 : Int32} {kp : Nat} {fs fp ff fd fam : Nat → Int32} {x : Int32} {ky : Nat} (h : RC0 n r q i6 i7 i8 i9 i11 i12 i13 i15 i16 i17 i18 i19 kp fs fp ff fd fam) (g : 1 ≤ x ∧ x ≤ 99999) (hc : i7 + x ≤ 9999999) (hk : ky = entC kp x) : RC0 n (depR x r) q i6 (i7 + x) (i8 + x) i9 i11 i12 i13 i15 i16 i17 i18 i19 ky fs fp ff fd fam := by
  have g1 := i_le.mp g.1
  have g2 := i_le.mp g.2
  rw [z_1] at g1
  rw [z_99999] at g2
  have hw := h.1
  obtain ⟨⟨hn, hkp⟩, ⟨e4, e5, e6, e7, eq, e10, e0, e1, e3, e12, e15⟩, hq⟩ := h.2
  obtain ⟨a0, a1, a4, a6, a7, aQ, aS, aM⟩ := h.1
  have s5 : (r 5 + x).toInt = tI r 5 + x.toInt := i_add (by show _ ≤ tI r 5 + _; omega) (by show tI r 5 + _ ≤ _; omega)
  have s6 : (r 6 + x).toInt = tI r 6 + x.toInt := i_add (by show _ ≤ tI r 6 + _; omega) (by show tI r 6 + _ ≤ _; omega)
  have hc2 := i_le.mp hc
  rw [z_9999999, ← e5, s5] at hc2
  have x0 : 0 ≤ x := i_le.mpr (by rw [z_0]; omega)
  have f5 : depR x r 5 = r 5 + x := (entR_n (by omega)).trans ((pk_un (by omega)).trans pk_us)
  have f6 : depR x r 6 = r 6 + x := (entR_n (by omega)).trans pk_us
  have fo : ∀ j, j ≠ 5 → j ≠ 6 → j ≠ 15 → depR x r j = r j := fun j h5 h6 h15 => (entR_n h15).trans ((pk_un h6).trans (pk_un h5))
  have w2 : WFa n (depR x r) q := by
    refine hw.sc (fun m i _ _ => fo _ (by omega) (by omega) (by omega)) ?_ ?_ ?_ ?_ ?_ ?_ ?_
    · rw [tI_c (fo 0 (by omega) (by omega) (by omega))]; exact a0
    · rw [tI_c (fo 1 (by omega) (by omega) (by omega))]; exact a1
    · rw [tI_c (fo 4 (by omega) (by omega) (by omega))]; exact a4
    · rw [tI_v f6, tI_v f5, s6, s5]; omega
    · rw [tI_c (fo 7 (by omega) (by omega) (by omega)), tI_c (fo 8 (by omega) (by omega) (by omega))]; exact a7
    · rw [tI_c (fo 8 (by omega) (by omega) (by omega))]; exact aQ
    · rw [tI_v f6, s6]; omega
  exact RC0.mk h w2 (by rw [hk]; exact entC_60 hkp) ((fo 4 (by omega) (by omega) (by omega)).trans e4) (f5.trans (by rw [e5])) (f6.trans (by rw [e6])) (by rw [fo 7 (by omega) (by omega) (by omega)]; exact e7) eq ((fo 10 (by omega) (by omega) (by omega)).trans e10) ((fo 0 (by omega) (by omega) (by omega)).trans e0) ((fo 1 (by omega) (by omega) (by omega)).trans e1) ((fo 3 (by omega) (by omega) (by omega)).trans e3) ((fo 12 (by omega) (by omega) (by omega)).trans e12) (by rw [hk]; exact ent15 (((pk_un (by omega)).trans (pk_un (by omega))).trans e15) hkp x0) (fun m hm => by
    obtain ⟨b0, b1, b2, b3, b4, b5⟩ := hq m hm
    exact ⟨fo _ (by omega) (by omega) (by omega), (fo _ (by omega) (by omega) (by omega)).trans b1, (fo _ (by omega) (by omega) (by omega)).trans b2, (fo _ (by omega) (by omega) (by omega)).trans b3, (fo _ (by omega) (by omega) (by omega)).trans b4, fo _ (by omega) (by omega) (by omega)⟩)

theorem RC0.gra {n : Nat} {r : Nat → Int32} {q : Int64} {i6 i7 i8 : Int32} {i9 i11 : Int64} {i12 i13 i15 i16 i17 i18 i19 : Int32} {kp : Nat} {fs fp ff fd fam : Nat → Int32} {x : Int32} (h : RC0 n r q i6 i7 i8 i9 i11 i12 i13 i15 i16 i17 i18 i19 kp fs fp ff fd fam) : RC0 n (graR x r) q i6 i7 i8 i9 i11 i12 i13 i15 i16 x i18 i19 kp fs fp ff fd fam := by
  have hw := h.1
  obtain ⟨⟨hn, hkp⟩, ⟨e4, e5, e6, e7, eq, e10, e0, e1, e3, e12, e15⟩, hq⟩ := h.2
  obtain ⟨a0, a1, a4, a6, a7, aQ, aS, aM⟩ := h.1
  have fo : ∀ j, j ≠ 3 → graR x r j = r j := fun j h3 => pk_un h3
  exact RC0.mk h (hw.set 3 x (by omega)) hkp ((fo 4 (by omega)).trans e4) ((fo 5 (by omega)).trans e5) ((fo 6 (by omega)).trans e6) (by rw [fo 7 (by omega)]; exact e7) eq ((fo 10 (by omega)).trans e10) ((fo 0 (by omega)).trans e0) ((fo 1 (by omega)).trans e1) pk_us ((fo 12 (by omega)).trans e12) ((fo 15 (by omega)).trans e15) (fun m hm => by
    obtain ⟨b0, b1, b2, b3, b4, b5⟩ := hq m hm
    exact ⟨fo _ (by omega), (fo _ (by omega)).trans b1, (fo _ (by omega)).trans b2, (fo _ (by omega)).trans b3, (fo _ (by omega)).trans b4, fo _ (by omega)⟩)

theorem RC0.sub {n : Nat} {r : Nat → Int32} {q : Int64} {i6 i7 i8 : Int32} {i9 i11 : Int64} {i12 i13 i15 i16 i17 i18 i19 : Int32} {kp : Nat} {fs fp ff fd fam : Nat → Int32} {k : Nat} (h : RC0 n r q i6 i7 i8 i9 i11 i12 i13 i15 i16 i17 i18 i19 kp fs fp ff fd fam) : RC0 n (subR k r) q i6 i7 i8 i9 i11 i12 i13 i15 i16 i17 (i18 ||| (1 : Int32) <<< (nI k &&& 31)) i19 kp fs fp ff fd fam := by
  have hw := h.1
  obtain ⟨⟨hn, hkp⟩, ⟨e4, e5, e6, e7, eq, e10, e0, e1, e3, e12, e15⟩, hq⟩ := h.2
  obtain ⟨a0, a1, a4, a6, a7, aQ, aS, aM⟩ := h.1
  have fo : ∀ j, j ≠ 12 → subR k r j = r j := fun j h3 => pk_un h3
  exact RC0.mk h (hw.set 12 _ (by omega)) hkp ((fo 4 (by omega)).trans e4) ((fo 5 (by omega)).trans e5) ((fo 6 (by omega)).trans e6) (by rw [fo 7 (by omega)]; exact e7) eq ((fo 10 (by omega)).trans e10) ((fo 0 (by omega)).trans e0) ((fo 1 (by omega)).trans e1) ((fo 3 (by omega)).trans e3) ((pk_us (f := r) (k := 12)).trans (by rw [e12])) ((fo 15 (by omega)).trans e15) (fun m hm => by
    obtain ⟨b0, b1, b2, b3, b4, b5⟩ := hq m hm
    exact ⟨fo _ (by omega), (fo _ (by omega)).trans b1, (fo _ (by omega)).trans b2, (fo _ (by omega)).trans b3, (fo _ (by omega)).trans b4, fo _ (by omega)⟩)

theorem RC0.rat {n : Nat} {r : Nat → Int32} {q : Int64} {i6 i7 i8 : Int32} {i9 i11 : Int64} {i12 i13 i15 i16 i17 i18 i19 : Int32} {kp : Nat} {fs fp ff fd fam : Nat → Int32} {a b : Int32} (h : RC0 n r q i6 i7 i8 i9 i11 i12 i13 i15 i16 i17 i18 i19 kp fs fp ff fd fam) (g : 0 ≤ a ∧ a ≤ 3000) (hb : b.toInt64 = 360 ∨ b.toInt64 = 365) : RC0 n (ratR a b r) q i6 i7 i8 i9 i11 i12 i13 a b i17 i18 i19 kp fs fp ff fd fam := by
  have hw := h.1
  obtain ⟨⟨hn, hkp⟩, ⟨e4, e5, e6, e7, eq, e10, e0, e1, e3, e12, e15⟩, hq⟩ := h.2
  obtain ⟨a0, a1, a4, a6, a7, aQ, aS, aM⟩ := h.1
  have g1 := i_le.mp g.1
  have g2 := i_le.mp g.2
  rw [z_0] at g1
  rw [z_3000] at g2
  have b1 : 360 ≤ b.toInt ∧ b.toInt ≤ 365 := by
    rcases bas_or hb with e | e
    · rw [e]; decide
    · rw [e]; decide
  have f0 : ratR a b r 0 = a := (pk_un (by omega)).trans pk_us
  have f1 : ratR a b r 1 = b := pk_us
  have fo : ∀ j, j ≠ 0 → j ≠ 1 → ratR a b r j = r j := fun j h0 h1 => (pk_un h1).trans (pk_un h0)
  have w2 : WFa n (ratR a b r) q := by
    refine hw.sc (fun m i _ _ => fo _ (by omega) (by omega)) ?_ ?_ ?_ ?_ ?_ ?_ ?_
    · rw [tI_v f0]; omega
    · rw [tI_v f1]; exact b1
    · rw [tI_c (fo 4 (by omega) (by omega))]; exact a4
    · rw [tI_c (fo 6 (by omega) (by omega)), tI_c (fo 5 (by omega) (by omega))]; exact a6
    · rw [tI_c (fo 7 (by omega) (by omega)), tI_c (fo 8 (by omega) (by omega))]; exact a7
    · rw [tI_c (fo 8 (by omega) (by omega))]; exact aQ
    · rw [tI_c (fo 6 (by omega) (by omega))]; exact aS
  exact RC0.mk h w2 hkp ((fo 4 (by omega) (by omega)).trans e4) ((fo 5 (by omega) (by omega)).trans e5) ((fo 6 (by omega) (by omega)).trans e6) (by rw [fo 7 (by omega) (by omega)]; exact e7) eq ((fo 10 (by omega) (by omega)).trans e10) f0 f1 ((fo 3 (by omega) (by omega)).trans e3) ((fo 12 (by omega) (by omega)).trans e12) ((fo 15 (by omega) (by omega)).trans e15) (fun m hm => by
    obtain ⟨b0, b1, b2, b3, b4, b5⟩ := hq m hm
    exact ⟨fo _ (by omega) (by omega), (fo _ (by omega) (by omega)).trans b1, (fo _ (by omega) (by omega)).trans b2, (fo _ (by omega) (by omega)).trans b3, (fo _ (by omega) (by omega)).trans b4, fo _ (by omega) (by omega)⟩)

theorem RC0.pin_a {n : Nat} {r : Nat → Int32} {q : Int64} {i6 i7 i8 : Int32} {i9 i11 : Int64} {i12 i13 i15 i16 i17 i18 i19 : Int32} {kp : Nat} {fs fp ff fd fam : Nat → Int32} {x : Int32} (h : RC0 n r q i6 i7 i8 i9 i11 i12 i13 i15 i16 i17 i18 i19 kp fs fp ff fd fam) (g : 1 ≤ x) (c : lg_cmp (x.toInt64) i9 ≤ 0) : AcPin r x := by
  refine ⟨w1_le.mpr g, ?_⟩
  rw [h.2.2.1.2.2.2.1]
  exact (lg_cmp_le _ _).mp c

theorem RC0.pin_r1 {r : Nat → Int32} {x : Int32} (c : x < 1) : ¬ AcPin r x := fun q => absurd c (Int32.not_lt.mpr (w1_le.mp q.1))

theorem RC0.pin_r2 {n : Nat} {r : Nat → Int32} {q : Int64} {i6 i7 i8 : Int32} {i9 i11 : Int64} {i12 i13 i15 i16 i17 i18 i19 : Int32} {kp : Nat} {fs fp ff fd fam : Nat → Int32} {x : Int32} (h : RC0 n r q i6 i7 i8 i9 i11 i12 i13 i15 i16 i17 i18 i19 kp fs fp ff fd fam) (c : ¬ lg_cmp (x.toInt64) i9 ≤ 0) : ¬ AcPin r x := by
  intro q9
  have q2 := q9.2
  rw [h.2.2.1.2.2.2.1] at q2
  exact c ((lg_cmp_le _ _).mpr q2)

theorem RC0.pin {n : Nat} {r : Nat → Int32} {q : Int64} {i6 i7 i8 : Int32} {i9 i11 : Int64} {i12 i13 i15 i16 i17 i18 i19 : Int32} {kp : Nat} {fs fp ff fd fam : Nat → Int32} {x : Int32} {ky : Nat} (h : RC0 n r q i6 i7 i8 i9 i11 i12 i13 i15 i16 i17 i18 i19 kp fs fp ff fd fam) (g : 1 ≤ x) (c : lg_cmp (x.toInt64) i9 ≤ 0) (hk : ky = entC kp x) : RC0 n (pinR x r) q i6 i7 i8 (i9 - x.toInt64) i11 i12 i13 i15 i16 i17 i18 i19 ky fs fp ff fd fam := by
  have hw := h.1
  obtain ⟨⟨hn, hkp⟩, ⟨e4, e5, e6, e7, eq, e10, e0, e1, e3, e12, e15⟩, hq⟩ := h.2
  obtain ⟨a0, a1, a4, a6, a7, aQ, aS, aM⟩ := h.1
  have g1 := i_le.mp g
  rw [z_1] at g1
  have c2 : x.toInt ≤ tI r 7 := by
    have z := l_le.mp ((lg_cmp_le _ _).mp c)
    rw [← e7, i_w, i_w] at z
    exact z
  have x0 : 0 ≤ x := i_le.mpr (by rw [z_0]; omega)
  have s7 : (r 7 - x).toInt = tI r 7 - x.toInt := i_sub (by show _ ≤ tI r 7 - _; omega) (by show tI r 7 - _ ≤ _; omega)
  have f7 : pinR x r 7 = r 7 - x := (entR_n (by omega)).trans pk_us
  have fo : ∀ j, j ≠ 7 → j ≠ 15 → pinR x r j = r j := fun j h7 h15 => (entR_n h15).trans (pk_un h7)
  have w2 : WFa n (pinR x r) q := by
    refine hw.sc (fun m i _ _ => fo _ (by omega) (by omega)) ?_ ?_ ?_ ?_ ?_ ?_ ?_
    · rw [tI_c (fo 0 (by omega) (by omega))]; exact a0
    · rw [tI_c (fo 1 (by omega) (by omega))]; exact a1
    · rw [tI_c (fo 4 (by omega) (by omega))]; exact a4
    · rw [tI_c (fo 6 (by omega) (by omega)), tI_c (fo 5 (by omega) (by omega))]; exact a6
    · rw [tI_v f7, s7, tI_c (fo 8 (by omega) (by omega))]; omega
    · rw [tI_c (fo 8 (by omega) (by omega))]; exact aQ
    · rw [tI_c (fo 6 (by omega) (by omega))]; exact aS
  have n7 : (pinR x r 7).toInt64 = i9 - x.toInt64 := by
    rw [f7, ← e7]
    refine l_inj ?_
    rw [i_w, s7, l_sub (by rw [i_w, i_w]; show _ ≤ tI r 7 - _; omega) (by rw [i_w, i_w]; show tI r 7 - _ ≤ _; omega), i_w, i_w]
    rfl
  exact RC0.mk h w2 (by rw [hk]; exact entC_60 hkp) ((fo 4 (by omega) (by omega)).trans e4) ((fo 5 (by omega) (by omega)).trans e5) ((fo 6 (by omega) (by omega)).trans e6) n7 eq ((fo 10 (by omega) (by omega)).trans e10) ((fo 0 (by omega) (by omega)).trans e0) ((fo 1 (by omega) (by omega)).trans e1) ((fo 3 (by omega) (by omega)).trans e3) ((fo 12 (by omega) (by omega)).trans e12) (by rw [hk]; exact ent15 ((pk_un (by omega)).trans e15) hkp x0) (fun m hm => by
    obtain ⟨b0, b1, b2, b3, b4, b5⟩ := hq m hm
    exact ⟨fo _ (by omega) (by omega), (fo _ (by omega) (by omega)).trans b1, (fo _ (by omega) (by omega)).trans b2, (fo _ (by omega) (by omega)).trans b3, (fo _ (by omega) (by omega)).trans b4, fo _ (by omega) (by omega)⟩)

theorem btC_bt {x : Int32} {m : Nat} (hm : m < 31) : btC x (nI m) ↔ bt x m = true := by
  have e : (x.toUInt32 >>> ((nI m).toUInt32 &&& Int32.toUInt32 31)).toInt32 &&& 1 = (if bt x m = true then 1 else 0) := by
    apply b_ext
    intro i hi
    rw [b_and, b_ushr m (by omega)]
    cases i with
    | zero =>
      rw [Nat.add_zero]
      cases h : bt x m
      · rw [Bool.false_and, if_neg (by decide)]; rfl
      · rw [Bool.true_and, if_pos rfl]
    | succ i =>
      have z : bt 1 (i + 1) = false := by
        unfold bt
        rw [show (1 : Int32) = nI 1 from rfl, nI_bt _ _ hi, Nat.testBit_succ, show 1 / 2 = 0 by decide, Nat.zero_testBit]
      rw [z, Bool.and_false]
      by_cases h : bt x m = true
      · rw [if_pos h, z]
      · rw [if_neg h, b_0]
  unfold btC
  rw [e]
  by_cases h : bt x m = true
  · rw [if_pos h]; exact ⟨fun _ => h, fun _ => rfl⟩
  · rw [if_neg h]; exact ⟨fun q => absurd q (by decide), fun q => absurd q h⟩
theorem bt_1 {i : Nat} (hi : i < 32) : bt 1 i = decide (i = 0) := by
  unfold bt
  rw [show (1 : Int32) = nI 1 from rfl, nI_bt _ _ hi]
  cases i with
  | zero => rfl
  | succ i => rw [Nat.testBit_succ, show 1 / 2 = 0 by decide, Nat.zero_testBit, decide_eq_false (by omega)]
theorem btC_or {x : Int32} {k m : Nat} (hk : k < 31) (hm : m < 31) : btC (x ||| (1 : Int32) <<< (nI k &&& 31)) (nI m) ↔ (m = k ∨ btC x (nI m)) := by
  rw [btC_bt hm, btC_bt hm, b_or, b_shl k (by omega) 1 (by omega), bt_1 (by omega), Bool.or_eq_true, Bool.and_eq_true, decide_eq_true_iff, decide_eq_true_iff]
  refine ⟨fun z => z.elim Or.inr (fun z => Or.inl (by omega)), fun z => z.elim (fun z => Or.inr (by omega)) Or.inl⟩

theorem RC0.app_a {n : Nat} {r : Nat → Int32} {q : Int64} {i6 i7 i8 : Int32} {i9 i11 : Int64} {i12 i13 i15 i16 i17 i18 i19 : Int32} {kp : Nat} {fs fp ff fd fam : Nat → Int32} {k : Nat} (h : RC0 n r q i6 i7 i8 i9 i11 i12 i13 i15 i16 i17 i18 i19 kp fs fp ff fd fam) (hm : k < n) (g : ¬ 3 ≤ fs k) : AcApp r k := by
  unfold AcApp
  rw [(h.2.2.2 k hm).2.2.1]
  exact g

theorem RC0.app_r {n : Nat} {r : Nat → Int32} {q : Int64} {i6 i7 i8 : Int32} {i9 i11 : Int64} {i12 i13 i15 i16 i17 i18 i19 : Int32} {kp : Nat} {fs fp ff fd fam : Nat → Int32} {k : Nat} (h : RC0 n r q i6 i7 i8 i9 i11 i12 i13 i15 i16 i17 i18 i19 kp fs fp ff fd fam) (hm : k < n) (g : 3 ≤ fs k) : ¬ AcApp r k := by
  unfold AcApp
  rw [(h.2.2.2 k hm).2.2.1]
  exact fun z => z g

theorem RC0.app {n : Nat} {r : Nat → Int32} {q : Int64} {i6 i7 i8 : Int32} {i9 i11 : Int64} {i12 i13 i15 i16 i17 i18 i19 : Int32} {kp : Nat} {fs fp ff fd fam : Nat → Int32} {k : Nat} (h : RC0 n r q i6 i7 i8 i9 i11 i12 i13 i15 i16 i17 i18 i19 kp fs fp ff fd fam) (hm : k < n) (h31 : k < 31) : RC0 n (appR k r) q i6 i7 i8 i9 i11 i12 i13 i15 i16 i17 i18 (i19 ||| (1 : Int32) <<< (nI k &&& 31)) kp fs fp ff fd fam := by
  have hw := h.1
  obtain ⟨⟨hn, hkp⟩, ⟨e4, e5, e6, e7, eq, e10, e0, e1, e3, e12, e15⟩, hq⟩ := h.2
  obtain ⟨a0, a1, a4, a6, a7, aQ, aS, aM⟩ := h.1
  have fo : ∀ j, j ≠ 16 + 7 * k + 5 → appR k r j = r j := fun j hj => pk_un hj
  refine ⟨hw.set _ _ (Or.inr (Or.inr (Or.inr (Or.inr (Or.inr ⟨k, Or.inr rfl⟩))))), ⟨hn, hkp⟩, ⟨(fo 4 (by omega)).trans e4, (fo 5 (by omega)).trans e5, (fo 6 (by omega)).trans e6, (by rw [fo 7 (by omega)]; exact e7), eq, (fo 10 (by omega)).trans e10, (fo 0 (by omega)).trans e0, (fo 1 (by omega)).trans e1, (fo 3 (by omega)).trans e3, (fo 12 (by omega)).trans e12, (fo 15 (by omega)).trans e15⟩, fun m hm9 => ?_⟩
  obtain ⟨b0, b1, b2, b3, b4, b5⟩ := hq m hm9
  refine ⟨(fo _ (by omega)).trans b0, (fo _ (by omega)).trans b1, (fo _ (by omega)).trans b2, (fo _ (by omega)).trans b3, (fo _ (by omega)).trans b4, ?_⟩
  by_cases d : m = k
  · subst d
    rw [show appR m r (16 + 7 * m + 5) = 1 from pk_us, bI_t ((btC_or h31 h31).mpr (Or.inl rfl))]
  · rw [fo _ (by omega), b5]
    by_cases c : btC i19 (nI m)
    · rw [bI_t c, bI_t ((btC_or h31 (by omega)).mpr (Or.inr c))]
    · rw [bI_f c, bI_f (fun z => c (((btC_or h31 (by omega)).mp z).resolve_left d))]

theorem RC0.opn_a {n : Nat} {r : Nat → Int32} {q : Int64} {i6 i7 i8 : Int32} {i9 i11 : Int64} {i12 i13 i15 i16 i17 i18 i19 : Int32} {kp : Nat} {fs fp ff fd fam : Nat → Int32} {k : Nat} (h : RC0 n r q i6 i7 i8 i9 i11 i12 i13 i15 i16 i17 i18 i19 kp fs fp ff fd fam) (hm : k < n) (g : fs k = 0 ∨ fs k = 1) : AcOpn r k := by
  unfold AcOpn
  rw [(h.2.2.2 k hm).2.2.1]
  rcases g with g | g
  · rw [g]; decide
  · rw [g]; decide

theorem RC0.opn_r {n : Nat} {r : Nat → Int32} {q : Int64} {i6 i7 i8 : Int32} {i9 i11 : Int64} {i12 i13 i15 i16 i17 i18 i19 : Int32} {kp : Nat} {fs fp ff fd fam : Nat → Int32} {k : Nat} (h : RC0 n r q i6 i7 i8 i9 i11 i12 i13 i15 i16 i17 i18 i19 kp fs fp ff fd fam) (hm : k < n) (g : ¬ (fs k = 0 ∨ fs k = 1)) : ¬ AcOpn r k := by
  intro z
  unfold AcOpn at z
  have z1 := i_le.mp z
  rw [z_1] at z1
  have eM := (h.1.2.2.2.2.2.2.2 k hm).2.2.2.2.1
  have e2 : tI r (16 + 7 * k + 2) = (r (16 + 7 * k + 2)).toInt := rfl
  have e3 := (h.2.2.2 k hm).2.2.1
  refine g ?_
  rw [← e3]
  by_cases c : (r (16 + 7 * k + 2)).toInt = 0
  · exact Or.inl (i_inj (by rw [z_0]; exact c))
  · exact Or.inr (i_inj (by rw [z_1]; omega))

theorem RC0.dsp_a {n : Nat} {r : Nat → Int32} {q : Int64} {i6 i7 i8 : Int32} {i9 i11 : Int64} {i12 i13 i15 i16 i17 i18 i19 : Int32} {kp : Nat} {fs fp ff fd fam : Nat → Int32} {k : Nat} (h : RC0 n r q i6 i7 i8 i9 i11 i12 i13 i15 i16 i17 i18 i19 kp fs fp ff fd fam) (hm : k < n) (g : fs k = 2) : AcDis r k := by
  unfold AcDis
  rw [(h.2.2.2 k hm).2.2.1]
  exact g

theorem RC0.dsp_r {n : Nat} {r : Nat → Int32} {q : Int64} {i6 i7 i8 : Int32} {i9 i11 : Int64} {i12 i13 i15 i16 i17 i18 i19 : Int32} {kp : Nat} {fs fp ff fd fam : Nat → Int32} {k : Nat} (h : RC0 n r q i6 i7 i8 i9 i11 i12 i13 i15 i16 i17 i18 i19 kp fs fp ff fd fam) (hm : k < n) (g : ¬ fs k = 2) : ¬ AcDis r k := by
  unfold AcDis
  rw [(h.2.2.2 k hm).2.2.1]
  exact g

theorem RC0.fz0 {n : Nat} {r : Nat → Int32} {q : Int64} {i6 i7 i8 : Int32} {i9 i11 : Int64} {i12 i13 i15 i16 i17 i18 i19 : Int32} {kp : Nat} {fs fp ff fd fam : Nat → Int32} {k : Nat} (h : RC0 n r q i6 i7 i8 i9 i11 i12 i13 i15 i16 i17 i18 i19 kp fs fp ff fd fam) (hm : k < n) (g : fs k ≠ 2) : tI r (16 + 7 * k + 3) = 0 := by
  have eM := h.1.2.2.2.2.2.2.2 k hm
  refine eM.2.2.2.2.2.2.2 (fun c => g (i_inj ?_))
  rw [← (h.2.2.2 k hm).2.2.1]
  exact c

theorem RC0.dis {n : Nat} {r : Nat → Int32} {q : Int64} {i6 i7 i8 : Int32} {i9 i11 : Int64} {i12 i13 i15 i16 i17 i18 i19 : Int32} {kp : Nat} {fs fp ff fd fam : Nat → Int32} {k : Nat} {zs zf : Nat → Int32} (h : RC0 n r q i6 i7 i8 i9 i11 i12 i13 i15 i16 i17 i18 i19 kp fs fp ff fd fam) (hm : k < n) (g : fs k = 0 ∨ fs k = 1) (hu : Upp k 2 fs zs) (hf : Upp k (minI (rmC fs fp fam k) (avC i8 ff n)) ff zf) : RC0 n (disR n k r) q i6 i7 i8 i9 i11 i12 i13 i15 i16 i17 i18 i19 kp zs fp zf fd fam := by
  have rm := h.rm hm
  have av := h.av
  have z3 := h.fz0 hm (fun c => by rcases g with g | g <;> (rw [g] at c; exact absurd c (by decide)))
  have hw := h.1
  obtain ⟨⟨hn, hkp⟩, ⟨e4, e5, e6, e7, eq, e10, e0, e1, e3, e12, e15⟩, hq⟩ := h.2
  obtain ⟨a0, a1, a4, a6, a7, aQ, aS, aM⟩ := h.1
  unfold Upp at hu hf
  rw [rm, av] at hf
  have rI := remR_I hw hm
  have aI := avR_I hw (Nat.le_refl n)
  have mI := minI_I (remR r k) (avR r n)
  have f2 : disR n k r (16 + 7 * k + 2) = 2 := pk_us
  have f3 : disR n k r (16 + 7 * k + 3) = minI (remR r k) (avR r n) := (pk_un (by omega)).trans pk_us
  have fo : ∀ j, j ≠ 16 + 7 * k + 3 → j ≠ 16 + 7 * k + 2 → disR n k r j = r j := fun j h3 h2 => (pk_un h2).trans (pk_un h3)
  have w2 : WFa n (disR n k r) q := by
    refine hw.fs hm fo ?_ ?_ ?_ ?_
    · rw [tI_v f3, mI]; omega
    · rw [tI_v f3, mI, z3]; omega
    · rw [tI_v f2, z_2]; omega
    · rw [tI_v f2]; exact fun c => absurd z_2 c
  exact RC0.mk h w2 hkp ((fo 4 (by omega) (by omega)).trans e4) ((fo 5 (by omega) (by omega)).trans e5) ((fo 6 (by omega) (by omega)).trans e6) (by rw [fo 7 (by omega) (by omega)]; exact e7) eq ((fo 10 (by omega) (by omega)).trans e10) ((fo 0 (by omega) (by omega)).trans e0) ((fo 1 (by omega) (by omega)).trans e1) ((fo 3 (by omega) (by omega)).trans e3) ((fo 12 (by omega) (by omega)).trans e12) ((fo 15 (by omega) (by omega)).trans e15) (fun m hm9 => by
    obtain ⟨b0, b1, b2, b3, b4, b5⟩ := hq m hm9
    refine ⟨fo _ (by omega) (by omega), (fo _ (by omega) (by omega)).trans b1, ?_, ?_, (fo _ (by omega) (by omega)).trans b4, fo _ (by omega) (by omega)⟩
    · by_cases d : m = k
      · subst d; rw [f2, hu, pk_us]
      · rw [fo _ (by omega) (by omega), hu, pk_un d]; exact b2
    · by_cases d : m = k
      · subst d; rw [f3, hf, pk_us]
      · rw [fo _ (by omega) (by omega), hf, pk_un d]; exact b3)

theorem RC0.wdr {n : Nat} {r : Nat → Int32} {q : Int64} {i6 i7 i8 : Int32} {i9 i11 : Int64} {i12 i13 i15 i16 i17 i18 i19 : Int32} {kp : Nat} {fs fp ff fd fam : Nat → Int32} {k : Nat} {zs zf : Nat → Int32} (h : RC0 n r q i6 i7 i8 i9 i11 i12 i13 i15 i16 i17 i18 i19 kp fs fp ff fd fam) (hm : k < n) (hu : Upp k 0 fs zs) (hf : Upp k 0 ff zf) : RC0 n (wdrR k r) q i6 i7 i8 i9 i11 i12 i13 i15 i16 i17 i18 i19 kp zs fp zf fd fam := by
  have hw := h.1
  obtain ⟨⟨hn, hkp⟩, ⟨e4, e5, e6, e7, eq, e10, e0, e1, e3, e12, e15⟩, hq⟩ := h.2
  obtain ⟨a0, a1, a4, a6, a7, aQ, aS, aM⟩ := h.1
  unfold Upp at hu hf
  have f2 : wdrR k r (16 + 7 * k + 2) = 0 := pk_us
  have f3 : wdrR k r (16 + 7 * k + 3) = 0 := (pk_un (by omega)).trans pk_us
  have fo : ∀ j, j ≠ 16 + 7 * k + 3 → j ≠ 16 + 7 * k + 2 → wdrR k r j = r j := fun j h3 h2 => (pk_un h2).trans (pk_un h3)
  have p3 := (aM k hm).2.2.2.2.2.2.1
  have w2 : WFa n (wdrR k r) q := by
    refine hw.fs hm fo ?_ ?_ ?_ ?_
    · rw [tI_v f3, z_0]; omega
    · rw [tI_v f3, z_0]; omega
    · rw [tI_v f2, z_0]; omega
    · rw [tI_v f3, z_0]; exact fun _ => rfl
  exact RC0.mk h w2 hkp ((fo 4 (by omega) (by omega)).trans e4) ((fo 5 (by omega) (by omega)).trans e5) ((fo 6 (by omega) (by omega)).trans e6) (by rw [fo 7 (by omega) (by omega)]; exact e7) eq ((fo 10 (by omega) (by omega)).trans e10) ((fo 0 (by omega) (by omega)).trans e0) ((fo 1 (by omega) (by omega)).trans e1) ((fo 3 (by omega) (by omega)).trans e3) ((fo 12 (by omega) (by omega)).trans e12) ((fo 15 (by omega) (by omega)).trans e15) (fun m hm9 => by
    obtain ⟨b0, b1, b2, b3, b4, b5⟩ := hq m hm9
    refine ⟨fo _ (by omega) (by omega), (fo _ (by omega) (by omega)).trans b1, ?_, ?_, (fo _ (by omega) (by omega)).trans b4, fo _ (by omega) (by omega)⟩
    · by_cases d : m = k
      · subst d; rw [f2, hu, pk_us]
      · rw [fo _ (by omega) (by omega), hu, pk_un d]; exact b2
    · by_cases d : m = k
      · subst d; rw [f3, hf, pk_us]
      · rw [fo _ (by omega) (by omega), hf, pk_un d]; exact b3)

theorem RC0.can {n : Nat} {r : Nat → Int32} {q : Int64} {i6 i7 i8 : Int32} {i9 i11 : Int64} {i12 i13 i15 i16 i17 i18 i19 : Int32} {kp : Nat} {fs fp ff fd fam : Nat → Int32} {k : Nat} {zs : Nat → Int32} (h : RC0 n r q i6 i7 i8 i9 i11 i12 i13 i15 i16 i17 i18 i19 kp fs fp ff fd fam) (hm : k < n) (g : fs k = 0 ∨ fs k = 1) (hu : Upp k 5 fs zs) : RC0 n (canR k r) q i6 i7 i8 i9 i11 i12 i13 i15 i16 i17 i18 i19 kp zs fp ff fd fam := by
  have z3 := h.fz0 hm (fun c => by rcases g with g | g <;> (rw [g] at c; exact absurd c (by decide)))
  have hw := h.1
  obtain ⟨⟨hn, hkp⟩, ⟨e4, e5, e6, e7, eq, e10, e0, e1, e3, e12, e15⟩, hq⟩ := h.2
  obtain ⟨a0, a1, a4, a6, a7, aQ, aS, aM⟩ := h.1
  unfold Upp at hu
  have f2 : canR k r (16 + 7 * k + 2) = 5 := pk_us
  have fo : ∀ j, j ≠ 16 + 7 * k + 2 → canR k r j = r j := fun j h2 => pk_un h2
  exact RC0.mk h (hw.st (by decide) (fun _ => z3)) hkp ((fo 4 (by omega)).trans e4) ((fo 5 (by omega)).trans e5) ((fo 6 (by omega)).trans e6) (by rw [fo 7 (by omega)]; exact e7) eq ((fo 10 (by omega)).trans e10) ((fo 0 (by omega)).trans e0) ((fo 1 (by omega)).trans e1) ((fo 3 (by omega)).trans e3) ((fo 12 (by omega)).trans e12) ((fo 15 (by omega)).trans e15) (fun m hm9 => by
    obtain ⟨b0, b1, b2, b3, b4, b5⟩ := hq m hm9
    refine ⟨fo _ (by omega), (fo _ (by omega)).trans b1, ?_, (fo _ (by omega)).trans b3, (fo _ (by omega)).trans b4, fo _ (by omega)⟩
    by_cases d : m = k
    · subst d; rw [f2, hu, pk_us]
    · rw [fo _ (by omega), hu, pk_un d]; exact b2)

theorem RC0.pay_a {n : Nat} {r : Nat → Int32} {q : Int64} {i6 i7 i8 : Int32} {i9 i11 : Int64} {i12 i13 i15 i16 i17 i18 i19 : Int32} {kp : Nat} {fs fp ff fd fam : Nat → Int32} {x : Int32} {k : Nat} (h : RC0 n r q i6 i7 i8 i9 i11 i12 i13 i15 i16 i17 i18 i19 kp fs fp ff fd fam) (hm : k < n) (g : 1 ≤ x ∧ x ≤ rmC fs fp fam k) (g2 : fs k = 0 ∨ fs k = 1) (c : x ≤ avC i8 ff n) : AcPay r n x k := by
  have o := h.opn_a hm g2
  rw [h.rm hm] at g
  rw [h.av] at c
  exact ⟨⟨w1_le.mpr g.1, i_wle.mpr g.2⟩, o, c⟩

theorem RC0.pay_r1 {n : Nat} {r : Nat → Int32} {q : Int64} {i6 i7 i8 : Int32} {i9 i11 : Int64} {i12 i13 i15 i16 i17 i18 i19 : Int32} {kp : Nat} {fs fp ff fd fam : Nat → Int32} {x : Int32} {k : Nat} (h : RC0 n r q i6 i7 i8 i9 i11 i12 i13 i15 i16 i17 i18 i19 kp fs fp ff fd fam) (hm : k < n) (g : ¬ (1 ≤ x ∧ x ≤ rmC fs fp fam k)) : ¬ AcPay r n x k := by
  rw [h.rm hm] at g
  exact fun z => g ⟨w1_le.mp z.1.1, i_wle.mp z.1.2⟩

theorem RC0.pay_r2 {n : Nat} {r : Nat → Int32} {q : Int64} {i6 i7 i8 : Int32} {i9 i11 : Int64} {i12 i13 i15 i16 i17 i18 i19 : Int32} {kp : Nat} {fs fp ff fd fam : Nat → Int32} {x : Int32} {k : Nat} (h : RC0 n r q i6 i7 i8 i9 i11 i12 i13 i15 i16 i17 i18 i19 kp fs fp ff fd fam) (hm : k < n) (g : ¬ (fs k = 0 ∨ fs k = 1)) : ¬ AcPay r n x k := by
  exact fun z => h.opn_r hm g z.2.1

theorem RC0.pay_r3 {n : Nat} {r : Nat → Int32} {q : Int64} {i6 i7 i8 : Int32} {i9 i11 : Int64} {i12 i13 i15 i16 i17 i18 i19 : Int32} {kp : Nat} {fs fp ff fd fam : Nat → Int32} {x : Int32} {k : Nat} (h : RC0 n r q i6 i7 i8 i9 i11 i12 i13 i15 i16 i17 i18 i19 kp fs fp ff fd fam) (c : avC i8 ff n < x) : ¬ AcPay r n x k := by
  rw [h.av] at c
  exact fun z => absurd c (Int32.not_lt.mpr z.2.2)

theorem RC0.pay {n : Nat} {r : Nat → Int32} {q : Int64} {i6 i7 i8 : Int32} {i9 i11 : Int64} {i12 i13 i15 i16 i17 i18 i19 : Int32} {kp : Nat} {fs fp ff fd fam : Nat → Int32} {x z12 z13 : Int32} {k ky : Nat} {zs zp : Nat → Int32} (h : RC0 n r q i6 i7 i8 i9 i11 i12 i13 i15 i16 i17 i18 i19 kp fs fp ff fd fam) (hm : k < n) (g : 1 ≤ x ∧ x ≤ rmC fs fp fam k) (g2 : fs k = 0 ∨ fs k = 1) (c : x ≤ avC i8 ff n) (hk : ky = entC kp x) (hs : z12 + z13 = i12 + i13 + x) (hp : Upp k (fp k + x) fp zp) (hpd : PaidS k fs zp fam zs) : RC0 n (payR x k r) q i6 i7 (i8 - x) i9 i11 z12 z13 i15 i16 i17 i18 i19 ky zs zp ff fd fam := by
  rw [h.rm hm] at g
  rw [h.av] at c
  have n3 : ¬ 3 ≤ fs k := fun z => by rcases g2 with g2 | g2 <;> (rw [g2] at z; exact absurd z (by decide))
  have n2 : fs k ≠ 2 := fun z => by rcases g2 with g2 | g2 <;> (rw [g2] at z; exact absurd z (by decide))
  exact h.payz hm n3 n2 (Int32.le_trans (show (0 : Int32) ≤ 1 by decide) g.1) g.2 c hk hs hp hpd

theorem RC0.res_a {n : Nat} {r : Nat → Int32} {q : Int64} {i6 i7 i8 : Int32} {i9 i11 : Int64} {i12 i13 i15 i16 i17 i18 i19 : Int32} {kp : Nat} {fs fp ff fd fam : Nat → Int32} {j : Int32} {k : Nat} (h : RC0 n r q i6 i7 i8 i9 i11 i12 i13 i15 i16 i17 i18 i19 kp fs fp ff fd fam) (hm : k < n) (g : fs k = 2) (g2 : 0 ≤ j ∧ j ≤ 1000) : AcRes r j k := by
  refine ⟨h.dsp_a hm g, j.toNatClampNeg, ?_, ix_eq (Int32.not_lt.mpr g2.1)⟩
  have e := ix_eq (Int32.not_lt.mpr g2.1)
  obtain ⟨v, hv, ev⟩ := nI_of (Int32.not_lt.mpr g2.1)
  have g3 := i_le.mp g2.2
  rw [z_1000, ev, i_n hv] at g3
  rw [ev, nI_clamp hv]
  omega

theorem RC0.res_r1 {r : Nat → Int32} {j : Int32} {k : Nat} (g : ¬ (0 ≤ j ∧ j ≤ 1000)) : ¬ AcRes r j k := fun ⟨_, v, hv, e⟩ => g (by
  rw [e]
  exact ⟨nI_pos' (by omega), i_le.mpr (by rw [i_n (by omega), z_1000]; omega)⟩)

theorem RC0.res_r2 {n : Nat} {r : Nat → Int32} {q : Int64} {i6 i7 i8 : Int32} {i9 i11 : Int64} {i12 i13 i15 i16 i17 i18 i19 : Int32} {kp : Nat} {fs fp ff fd fam : Nat → Int32} {j : Int32} {k : Nat} (h : RC0 n r q i6 i7 i8 i9 i11 i12 i13 i15 i16 i17 i18 i19 kp fs fp ff fd fam) (hm : k < n) (g : ¬ fs k = 2) : ¬ AcRes r j k := by
  exact fun z => h.dsp_r hm g z.1

theorem i_div {a : Int32} {b : Int} (h0 : 0 ≤ a.toInt) (hb : (1000 : Int32).toInt = b) : (a / 1000).toInt = a.toInt / b := by
  rw [Int32.toInt_div_of_ne_left _ _ (by intro e; rw [e] at h0; exact absurd h0 (by decide)), hb, Int.tdiv_eq_ediv_of_nonneg h0]
theorem spl_eq {M j : Int32} (h0 : 0 ≤ M.toInt) (h1 : M.toInt ≤ 99999) (g0 : 0 ≤ j.toInt) (g1 : j.toInt ≤ 1000) : (M.toInt64 * j.toInt64 / 1000).toInt32 = M * j / 1000 ∧ 0 ≤ (M * j / 1000).toInt ∧ (M * j / 1000).toInt ≤ M.toInt := by
  have b0 : 0 ≤ M.toInt * j.toInt := Int.mul_nonneg h0 g0
  have b1 : M.toInt * j.toInt ≤ 99999 * 1000 := Int.mul_le_mul h1 g1 g0 (by decide)
  have b2 : M.toInt * j.toInt ≤ M.toInt * 1000 := Int.mul_le_mul (Int.le_refl _) g1 g0 h0
  have e1 : (M * j).toInt = M.toInt * j.toInt := i_mul (by omega) (by omega)
  have e2 : (M.toInt64 * j.toInt64).toInt = M.toInt * j.toInt := by rw [l_mul (by rw [i_w, i_w]; omega) (by rw [i_w, i_w]; omega), i_w, i_w]
  have d1 : (M * j / 1000).toInt = M.toInt * j.toInt / 1000 := by rw [i_div (by rw [e1]; exact b0) z_1000, e1]
  have d2 : (M.toInt64 * j.toInt64 / 1000).toInt = M.toInt * j.toInt / 1000 := by
    rw [Int64.toInt_div_of_ne_left _ _ (by intro e; rw [e] at e2; have : (Int64.minValue).toInt = -9223372036854775808 := by decide
                                           omega), e2, zl_1000, Int.tdiv_eq_ediv_of_nonneg b0]
  refine ⟨i_inj ?_, ?_, ?_⟩
  · rw [Int64.toInt_toInt32, d2, d1]
    exact Int.bmod_eq_of_le (by omega) (by omega)
  · rw [d1]; omega
  · rw [d1]; omega

theorem RC0.res {n : Nat} {r : Nat → Int32} {q : Int64} {i6 i7 i8 : Int32} {i9 i11 : Int64} {i12 i13 i15 i16 i17 i18 i19 : Int32} {kp : Nat} {fs fp ff fd fam : Nat → Int32} {j z12 z13 : Int32} {k k1 ky : Nat} {z1 zs zp zf : Nat → Int32} (h : RC0 n r q i6 i7 i8 i9 i11 i12 i13 i15 i16 i17 i18 i19 kp fs fp ff fd fam) (hm : k < n) (hd : fs k = 2) (g : 0 ≤ j ∧ j ≤ 1000) (h1 : Upp k 4 fs z1) (hf : Upp k 0 ff zf) (hk1 : k1 = entC kp ((minI (rmC fs fp fam k) (avC i8 ff n + ff k)) * j / 1000)) (hs : z12 + z13 = i12 + i13 + (minI (rmC fs fp fam k) (avC i8 ff n + ff k)) * j / 1000) (hp : Upp k (fp k + (minI (rmC fs fp fam k) (avC i8 ff n + ff k)) * j / 1000) fp zp) (hpd : PaidS k z1 zp fam zs) (hk2 : ky = entC k1 ((minI (rmC fs fp fam k) (avC i8 ff n + ff k)) - (minI (rmC fs fp fam k) (avC i8 ff n + ff k)) * j / 1000)) : RC0 n (resR n j k r) q i6 i7 (i8 - (minI (rmC fs fp fam k) (avC i8 ff n + ff k)) * j / 1000 - ((minI (rmC fs fp fam k) (avC i8 ff n + ff k)) - (minI (rmC fs fp fam k) (avC i8 ff n + ff k)) * j / 1000)) i9 i11 z12 z13 i15 i16 i17 i18 i19 ky zs zp zf fd fam := by
  have rm := h.rm hm
  have av := h.av
  have hw := h.1
  obtain ⟨⟨hn, hkp⟩, ⟨e4, e5, e6, e7, eq, e10, e0, e1, e3, e12, e15⟩, hq⟩ := h.2
  obtain ⟨a0, a1, a4, a6, a7, aQ, aS, aM⟩ := h.1
  have hM := hq k hm
  rw [rm, av, ← hM.2.2.2.1] at hk1 hs hp hk2 ⊢
  have rI := remR_I hw hm
  have aI := avR_I hw (Nat.le_refl n)
  have g1 := i_le.mp g.1
  have g2 := i_le.mp g.2
  rw [z_0] at g1
  rw [z_1000] at g2
  have pz := (aM k hm).2.2.2.2.2.2.1
  have lz := fsI_le hm aM
  have ez3 : (r (16 + 7 * k + 3)).toInt = tI r (16 + 7 * k + 3) := rfl
  have sA : (avR r n + r (16 + 7 * k + 3)).toInt = (avR r n).toInt + tI r (16 + 7 * k + 3) := i_add (by rw [ez3]; omega) (by rw [ez3]; omega)
  have hS : splS n k r = minI (remR r k) (avR r n + r (16 + 7 * k + 3)) := rfl
  rw [← hS] at hk1 hs hp hk2 ⊢
  have mI : (splS n k r).toInt = min (remR r k).toInt ((avR r n).toInt + tI r (16 + 7 * k + 3)) := by rw [hS, minI_I, sA]
  have sp := spl_eq (M := splS n k r) (j := j) (by rw [mI]; omega) (by rw [mI]; omega) g1 g2
  have hB : splB n k j r = splS n k r * j / 1000 := sp.1
  rw [← hB] at hk1 hs hp hk2 sp ⊢
  generalize hSe : splS n k r = S at *
  generalize hBe : splB n k j r = P at *
  have sP : (S - P).toInt = S.toInt - P.toInt := i_sub (by omega) (by omega)
  -- the row, step by step
  have w1 : WFa n (upd r (16 + 7 * k + 3) 0) q := by
    refine hw.fs hm (fun j h3 _ => pk_un h3) ?_ ?_ ?_ ?_
    · rw [tI_v pk_us, z_0]; omega
    · rw [tI_v pk_us, z_0]; omega
    · rw [tI_c (pk_un (by omega))]; exact ⟨(aM k hm).2.2.2.2.1, (aM k hm).2.2.2.2.2.1⟩
    · rw [tI_v pk_us, z_0]; exact fun _ => rfl
  have s1 : fsI (tI (upd r (16 + 7 * k + 3) 0)) n = fsI (tI r) n - tI r (16 + 7 * k + 3) := by
    rw [fsI_upd (f := tI r) hm (fun m hm9 => tI_c (pk_un (by omega))), tI_v pk_us, z_0]
    omega
  have q6 : tI (upd r (16 + 7 * k + 3) 0) 6 = tI r 6 := tI_c (pk_un (by omega))
  have rm1 : remR (upd r (16 + 7 * k + 3) 0) k = remR r k := by
    unfold remR
    rw [pk_un (by omega), pk_un (by omega), pk_un (by omega)]
  have w3 : WFa n (mkP k P (upd r (16 + 7 * k + 3) 0)) q := w1.pay hm (by omega) (by rw [rm1]; omega) (by rw [q6, s1]; omega)
  have m6 : tI (mkP k P (upd r (16 + 7 * k + 3) 0)) 6 = tI r 6 - P.toInt := by
    rw [tI_v mkP_6, pk_un (by omega)]
    exact i_sub (by show _ ≤ tI r 6 - _; omega) (by show tI r 6 - _ ≤ _; omega)
  have m3 : fsI (tI (mkP k P (upd r (16 + 7 * k + 3) 0))) n = fsI (tI r) n - tI r (16 + 7 * k + 3) := by
    rw [fsI_cong (f := tI (upd r (16 + 7 * k + 3) 0)) (fun m hm9 => tI_c (mkP_o (by omega) (by omega) (by omega) (by omega))), s1]
  have w4 : WFa n (refR (S - P) (mkP k P (upd r (16 + 7 * k + 3) 0))) q := w3.ref (by rw [sP]; omega) (by rw [sP, m6, m3]; omega)
  have ro : ∀ (x : Int32) (t : Nat → Int32) (j : Nat), j ≠ 6 → j ≠ 11 → j ≠ 15 → refR x t j = t j := fun x t j h6 h11 h15 => (entR_n h15).trans ((pk_un h11).trans (pk_un h6))
  have r6 : ∀ (x : Int32) (t : Nat → Int32), refR x t 6 = t 6 - x := fun x t => (entR_n (by omega)).trans ((pk_un (by omega)).trans pk_us)
  have eR : resR n j k r = upd (refR (S - P) (mkP k P (upd r (16 + 7 * k + 3) 0))) (16 + 7 * k + 2) 4 := by
    unfold resR
    rw [hSe, hBe]
  rw [eR]
  have w5 : WFa n (upd (refR (S - P) (mkP k P (upd r (16 + 7 * k + 3) 0))) (16 + 7 * k + 2) 4) q := by
    refine w4.st (by decide) (fun _ => ?_)
    rw [tI_v ((ro _ _ _ (by omega) (by omega) (by omega)).trans ((mkP_o (by omega) (by omega) (by omega) (by omega)).trans pk_us))]
    exact z_0
  have fo : ∀ j, j ≠ 6 → j ≠ 10 → j ≠ 11 → j ≠ 15 → j ≠ 16 + 7 * k + 1 → j ≠ 16 + 7 * k + 2 → j ≠ 16 + 7 * k + 3 → upd (refR (S - P) (mkP k P (upd r (16 + 7 * k + 3) 0))) (16 + 7 * k + 2) 4 j = r j := fun j h6 h10 h11 h15 h1 h2 h3 => (pk_un h2).trans ((ro _ _ _ h6 h11 h15).trans ((mkP_o h6 h10 h15 h1).trans (pk_un h3)))
  have P0 : 0 ≤ P := i_le.mpr (by rw [z_0]; omega)
  have S0 : 0 ≤ S - P := i_le.mpr (by rw [z_0, sP]; omega)
  have k60 : k1 ≤ 60 := by rw [hk1]; exact entC_60 hkp
  unfold Upp at h1 hp hf
  have zse : zs = z1 := by
    unfold PaidS at hpd
    rw [hpd, if_neg (fun z => z.1 (by rw [h1, pk_us]; decide))]
  exact RC0.mk h w5 (by rw [hk2]; exact entC_60 k60) ((fo 4 (by omega) (by omega) (by omega) (by omega) (by omega) (by omega) (by omega)).trans e4) ((fo 5 (by omega) (by omega) (by omega) (by omega) (by omega) (by omega) (by omega)).trans e5) ((pk_un (by omega)).trans ((r6 _ _).trans (by rw [mkP_6, pk_un (by omega), e6]))) (by rw [fo 7 (by omega) (by omega) (by omega) (by omega) (by omega) (by omega) (by omega)]; exact e7) eq ((pk_un (by omega)).trans ((ro _ _ _ (by omega) (by omega) (by omega)).trans (by rw [mkP_10, pk_un (by omega), e10, hs]))) ((fo 0 (by omega) (by omega) (by omega) (by omega) (by omega) (by omega) (by omega)).trans e0) ((fo 1 (by omega) (by omega) (by omega) (by omega) (by omega) (by omega) (by omega)).trans e1) ((fo 3 (by omega) (by omega) (by omega) (by omega) (by omega) (by omega) (by omega)).trans e3) ((fo 12 (by omega) (by omega) (by omega) (by omega) (by omega) (by omega) (by omega)).trans e12) (by rw [pk_un (by omega), hk2]; unfold refR; exact ent15 (by rw [pk_un (by omega), pk_un (by omega), mkP_15 (k := kp) (by rw [pk_un (by omega)]; exact e15) hkp P0, hk1]) k60 S0) (fun m hm9 => by
    obtain ⟨b0, b1, b2, b3, b4, b5⟩ := hq m hm9
    refine ⟨fo _ (by omega) (by omega) (by omega) (by omega) (by omega) (by omega) (by omega), ?_, ?_, ?_, (fo _ (by omega) (by omega) (by omega) (by omega) (by omega) (by omega) (by omega)).trans b4, fo _ (by omega) (by omega) (by omega) (by omega) (by omega) (by omega) (by omega)⟩
    · by_cases d : m = k
      · subst d
        rw [pk_un (by omega), ro _ _ _ (by omega) (by omega) (by omega), mkP_1, pk_un (by omega), hp, pk_us, b1]
      · rw [fo _ (by omega) (by omega) (by omega) (by omega) (by omega) (by omega) (by omega), hp, pk_un d]; exact b1
    · rw [zse]
      by_cases d : m = k
      · subst d; rw [pk_us, h1, pk_us]
      · rw [fo _ (by omega) (by omega) (by omega) (by omega) (by omega) (by omega) (by omega), h1, pk_un d]; exact b2
    · by_cases d : m = k
      · subst d
        rw [pk_un (by omega), ro _ _ _ (by omega) (by omega) (by omega), mkP_o (by omega) (by omega) (by omega) (by omega), pk_us, hf, pk_us]
      · rw [fo _ (by omega) (by omega) (by omega) (by omega) (by omega) (by omega) (by omega), hf, pk_un d]; exact b3)

theorem RC0.clo_a {n : Nat} {r : Nat → Int32} {q : Int64} {i6 i7 i8 : Int32} {i9 i11 : Int64} {i12 i13 i15 i16 i17 i18 i19 : Int32} {kp : Nat} {fs fp ff fd fam : Nat → Int32} (h : RC0 n r q i6 i7 i8 i9 i11 i12 i13 i15 i16 i17 i18 i19 kp fs fp ff fd fam) (B : ccC fs n = n) : AcClo r n := by
  intro m hm
  rw [(h.2.2.2 m hm).2.2.1]
  exact ccC_all.mp B m hm

theorem RC0.clo_r {n : Nat} {r : Nat → Int32} {q : Int64} {i6 i7 i8 : Int32} {i9 i11 : Int64} {i12 i13 i15 i16 i17 i18 i19 : Int32} {kp : Nat} {fs fp ff fd fam : Nat → Int32} (h : RC0 n r q i6 i7 i8 i9 i11 i12 i13 i15 i16 i17 i18 i19 kp fs fp ff fd fam) (B : ¬ ccC fs n = n) : ¬ AcClo r n := by
  exact fun z => B (ccC_all.mpr (fun m hm => by rw [← (h.2.2.2 m hm).2.2.1]; exact z m hm))

theorem RC0.clo {n : Nat} {r : Nat → Int32} {q : Int64} {i6 i7 i8 : Int32} {i9 i11 : Int64} {i12 i13 i15 i16 i17 i18 i19 : Int32} {kp : Nat} {fs fp ff fd fam : Nat → Int32} {ky : Nat} (h : RC0 n r q i6 i7 i8 i9 i11 i12 i13 i15 i16 i17 i18 i19 kp fs fp ff fd fam) (B : ccC fs n = n) (hk : ky = entC kp i8) : RC0 n (cloR r) q i6 i7 (i8 - i8) i9 i11 i12 i13 i15 i16 i17 i18 i19 ky fs fp ff fd fam := by
  have z3 : fsI (tI r) n = 0 := fsI_z (fun m hm => h.fz0 hm (fun c => by
    have := ccC_all.mp B m hm
    rw [c] at this
    exact absurd this (by decide)))
  have hw := h.1
  obtain ⟨⟨hn, hkp⟩, ⟨e4, e5, e6, e7, eq, e10, e0, e1, e3, e12, e15⟩, hq⟩ := h.2
  obtain ⟨a0, a1, a4, a6, a7, aQ, aS, aM⟩ := h.1
  have x6 : (r 6).toInt = tI r 6 := rfl
  have w2 : WFa n (cloR r) q := hw.ref (by rw [x6]; omega) (by rw [x6]; omega)
  have x0 : 0 ≤ r 6 := i_le.mpr (by rw [z_0, x6]; omega)
  have f6 : cloR r 6 = r 6 - r 6 := (entR_n (by omega)).trans ((pk_un (by omega)).trans pk_us)
  have fo : ∀ j, j ≠ 6 → j ≠ 11 → j ≠ 15 → cloR r j = r j := fun j h6 h11 h15 => (entR_n h15).trans ((pk_un h11).trans (pk_un h6))
  exact RC0.mk h w2 (by rw [hk]; exact entC_60 hkp) ((fo 4 (by omega) (by omega) (by omega)).trans e4) ((fo 5 (by omega) (by omega) (by omega)).trans e5) (f6.trans (by rw [e6])) (by rw [fo 7 (by omega) (by omega) (by omega)]; exact e7) eq ((fo 10 (by omega) (by omega) (by omega)).trans e10) ((fo 0 (by omega) (by omega) (by omega)).trans e0) ((fo 1 (by omega) (by omega) (by omega)).trans e1) ((fo 3 (by omega) (by omega) (by omega)).trans e3) ((fo 12 (by omega) (by omega) (by omega)).trans e12) (by rw [hk, ← e6]; exact ent15 (((pk_un (by omega)).trans (pk_un (by omega))).trans e15) hkp x0) (fun m hm => by
    obtain ⟨b0, b1, b2, b3, b4, b5⟩ := hq m hm
    exact ⟨fo _ (by omega) (by omega) (by omega), (fo _ (by omega) (by omega) (by omega)).trans b1, (fo _ (by omega) (by omega) (by omega)).trans b2, (fo _ (by omega) (by omega) (by omega)).trans b3, (fo _ (by omega) (by omega) (by omega)).trans b4, fo _ (by omega) (by omega) (by omega)⟩)

theorem RC0.day {n : Nat} {r : Nat → Int32} {q : Int64} {i6 i7 i8 : Int32} {i9 i11 : Int64} {i12 i13 i15 i16 i17 i18 i19 : Int32} {kp : Nat} {fs fp ff fd fam : Nat → Int32} {dy : Nat} (h : RC0 n r q i6 i7 i8 i9 i11 i12 i13 i15 i16 i17 i18 i19 kp fs fp ff fd fam) (hd : r 4 = nI dy) (hd1 : dy < 20000) (hc : Cpd r q) : RC0 n (upd r 4 (nI (dy + 1))) (pqQ q r) (nI (dy + 1)) i7 i8 i9 (i11 + (i8.toInt64 + i9) * i15.toInt64) i12 i13 i15 i16 i17 i18 i19 kp fs fp ff fd fam := by
  have pt := pqQ_toInt h.1 hc.1
  have hc2 := hc.2
  have hc1 : tI r 8 ≤ 1000000000 := hc.1
  have hw := h.1
  obtain ⟨⟨hn, hkp⟩, ⟨e4, e5, e6, e7, eq, e10, e0, e1, e3, e12, e15⟩, hq⟩ := h.2
  obtain ⟨a0, a1, a4, a6, a7, aQ, aS, aM⟩ := h.1
  have d4 : tI r 4 = (dy : Int) := by rw [tI_v hd]; exact i_n (by omega)
  rw [d4] at hc2
  have hX : 0 ≤ 3000 * (9999999 + tI r 8) := by omega
  have p0 : 0 ≤ (tI r 6 + tI r 7) * tI r 0 := Int.mul_nonneg (by omega) (by omega)
  have p1 : (tI r 6 + tI r 7) * tI r 0 ≤ 3000 * (9999999 + tI r 8) := by
    rw [Int.mul_comm 3000]
    exact Int.mul_le_mul (by omega) (by omega) (by omega) (by omega)
  have p2 : ((dy : Int) % 30) * (3000 * (9999999 + tI r 8)) + 3000 * (9999999 + tI r 8) ≤ 30 * (3000 * (9999999 + tI r 8)) := by
    have z : ((dy : Int) % 30 + 1) * (3000 * (9999999 + tI r 8)) ≤ 30 * (3000 * (9999999 + tI r 8)) := Int.mul_le_mul_of_nonneg_right (by omega) hX
    rw [Int.add_mul, Int.one_mul] at z
    exact z
  have fo : ∀ j, j ≠ 4 → upd r 4 (nI (dy + 1)) j = r j := fun j hj => pk_un hj
  have w2 : WFa n (upd r 4 (nI (dy + 1))) (pqQ q r) := by
    refine hw.sc (fun m i _ _ => fo _ (by omega)) ?_ ?_ ?_ ?_ ?_ ?_ ?_
    · rw [tI_c (fo 0 (by omega))]; exact a0
    · rw [tI_c (fo 1 (by omega))]; exact a1
    · rw [tI_v pk_us, i_n (by omega)]; omega
    · rw [tI_c (fo 6 (by omega)), tI_c (fo 5 (by omega))]; exact a6
    · rw [tI_c (fo 7 (by omega)), tI_c (fo 8 (by omega))]; exact a7
    · rw [tI_c (fo 8 (by omega)), pt.1]
      generalize (tI r 6 + tI r 7) * tI r 0 = Y at *
      generalize ((dy : Int) % 30) * (3000 * (9999999 + tI r 8)) = Z at *
      omega
    · rw [tI_c (fo 6 (by omega))]; exact aS
  have eQ : pqQ q r = i11 + (i8.toInt64 + i9) * i15.toInt64 := by
    unfold pqQ
    have z : (r 6 + r 7).toInt64 = i8.toInt64 + i9 := by
      rw [← e6, ← e7]
      refine l_inj ?_
      rw [pt.2, l_add (by rw [i_w, i_w]; show _ ≤ tI r 6 + tI r 7; omega) (by rw [i_w, i_w]; show tI r 6 + tI r 7 ≤ _; omega), i_w, i_w]
      rfl
    rw [z, e0, eq]
  exact RC0.mk h w2 hkp pk_us ((fo 5 (by omega)).trans e5) ((fo 6 (by omega)).trans e6) (by rw [fo 7 (by omega)]; exact e7) eQ ((fo 10 (by omega)).trans e10) ((fo 0 (by omega)).trans e0) ((fo 1 (by omega)).trans e1) ((fo 3 (by omega)).trans e3) ((fo 12 (by omega)).trans e12) ((fo 15 (by omega)).trans e15) (fun m hm => by
    obtain ⟨b0, b1, b2, b3, b4, b5⟩ := hq m hm
    exact ⟨fo _ (by omega), (fo _ (by omega)).trans b1, (fo _ (by omega)).trans b2, (fo _ (by omega)).trans b3, (fo _ (by omega)).trans b4, fo _ (by omega)⟩)

theorem l_div {a b : Int64} (h0 : 0 ≤ a.toInt) : (a / b).toInt = a.toInt / b.toInt := by
  rw [Int64.toInt_div_of_ne_left _ _ (by intro e; rw [e] at h0; exact absurd h0 (by decide)), Int.tdiv_eq_ediv_of_nonneg h0]

theorem RC0.cr_0 {n : Nat} {r : Nat → Int32} {q : Int64} {i6 i7 i8 : Int32} {i9 i11 : Int64} {i12 i13 i15 i16 i17 i18 i19 : Int32} {kp : Nat} {fs fp ff fd fam : Nat → Int32} (h : RC0 n r q i6 i7 i8 i9 i11 i12 i13 i15 i16 i17 i18 i19 kp fs fp ff fd fam) (c : ¬ 0 < lg_cmp ((10000 : Int64) * i16.toInt64) 0) : False := by
  have hw := h.1
  obtain ⟨⟨hn, hkp⟩, ⟨e4, e5, e6, e7, eq, e10, e0, e1, e3, e12, e15⟩, hq⟩ := h.2
  obtain ⟨a0, a1, a4, a6, a7, aQ, aS, aM⟩ := h.1
  have e : (i16.toInt64).toInt = tI r 1 := by rw [i_w, ← e1]; rfl
  refine c ((lg_cmp_gt _ _).mpr (l_lt.mpr ?_))
  rw [l_mul (by rw [zl_10000, e]; omega) (by rw [zl_10000, e]; omega), zl_0, zl_10000, e]
  omega

theorem RC0.cr {n : Nat} {r : Nat → Int32} {q : Int64} {i6 i7 i8 : Int32} {i9 i11 : Int64} {i12 i13 i15 i16 i17 i18 i19 : Int32} {kp : Nat} {fs fp ff fd fam : Nat → Int32} {ky : Nat} (h : RC0 n r q i6 i7 i8 i9 i11 i12 i13 i15 i16 i17 i18 i19 kp fs fp ff fd fam) (hc : Cap0 r) (hk : ky = entC kp (i11 / ((10000 : Int64) * i16.toInt64)).toInt32) : RC0 n (crR q r) (crQ q r) i6 i7 i8 (i9 + (i11 / ((10000 : Int64) * i16.toInt64))) (i11 - (i11 / ((10000 : Int64) * i16.toInt64)) * ((10000 : Int64) * i16.toInt64)) i12 i13 i15 i16 i17 i18 i19 ky fs fp ff fd fam := by
  have hc1 : tI r 8 ≤ 1000000000 := hc
  have hw := h.1
  obtain ⟨⟨hn, hkp⟩, ⟨e4, e5, e6, e7, eq, e10, e0, e1, e3, e12, e15⟩, hq⟩ := h.2
  obtain ⟨a0, a1, a4, a6, a7, aQ, aS, aM⟩ := h.1
  subst eq
  have e : (i16.toInt64).toInt = tI r 1 := by rw [i_w, ← e1]; rfl
  have eB : ((10000 : Int64) * i16.toInt64).toInt = 10000 * tI r 1 := by rw [l_mul (by rw [zl_10000, e]; omega) (by rw [zl_10000, e]; omega), zl_10000, e]
  have eK : (q / ((10000 : Int64) * i16.toInt64)).toInt = q.toInt / (10000 * tI r 1) := by rw [l_div aQ.1, eB]
  have k0 : 0 ≤ q.toInt / (10000 * tI r 1) := Int.ediv_nonneg aQ.1 (by omega)
  have k1 : (q.toInt / (10000 * tI r 1)) * (10000 * tI r 1) ≤ q.toInt := Int.ediv_mul_le _ (by omega)
  have k2 : (q.toInt / (10000 * tI r 1)) * 3600000 ≤ (q.toInt / (10000 * tI r 1)) * (10000 * tI r 1) := Int.mul_le_mul_of_nonneg_left (by omega) k0
  have k3 : q.toInt < (q.toInt / (10000 * tI r 1)) * (10000 * tI r 1) + 10000 * tI r 1 := by
    have := Int.lt_ediv_add_one_mul_self q.toInt (show 0 < 10000 * tI r 1 by omega)
    rw [Int.add_mul, Int.one_mul] at this
    exact this
  have eM2 : (q / ((10000 : Int64) * i16.toInt64) * ((10000 : Int64) * i16.toInt64)).toInt = (q.toInt / (10000 * tI r 1)) * (10000 * tI r 1) := by rw [l_mul (by rw [eK, eB]; omega) (by rw [eK, eB]; omega), eK, eB]
  have eC : crC q r = (q / ((10000 : Int64) * i16.toInt64)).toInt32 := by unfold crC; rw [e1]
  have eQ : crQ q r = q - q / ((10000 : Int64) * i16.toInt64) * ((10000 : Int64) * i16.toInt64) := by unfold crQ; rw [e1]
  generalize hKe : q.toInt / (10000 * tI r 1) = K at *
  generalize hKB : K * (10000 * tI r 1) = KB at *
  generalize hke : q / ((10000 : Int64) * i16.toInt64) = k at *
  generalize hkb : k * ((10000 : Int64) * i16.toInt64) = kb at *
  have b2 : K ≤ 30000000 := by omega
  have e32 : (k.toInt32).toInt = K := by
    rw [Int64.toInt_toInt32, eK]
    exact Int.bmod_eq_of_le (by omega) (by omega)
  have c0 : 0 ≤ k.toInt32 := i_le.mpr (by rw [z_0, e32]; exact k0)
  have eQ2 : (crQ q r).toInt = q.toInt - KB := by rw [eQ, l_sub (by rw [eM2]; omega) (by rw [eM2]; omega), eM2]
  have s7 : (r 7 + k.toInt32).toInt = tI r 7 + K := by rw [← e32]; exact i_add (by rw [e32]; show _ ≤ tI r 7 + _; omega) (by rw [e32]; show tI r 7 + _ ≤ _; omega)
  have s8 : (r 8 + k.toInt32).toInt = tI r 8 + K := by rw [← e32]; exact i_add (by rw [e32]; show _ ≤ tI r 8 + _; omega) (by rw [e32]; show tI r 8 + _ ≤ _; omega)
  have f7 : crR q r 7 = r 7 + k.toInt32 := by unfold crR; rw [eC]; exact (entR_n (by omega)).trans ((pk_un (by omega)).trans pk_us)
  have f8 : crR q r 8 = r 8 + k.toInt32 := by unfold crR; rw [eC]; exact (entR_n (by omega)).trans pk_us
  have fo : ∀ j, j ≠ 7 → j ≠ 8 → j ≠ 15 → crR q r j = r j := fun j h7 h8 h15 => (entR_n h15).trans ((pk_un h8).trans (pk_un h7))
  have w2 : WFa n (crR q r) (crQ q r) := by
    refine hw.sc (fun m i _ _ => fo _ (by omega) (by omega) (by omega)) ?_ ?_ ?_ ?_ ?_ ?_ ?_
    · rw [tI_c (fo 0 (by omega) (by omega) (by omega))]; exact a0
    · rw [tI_c (fo 1 (by omega) (by omega) (by omega))]; exact a1
    · rw [tI_c (fo 4 (by omega) (by omega) (by omega))]; exact a4
    · rw [tI_c (fo 6 (by omega) (by omega) (by omega)), tI_c (fo 5 (by omega) (by omega) (by omega))]; exact a6
    · rw [tI_v f7, tI_v f8, s7, s8]; omega
    · rw [tI_v f8, s8, eQ2]; omega
    · rw [tI_c (fo 6 (by omega) (by omega) (by omega))]; exact aS
  have n7 : (crR q r 7).toInt64 = i9 + k := by
    rw [f7, ← e7]
    refine l_inj ?_
    rw [i_w, s7, l_add (by rw [i_w, eK]; show _ ≤ tI r 7 + _; omega) (by rw [i_w, eK]; show tI r 7 + _ ≤ _; omega), i_w, eK]
    rfl
  exact RC0.mk h w2 (by rw [hk]; exact entC_60 hkp) ((fo 4 (by omega) (by omega) (by omega)).trans e4) ((fo 5 (by omega) (by omega) (by omega)).trans e5) ((fo 6 (by omega) (by omega) (by omega)).trans e6) n7 eQ ((fo 10 (by omega) (by omega) (by omega)).trans e10) ((fo 0 (by omega) (by omega) (by omega)).trans e0) ((fo 1 (by omega) (by omega) (by omega)).trans e1) ((fo 3 (by omega) (by omega) (by omega)).trans e3) ((fo 12 (by omega) (by omega) (by omega)).trans e12) (by rw [hk]; unfold crR; rw [eC]; exact ent15 (((pk_un (by omega)).trans (pk_un (by omega))).trans e15) hkp c0) (fun m hm => by
    obtain ⟨b0, b1, b2, b3, b4, b5⟩ := hq m hm
    exact ⟨fo _ (by omega) (by omega) (by omega), (fo _ (by omega) (by omega) (by omega)).trans b1, (fo _ (by omega) (by omega) (by omega)).trans b2, (fo _ (by omega) (by omega) (by omega)).trans b3, (fo _ (by omega) (by omega) (by omega)).trans b4, fo _ (by omega) (by omega) (by omega)⟩)


/-- held against the row, or saturated: then 60 entries are kept, for good -/
def RC (sm : Prop) (n : Nat) (r : Nat → Int32) (q : Int64) (i6 i7 i8 : Int32) (i9 i11 : Int64) (i12 i13 i15 i16 i17 i18 i19 : Int32) (kp : Nat) (fs fp ff fd fam : Nat → Int32) : Prop := (¬ sm ∧ RC0 n r q i6 i7 i8 i9 i11 i12 i13 i15 i16 i17 i18 i19 kp fs fp ff fd fam) ∨ (sm ∧ n ≤ 10 ∧ kp = 60)
theorem RC.pst_y {n i : Nat} {b : Nat → Nat} {ra : Nat → Int32} {q : Int64} {i6 i7 i8 : Int32} {i9 i11 : Int64} {i12 i13 i15 i16 i17 i18 i19 : Int32} {kp ky : Nat} {fs fp ff fd fam zs zp : Nat → Int32} {z12 z13 : Int32} {sm : Prop} (h : RC sm n (pays n b ra i) q i6 i7 i8 i9 i11 i12 i13 i15 i16 i17 i18 i19 kp fs fp ff fd fam) (hm : b i < n) (hr : fs (b i) = 1 ∧ fd (b i) + i17 ≤ i6) (hp0 : 0 < minI (rmC fs fp fam (b i)) (avC i8 ff n)) (hk : ky = entC kp (minI (rmC fs fp fam (b i)) (avC i8 ff n))) (hs : z12 + z13 = i12 + i13 + minI (rmC fs fp fam (b i)) (avC i8 ff n)) (hp : Upp (b i) (fp (b i) + minI (rmC fs fp fam (b i)) (avC i8 ff n)) fp zp) (hpd : PaidS (b i) fs zp fam zs) : RC sm n (pays n b ra (i + 1)) q i6 i7 (i8 - minI (rmC fs fp fam (b i)) (avC i8 ff n)) i9 i11 z12 z13 i15 i16 i17 i18 i19 ky zs zp ff fd fam := h.elim (fun z => Or.inl ⟨z.1, RC0.pst_y z.2 hm hr hp0 hk hs hp hpd⟩) (fun z => Or.inr ⟨z.1, z.2.1, (ky60 hk z.2.2)⟩)
theorem RC.pst_n {n i : Nat} {b : Nat → Nat} {ra : Nat → Int32} {q : Int64} {i6 i7 i8 : Int32} {i9 i11 : Int64} {i12 i13 i15 i16 i17 i18 i19 : Int32} {kp : Nat} {fs fp ff fd fam : Nat → Int32} {sm : Prop} (h : RC sm n (pays n b ra i) q i6 i7 i8 i9 i11 i12 i13 i15 i16 i17 i18 i19 kp fs fp ff fd fam) (hm : b i < n) (hn : ¬ ((fs (b i) = 1 ∧ fd (b i) + i17 ≤ i6) ∧ 0 < minI (rmC fs fp fam (b i)) (avC i8 ff n))) : RC sm n (pays n b ra (i + 1)) q i6 i7 i8 i9 i11 i12 i13 i15 i16 i17 i18 i19 kp fs fp ff fd fam := h.elim (fun z => Or.inl ⟨z.1, RC0.pst_n z.2 hm hn⟩) (fun z => Or.inr ⟨z.1, z.2.1, z.2.2⟩)
theorem RC.due_n {n i : Nat} {f : Nat → Int32} {cq : Nat → Nat} {dn : Int32} {ra : Nat → Int32} {q : Int64} {i6 i7 i8 : Int32} {i9 i11 : Int64} {i12 i13 i15 i16 i17 i18 i19 : Int32} {kp : Nat} {fs fp ff fd fam : Nat → Int32} {sm : Prop} (h : RC sm n (dues f cq dn ra i) q i6 i7 i8 i9 i11 i12 i13 i15 i16 i17 i18 i19 kp fs fp ff fd fam) (hi : i < n) (hn : ¬ (fs i = 0 ∧ hdV (hdG (i12 + i13) (bI (decide (btC i19 (nI i)))) i6 i18 dn) f cq i = true)) : RC sm n (dues f cq dn ra (i + 1)) q i6 i7 i8 i9 i11 i12 i13 i15 i16 i17 i18 i19 kp fs fp ff fd fam := h.elim (fun z => Or.inl ⟨z.1, RC0.due_n z.2 hi hn⟩) (fun z => Or.inr ⟨z.1, z.2.1, z.2.2⟩)
theorem RC.due_y {n i : Nat} {f : Nat → Int32} {cq : Nat → Nat} {dn : Int32} {ra : Nat → Int32} {q : Int64} {i6 i7 i8 : Int32} {i9 i11 : Int64} {i12 i13 i15 i16 i17 i18 i19 : Int32} {kp : Nat} {fs fp ff fd fam zs zd : Nat → Int32} {sm : Prop} (h : RC sm n (dues f cq dn ra i) q i6 i7 i8 i9 i11 i12 i13 i15 i16 i17 i18 i19 kp fs fp ff fd fam) (hi : i < n) (c : fs i = 0) (h1 : hdV (hdG (i12 + i13) (bI (decide (btC i19 (nI i)))) i6 i18 dn) f cq i = true) (hu : Upp i 1 fs zs) (hd : Upp i i6 fd zd) : RC sm n (dues f cq dn ra (i + 1)) q i6 i7 i8 i9 i11 i12 i13 i15 i16 i17 i18 i19 kp zs fp ff zd fam := h.elim (fun z => Or.inl ⟨z.1, RC0.due_y z.2 hi c h1 hu hd⟩) (fun z => Or.inr ⟨z.1, z.2.1, z.2.2⟩)
theorem RC.dep_a {n : Nat} {r : Nat → Int32} {q : Int64} {i6 i7 i8 : Int32} {i9 i11 : Int64} {i12 i13 i15 i16 i17 i18 i19 : Int32} {kp : Nat} {fs fp ff fd fam : Nat → Int32} {x : Int32} {sm : Prop} (h : RC sm n r q i6 i7 i8 i9 i11 i12 i13 i15 i16 i17 i18 i19 kp fs fp ff fd fam) (g : 1 ≤ x ∧ x ≤ 99999) (hc : i7 + x ≤ 9999999) : sm ∨ (AcDep r x) := h.elim (fun z => Or.inr (RC0.dep_a z.2 g hc)) (fun z => Or.inl z.1)
theorem RC.dep_r1 {r : Nat → Int32} {x : Int32} {sm : Prop} (g : ¬ (1 ≤ x ∧ x ≤ 99999)) : sm ∨ (¬ AcDep r x) := Or.inr (RC0.dep_r1 g)
theorem RC.dep_r2 {n : Nat} {r : Nat → Int32} {q : Int64} {i6 i7 i8 : Int32} {i9 i11 : Int64} {i12 i13 i15 i16 i17 i18 i19 : Int32} {kp : Nat} {fs fp ff fd fam : Nat → Int32} {x : Int32} {sm : Prop} (h : RC sm n r q i6 i7 i8 i9 i11 i12 i13 i15 i16 i17 i18 i19 kp fs fp ff fd fam) (g : 1 ≤ x ∧ x ≤ 99999) (hc : 9999999 < i7 + x) : sm ∨ (¬ AcDep r x) := h.elim (fun z => Or.inr (RC0.dep_r2 z.2 g hc)) (fun z => Or.inl z.1)
theorem RC.dep {n : Nat} {r : Nat → Int32} {q : Int64} {i6 i7 i8 : Int32} {i9 i11 : Int64} {i12 i13 i15 i16 i17 i18 i19 : Int32} {kp : Nat} {fs fp ff fd fam : Nat → Int32} {x : Int32} {ky : Nat} {sm : Prop} (h : RC sm n r q i6 i7 i8 i9 i11 i12 i13 i15 i16 i17 i18 i19 kp fs fp ff fd fam) (g : 1 ≤ x ∧ x ≤ 99999) (hc : i7 + x ≤ 9999999) (hk : ky = entC kp x) : RC sm n (depR x r) q i6 (i7 + x) (i8 + x) i9 i11 i12 i13 i15 i16 i17 i18 i19 ky fs fp ff fd fam := h.elim (fun z => Or.inl ⟨z.1, RC0.dep z.2 g hc hk⟩) (fun z => Or.inr ⟨z.1, z.2.1, (ky60 hk z.2.2)⟩)
theorem RC.gra {n : Nat} {r : Nat → Int32} {q : Int64} {i6 i7 i8 : Int32} {i9 i11 : Int64} {i12 i13 i15 i16 i17 i18 i19 : Int32} {kp : Nat} {fs fp ff fd fam : Nat → Int32} {x : Int32} {sm : Prop} (h : RC sm n r q i6 i7 i8 i9 i11 i12 i13 i15 i16 i17 i18 i19 kp fs fp ff fd fam) : RC sm n (graR x r) q i6 i7 i8 i9 i11 i12 i13 i15 i16 x i18 i19 kp fs fp ff fd fam := h.elim (fun z => Or.inl ⟨z.1, RC0.gra z.2 ⟩) (fun z => Or.inr ⟨z.1, z.2.1, z.2.2⟩)
theorem RC.sub {n : Nat} {r : Nat → Int32} {q : Int64} {i6 i7 i8 : Int32} {i9 i11 : Int64} {i12 i13 i15 i16 i17 i18 i19 : Int32} {kp : Nat} {fs fp ff fd fam : Nat → Int32} {k : Nat} {sm : Prop} (h : RC sm n r q i6 i7 i8 i9 i11 i12 i13 i15 i16 i17 i18 i19 kp fs fp ff fd fam) : RC sm n (subR k r) q i6 i7 i8 i9 i11 i12 i13 i15 i16 i17 (i18 ||| (1 : Int32) <<< (nI k &&& 31)) i19 kp fs fp ff fd fam := h.elim (fun z => Or.inl ⟨z.1, RC0.sub z.2 ⟩) (fun z => Or.inr ⟨z.1, z.2.1, z.2.2⟩)
theorem RC.rat {n : Nat} {r : Nat → Int32} {q : Int64} {i6 i7 i8 : Int32} {i9 i11 : Int64} {i12 i13 i15 i16 i17 i18 i19 : Int32} {kp : Nat} {fs fp ff fd fam : Nat → Int32} {a b : Int32} {sm : Prop} (h : RC sm n r q i6 i7 i8 i9 i11 i12 i13 i15 i16 i17 i18 i19 kp fs fp ff fd fam) (g : 0 ≤ a ∧ a ≤ 3000) (hb : b.toInt64 = 360 ∨ b.toInt64 = 365) : RC sm n (ratR a b r) q i6 i7 i8 i9 i11 i12 i13 a b i17 i18 i19 kp fs fp ff fd fam := h.elim (fun z => Or.inl ⟨z.1, RC0.rat z.2 g hb⟩) (fun z => Or.inr ⟨z.1, z.2.1, z.2.2⟩)
theorem RC.pin_a {n : Nat} {r : Nat → Int32} {q : Int64} {i6 i7 i8 : Int32} {i9 i11 : Int64} {i12 i13 i15 i16 i17 i18 i19 : Int32} {kp : Nat} {fs fp ff fd fam : Nat → Int32} {x : Int32} {sm : Prop} (h : RC sm n r q i6 i7 i8 i9 i11 i12 i13 i15 i16 i17 i18 i19 kp fs fp ff fd fam) (g : 1 ≤ x) (c : lg_cmp (x.toInt64) i9 ≤ 0) : sm ∨ (AcPin r x) := h.elim (fun z => Or.inr (RC0.pin_a z.2 g c)) (fun z => Or.inl z.1)
theorem RC.pin_r1 {r : Nat → Int32} {x : Int32} {sm : Prop} (c : x < 1) : sm ∨ (¬ AcPin r x) := Or.inr (RC0.pin_r1 c)
theorem RC.pin_r2 {n : Nat} {r : Nat → Int32} {q : Int64} {i6 i7 i8 : Int32} {i9 i11 : Int64} {i12 i13 i15 i16 i17 i18 i19 : Int32} {kp : Nat} {fs fp ff fd fam : Nat → Int32} {x : Int32} {sm : Prop} (h : RC sm n r q i6 i7 i8 i9 i11 i12 i13 i15 i16 i17 i18 i19 kp fs fp ff fd fam) (c : ¬ lg_cmp (x.toInt64) i9 ≤ 0) : sm ∨ (¬ AcPin r x) := h.elim (fun z => Or.inr (RC0.pin_r2 z.2 c)) (fun z => Or.inl z.1)
theorem RC.pin {n : Nat} {r : Nat → Int32} {q : Int64} {i6 i7 i8 : Int32} {i9 i11 : Int64} {i12 i13 i15 i16 i17 i18 i19 : Int32} {kp : Nat} {fs fp ff fd fam : Nat → Int32} {x : Int32} {ky : Nat} {sm : Prop} (h : RC sm n r q i6 i7 i8 i9 i11 i12 i13 i15 i16 i17 i18 i19 kp fs fp ff fd fam) (g : 1 ≤ x) (c : lg_cmp (x.toInt64) i9 ≤ 0) (hk : ky = entC kp x) : RC sm n (pinR x r) q i6 i7 i8 (i9 - x.toInt64) i11 i12 i13 i15 i16 i17 i18 i19 ky fs fp ff fd fam := h.elim (fun z => Or.inl ⟨z.1, RC0.pin z.2 g c hk⟩) (fun z => Or.inr ⟨z.1, z.2.1, (ky60 hk z.2.2)⟩)
theorem RC.app_a {n : Nat} {r : Nat → Int32} {q : Int64} {i6 i7 i8 : Int32} {i9 i11 : Int64} {i12 i13 i15 i16 i17 i18 i19 : Int32} {kp : Nat} {fs fp ff fd fam : Nat → Int32} {k : Nat} {sm : Prop} (h : RC sm n r q i6 i7 i8 i9 i11 i12 i13 i15 i16 i17 i18 i19 kp fs fp ff fd fam) (hm : k < n) (g : ¬ 3 ≤ fs k) : sm ∨ (AcApp r k) := h.elim (fun z => Or.inr (RC0.app_a z.2 hm g)) (fun z => Or.inl z.1)
theorem RC.app_r {n : Nat} {r : Nat → Int32} {q : Int64} {i6 i7 i8 : Int32} {i9 i11 : Int64} {i12 i13 i15 i16 i17 i18 i19 : Int32} {kp : Nat} {fs fp ff fd fam : Nat → Int32} {k : Nat} {sm : Prop} (h : RC sm n r q i6 i7 i8 i9 i11 i12 i13 i15 i16 i17 i18 i19 kp fs fp ff fd fam) (hm : k < n) (g : 3 ≤ fs k) : sm ∨ (¬ AcApp r k) := h.elim (fun z => Or.inr (RC0.app_r z.2 hm g)) (fun z => Or.inl z.1)
theorem RC.app {n : Nat} {r : Nat → Int32} {q : Int64} {i6 i7 i8 : Int32} {i9 i11 : Int64} {i12 i13 i15 i16 i17 i18 i19 : Int32} {kp : Nat} {fs fp ff fd fam : Nat → Int32} {k : Nat} {sm : Prop} (h : RC sm n r q i6 i7 i8 i9 i11 i12 i13 i15 i16 i17 i18 i19 kp fs fp ff fd fam) (hm : k < n) (h31 : k < 31) : RC sm n (appR k r) q i6 i7 i8 i9 i11 i12 i13 i15 i16 i17 i18 (i19 ||| (1 : Int32) <<< (nI k &&& 31)) kp fs fp ff fd fam := h.elim (fun z => Or.inl ⟨z.1, RC0.app z.2 hm h31⟩) (fun z => Or.inr ⟨z.1, z.2.1, z.2.2⟩)
theorem RC.opn_a {n : Nat} {r : Nat → Int32} {q : Int64} {i6 i7 i8 : Int32} {i9 i11 : Int64} {i12 i13 i15 i16 i17 i18 i19 : Int32} {kp : Nat} {fs fp ff fd fam : Nat → Int32} {k : Nat} {sm : Prop} (h : RC sm n r q i6 i7 i8 i9 i11 i12 i13 i15 i16 i17 i18 i19 kp fs fp ff fd fam) (hm : k < n) (g : fs k = 0 ∨ fs k = 1) : sm ∨ (AcOpn r k) := h.elim (fun z => Or.inr (RC0.opn_a z.2 hm g)) (fun z => Or.inl z.1)
theorem RC.opn_r {n : Nat} {r : Nat → Int32} {q : Int64} {i6 i7 i8 : Int32} {i9 i11 : Int64} {i12 i13 i15 i16 i17 i18 i19 : Int32} {kp : Nat} {fs fp ff fd fam : Nat → Int32} {k : Nat} {sm : Prop} (h : RC sm n r q i6 i7 i8 i9 i11 i12 i13 i15 i16 i17 i18 i19 kp fs fp ff fd fam) (hm : k < n) (g : ¬ (fs k = 0 ∨ fs k = 1)) : sm ∨ (¬ AcOpn r k) := h.elim (fun z => Or.inr (RC0.opn_r z.2 hm g)) (fun z => Or.inl z.1)
theorem RC.dsp_a {n : Nat} {r : Nat → Int32} {q : Int64} {i6 i7 i8 : Int32} {i9 i11 : Int64} {i12 i13 i15 i16 i17 i18 i19 : Int32} {kp : Nat} {fs fp ff fd fam : Nat → Int32} {k : Nat} {sm : Prop} (h : RC sm n r q i6 i7 i8 i9 i11 i12 i13 i15 i16 i17 i18 i19 kp fs fp ff fd fam) (hm : k < n) (g : fs k = 2) : sm ∨ (AcDis r k) := h.elim (fun z => Or.inr (RC0.dsp_a z.2 hm g)) (fun z => Or.inl z.1)
theorem RC.dsp_r {n : Nat} {r : Nat → Int32} {q : Int64} {i6 i7 i8 : Int32} {i9 i11 : Int64} {i12 i13 i15 i16 i17 i18 i19 : Int32} {kp : Nat} {fs fp ff fd fam : Nat → Int32} {k : Nat} {sm : Prop} (h : RC sm n r q i6 i7 i8 i9 i11 i12 i13 i15 i16 i17 i18 i19 kp fs fp ff fd fam) (hm : k < n) (g : ¬ fs k = 2) : sm ∨ (¬ AcDis r k) := h.elim (fun z => Or.inr (RC0.dsp_r z.2 hm g)) (fun z => Or.inl z.1)
theorem RC.dis {n : Nat} {r : Nat → Int32} {q : Int64} {i6 i7 i8 : Int32} {i9 i11 : Int64} {i12 i13 i15 i16 i17 i18 i19 : Int32} {kp : Nat} {fs fp ff fd fam : Nat → Int32} {k : Nat} {zs zf : Nat → Int32} {sm : Prop} (h : RC sm n r q i6 i7 i8 i9 i11 i12 i13 i15 i16 i17 i18 i19 kp fs fp ff fd fam) (hm : k < n) (g : fs k = 0 ∨ fs k = 1) (hu : Upp k 2 fs zs) (hf : Upp k (minI (rmC fs fp fam k) (avC i8 ff n)) ff zf) : RC sm n (disR n k r) q i6 i7 i8 i9 i11 i12 i13 i15 i16 i17 i18 i19 kp zs fp zf fd fam := h.elim (fun z => Or.inl ⟨z.1, RC0.dis z.2 hm g hu hf⟩) (fun z => Or.inr ⟨z.1, z.2.1, z.2.2⟩)
theorem RC.wdr {n : Nat} {r : Nat → Int32} {q : Int64} {i6 i7 i8 : Int32} {i9 i11 : Int64} {i12 i13 i15 i16 i17 i18 i19 : Int32} {kp : Nat} {fs fp ff fd fam : Nat → Int32} {k : Nat} {zs zf : Nat → Int32} {sm : Prop} (h : RC sm n r q i6 i7 i8 i9 i11 i12 i13 i15 i16 i17 i18 i19 kp fs fp ff fd fam) (hm : k < n) (hu : Upp k 0 fs zs) (hf : Upp k 0 ff zf) : RC sm n (wdrR k r) q i6 i7 i8 i9 i11 i12 i13 i15 i16 i17 i18 i19 kp zs fp zf fd fam := h.elim (fun z => Or.inl ⟨z.1, RC0.wdr z.2 hm hu hf⟩) (fun z => Or.inr ⟨z.1, z.2.1, z.2.2⟩)
theorem RC.can {n : Nat} {r : Nat → Int32} {q : Int64} {i6 i7 i8 : Int32} {i9 i11 : Int64} {i12 i13 i15 i16 i17 i18 i19 : Int32} {kp : Nat} {fs fp ff fd fam : Nat → Int32} {k : Nat} {zs : Nat → Int32} {sm : Prop} (h : RC sm n r q i6 i7 i8 i9 i11 i12 i13 i15 i16 i17 i18 i19 kp fs fp ff fd fam) (hm : k < n) (g : fs k = 0 ∨ fs k = 1) (hu : Upp k 5 fs zs) : RC sm n (canR k r) q i6 i7 i8 i9 i11 i12 i13 i15 i16 i17 i18 i19 kp zs fp ff fd fam := h.elim (fun z => Or.inl ⟨z.1, RC0.can z.2 hm g hu⟩) (fun z => Or.inr ⟨z.1, z.2.1, z.2.2⟩)
theorem RC.pay_a {n : Nat} {r : Nat → Int32} {q : Int64} {i6 i7 i8 : Int32} {i9 i11 : Int64} {i12 i13 i15 i16 i17 i18 i19 : Int32} {kp : Nat} {fs fp ff fd fam : Nat → Int32} {x : Int32} {k : Nat} {sm : Prop} (h : RC sm n r q i6 i7 i8 i9 i11 i12 i13 i15 i16 i17 i18 i19 kp fs fp ff fd fam) (hm : k < n) (g : 1 ≤ x ∧ x ≤ rmC fs fp fam k) (g2 : fs k = 0 ∨ fs k = 1) (c : x ≤ avC i8 ff n) : sm ∨ (AcPay r n x k) := h.elim (fun z => Or.inr (RC0.pay_a z.2 hm g g2 c)) (fun z => Or.inl z.1)
theorem RC.pay_r1 {n : Nat} {r : Nat → Int32} {q : Int64} {i6 i7 i8 : Int32} {i9 i11 : Int64} {i12 i13 i15 i16 i17 i18 i19 : Int32} {kp : Nat} {fs fp ff fd fam : Nat → Int32} {x : Int32} {k : Nat} {sm : Prop} (h : RC sm n r q i6 i7 i8 i9 i11 i12 i13 i15 i16 i17 i18 i19 kp fs fp ff fd fam) (hm : k < n) (g : ¬ (1 ≤ x ∧ x ≤ rmC fs fp fam k)) : sm ∨ (¬ AcPay r n x k) := h.elim (fun z => Or.inr (RC0.pay_r1 z.2 hm g)) (fun z => Or.inl z.1)
theorem RC.pay_r2 {n : Nat} {r : Nat → Int32} {q : Int64} {i6 i7 i8 : Int32} {i9 i11 : Int64} {i12 i13 i15 i16 i17 i18 i19 : Int32} {kp : Nat} {fs fp ff fd fam : Nat → Int32} {x : Int32} {k : Nat} {sm : Prop} (h : RC sm n r q i6 i7 i8 i9 i11 i12 i13 i15 i16 i17 i18 i19 kp fs fp ff fd fam) (hm : k < n) (g : ¬ (fs k = 0 ∨ fs k = 1)) : sm ∨ (¬ AcPay r n x k) := h.elim (fun z => Or.inr (RC0.pay_r2 z.2 hm g)) (fun z => Or.inl z.1)
theorem RC.pay_r3 {n : Nat} {r : Nat → Int32} {q : Int64} {i6 i7 i8 : Int32} {i9 i11 : Int64} {i12 i13 i15 i16 i17 i18 i19 : Int32} {kp : Nat} {fs fp ff fd fam : Nat → Int32} {x : Int32} {k : Nat} {sm : Prop} (h : RC sm n r q i6 i7 i8 i9 i11 i12 i13 i15 i16 i17 i18 i19 kp fs fp ff fd fam) (c : avC i8 ff n < x) : sm ∨ (¬ AcPay r n x k) := h.elim (fun z => Or.inr (RC0.pay_r3 z.2 c)) (fun z => Or.inl z.1)
theorem RC.pay {n : Nat} {r : Nat → Int32} {q : Int64} {i6 i7 i8 : Int32} {i9 i11 : Int64} {i12 i13 i15 i16 i17 i18 i19 : Int32} {kp : Nat} {fs fp ff fd fam : Nat → Int32} {x z12 z13 : Int32} {k ky : Nat} {zs zp : Nat → Int32} {sm : Prop} (h : RC sm n r q i6 i7 i8 i9 i11 i12 i13 i15 i16 i17 i18 i19 kp fs fp ff fd fam) (hm : k < n) (g : 1 ≤ x ∧ x ≤ rmC fs fp fam k) (g2 : fs k = 0 ∨ fs k = 1) (c : x ≤ avC i8 ff n) (hk : ky = entC kp x) (hs : z12 + z13 = i12 + i13 + x) (hp : Upp k (fp k + x) fp zp) (hpd : PaidS k fs zp fam zs) : RC sm n (payR x k r) q i6 i7 (i8 - x) i9 i11 z12 z13 i15 i16 i17 i18 i19 ky zs zp ff fd fam := h.elim (fun z => Or.inl ⟨z.1, RC0.pay z.2 hm g g2 c hk hs hp hpd⟩) (fun z => Or.inr ⟨z.1, z.2.1, (ky60 hk z.2.2)⟩)
theorem RC.res_a {n : Nat} {r : Nat → Int32} {q : Int64} {i6 i7 i8 : Int32} {i9 i11 : Int64} {i12 i13 i15 i16 i17 i18 i19 : Int32} {kp : Nat} {fs fp ff fd fam : Nat → Int32} {j : Int32} {k : Nat} {sm : Prop} (h : RC sm n r q i6 i7 i8 i9 i11 i12 i13 i15 i16 i17 i18 i19 kp fs fp ff fd fam) (hm : k < n) (g : fs k = 2) (g2 : 0 ≤ j ∧ j ≤ 1000) : sm ∨ (AcRes r j k) := h.elim (fun z => Or.inr (RC0.res_a z.2 hm g g2)) (fun z => Or.inl z.1)
theorem RC.res_r1 {r : Nat → Int32} {j : Int32} {k : Nat} {sm : Prop} (g : ¬ (0 ≤ j ∧ j ≤ 1000)) : sm ∨ (¬ AcRes r j k) := Or.inr (RC0.res_r1 g)
theorem RC.res_r2 {n : Nat} {r : Nat → Int32} {q : Int64} {i6 i7 i8 : Int32} {i9 i11 : Int64} {i12 i13 i15 i16 i17 i18 i19 : Int32} {kp : Nat} {fs fp ff fd fam : Nat → Int32} {j : Int32} {k : Nat} {sm : Prop} (h : RC sm n r q i6 i7 i8 i9 i11 i12 i13 i15 i16 i17 i18 i19 kp fs fp ff fd fam) (hm : k < n) (g : ¬ fs k = 2) : sm ∨ (¬ AcRes r j k) := h.elim (fun z => Or.inr (RC0.res_r2 z.2 hm g)) (fun z => Or.inl z.1)
theorem RC.res {n : Nat} {r : Nat → Int32} {q : Int64} {i6 i7 i8 : Int32} {i9 i11 : Int64} {i12 i13 i15 i16 i17 i18 i19 : Int32} {kp : Nat} {fs fp ff fd fam : Nat → Int32} {j z12 z13 : Int32} {k k1 ky : Nat} {z1 zs zp zf : Nat → Int32} {sm : Prop} (h : RC sm n r q i6 i7 i8 i9 i11 i12 i13 i15 i16 i17 i18 i19 kp fs fp ff fd fam) (hm : k < n) (hd : fs k = 2) (g : 0 ≤ j ∧ j ≤ 1000) (h1 : Upp k 4 fs z1) (hf : Upp k 0 ff zf) (hk1 : k1 = entC kp ((minI (rmC fs fp fam k) (avC i8 ff n + ff k)) * j / 1000)) (hs : z12 + z13 = i12 + i13 + (minI (rmC fs fp fam k) (avC i8 ff n + ff k)) * j / 1000) (hp : Upp k (fp k + (minI (rmC fs fp fam k) (avC i8 ff n + ff k)) * j / 1000) fp zp) (hpd : PaidS k z1 zp fam zs) (hk2 : ky = entC k1 ((minI (rmC fs fp fam k) (avC i8 ff n + ff k)) - (minI (rmC fs fp fam k) (avC i8 ff n + ff k)) * j / 1000)) : RC sm n (resR n j k r) q i6 i7 (i8 - (minI (rmC fs fp fam k) (avC i8 ff n + ff k)) * j / 1000 - ((minI (rmC fs fp fam k) (avC i8 ff n + ff k)) - (minI (rmC fs fp fam k) (avC i8 ff n + ff k)) * j / 1000)) i9 i11 z12 z13 i15 i16 i17 i18 i19 ky zs zp zf fd fam := h.elim (fun z => Or.inl ⟨z.1, RC0.res z.2 hm hd g h1 hf hk1 hs hp hpd hk2⟩) (fun z => Or.inr ⟨z.1, z.2.1, (ky60 hk2 (ky60 hk1 z.2.2))⟩)
theorem RC.clo_a {n : Nat} {r : Nat → Int32} {q : Int64} {i6 i7 i8 : Int32} {i9 i11 : Int64} {i12 i13 i15 i16 i17 i18 i19 : Int32} {kp : Nat} {fs fp ff fd fam : Nat → Int32} {sm : Prop} (h : RC sm n r q i6 i7 i8 i9 i11 i12 i13 i15 i16 i17 i18 i19 kp fs fp ff fd fam) (B : ccC fs n = n) : sm ∨ (AcClo r n) := h.elim (fun z => Or.inr (RC0.clo_a z.2 B)) (fun z => Or.inl z.1)
theorem RC.clo_r {n : Nat} {r : Nat → Int32} {q : Int64} {i6 i7 i8 : Int32} {i9 i11 : Int64} {i12 i13 i15 i16 i17 i18 i19 : Int32} {kp : Nat} {fs fp ff fd fam : Nat → Int32} {sm : Prop} (h : RC sm n r q i6 i7 i8 i9 i11 i12 i13 i15 i16 i17 i18 i19 kp fs fp ff fd fam) (B : ¬ ccC fs n = n) : sm ∨ (¬ AcClo r n) := h.elim (fun z => Or.inr (RC0.clo_r z.2 B)) (fun z => Or.inl z.1)
theorem RC.clo {n : Nat} {r : Nat → Int32} {q : Int64} {i6 i7 i8 : Int32} {i9 i11 : Int64} {i12 i13 i15 i16 i17 i18 i19 : Int32} {kp : Nat} {fs fp ff fd fam : Nat → Int32} {ky : Nat} {sm : Prop} (h : RC sm n r q i6 i7 i8 i9 i11 i12 i13 i15 i16 i17 i18 i19 kp fs fp ff fd fam) (B : ccC fs n = n) (hk : ky = entC kp i8) : RC sm n (cloR r) q i6 i7 (i8 - i8) i9 i11 i12 i13 i15 i16 i17 i18 i19 ky fs fp ff fd fam := h.elim (fun z => Or.inl ⟨z.1, RC0.clo z.2 B hk⟩) (fun z => Or.inr ⟨z.1, z.2.1, (ky60 hk z.2.2)⟩)
theorem RC.day {n : Nat} {r : Nat → Int32} {q : Int64} {i7 i8 : Int32} {i9 i11 : Int64} {i12 i13 i15 i16 i17 i18 i19 : Int32} {kp : Nat} {fs fp ff fd fam : Nat → Int32} {dy : Nat} {sm : Prop} (h : RC sm n r q (nI dy) i7 i8 i9 i11 i12 i13 i15 i16 i17 i18 i19 kp fs fp ff fd fam) (hd1 : dy < 20000) (hc : Capd sm r q) : RC sm n (upd r 4 (nI (dy + 1))) (pqQ q r) (nI (dy + 1)) i7 i8 i9 (i11 + (i8.toInt64 + i9) * i15.toInt64) i12 i13 i15 i16 i17 i18 i19 kp fs fp ff fd fam := h.elim (fun z => Or.inl ⟨z.1, RC0.day z.2 z.2.2.2.1.1 hd1 (hc z.1)⟩) (fun z => Or.inr ⟨z.1, z.2.1, z.2.2⟩)
theorem RC.cr {n : Nat} {r : Nat → Int32} {q : Int64} {i6 i7 i8 : Int32} {i9 i11 : Int64} {i12 i13 i15 i16 i17 i18 i19 : Int32} {kp : Nat} {fs fp ff fd fam : Nat → Int32} {ky : Nat} {sm : Prop} (h : RC sm n r q i6 i7 i8 i9 i11 i12 i13 i15 i16 i17 i18 i19 kp fs fp ff fd fam) (hc : Cap sm r) (hk : ky = entC kp (i11 / ((10000 : Int64) * i16.toInt64)).toInt32) : RC sm n (crR q r) (crQ q r) i6 i7 i8 (i9 + (i11 / ((10000 : Int64) * i16.toInt64))) (i11 - (i11 / ((10000 : Int64) * i16.toInt64)) * ((10000 : Int64) * i16.toInt64)) i12 i13 i15 i16 i17 i18 i19 ky fs fp ff fd fam := h.elim (fun z => Or.inl ⟨z.1, RC0.cr z.2 (hc z.1) hk⟩) (fun z => Or.inr ⟨z.1, z.2.1, (ky60 hk z.2.2)⟩)
theorem RC.cr_0 {n : Nat} {r : Nat → Int32} {q : Int64} {i6 i7 i8 : Int32} {i9 i11 : Int64} {i12 i13 i15 i16 i17 i18 i19 : Int32} {kp : Nat} {fs fp ff fd fam : Nat → Int32} {sm : Prop} (h : RC sm n r q i6 i7 i8 i9 i11 i12 i13 i15 i16 i17 i18 i19 kp fs fp ff fd fam) (c : ¬ 0 < lg_cmp ((10000 : Int64) * i16.toInt64) 0) : RC sm n (crR q r) (crQ q r) i6 i7 i8 i9 i11 i12 i13 i15 i16 i17 i18 i19 kp fs fp ff fd fam := h.elim (fun z => (RC0.cr_0 z.2 c).elim) (fun z => Or.inr ⟨z.1, z.2.1, z.2.2⟩)
theorem RC.dayz_y {n : Nat} {r : Nat → Int32} {q : Int64} {i6 i7 i8 : Int32} {i9 i11 : Int64} {i12 i13 i15 i16 i17 i18 i19 : Int32} {kp : Nat} {fs fp ff fd fam : Nat → Int32} {f : Nat → Int32} {cq b : Nat → Nat} {dy : Nat} {sm : Prop} (c : (dy + 1) % 30 = 0) (h : RC sm n (pays n b (dues f cq (doR (crR (pqQ q r) (upd r 4 (nI (dy + 1)))) n) (crR (pqQ q r) (upd r 4 (nI (dy + 1)))) n) n) (crQ (pqQ q r) (upd r 4 (nI (dy + 1)))) i6 i7 i8 i9 i11 i12 i13 i15 i16 i17 i18 i19 kp fs fp ff fd fam) : RC sm n (dayR f cq n b dy r q) (dayQ dy r q) i6 i7 i8 i9 i11 i12 i13 i15 i16 i17 i18 i19 kp fs fp ff fd fam := by
  unfold dayR dayQ day2
  rw [if_pos c, if_pos c]
  exact h
theorem RC.dayz_n {n : Nat} {r : Nat → Int32} {q : Int64} {i6 i7 i8 : Int32} {i9 i11 : Int64} {i12 i13 i15 i16 i17 i18 i19 : Int32} {kp : Nat} {fs fp ff fd fam : Nat → Int32} {f : Nat → Int32} {cq b : Nat → Nat} {dy : Nat} {sm : Prop} (c : ¬ (dy + 1) % 30 = 0) (h : RC sm n (pays n b (dues f cq (doR (upd r 4 (nI (dy + 1))) n) (upd r 4 (nI (dy + 1))) n) n) (pqQ q r) i6 i7 i8 i9 i11 i12 i13 i15 i16 i17 i18 i19 kp fs fp ff fd fam) : RC sm n (dayR f cq n b dy r q) (dayQ dy r q) i6 i7 i8 i9 i11 i12 i13 i15 i16 i17 i18 i19 kp fs fp ff fd fam := by
  unfold dayR dayQ day2
  rw [if_neg c, if_neg c]
  exact h
theorem RC.dqz {n : Nat} {r : Nat → Int32} {q : Int64} {i6 i7 i8 : Int32} {i9 i11 : Int64} {i12 i13 i15 i16 i17 i18 i19 : Int32} {kp : Nat} {fs fp ff fd fam : Nat → Int32} {f : Nat → Int32} {cq b : Nat → Nat} {sm : Prop} {j6 j7 j8 : Int32} {j9 j11 : Int64} {j12 j13 j15 j16 j17 j18 j19 : Int32} {kq : Nat} {gs gp gf gd gam : Nat → Int32} {q2 : Int64} (h : RC sm n r q i6 i7 i8 i9 i11 i12 i13 i15 i16 i17 i18 i19 kp fs fp ff fd fam) (h2 : RC sm n (pays n b (dues f cq (doC fs n) r n) n) q2 j6 j7 j8 j9 j11 j12 j13 j15 j16 j17 j18 j19 kq gs gp gf gd gam) : RC sm n (pays n b (dues f cq (doR r n) r n) n) q2 j6 j7 j8 j9 j11 j12 j13 j15 j16 j17 j18 j19 kq gs gp gf gd gam := by
  rcases h with z | z
  · rw [← RC0.dq z.2]; exact h2
  · rcases h2 with z2 | z2
    · exact absurd z.1 z2.1
    · exact Or.inr z2


theorem Ab.at {r s : Nat → Int32} (h : Ab r s) (j : Nat) (hj : j < 86 ∧ j ≠ 9) : s j = r j := h j hj.1 hj.2
theorem Ab.updv {r s : Nat → Int32} (h : Ab r s) (k : Nat) {v w : Int32} (e : w = v) : Ab (upd r k v) (upd s k w) := by
  subst e
  exact h.put k _
theorem Ab.ent {r s : Nat → Int32} (h : Ab r s) {x y : Int32} (e : y = x) : Ab (entR x r) (entR y s) := by
  subst e
  unfold entR eN
  rw [h.at 15 (by omega)]
  by_cases c : y = 0
  · rw [if_pos c, if_pos c]; exact h
  · rw [if_neg c, if_neg c]; exact h.put 15 _
theorem Ab.rem {r s : Nat → Int32} (h : Ab r s) {m : Nat} (hm : m < 10) : remR s m = remR r m := by
  unfold remR
  rw [h.at _ (by omega), h.at _ (by omega), h.at _ (by omega)]
theorem Ab.av {r s : Nat → Int32} (h : Ab r s) : ∀ {n : Nat}, n ≤ 10 → avR s n = avR r n
  | 0, _ => h.at 6 (by omega)
  | n + 1, hn => by
    show avR s n - s (16 + 7 * n + 3) = avR r n - r (16 + 7 * n + 3)
    rw [Ab.av h (n := n) (by omega), h.at (16 + 7 * n + 3) (by omega)]
theorem Ab.dn {r s : Nat → Int32} (h : Ab r s) : ∀ {n : Nat}, n ≤ 10 → doR s n = doR r n
  | 0, _ => rfl
  | n + 1, hn => by
    rw [doR, doR, Ab.dn h (n := n) (by omega), h.at (16 + 7 * n + 2) (by omega)]
theorem Ab.hd {r s : Nat → Int32} (h : Ab r s) {m : Nat} (hm : m < 10) (d x y : Int32) : hdF s m d x y = hdF r m d x y := by
  rw [hdFG, hdFG, h.at 10 (by omega), h.at (16 + 7 * m + 5) (by omega)]
theorem Ab.mkPv {r s : Nat → Int32} (h : Ab r s) {m : Nat} {x y : Int32} (hm : m < 10) (e : y = x) : Ab (mkP m x r) (mkP m y s) := by
  subst e
  unfold mkP
  refine Ab.ent ?_ rfl
  refine Ab.updv (Ab.updv (Ab.updv h _ ?_) _ ?_) _ ?_
  · rw [h.at 6 (by omega)]
  · rw [h.at 10 (by omega)]
  · rw [h.at (16 + 7 * m + 1) (by omega)]
theorem Ab.clRv {r s : Nat → Int32} (h : Ab r s) {m : Nat} (hm : m < 10) : Ab (clR m r) (clR m s) := by
  unfold clR
  rw [h.rem hm]
  by_cases c : remR r m = 0
  · rw [if_pos c, if_pos c]; exact h.put _ _
  · rw [if_neg c, if_neg c]; exact h
theorem Ab.ps {r s : Nat → Int32} (h : Ab r s) {n m : Nat} (hn : n ≤ 10) (hm : m < 10) : Ab (pstep n m r) (pstep n m s) := by
  unfold pstep
  have e : (ripe s m ∧ 0 < minI (remR s m) (avR s n)) ↔ (ripe r m ∧ 0 < minI (remR r m) (avR r n)) := by
    unfold ripe
    rw [h.rem hm, h.av hn, h.at _ (by omega), h.at (16 + 7 * m + 4) (by omega), h.at 3 (by omega), h.at 4 (by omega)]
  by_cases c : ripe r m ∧ 0 < minI (remR r m) (avR r n)
  · rw [if_pos c, if_pos (e.mpr c)]
    exact (Ab.mkPv h hm (by rw [h.rem hm, h.av hn])).clRv hm
  · rw [if_neg c, if_neg (fun z => c (e.mp z))]; exact h
theorem Ab.paysv {r s : Nat → Int32} (h : Ab r s) {n : Nat} {o : Nat → Nat} (hn : n ≤ 10) : ∀ {k : Nat}, (∀ j, j < k → o j < n) → Ab (pays n o r k) (pays n o s k)
  | 0, _ => h
  | k + 1, ho => Ab.ps (Ab.paysv h hn (k := k) (fun j hj => ho j (by omega))) hn (by have := ho k (by omega); omega)
theorem Ab.ds {r s : Nat → Int32} (h : Ab r s) {f : Nat → Int32} {cq : Nat → Nat} {dn : Int32} {m : Nat} (hm : m < 10) : Ab (dstep f cq dn m r) (dstep f cq dn m s) := by
  unfold dstep
  rw [h.hd hm, h.at (16 + 7 * m + 2) (by omega), h.at 4 (by omega), h.at 12 (by omega)]
  by_cases c : r (16 + 7 * m + 2) = 0 ∧ hdV (hdF r m (r 4) (r 12) dn) f cq m = true
  · rw [if_pos c, if_pos c]; exact (h.put _ _).put _ _
  · rw [if_neg c, if_neg c]; exact h
theorem Ab.duesv {r s : Nat → Int32} (h : Ab r s) {f : Nat → Int32} {cq : Nat → Nat} {dn : Int32} : ∀ {k : Nat}, k ≤ 10 → Ab (dues f cq dn r k) (dues f cq dn s k)
  | 0, _ => h
  | k + 1, hk => Ab.ds (Ab.duesv h (k := k) (by omega)) (by omega)
theorem Ab.pq {r s : Nat → Int32} (h : Ab r s) (p : Int64) : pqQ p s = pqQ p r := by
  unfold pqQ
  rw [h.at 6 (by omega), h.at 7 (by omega), h.at 0 (by omega)]
theorem Ab.crCv {r s : Nat → Int32} (h : Ab r s) (p : Int64) : crC p s = crC p r := by
  unfold crC
  rw [h.at 1 (by omega)]
theorem Ab.crQv {r s : Nat → Int32} (h : Ab r s) (p : Int64) : crQ p s = crQ p r := by
  unfold crQ
  rw [h.at 1 (by omega)]
theorem Ab.crRv {r s : Nat → Int32} (h : Ab r s) (p : Int64) : Ab (crR p r) (crR p s) := by
  unfold crR
  rw [h.crCv]
  refine Ab.ent (Ab.updv (Ab.updv h _ ?_) _ ?_) rfl
  · rw [h.at 7 (by omega)]
  · rw [h.at 8 (by omega)]
theorem Ab.day2v {r s : Nat → Int32} (h : Ab r s) (dy : Nat) (q : Int64) : Ab (day2 dy r q) (day2 dy s q) := by
  unfold day2
  rw [h.pq]
  by_cases c : (dy + 1) % 30 = 0
  · rw [if_pos c, if_pos c]; exact (h.put 4 _).crRv _
  · rw [if_neg c, if_neg c]; exact h.put 4 _
theorem Ab.dayQv {r s : Nat → Int32} (h : Ab r s) (dy : Nat) (q : Int64) : dayQ dy s q = dayQ dy r q := by
  unfold dayQ
  rw [h.pq, (h.put 4 (nI (dy + 1))).crQv]
theorem Ab.dayRv {r s : Nat → Int32} (h : Ab r s) {f : Nat → Int32} {cq b : Nat → Nat} {n : Nat} (dy : Nat) (q : Int64) (hn : n ≤ 10) (hb : ∀ j, j < n → b j < n) : Ab (dayR f cq n b dy r q) (dayR f cq n b dy s q) := by
  unfold dayR
  have h2 := h.day2v dy q
  rw [h2.dn hn]
  exact Ab.paysv (h2.duesv hn) hn hb
/-! sums, and the order of payments -/
def sumN (f : Nat → Nat) : Nat → Nat
  | 0 => 0
  | n + 1 => sumN f n + f n
theorem sumN_c {f g : Nat → Nat} : ∀ {n : Nat}, (∀ j, j < n → f j = g j) → sumN f n = sumN g n
  | 0, _ => rfl
  | n + 1, h => by rw [sumN, sumN, sumN_c (n := n) (fun j hj => h j (by omega)), h n (by omega)]
theorem sumN_add (f g : Nat → Nat) : ∀ n : Nat, sumN (fun j => f j + g j) n = sumN f n + sumN g n
  | 0 => rfl
  | n + 1 => by
    rw [sumN, sumN, sumN, sumN_add f g n]
    omega
theorem sumN_0 : ∀ n : Nat, sumN (fun _ => 0) n = 0
  | 0 => rfl
  | n + 1 => by rw [sumN, sumN_0 n]
theorem sumN_sw (f : Nat → Nat → Nat) (b : Nat) : ∀ a : Nat, sumN (fun i => sumN (fun j => f i j) b) a = sumN (fun j => sumN (fun i => f i j) a) b
  | 0 => by
    show 0 = sumN (fun _ => 0) b
    rw [sumN_0]
  | a + 1 => by
    have e : sumN (fun j => sumN (fun i => f i j) (a + 1)) b = sumN (fun j => sumN (fun i => f i j) a + f a j) b := sumN_c (fun j _ => rfl)
    rw [e, sumN_add, sumN, sumN_sw f b a]
theorem sumN_one {f : Nat → Nat} {k : Nat} : ∀ {n : Nat}, k < n → (∀ j, j < n → j ≠ k → f j = 0) → sumN f n = f k
  | 0, hk, _ => absurd hk (Nat.not_lt_zero k)
  | n + 1, hk, h => by
    rw [sumN]
    by_cases e : n = k
    · subst e
      rw [sumN_c (g := fun _ => 0) (fun j hj => h j (by omega) (by omega)), sumN_0, Nat.zero_add]
    · rw [sumN_one (n := n) (by omega) (fun j hj hne => h j (by omega) hne), h n (by omega) e, Nat.add_zero]
theorem sumN_le {f g : Nat → Nat} : ∀ {n : Nat}, (∀ j, j < n → f j ≤ g j) → sumN f n ≤ sumN g n
  | 0, _ => Nat.le_refl 0
  | n + 1, h => by
    have h1 := sumN_le (n := n) (fun j hj => h j (by omega))
    have h2 := h n (by omega)
    rw [sumN, sumN]
    omega
/-- the order b of the milestones, p its inverse: by priority, then by number -/
def BYR (n : Nat) (b p : Nat → Nat) (r : Nat → Int32) : Prop := (∀ k, k < n → b k < n ∧ p (b k) = k) ∧ (∀ m, m < n → p m < n ∧ b (p m) = m) ∧ ∀ j k, j < k → k < n → befR r (b j) (b k)
theorem perm_sum {n : Nat} {b p : Nat → Nat} (h1 : ∀ k, k < n → b k < n ∧ p (b k) = k) (h2 : ∀ m, m < n → p m < n ∧ b (p m) = m) (f : Nat → Nat) : sumN f n = sumN (fun j => f (b j)) n := by
  have e1 : sumN f n = sumN (fun m => sumN (fun j => if b j = m then f m else 0) n) n := sumN_c (fun m hm => by
    rw [sumN_one (k := p m) (h2 m hm).1 (fun j hj hne => if_neg (fun e => hne (by rw [← e, (h1 j hj).2]))), if_pos (h2 m hm).2])
  rw [e1, sumN_sw]
  refine sumN_c (fun j hj => ?_)
  rw [sumN_one (k := b j) (h1 j hj).1 (fun m _ hne => if_neg (fun e => hne e.symm)), if_pos rfl]
theorem dbR_sum (r : Nat → Int32) (m : Nat) : ∀ n, dbR r m n = sumN (fun j => if r (16 + 7 * j + 2) = 1 ∧ befR r j m then 1 else 0) n
  | 0 => rfl
  | n + 1 => by rw [dbR, sumN, dbR_sum r m n]
/-- how many of the order's first k are due -/
def cR (r : Nat → Int32) (b : Nat → Nat) : Nat → Nat
  | 0 => 0
  | k + 1 => cR r b k + (if r (16 + 7 * b k + 2) = 1 then 1 else 0)
theorem cR_mono (r : Nat → Int32) (b : Nat → Nat) (i : Nat) : ∀ d : Nat, cR r b i ≤ cR r b (i + d)
  | 0 => Nat.le_refl _
  | d + 1 => Nat.le_trans (cR_mono r b i d) (Nat.le_add_right _ _)
theorem bef_ir {r : Nat → Int32} {a b : Nat} (h : befR r a b) (g : befR r b a) : False := by
  rcases h with h | ⟨h, h2⟩
  · have h3 := i_lt.mp h
    rcases g with g | ⟨g, -⟩
    · have g3 := i_lt.mp g
      omega
    · rw [g] at h3; omega
  · rcases g with g | ⟨-, g2⟩
    · have g3 := i_lt.mp g
      rw [h] at g3; omega
    · omega
theorem db_c {n : Nat} {b p : Nat → Nat} {r : Nat → Int32} (h : BYR n b p r) {k : Nat} (hk : k < n) : dbR r (b k) n = cR r b k := by
  rw [dbR_sum, perm_sum h.1 h.2.1]
  have g : ∀ i, i ≤ n → sumN (fun j => if r (16 + 7 * b j + 2) = 1 ∧ befR r (b j) (b k) then 1 else 0) i = cR r b (min i k) := by
    intro i
    induction i with
    | zero => intro _; rw [Nat.zero_min]; rfl
    | succ i ih =>
      intro hi
      rw [sumN, ih (by omega)]
      by_cases c : i < k
      · rw [show min (i + 1) k = min i k + 1 by omega, cR, show min i k = i by omega]
        by_cases d : r (16 + 7 * b i + 2) = 1
        · rw [if_pos d, if_pos ⟨d, h.2.2 i k c hk⟩]
        · rw [if_neg d, if_neg (fun z => d z.1)]
      · rw [show min (i + 1) k = min i k by omega, if_neg (fun z => ?_), Nat.add_zero]
        by_cases e : i = k
        · subst e; exact bef_ir z.2 z.2
        · exact bef_ir z.2 (h.2.2 k i (by omega) (by omega))
  rw [g n (Nat.le_refl n), show min n k = k by omega]
/-- a due milestone with c R before it in the order: its rank says which it is -/
theorem c_inj {n : Nat} {b p : Nat → Nat} {r : Nat → Int32} (h : BYR n b p r) {k m : Nat} (hk : k < n) (hd : r (16 + 7 * b k + 2) = 1) (hm : m < n) (hdm : r (16 + 7 * m + 2) = 1) (e : dbR r m n = cR r b k) : m = b k := by
  obtain ⟨h1, h2⟩ := h.2.1 m hm
  have e2 := db_c h h1
  rw [h2] at e2
  rw [e2] at e
  have s1 : cR r b (p m + 1) = cR r b (p m) + 1 := by rw [cR, h2, if_pos hdm]
  have s2 : cR r b (k + 1) = cR r b k + 1 := by rw [cR, if_pos hd]
  by_cases c : p m < k
  · have := cR_mono r b (p m + 1) (k - (p m + 1))
    rw [show p m + 1 + (k - (p m + 1)) = k by omega] at this
    omega
  · by_cases c2 : k < p m
    · have := cR_mono r b (k + 1) (p m - (k + 1))
      rw [show k + 1 + (p m - (k + 1)) = p m by omega] at this
      omega
    · rw [← h2, show p m = k by omega]
/-- a payment for one milestone leaves the others' states as they are -/
theorem ps_st {n a m : Nat} {r : Nat → Int32} (h : m ≠ a) : pstep n a r (16 + 7 * m + 2) = r (16 + 7 * m + 2) := by
  unfold pstep
  by_cases c : ripe r a ∧ 0 < minI (remR r a) (avR r n)
  · rw [if_pos c]
    unfold clR
    by_cases d : remR (mkP a (minI (remR r a) (avR r n)) r) a = 0
    · rw [if_pos d, pk_un (by omega), mkP_o (by omega) (by omega) (by omega) (by omega)]
    · rw [if_neg d, mkP_o (by omega) (by omega) (by omega) (by omega)]
  · rw [if_neg c]
theorem pays_st {n m : Nat} {o : Nat → Nat} {r : Nat → Int32} : ∀ {k : Nat}, (∀ j, j < k → o j ≠ m) → pays n o r k (16 + 7 * m + 2) = r (16 + 7 * m + 2)
  | 0, _ => rfl
  | k + 1, h => by
    show pstep n (o k) (pays n o r k) (16 + 7 * m + 2) = _
    rw [ps_st (fun e => h k (by omega) e.symm), pays_st (k := k) (fun j hj => h j (by omega))]
theorem pays_by {n M : Nat} {b p o : Nat → Nat} {r : Nat → Int32} (h : BYR n b p r) (ho : Ord r n M o) : ∀ k, k ≤ n → cR r b k ≤ M ∧ pays n b r k = pays n o r (cR r b k) := by
  intro k
  induction k with
  | zero => intro _; exact ⟨Nat.zero_le _, rfl⟩
  | succ k ih =>
    intro hk
    obtain ⟨i1, i2⟩ := ih (by omega)
    have hb := h.1 k (by omega)
    have st : pays n b r k (16 + 7 * b k + 2) = r (16 + 7 * b k + 2) := pays_st (fun j hj e => by
      have := (h.1 j (by omega)).2
      rw [e, hb.2] at this
      omega)
    by_cases d : r (16 + 7 * b k + 2) = 1
    · have hM : cR r b k < M := by
        refine Nat.lt_of_le_of_ne i1 (fun e => ?_)
        exact ho.2 (b k) hb.1 ⟨d, by rw [db_c h (by omega)]; exact e⟩
      obtain ⟨o1, o2, o3⟩ := ho.1 _ hM
      have e := c_inj h (show k < n by omega) d o1 o2 o3
      rw [cR, if_pos d]
      refine ⟨by omega, ?_⟩
      show pstep n (b k) (pays n b r k) = pstep n (o (cR r b k)) (pays n o r (cR r b k))
      rw [e, i2]
    · rw [cR, if_neg d, Nat.add_zero]
      refine ⟨i1, ?_⟩
      show pstep n (b k) (pays n b r k) = _
      rw [pstep_n (fun z => d (by rw [← st]; exact z.1.1)), i2]
theorem cR_all {n M : Nat} {b p o : Nat → Nat} {r : Nat → Int32} (h : BYR n b p r) (ho : Ord r n M o) : cR r b n = M := by
  have h1 := (pays_by h ho n (Nat.le_refl n)).1
  refine Nat.le_antisymm h1 (Nat.le_of_not_lt (fun c => ?_))
  obtain ⟨o1, o2, o3⟩ := ho.1 _ c
  obtain ⟨p1, p2⟩ := h.2.1 _ o1
  have e := db_c h p1
  rw [p2, o3] at e
  have s1 : cR r b (p (o (cR r b n)) + 1) = cR r b (p (o (cR r b n))) + 1 := by rw [cR, p2, if_pos o2]
  have := cR_mono r b (p (o (cR r b n)) + 1) (n - (p (o (cR r b n)) + 1))
  rw [show p (o (cR r b n)) + 1 + (n - (p (o (cR r b n)) + 1)) = n by omega] at this
  omega
/-- the reference's payments of a day are those in the order b -/
theorem PdR.is {n : Nat} {b p : Nat → Nat} {r s : Nat → Int32} (h : BYR n b p r) (hp : PdR r n s) : Ab (pays n b r n) s := by
  obtain ⟨M, o, ho, ha⟩ := hp
  rw [(pays_by h ho n (Nat.le_refl n)).2, cR_all h ho]
  exact ha
/-! priorities stay -/
def Pri (n : Nat) (r s : Nat → Int32) : Prop := ∀ m, m < n → s (16 + 7 * m + 6) = r (16 + 7 * m + 6)
theorem Pri.rf (n : Nat) (r : Nat → Int32) : Pri n r r := fun _ _ => rfl
theorem Pri.tr {n : Nat} {r s t : Nat → Int32} (h : Pri n r s) (g : Pri n s t) : Pri n r t := fun m hm => (g m hm).trans (h m hm)
theorem Pri.ab {n : Nat} {r s : Nat → Int32} (h : Ab r s) (hn : n ≤ 10) : Pri n r s := fun m hm => h.at _ (by omega)
theorem BYR.pri {n : Nat} {b p : Nat → Nat} {r s : Nat → Int32} (h : BYR n b p r) (g : Pri n r s) : BYR n b p s := by
  refine ⟨h.1, h.2.1, fun j k hj hk => ?_⟩
  have z := h.2.2 j k hj hk
  unfold befR at z ⊢
  rw [g _ (h.1 j (by omega)).1, g _ (h.1 k hk).1]
  exact z
theorem Pri.set {n : Nat} {r : Nat → Int32} (k : Nat) (v : Int32) (h : ∀ m, m < n → k ≠ 16 + 7 * m + 6) : Pri n r (upd r k v) := fun m hm => pk_un (fun e => h m hm e.symm)
theorem Pri.ent {n : Nat} {r : Nat → Int32} (x : Int32) : Pri n r (entR x r) := fun m hm => entR_n (by omega)
theorem Pri.ds {n m : Nat} {f : Nat → Int32} {cq : Nat → Nat} {dn : Int32} {r : Nat → Int32} : Pri n r (dstep f cq dn m r) := by
  unfold dstep
  by_cases c : r (16 + 7 * m + 2) = 0 ∧ hdV (hdF r m (r 4) (r 12) dn) f cq m = true
  · rw [if_pos c]; exact (Pri.set _ _ (fun k _ => by omega)).tr (Pri.set _ _ (fun k _ => by omega))
  · rw [if_neg c]; exact Pri.rf _ _
theorem Pri.duesv {n : Nat} {f : Nat → Int32} {cq : Nat → Nat} {dn : Int32} {r : Nat → Int32} : ∀ k, Pri n r (dues f cq dn r k)
  | 0 => Pri.rf _ _
  | k + 1 => (Pri.duesv k).tr Pri.ds
theorem Pri.mkPv {n m : Nat} {x : Int32} {r : Nat → Int32} : Pri n r (mkP m x r) := fun k hk => mkP_o (by omega) (by omega) (by omega) (by omega)
theorem Pri.clRv {n m : Nat} {r : Nat → Int32} : Pri n r (clR m r) := by
  unfold clR
  by_cases c : remR r m = 0
  · rw [if_pos c]; exact Pri.set _ _ (fun k _ => by omega)
  · rw [if_neg c]; exact Pri.rf _ _
theorem Pri.ps {n m : Nat} {r : Nat → Int32} : Pri n r (pstep n m r) := by
  unfold pstep
  by_cases c : ripe r m ∧ 0 < minI (remR r m) (avR r n)
  · rw [if_pos c]; exact Pri.mkPv.tr Pri.clRv
  · rw [if_neg c]; exact Pri.rf _ _
theorem Pri.paysv {n : Nat} {o : Nat → Nat} {r : Nat → Int32} : ∀ k, Pri n r (pays n o r k)
  | 0 => Pri.rf _ _
  | k + 1 => (Pri.paysv k).tr Pri.ps
theorem Pri.crRv {n : Nat} {p : Int64} {r : Nat → Int32} : Pri n r (crR p r) := by
  unfold crR
  exact ((Pri.set _ _ (fun k _ => by omega)).tr (Pri.set _ _ (fun k _ => by omega))).tr (Pri.ent _)
theorem Pri.day2v {n dy : Nat} {r : Nat → Int32} {q : Int64} : Pri n r (day2 dy r q) := by
  unfold day2
  by_cases c : (dy + 1) % 30 = 0
  · rw [if_pos c]; exact (Pri.set _ _ (fun k _ => by omega)).tr Pri.crRv
  · rw [if_neg c]; exact Pri.set _ _ (fun k _ => by omega)
theorem Pri.day {n dy : Nat} {f : Nat → Int32} {cq b : Nat → Nat} {r : Nat → Int32} {q : Int64} : Pri n r (dayR f cq n b dy r q) := by
  unfold dayR
  exact Pri.day2v.tr ((Pri.duesv n).tr (Pri.paysv n))
theorem Pri.dys {n dy : Nat} {f : Nat → Int32} {cq b : Nat → Nat} {r : Nat → Int32} {q : Int64} : ∀ k, Pri n r (dysP f cq n b dy r q k).1
  | 0 => Pri.rf _ _
  | k + 1 => (Pri.dys k).tr Pri.day
/-- a day of the reference is the row's day -/
theorem DyR.is {f : Nat → Int32} {cq b p : Nat → Nat} {n dy : Nat} {r s : Nat → Int32} {q q2 : Int64} (h : BYR n b p r) (d : DyR f cq n dy r q s q2) : Ab (dayR f cq n b dy r q) s ∧ q2 = dayQ dy r q := by
  obtain ⟨r2, hr2, hp⟩ := d
  have e : r2 = day2 dy r q ∧ q2 = dayQ dy r q := by
    unfold day2 dayQ
    rcases hr2 with ⟨c, e1, e2⟩ | ⟨c, e1, e2⟩
    · rw [if_pos c, if_pos c]; exact ⟨e1, e2⟩
    · rw [if_neg c, if_neg c]; exact ⟨e1, e2⟩
  refine ⟨?_, e.2⟩
  rw [e.1] at hp
  unfold dayR
  exact PdR.is (h.pri (Pri.day2v.tr (Pri.duesv n))) hp
theorem DysR.is {f : Nat → Int32} {cq b p : Nat → Nat} {n dy : Nat} {r : Nat → Int32} {q : Int64} (hn : n ≤ 10) (h : BYR n b p r) : ∀ {N : Nat} {s : Nat → Int32} {q2 : Int64}, DysR f cq n N dy r q s q2 → Ab (dysP f cq n b dy r q N).1 s ∧ q2 = (dysP f cq n b dy r q N).2
  | 0, _, _, d => d
  | N + 1, s, q2, d => by
    obtain ⟨t, p1, d1, d2⟩ := d
    obtain ⟨a1, e1⟩ := DysR.is hn h d1
    subst e1
    have hB : BYR n b p t := h.pri ((Pri.dys N).tr (Pri.ab a1 hn))
    obtain ⟨a2, e2⟩ := DyR.is hB d2
    refine ⟨?_, ?_⟩
    · exact (a1.dayRv (dy + N) _ hn (fun j hj => (h.1 j hj).1)).tr a2
    · rw [e2]
      exact a1.dayQv (dy + N) _


theorem RC0.ab {n : Nat} {r s : Nat → Int32} {q : Int64} {i6 i7 i8 : Int32} {i9 i11 : Int64} {i12 i13 i15 i16 i17 i18 i19 : Int32} {kp : Nat} {fs fp ff fd fam : Nat → Int32} (h : RC0 n r q i6 i7 i8 i9 i11 i12 i13 i15 i16 i17 i18 i19 kp fs fp ff fd fam) (a : Ab r s) : RC0 n s q i6 i7 i8 i9 i11 i12 i13 i15 i16 i17 i18 i19 kp fs fp ff fd fam := by
  have hn := h.2.1.1
  have t : ∀ j, j < 86 → j ≠ 9 → tI s j = tI r j := fun j h1 h2 => tI_c (a j h1 h2)
  refine RC0.mk h (WI.cong h.1 (fun j hj => t j (by omega) (by omega)) (fun m i hm hi => t _ (by omega) (by omega))) h.2.1.2 ?_ ?_ ?_ ?_ h.2.2.1.2.2.2.2.1 ?_ ?_ ?_ ?_ ?_ ?_ (fun m hm => ?_)
  · rw [a.at 4 (by omega)]; exact h.2.2.1.1
  · rw [a.at 5 (by omega)]; exact h.2.2.1.2.1
  · rw [a.at 6 (by omega)]; exact h.2.2.1.2.2.1
  · rw [a.at 7 (by omega)]; exact h.2.2.1.2.2.2.1
  · rw [a.at 10 (by omega)]; exact h.2.2.1.2.2.2.2.2.1
  · rw [a.at 0 (by omega)]; exact h.2.2.1.2.2.2.2.2.2.1
  · rw [a.at 1 (by omega)]; exact h.2.2.1.2.2.2.2.2.2.2.1
  · rw [a.at 3 (by omega)]; exact h.2.2.1.2.2.2.2.2.2.2.2.1
  · rw [a.at 12 (by omega)]; exact h.2.2.1.2.2.2.2.2.2.2.2.2.1
  · rw [a.at 15 (by omega)]; exact h.2.2.1.2.2.2.2.2.2.2.2.2.2
  · obtain ⟨b0, b1, b2, b3, b4, b5⟩ := h.2.2.2 m hm
    exact ⟨a.at _ (by omega), (a.at _ (by omega)).trans b1, (a.at _ (by omega)).trans b2, (a.at _ (by omega)).trans b3, (a.at _ (by omega)).trans b4, a.at _ (by omega)⟩
/-- at least K entries are kept -/
def Kge (K : Nat) (r : Nat → Int32) : Prop := ∃ k, r 15 = nI k ∧ k ≤ 60 ∧ K ≤ k
theorem Kge.of {K : Nat} {r s : Nat → Int32} (h : Kge K r) (e : s 15 = r 15) : Kge K s := by
  obtain ⟨k, a, b, c⟩ := h
  exact ⟨k, e.trans a, b, c⟩
theorem Kge.le {K L : Nat} {r : Nat → Int32} (h : Kge K r) (e : L ≤ K) : Kge L r := by
  obtain ⟨k, a, b, c⟩ := h
  exact ⟨k, a, b, by omega⟩
theorem Kge.set {K k : Nat} {r : Nat → Int32} {v : Int32} (h : Kge K r) (hk : k ≠ 15) : Kge K (upd r k v) := h.of (pk_un (fun e => hk e.symm))
theorem Kge.ent {K : Nat} {r : Nat → Int32} {x : Int32} (h : Kge K r) : Kge K (entR x r) := by
  obtain ⟨k, a, b, c⟩ := h
  refine ⟨entN k x, entR_e a b, ?_, ?_⟩
  · unfold entN
    split <;> omega
  · unfold entN
    split <;> omega
theorem Kge.ent1 {K : Nat} {r : Nat → Int32} {x : Int32} (h : Kge K r) (hx : ¬ x = 0) : Kge (min (K + 1) 60) (entR x r) := by
  obtain ⟨k, a, b, c⟩ := h
  refine ⟨entN k x, entR_e a b, ?_, ?_⟩
  · unfold entN
    split <;> omega
  · unfold entN
    rw [if_neg hx]
    omega
theorem Kge.abv {K : Nat} {r s : Nat → Int32} (h : Kge K r) (a : Ab r s) : Kge K s := h.of (a.at 15 (by omega))
theorem Kge.mkPv {K m : Nat} {r : Nat → Int32} {x : Int32} (h : Kge K r) : Kge K (mkP m x r) := by
  unfold mkP
  exact (((h.set (by omega)).set (by omega)).set (by omega)).ent
theorem Kge.clRv {K m : Nat} {r : Nat → Int32} (h : Kge K r) : Kge K (clR m r) := by
  unfold clR
  by_cases c : remR r m = 0
  · rw [if_pos c]; exact h.set (by omega)
  · rw [if_neg c]; exact h
theorem Kge.refRv {K : Nat} {r : Nat → Int32} {x : Int32} (h : Kge K r) : Kge K (refR x r) := by
  unfold refR
  exact ((h.set (by omega)).set (by omega)).ent
theorem Kge.ps {K n m : Nat} {r : Nat → Int32} (h : Kge K r) : Kge K (pstep n m r) := by
  unfold pstep
  by_cases c : ripe r m ∧ 0 < minI (remR r m) (avR r n)
  · rw [if_pos c]; exact h.mkPv.clRv
  · rw [if_neg c]; exact h
theorem Kge.paysv {K n : Nat} {o : Nat → Nat} {r : Nat → Int32} (h : Kge K r) : ∀ k, Kge K (pays n o r k)
  | 0 => h
  | k + 1 => (Kge.paysv h k).ps
theorem Kge.ds {K m : Nat} {f : Nat → Int32} {cq : Nat → Nat} {dn : Int32} {r : Nat → Int32} (h : Kge K r) : Kge K (dstep f cq dn m r) := by
  unfold dstep
  by_cases c : r (16 + 7 * m + 2) = 0 ∧ hdV (hdF r m (r 4) (r 12) dn) f cq m = true
  · rw [if_pos c]; exact (h.set (by omega)).set (by omega)
  · rw [if_neg c]; exact h
theorem Kge.duesv {K : Nat} {f : Nat → Int32} {cq : Nat → Nat} {dn : Int32} {r : Nat → Int32} (h : Kge K r) : ∀ k, Kge K (dues f cq dn r k)
  | 0 => h
  | k + 1 => (Kge.duesv h k).ds
theorem Kge.crRv {K : Nat} {r : Nat → Int32} {p : Int64} (h : Kge K r) : Kge K (crR p r) := by
  unfold crR
  exact ((h.set (by omega)).set (by omega)).ent
theorem Kge.day2v {K dy : Nat} {r : Nat → Int32} {q : Int64} (h : Kge K r) : Kge K (day2 dy r q) := by
  unfold day2
  by_cases c : (dy + 1) % 30 = 0
  · rw [if_pos c]; exact (h.set (by omega)).crRv
  · rw [if_neg c]; exact h.set (by omega)
theorem Kge.dayv {K dy n : Nat} {f : Nat → Int32} {cq b : Nat → Nat} {r : Nat → Int32} {q : Int64} (h : Kge K r) : Kge K (dayR f cq n b dy r q) := by
  unfold dayR
  exact (h.day2v.duesv n).paysv n
/-- the reference's days keep what is kept -/
theorem Kge.DyRv {K dy n : Nat} {f : Nat → Int32} {cq : Nat → Nat} {r s : Nat → Int32} {q q2 : Int64} (h : Kge K r) (d : DyR f cq n dy r q s q2) : Kge K s := by
  obtain ⟨r2, hr2, M, o, -, ha⟩ := d
  have h2 : Kge K r2 := by
    rcases hr2 with ⟨-, e, -⟩ | ⟨-, e, -⟩
    · rw [e]; exact (h.set (by omega)).crRv
    · rw [e]; exact h.set (by omega)
  exact ((h2.duesv n).paysv M).abv ha
theorem Kge.DysRv {K dy n : Nat} {f : Nat → Int32} {cq : Nat → Nat} {r : Nat → Int32} {q : Int64} (h : Kge K r) : ∀ {N : Nat} {s : Nat → Int32} {q2 : Int64}, DysR f cq n N dy r q s q2 → Kge K s
  | 0, _, _, d => h.abv d.1
  | _ + 1, _, _, d => by
    obtain ⟨t, p1, d1, d2⟩ := d
    exact (Kge.DysRv h d1).DyRv d2
/-- how much can be credited at most by c credits -/
def Bd : Nat → Int
  | 0 => 0
  | c + 1 => Bd c + (10000000 + Bd c) / 40 + 2
theorem Bd_pos : ∀ c, 0 ≤ Bd c
  | 0 => Int.le_refl 0
  | c + 1 => by
    have := Bd_pos c
    rw [Bd]
    omega
theorem Bd_add (c : Nat) : ∀ d, Bd c ≤ Bd (c + d)
  | 0 => Int.le_refl _
  | d + 1 => by
    have h1 := Bd_add c d
    have h2 := Bd_pos (c + d)
    show Bd c ≤ Bd (c + d) + (10000000 + Bd (c + d)) / 40 + 2
    omega
theorem Bd_104 : Bd 104 ≤ 1000000000 := by decide +kernel
theorem Bd_cap {c : Nat} (h : c ≤ 104) : Bd c ≤ 1000000000 := by
  have := Bd_add c (104 - c)
  rw [show c + (104 - c) = 104 by omega] at this
  exact Int.le_trans this Bd_104
theorem cr_num {n : Nat} {r : Nat → Int32} {q : Int64} (h : WFa n r q) (hc : Cap0 r) : 0 ≤ (crC q r).toInt ∧ (crC q r).toInt * 3600000 ≤ q.toInt ∧ 0 ≤ (crQ q r).toInt ∧ (crQ q r).toInt ≤ 3650000 ∧ (r 8 + crC q r).toInt = tI r 8 + (crC q r).toInt := by
  have hc1 : tI r 8 ≤ 1000000000 := hc
  obtain ⟨a0, a1, a4, a6, a7, aQ, aS, aM⟩ := h
  have e : ((r 1).toInt64).toInt = tI r 1 := by rw [i_w]; rfl
  have eB : ((10000 : Int64) * (r 1).toInt64).toInt = 10000 * tI r 1 := by rw [l_mul (by rw [zl_10000, e]; omega) (by rw [zl_10000, e]; omega), zl_10000, e]
  have eK : (q / ((10000 : Int64) * (r 1).toInt64)).toInt = q.toInt / (10000 * tI r 1) := by rw [l_div aQ.1, eB]
  have k0 : 0 ≤ q.toInt / (10000 * tI r 1) := Int.ediv_nonneg aQ.1 (by omega)
  have k1 : (q.toInt / (10000 * tI r 1)) * (10000 * tI r 1) ≤ q.toInt := Int.ediv_mul_le _ (by omega)
  have k2 : (q.toInt / (10000 * tI r 1)) * 3600000 ≤ (q.toInt / (10000 * tI r 1)) * (10000 * tI r 1) := Int.mul_le_mul_of_nonneg_left (by omega) k0
  have k3 : q.toInt < (q.toInt / (10000 * tI r 1)) * (10000 * tI r 1) + 10000 * tI r 1 := by
    have := Int.lt_ediv_add_one_mul_self q.toInt (show 0 < 10000 * tI r 1 by omega)
    rw [Int.add_mul, Int.one_mul] at this
    exact this
  have eM2 : (q / ((10000 : Int64) * (r 1).toInt64) * ((10000 : Int64) * (r 1).toInt64)).toInt = (q.toInt / (10000 * tI r 1)) * (10000 * tI r 1) := by rw [l_mul (by rw [eK, eB]; omega) (by rw [eK, eB]; omega), eK, eB]
  unfold crC crQ
  generalize hKe : q.toInt / (10000 * tI r 1) = K at *
  generalize hKB : K * (10000 * tI r 1) = KB at *
  generalize hke : q / ((10000 : Int64) * (r 1).toInt64) = k at *
  generalize hkb : k * ((10000 : Int64) * (r 1).toInt64) = kb at *
  have b2 : K ≤ 30000000 := by omega
  have e32 : (k.toInt32).toInt = K := by
    rw [Int64.toInt_toInt32, eK]
    exact Int.bmod_eq_of_le (by omega) (by omega)
  have eQ2 : (q - kb).toInt = q.toInt - KB := by rw [l_sub (by rw [eM2]; omega) (by rw [eM2]; omega), eM2]
  rw [e32, eQ2]
  refine ⟨k0, by omega, by omega, by omega, ?_⟩
  rw [← e32]
  exact i_add (by rw [e32]; show _ ≤ tI r 8 + _; omega) (by rw [e32]; show tI r 8 + _ ≤ _; omega)
/-- there is an account of the class that is held against the row -/
def RCE (n : Nat) (r : Nat → Int32) (q : Int64) : Prop := ∃ (i6 i7 i8 : Int32) (i9 i11 : Int64) (i12 i13 i15 i16 i17 i18 i19 : Int32) (kp : Nat) (fs fp ff fd fam : Nat → Int32), RC0 n r q i6 i7 i8 i9 i11 i12 i13 i15 i16 i17 i18 i19 kp fs fp ff fd fam
theorem RCE.w {n : Nat} {r : Nat → Int32} {q : Int64} (h : RCE n r q) : WFa n r q := by
  obtain ⟨i6, i7, i8, i9, i11, i12, i13, i15, i16, i17, i18, i19, kp, fs, fp, ff, fd, fam, h⟩ := h
  exact h.1
theorem RCE.n10 {n : Nat} {r : Nat → Int32} {q : Int64} (h : RCE n r q) : n ≤ 10 := by
  obtain ⟨i6, i7, i8, i9, i11, i12, i13, i15, i16, i17, i18, i19, kp, fs, fp, ff, fd, fam, h⟩ := h
  exact h.2.1.1
theorem RCE.ds {n m : Nat} {r : Nat → Int32} {q : Int64} {f : Nat → Int32} {cq : Nat → Nat} {dn : Int32} : ∀ {k : Nat}, k ≤ n → RCE n r q → RCE n (dues f cq dn r k) q
  | 0, _, h => h
  | k + 1, hk, h => by
    obtain ⟨i6, i7, i8, i9, i11, i12, i13, i15, i16, i17, i18, i19, kp, fs, fp, ff, fd, fam, g⟩ := RCE.ds (m := m) (k := k) (f := f) (cq := cq) (dn := dn) (by omega) h
    by_cases c : fs k = 0 ∧ hdV (hdG (i12 + i13) (bI (decide (btC i19 (nI k)))) i6 i18 dn) f cq k = true
    · exact ⟨i6, i7, i8, i9, i11, i12, i13, i15, i16, i17, i18, i19, kp, upd fs k 1, fp, ff, upd fd k i6, fam, g.due_y (by omega) c.1 c.2 rfl rfl⟩
    · exact ⟨i6, i7, i8, i9, i11, i12, i13, i15, i16, i17, i18, i19, kp, fs, fp, ff, fd, fam, g.due_n (by omega) c⟩
theorem RCE.py {n : Nat} {r : Nat → Int32} {q : Int64} {b : Nat → Nat} (hb : ∀ j, j < n → b j < n) : ∀ {k : Nat}, k ≤ n → RCE n r q → RCE n (pays n b r k) q
  | 0, _, h => h
  | k + 1, hk, h => by
    obtain ⟨i6, i7, i8, i9, i11, i12, i13, i15, i16, i17, i18, i19, kp, fs, fp, ff, fd, fam, g⟩ := RCE.py hb (k := k) (by omega) h
    by_cases c : (fs (b k) = 1 ∧ fd (b k) + i17 ≤ i6) ∧ 0 < minI (rmC fs fp fam (b k)) (avC i8 ff n)
    · exact ⟨i6, i7, i8 - minI (rmC fs fp fam (b k)) (avC i8 ff n), i9, i11, i12 + minI (rmC fs fp fam (b k)) (avC i8 ff n), i13, i15, i16, i17, i18, i19, entC kp (minI (rmC fs fp fam (b k)) (avC i8 ff n)), _, upd fp (b k) (fp (b k) + minI (rmC fs fp fam (b k)) (avC i8 ff n)), ff, fd, fam, g.pst_y (hb k (by omega)) c.1 c.2 rfl (by ac_rfl) rfl rfl⟩
    · exact ⟨i6, i7, i8, i9, i11, i12, i13, i15, i16, i17, i18, i19, kp, fs, fp, ff, fd, fam, g.pst_n (hb k (by omega)) c⟩
theorem RCE.d2 {n dy : Nat} {r : Nat → Int32} {q : Int64} (h : RCE n r q) (hd : r 4 = nI dy) (hd1 : dy < 20000) (hc : Cpd r q) : RCE n (day2 dy r q) (dayQ dy r q) := by
  obtain ⟨i6, i7, i8, i9, i11, i12, i13, i15, i16, i17, i18, i19, kp, fs, fp, ff, fd, fam, h⟩ := h
  have g := h.day hd hd1 hc
  unfold day2 dayQ
  by_cases c : (dy + 1) % 30 = 0
  · rw [if_pos c, if_pos c]
    exact ⟨_, _, _, _, _, _, _, _, _, _, _, _, _, _, _, _, _, _, g.cr (Cap0.day hc.1) rfl⟩
  · rw [if_neg c, if_neg c]
    exact ⟨_, _, _, _, _, _, _, _, _, _, _, _, _, _, _, _, _, _, g⟩
theorem RCE.dayv {n dy : Nat} {r : Nat → Int32} {q : Int64} {f : Nat → Int32} {cq b : Nat → Nat} (h : RCE n r q) (hd : r 4 = nI dy) (hd1 : dy < 20000) (hc : Cpd r q) (hb : ∀ j, j < n → b j < n) : RCE n (dayR f cq n b dy r q) (dayQ dy r q) := by
  unfold dayR
  exact RCE.py hb (Nat.le_refl n) (RCE.ds (m := 0) (Nat.le_refl n) (h.d2 hd hd1 hc))
/-- cells that neither dues nor payments touch -/
theorem mkP_c {m j : Nat} {x : Int32} {r : Nat → Int32} (h : j = 4 ∨ j = 8) : mkP m x r j = r j := mkP_o (by omega) (by omega) (by omega) (by omega)
theorem ps_c {n m j : Nat} {r : Nat → Int32} (h : j = 4 ∨ j = 8) : pstep n m r j = r j := by
  unfold pstep
  by_cases c : ripe r m ∧ 0 < minI (remR r m) (avR r n)
  · rw [if_pos c]
    unfold clR
    by_cases d : remR (mkP m (minI (remR r m) (avR r n)) r) m = 0
    · rw [if_pos d, pk_un (by omega), mkP_c h]
    · rw [if_neg d, mkP_c h]
  · rw [if_neg c]
theorem pays_c {n j : Nat} {o : Nat → Nat} {r : Nat → Int32} (h : j = 4 ∨ j = 8) : ∀ k, pays n o r k j = r j
  | 0 => rfl
  | k + 1 => (ps_c h).trans (pays_c h k)
theorem ds_c {m j : Nat} {f : Nat → Int32} {cq : Nat → Nat} {dn : Int32} {r : Nat → Int32} (h : j = 4 ∨ j = 8) : dstep f cq dn m r j = r j := by
  unfold dstep
  by_cases c : r (16 + 7 * m + 2) = 0 ∧ hdV (hdF r m (r 4) (r 12) dn) f cq m = true
  · rw [if_pos c, pk_un (by omega), pk_un (by omega)]
  · rw [if_neg c]
theorem dues_c {j : Nat} {f : Nat → Int32} {cq : Nat → Nat} {dn : Int32} {r : Nat → Int32} (h : j = 4 ∨ j = 8) : ∀ k, dues f cq dn r k j = r j
  | 0 => rfl
  | k + 1 => (ds_c h).trans (dues_c h k)
/-- an account on day dy behind c credits -/
def DI (c dy n : Nat) (r : Nat → Int32) (q : Int64) : Prop := RCE n r q ∧ r 4 = nI dy ∧ q.toInt ≤ 3650000 + ((dy : Int) % 30) * (3000 * (9999999 + tI r 8)) ∧ tI r 8 ≤ Bd c ∧ Kge (min c 60) r
theorem DI.cpd {c dy n : Nat} {r : Nat → Int32} {q : Int64} (h : DI c dy n r q) (hc : c ≤ 104) (hd : dy < 20000) : Cpd r q := by
  refine ⟨Int.le_trans h.2.2.2.1 (Bd_cap hc), ?_⟩
  rw [tI_v h.2.1, i_n (by omega)]
  exact h.2.2.1
theorem DI.dayv {c dy n : Nat} {r : Nat → Int32} {q : Int64} {f : Nat → Int32} {cq b : Nat → Nat} (h : DI c dy n r q) (hc : c ≤ 104) (hd : dy < 20000) (hb : ∀ j, j < n → b j < n) : ∃ c2, c ≤ c2 ∧ c2 ≤ c + ((dy + 1) / 30 - dy / 30) ∧ DI c2 (dy + 1) n (dayR f cq n b dy r q) (dayQ dy r q) := by
  have hp := h.cpd hc hd
  obtain ⟨hE, h4, hQ, h8, hK⟩ := h
  have hE2 := hE.dayv (f := f) (cq := cq) (b := b) h4 hd hp hb
  have hEd := hE.d2 h4 hd hp
  have e4 : dayR f cq n b dy r q 4 = day2 dy r q 4 := (pays_c (Or.inl rfl) n).trans (dues_c (Or.inl rfl) n)
  have e8 : dayR f cq n b dy r q 8 = day2 dy r q 8 := (pays_c (Or.inr rfl) n).trans (dues_c (Or.inr rfl) n)
  have hc1 : tI r 8 ≤ 1000000000 := hp.1
  obtain ⟨a0, a1, a4, a6, a7, aQ, aS, aM⟩ := hE.w
  have pt := (pqQ_toInt hE.w hp.1).1
  have p0 : 0 ≤ (tI r 6 + tI r 7) * tI r 0 := Int.mul_nonneg (by omega) (by omega)
  have p1 : (tI r 6 + tI r 7) * tI r 0 ≤ 3000 * (9999999 + tI r 8) := by
    rw [Int.mul_comm 3000]
    exact Int.mul_le_mul (by omega) (by omega) (by omega) (by omega)
  by_cases c30 : (dy + 1) % 30 = 0
  · have eD : day2 dy r q = crR (pqQ q r) (upd r 4 (nI (dy + 1))) := if_pos c30
    have eQ : dayQ dy r q = crQ (pqQ q r) (upd r 4 (nI (dy + 1))) := if_pos c30
    have hEu : RCE n (upd r 4 (nI (dy + 1))) (pqQ q r) := by
      obtain ⟨i6, i7, i8, i9, i11, i12, i13, i15, i16, i17, i18, i19, kp, fs, fp, ff, fd, fam, g⟩ := hE
      exact ⟨_, _, _, _, _, _, _, _, _, _, _, _, _, _, _, _, _, _, g.day h4 hd hp⟩
    obtain ⟨n0, n1, n2, n3, n8⟩ := cr_num hEu.w (Cap0.day hp.1)
    have u8 : tI (upd r 4 (nI (dy + 1))) 8 = tI r 8 := tI_c (pk_un (by omega))
    have r8 : tI (day2 dy r q) 8 = tI r 8 + (crC (pqQ q r) (upd r 4 (nI (dy + 1)))).toInt := by
      have z : day2 dy r q 8 = upd r 4 (nI (dy + 1)) 8 + crC (pqQ q r) (upd r 4 (nI (dy + 1))) := by
        rw [eD]; unfold crR; exact (entR_n (by omega)).trans pk_us
      rw [tI_v z, n8, u8]
    have r4 : day2 dy r q 4 = nI (dy + 1) := by
      rw [eD]; unfold crR; exact (entR_n (by omega)).trans ((pk_un (by omega)).trans ((pk_un (by omega)).trans pk_us))
    have q3 : (dayQ dy r q).toInt ≤ 3650000 := by rw [eQ]; exact n3
    have dm : (dy + 1) / 30 - dy / 30 = 1 := by omega
    have m0 : (((dy + 1 : Nat) : Int) % 30) = 0 := by omega
    have hQ2 : (dayQ dy r q).toInt ≤ 3650000 + (((dy + 1 : Nat) : Int) % 30) * (3000 * (9999999 + tI (dayR f cq n b dy r q) 8)) := by rw [m0, Int.zero_mul]; omega
    have dm29 : (dy : Int) % 30 = 29 := by omega
    rw [dm29] at hQ
    by_cases z : crC (pqQ q r) (upd r 4 (nI (dy + 1))) = 0
    · refine ⟨c, Nat.le_refl c, by omega, hE2, e4.trans r4, hQ2, ?_, hK.dayv⟩
      rw [tI_c e8, r8, z, z_0]
      omega
    · refine ⟨c + 1, by omega, by omega, hE2, e4.trans r4, hQ2, ?_, ?_⟩
      · rw [tI_c e8, r8, Bd]
        rw [pt] at n1
        generalize (tI r 6 + tI r 7) * tI r 0 = Y at *
        omega
      · have k1 : Kge (min (c + 1) 60) (day2 dy r q) := by
          rw [eD]
          unfold crR
          exact Kge.le (Kge.ent1 (((hK.set (by omega)).set (by omega)).set (by omega)) z) (by omega)
        unfold dayR
        exact (k1.duesv n).paysv n
  · have eD : day2 dy r q = upd r 4 (nI (dy + 1)) := if_neg c30
    have eQ : dayQ dy r q = pqQ q r := if_neg c30
    have r4 : day2 dy r q 4 = nI (dy + 1) := by rw [eD]; exact pk_us
    have r8 : tI (dayR f cq n b dy r q) 8 = tI r 8 := by rw [tI_c e8, eD]; exact tI_c (pk_un (by omega))
    refine ⟨c, Nat.le_refl c, by omega, hE2, e4.trans r4, ?_, ?_, hK.dayv⟩
    · rw [r8, eQ, pt]
      have m1 : (((dy + 1 : Nat) : Int) % 30) = (dy : Int) % 30 + 1 := by omega
      rw [m1, Int.add_mul ((dy : Int) % 30) 1, Int.one_mul]
      generalize ((dy : Int) % 30) * (3000 * (9999999 + tI r 8)) = Z at *
      generalize (tI r 6 + tI r 7) * tI r 0 = Y at *
      omega
    · rw [r8]; exact h8
theorem DI.days {c dy n : Nat} {r : Nat → Int32} {q : Int64} {f : Nat → Int32} {cq b : Nat → Nat} (h : DI c dy n r q) (hc : c ≤ 100) (hb : ∀ j, j < n → b j < n) : ∀ {N : Nat}, N ≤ 120 → dy + N ≤ 20000 → ∃ c2, c ≤ c2 ∧ c2 ≤ c + ((dy + N) / 30 - dy / 30) ∧ DI c2 (dy + N) n (dysP f cq n b dy r q N).1 (dysP f cq n b dy r q N).2
  | 0, _, _ => ⟨c, Nat.le_refl c, by omega, h⟩
  | N + 1, hN, hd => by
    obtain ⟨c1, l1, l2, g⟩ := DI.days h hc hb (N := N) (by omega) (by omega)
    obtain ⟨c2, l3, l4, g2⟩ := g.dayv (f := f) (cq := cq) (b := b) (by omega) (by omega) hb
    exact ⟨c2, by omega, by omega, g2⟩
/-- before a pass of at most 120 days all its days keep the bounds -/
theorem DI.capN {c dy n : Nat} {r : Nat → Int32} {q : Int64} {f : Nat → Int32} {cq b : Nat → Nat} (h : DI c dy n r q) (hc : c ≤ 100) (hb : ∀ j, j < n → b j < n) (hd : dy ≤ 9999) : CapN False f cq n b dy 120 r q := fun k hk _ => by
  obtain ⟨c1, l1, l2, g⟩ := DI.days (f := f) (cq := cq) h hc hb (N := k) (by omega) (by omega)
  exact g.cpd (by omega) (by omega)
theorem CapN.sat {f : Nat → Int32} {cq b : Nat → Nat} {dy N n : Nat} {r : Nat → Int32} {q : Int64} {sm : Prop} (h : sm) : CapN sm f cq n b dy N r q := fun _ _ ns => absurd h ns

/-- a code: its kind and its value (a number, or a name) -/
abbrev Cd9 := Int32 × Int64
def cb (x : Option (Nat × List Cd9)) (k : Nat → List Cd9 → Option (Nat × List Cd9)) : Option (Nat × List Cd9) :=
  match x with
  | none => none
  | some p => k p.1 p.2
/-- the codes of a condition, the operands first: 0 a fact, 1 facts joined by and, 2 what follows the first of them, 3 those joined by or, 4 what follows -/
def pc (K : Nat → Int32) (V : Nat → Int64) : Nat → Nat → Nat → Option (Nat × List Cd9)
  | 0, _, _ => none
  | f + 1, m, i =>
    if m = 0 then
      if K i = 5 then cb (pc K V f 3 (i + 1)) (fun j c => some (j + 1, c))
      else if K i = 16 then cb (pc K V f 0 (i + 1)) (fun j c => some (j, c ++ [(16, 0)]))
      else if K i = 21 ∨ K i = 22 then some (i + 1, [(K i, 0)])
      else some (i + 2, [(K i, V (i + 1))])
    else if m = 1 then cb (pc K V f 0 i) (fun j c => cb (pc K V f 2 j) (fun j2 c2 => some (j2, c ++ c2)))
    else if m = 2 then (if K i = 15 then cb (pc K V f 0 (i + 1)) (fun j c => cb (pc K V f 2 j) (fun j2 c2 => some (j2, c ++ (15, 0) :: c2))) else some (i, []))
    else if m = 3 then cb (pc K V f 1 i) (fun j c => cb (pc K V f 4 j) (fun j2 c2 => some (j2, c ++ c2)))
    else (if K i = 14 then cb (pc K V f 1 (i + 1)) (fun j c => cb (pc K V f 4 j) (fun j2 c2 => some (j2, c ++ (14, 0) :: c2))) else some (i, []))
theorem cb_mono {x y : Option (Nat × List Cd9)} {k g : Nat → List Cd9 → Option (Nat × List Cd9)} {r : Nat × List Cd9} (h1 : ∀ r, x = some r → y = some r) (h2 : ∀ j c r, k j c = some r → g j c = some r) (h : cb x k = some r) : cb y g = some r := by
  cases x with
  | none => exact nomatch (show (none : Option (Nat × List Cd9)) = some r from h)
  | some z => rw [h1 z rfl]; exact h2 _ _ _ h
theorem pc_mono {K : Nat → Int32} {V : Nat → Int64} : ∀ (f m i : Nat) (r : Nat × List Cd9), pc K V f m i = some r → pc K V (f + 1) m i = some r := by
  intro f
  induction f with
  | zero => intro m i r h; exact nomatch (show (none : Option (Nat × List Cd9)) = some r from h)
  | succ f ih =>
    intro m i r h
    rw [pc] at h ⊢
    have g : ∀ m i r, pc K V f m i = some r → pc K V (f + 1) m i = some r := fun m i r h => ih m i r h
    exact it_mono (it_mono (cb_mono (fun r h => g _ _ r h) (fun _ _ _ h => h)) (it_mono (cb_mono (fun r h => g _ _ r h) (fun _ _ _ h => h)) (it_mono id id))) (it_mono (cb_mono (fun r h => g _ _ r h) (fun _ _ _ h => cb_mono (fun r h => g _ _ r h) (fun _ _ _ h => h) h)) (it_mono (it_mono (cb_mono (fun r h => g _ _ r h) (fun _ _ _ h => cb_mono (fun r h => g _ _ r h) (fun _ _ _ h => h) h)) id) (it_mono (cb_mono (fun r h => g _ _ r h) (fun _ _ _ h => cb_mono (fun r h => g _ _ r h) (fun _ _ _ h => h) h)) (it_mono (cb_mono (fun r h => g _ _ r h) (fun _ _ _ h => cb_mono (fun r h => g _ _ r h) (fun _ _ _ h => h) h)) id)))) h
theorem pc_le {K : Nat → Int32} {V : Nat → Int64} {f m i : Nat} {r : Nat × List Cd9} (h : pc K V f m i = some r) : ∀ g, pc K V (f + g) m i = some r := by
  intro g
  induction g with
  | zero => exact h
  | succ g ih => exact pc_mono _ _ _ _ ih
def PC (K : Nat → Int32) (V : Nat → Int64) (m i j : Nat) (c : List Cd9) : Prop := ∃ f, pc K V f m i = some (j, c)
theorem PC.det {K : Nat → Int32} {V : Nat → Int64} {m i j j2 : Nat} {c c2 : List Cd9} (h : PC K V m i j c) (h2 : PC K V m i j2 c2) : j = j2 ∧ c = c2 := by
  obtain ⟨f, h⟩ := h
  obtain ⟨g, h2⟩ := h2
  have a := pc_le h g
  have b := pc_le h2 f
  rw [Nat.add_comm] at b
  rw [a] at b
  exact ⟨(Prod.mk.inj (Option.some.inj b)).1, (Prod.mk.inj (Option.some.inj b)).2⟩
theorem C_open {K : Nat → Int32} {V : Nat → Int64} {i j : Nat} {c : List Cd9} (h : K i = 5) (h1 : PC K V 3 (i + 1) j c) : PC K V 0 i (j + 1) c := by
  obtain ⟨f, h1⟩ := h1
  exact ⟨f + 1, by rw [pc, if_pos rfl, if_pos h, h1]; rfl⟩
theorem C_not {K : Nat → Int32} {V : Nat → Int64} {i j : Nat} {c : List Cd9} (h : K i = 16) (h1 : PC K V 0 (i + 1) j c) : PC K V 0 i j (c ++ [(16, 0)]) := by
  obtain ⟨f, h1⟩ := h1
  exact ⟨f + 1, by rw [pc, if_pos rfl, if_neg (by rw [h]; decide), if_pos h, h1]; rfl⟩
theorem C_plain {K : Nat → Int32} {V : Nat → Int64} {i : Nat} (h : K i = 21 ∨ K i = 22) : PC K V 0 i (i + 1) [(K i, 0)] :=
  ⟨0 + 1, by rw [pc, if_pos rfl, if_neg (by rcases h with z | z <;> rw [z] <;> decide), if_neg (by rcases h with z | z <;> rw [z] <;> decide), if_pos h]⟩
theorem C_two {K : Nat → Int32} {V : Nat → Int64} {i : Nat} {k : Int32} (h : K i = k) (hk : k = 17 ∨ k = 18 ∨ k = 19 ∨ k = 20) : PC K V 0 i (i + 2) [(k, V (i + 1))] := by
  refine ⟨0 + 1, ?_⟩
  rw [pc, if_pos rfl]
  rw [h]
  rcases hk with z | z | z | z <;> (rw [z]; rfl)
theorem C_both {K : Nat → Int32} {V : Nat → Int64} {i j k : Nat} {c c2 : List Cd9} (h1 : PC K V 0 i j c) (h2 : PC K V 2 j k c2) : PC K V 1 i k (c ++ c2) := by
  obtain ⟨f, h1⟩ := h1
  obtain ⟨g, h2⟩ := h2
  refine ⟨f + g + 1, ?_⟩
  have b := pc_le h2 f
  rw [Nat.add_comm] at b
  rw [pc, if_neg (by decide), if_pos rfl, pc_le h1 g]
  show cb (pc K V (f + g) 2 j) (fun j2 c2 => some (j2, c ++ c2)) = _
  rw [b]
  rfl
theorem C_and {K : Nat → Int32} {V : Nat → Int64} {i j k : Nat} {c c2 : List Cd9} (h : K i = 15) (h1 : PC K V 0 (i + 1) j c) (h2 : PC K V 2 j k c2) : PC K V 2 i k (c ++ (15, 0) :: c2) := by
  obtain ⟨f, h1⟩ := h1
  obtain ⟨g, h2⟩ := h2
  refine ⟨f + g + 1, ?_⟩
  have b := pc_le h2 f
  rw [Nat.add_comm] at b
  rw [pc, if_neg (by decide), if_neg (by decide), if_pos rfl, if_pos h, pc_le h1 g]
  show cb (pc K V (f + g) 2 j) (fun j2 c2 => some (j2, c ++ (15, 0) :: c2)) = _
  rw [b]
  rfl
theorem C_cond {K : Nat → Int32} {V : Nat → Int64} {i j k : Nat} {c c2 : List Cd9} (h1 : PC K V 1 i j c) (h2 : PC K V 4 j k c2) : PC K V 3 i k (c ++ c2) := by
  obtain ⟨f, h1⟩ := h1
  obtain ⟨g, h2⟩ := h2
  refine ⟨f + g + 1, ?_⟩
  have b := pc_le h2 f
  rw [Nat.add_comm] at b
  rw [pc, if_neg (by decide), if_neg (by decide), if_neg (by decide), if_pos rfl, pc_le h1 g]
  show cb (pc K V (f + g) 4 j) (fun j2 c2 => some (j2, c ++ c2)) = _
  rw [b]
  rfl
theorem C_or {K : Nat → Int32} {V : Nat → Int64} {i j k : Nat} {c c2 : List Cd9} (h : K i = 14) (h1 : PC K V 1 (i + 1) j c) (h2 : PC K V 4 j k c2) : PC K V 4 i k (c ++ (14, 0) :: c2) := by
  obtain ⟨f, h1⟩ := h1
  obtain ⟨g, h2⟩ := h2
  refine ⟨f + g + 1, ?_⟩
  have b := pc_le h2 f
  rw [Nat.add_comm] at b
  rw [pc, if_neg (by decide), if_neg (by decide), if_neg (by decide), if_neg (by decide), if_pos h, pc_le h1 g]
  show cb (pc K V (f + g) 4 j) (fun j2 c2 => some (j2, c ++ (14, 0) :: c2)) = _
  rw [b]
  rfl
theorem C_end2 {K : Nat → Int32} {V : Nat → Int64} {i : Nat} (h : ¬ K i = 15) : PC K V 2 i i [] := ⟨0 + 1, by rw [pc, if_neg (by decide), if_neg (by decide), if_pos rfl, if_neg h]⟩
theorem C_end4 {K : Nat → Int32} {V : Nat → Int64} {i : Nat} (h : ¬ K i = 14) : PC K V 4 i i [] := ⟨0 + 1, by rw [pc, if_neg (by decide), if_neg (by decide), if_neg (by decide), if_neg (by decide), if_neg h]⟩
/-- ci are the codes from i to ii; what follows is read on from there -/
def Cc9 (K : Nat → Int32) (V : Nat → Int64) (m i m2 ii : Nat) (ci : List Cd9) : Prop := ∀ k c, PC K V m2 ii k c → PC K V m i k (ci ++ c)
theorem Cc9.both {K : Nat → Int32} {V : Nat → Int64} {i j : Nat} {c : List Cd9} (h : PC K V 0 i j c) : Cc9 K V 1 i 2 j c := fun _ _ h2 => C_both h h2
theorem Cc9.cond {K : Nat → Int32} {V : Nat → Int64} {i j : Nat} {c : List Cd9} (h : PC K V 1 i j c) : Cc9 K V 3 i 4 j c := fun _ _ h2 => C_cond h h2
theorem Cc9.and {K : Nat → Int32} {V : Nat → Int64} {m i ii j : Nat} {ci c : List Cd9} (h : Cc9 K V m i 2 ii ci) (hk : K ii = 15) (h1 : PC K V 0 (ii + 1) j c) : Cc9 K V m i 2 j (ci ++ c ++ [(15, 0)]) := fun k c2 h2 => by
  have z := h k _ (C_and hk h1 h2)
  rw [List.append_assoc, List.append_assoc]
  exact z
theorem Cc9.or {K : Nat → Int32} {V : Nat → Int64} {m i ii j : Nat} {ci c : List Cd9} (h : Cc9 K V m i 4 ii ci) (hk : K ii = 14) (h1 : PC K V 1 (ii + 1) j c) : Cc9 K V m i 4 j (ci ++ c ++ [(14, 0)]) := fun k c2 h2 => by
  have z := h k _ (C_or hk h1 h2)
  rw [List.append_assoc, List.append_assoc]
  exact z
theorem Cc9.end2 {K : Nat → Int32} {V : Nat → Int64} {m i ii : Nat} {ci : List Cd9} (h : Cc9 K V m i 2 ii ci) (hk : ¬ K ii = 15) : PC K V m i ii ci := by
  have z := h ii [] (C_end2 hk)
  rw [List.append_nil] at z
  exact z
theorem Cc9.end4 {K : Nat → Int32} {V : Nat → Int64} {m i ii : Nat} {ci : List Cd9} (h : Cc9 K V m i 4 ii ci) (hk : ¬ K ii = 14) : PC K V m i ii ci := by
  have z := h ii [] (C_end4 hk)
  rw [List.append_nil] at z
  exact z
/-- where a name stands first in a list -/
def fi9 : List Int64 → Int64 → Nat
  | [], _ => 0
  | a :: l, v => if a = v then 0 else fi9 l v + 1
theorem fi9_lt {v : Int64} : ∀ {l : List Int64}, v ∈ l → fi9 l v < l.length
  | [], h => absurd h List.not_mem_nil
  | a :: l, h => by
    rw [fi9]
    by_cases c : a = v
    · rw [if_pos c]; exact Nat.succ_pos _
    · rw [if_neg c]
      exact Nat.succ_lt_succ (fi9_lt ((List.mem_cons.mp h).resolve_left (fun e => c e.symm)))
theorem fi9_app {v : Int64} {t : List Int64} : ∀ {l : List Int64}, v ∈ l → fi9 (l ++ t) v = fi9 l v
  | [], h => absurd h List.not_mem_nil
  | a :: l, h => by
    show fi9 (a :: (l ++ t)) v = _
    rw [fi9, fi9]
    by_cases c : a = v
    · rw [if_pos c, if_pos c]
    · rw [if_neg c, if_neg c, fi9_app ((List.mem_cons.mp h).resolve_left (fun e => c e.symm))]
theorem fi9_at {v : Int64} : ∀ {l : List Int64} {n : Nat}, l[n]? = some v → (∀ j, j < n → l[j]? ≠ some v) → fi9 l v = n
  | [], n, h, _ => by rw [List.getElem?_nil] at h; exact nomatch h
  | a :: l, 0, h, _ => by
    rw [fi9, if_pos (Option.some.inj h)]
  | a :: l, n + 1, h, hn => by
    have c : a ≠ v := fun e => hn 0 (Nat.succ_pos _) (by rw [e]; rfl)
    rw [fi9, if_neg c, fi9_at (l := l) (n := n) h (fun j hj => hn (j + 1) (Nat.succ_lt_succ hj))]
theorem fi9_new {v : Int64} : ∀ {l : List Int64}, ¬ v ∈ l → fi9 (l ++ [v]) v = l.length
  | [], _ => if_pos rfl
  | a :: l, h => by
    show fi9 (a :: (l ++ [v])) v = _
    have c : a ≠ v := fun e => h (by rw [e]; exact List.mem_cons_self)
    rw [fi9, if_neg c, fi9_new (l := l) (fun q => h (List.mem_cons_of_mem _ q))]
    rfl
/-- a code as the reference has it -/
def enc9 (ml pl : List Int64) (p : Cd9) : Int32 :=
  if p.1 = 16 then -3 else if p.1 = 15 then -1 else if p.1 = 14 then -2 else if p.1 = 17 then p.2.toInt32 else if p.1 = 18 then nI (100000 + fi9 pl p.2) else if p.1 = 19 then nI (200000 + fi9 ml p.2) else if p.1 = 20 then 300000 + p.2.toInt32 else if p.1 = 21 then nI 400000 else nI 500000
/-- a code that can stand there -/
def OkC (ml pl : List Int64) (p : Cd9) : Prop := (p.1 = 14 ∨ p.1 = 15 ∨ p.1 = 16 ∨ p.1 = 21 ∨ p.1 = 22) ∨ ((p.1 = 17 ∨ p.1 = 20) ∧ ∃ v, v < 100000 ∧ p.2 = lN v) ∨ (p.1 = 18 ∧ p.2 ∈ pl ∧ pl.length ≤ 8) ∨ (p.1 = 19 ∧ p.2 ∈ ml ∧ ml.length ≤ 10)
def Ext9 (pl pl2 : List Int64) : Prop := ∃ t, pl2 = pl ++ t
theorem Ext9.rf (pl : List Int64) : Ext9 pl pl := ⟨[], (List.append_nil pl).symm⟩
theorem Ext9.tr {a b c : List Int64} (h : Ext9 a b) (g : Ext9 b c) : Ext9 a c := by
  obtain ⟨t, e⟩ := h
  obtain ⟨u, f⟩ := g
  exact ⟨t ++ u, by rw [f, e, List.append_assoc]⟩
theorem OkC.ext {ml ml2 pl pl2 : List Int64} {p : Cd9} (h : OkC ml pl p) (g1 : Ext9 ml ml2) (g2 : Ext9 pl pl2) (l1 : ml2.length ≤ 10) (l2 : pl2.length ≤ 8) : OkC ml2 pl2 p ∧ enc9 ml2 pl2 p = enc9 ml pl p := by
  obtain ⟨t, e⟩ := g1
  obtain ⟨u, f⟩ := g2
  subst e f
  rcases h with h | h | ⟨h, h2, h3⟩ | ⟨h, h2, h3⟩
  · refine ⟨Or.inl h, ?_⟩
    unfold enc9
    rcases h with z | z | z | z | z <;> (rw [z]; rfl)
  · refine ⟨Or.inr (Or.inl h), ?_⟩
    unfold enc9
    rcases h.1 with z | z <;> (rw [z]; rfl)
  · refine ⟨Or.inr (Or.inr (Or.inl ⟨h, List.mem_append_left _ h2, l2⟩)), ?_⟩
    unfold enc9
    rw [fi9_app h2, h]
    rfl
  · refine ⟨Or.inr (Or.inr (Or.inr ⟨h, List.mem_append_left _ h2, l1⟩)), ?_⟩
    unfold enc9
    rw [fi9_app h2, h]
    rfl
/-- the class's steps from a on say what the codes are -/
def CdC (ml pl : List Int64) (a : Nat) (cs : List Cd9) (f g : Nat → Int32) : Prop := ∀ k p, cs[k]? = some p → OkC ml pl p ∧ EncS (f (a + k)) (g (a + k)) (enc9 ml pl p)
/-- the reference's codes from a on -/
def CdR (ml pl : List Int64) (a : Nat) (cs : List Cd9) (f : Nat → Int32) : Prop := ∀ k p, cs[k]? = some p → OkC ml pl p ∧ f (a + k) = enc9 ml pl p
def KpC (n : Nat) (f g f2 g2 : Nat → Int32) : Prop := ∀ k, k < n → f2 k = f k ∧ g2 k = g k
theorem KpC.rf (n : Nat) (f g : Nat → Int32) : KpC n f g f g := fun _ _ => ⟨rfl, rfl⟩
theorem KpC.tr {n m : Nat} {f g f2 g2 f3 g3 : Nat → Int32} (h : KpC n f g f2 g2) (h2 : KpC m f2 g2 f3 g3) (e : n ≤ m) : KpC n f g f3 g3 := fun k hk => ⟨(h2 k (by omega)).1.trans (h k hk).1, (h2 k (by omega)).2.trans (h k hk).2⟩
theorem KpC.put {n : Nat} {f g f2 g2 : Nat → Int32} {a b : Int32} (h1 : Upp n a f f2) (h2 : Upp n b g g2) : KpC n f g f2 g2 := fun k hk => by
  unfold Upp at h1 h2
  rw [h1, h2]
  exact ⟨pk_un (by omega), pk_un (by omega)⟩
theorem CdC.nil (ml pl : List Int64) (a : Nat) (f g : Nat → Int32) : CdC ml pl a [] f g := fun k p h => by rw [List.getElem?_nil] at h; exact nomatch h
theorem CdC.keep {ml pl : List Int64} {a n : Nat} {cs : List Cd9} {f g f2 g2 : Nat → Int32} (h : CdC ml pl a cs f g) (k9 : KpC n f g f2 g2) (e : a + cs.length ≤ n) : CdC ml pl a cs f2 g2 := fun k p hp => by
  have hl : k < cs.length := (List.getElem?_eq_some_iff.mp hp).1
  rw [(k9 (a + k) (by omega)).1, (k9 (a + k) (by omega)).2]
  exact h k p hp
theorem CdC.ext {ml ml2 pl pl2 : List Int64} {a : Nat} {cs : List Cd9} {f g : Nat → Int32} (h : CdC ml pl a cs f g) (g1 : Ext9 ml ml2) (g2 : Ext9 pl pl2) (l1 : ml2.length ≤ 10) (l2 : pl2.length ≤ 8) : CdC ml2 pl2 a cs f g := fun k p hp => by
  obtain ⟨h1, h2⟩ := h k p hp
  obtain ⟨e1, e2⟩ := h1.ext g1 g2 l1 l2
  exact ⟨e1, by rw [e2]; exact h2⟩
theorem CdC.app {ml pl : List Int64} {a b : Nat} {c1 c2 : List Cd9} {f g : Nat → Int32} (h : CdC ml pl a c1 f g) (h2 : CdC ml pl b c2 f g) (e : b = a + c1.length) : CdC ml pl a (c1 ++ c2) f g := fun k p hp => by
  by_cases q : k < c1.length
  · rw [List.getElem?_append_left q] at hp
    exact h k p hp
  · rw [List.getElem?_append_right (by omega)] at hp
    have z := h2 (k - c1.length) p hp
    rw [show b + (k - c1.length) = a + k by omega] at z
    exact z
theorem CdC.one {ml pl : List Int64} {a : Nat} {p : Cd9} {f g f2 g2 : Nat → Int32} {x y : Int32} (h1 : Upp a x f f2) (h2 : Upp a y g g2) (ho : OkC ml pl p) (he : EncS x y (enc9 ml pl p)) : CdC ml pl a [p] f2 g2 := fun k q hq => by
  match k, hq with
  | 0, hq =>
    have e : p = q := Option.some.inj hq
    subst e
    unfold Upp at h1 h2
    rw [h1, h2, Nat.add_zero, pk_us, pk_us]
    exact ⟨ho, he⟩
  | k + 1, hq => exact nomatch (show (none : Option Cd9) = some q from hq)
theorem CdR.nil (ml pl : List Int64) (a : Nat) (f : Nat → Int32) : CdR ml pl a [] f := fun k p h => by rw [List.getElem?_nil] at h; exact nomatch h
theorem CdR.keep {ml pl : List Int64} {a n : Nat} {cs : List Cd9} {f f2 : Nat → Int32} (h : CdR ml pl a cs f) (k9 : ∀ k, k < n → f2 k = f k) (e : a + cs.length ≤ n) : CdR ml pl a cs f2 := fun k p hp => by
  have hl : k < cs.length := (List.getElem?_eq_some_iff.mp hp).1
  rw [k9 (a + k) (by omega)]
  exact h k p hp
theorem CdR.ext {ml ml2 pl pl2 : List Int64} {a : Nat} {cs : List Cd9} {f : Nat → Int32} (h : CdR ml pl a cs f) (g1 : Ext9 ml ml2) (g2 : Ext9 pl pl2) (l1 : ml2.length ≤ 10) (l2 : pl2.length ≤ 8) : CdR ml2 pl2 a cs f := fun k p hp => by
  obtain ⟨h1, h2⟩ := h k p hp
  obtain ⟨e1, e2⟩ := h1.ext g1 g2 l1 l2
  exact ⟨e1, by rw [e2]; exact h2⟩
theorem CdR.app {ml pl : List Int64} {a b : Nat} {c1 c2 : List Cd9} {f : Nat → Int32} (h : CdR ml pl a c1 f) (h2 : CdR ml pl b c2 f) (e : b = a + c1.length) : CdR ml pl a (c1 ++ c2) f := fun k p hp => by
  by_cases q : k < c1.length
  · rw [List.getElem?_append_left q] at hp
    exact h k p hp
  · rw [List.getElem?_append_right (by omega)] at hp
    have z := h2 (k - c1.length) p hp
    rw [show b + (k - c1.length) = a + k by omega] at z
    exact z
theorem CdR.one {ml pl : List Int64} {a : Nat} {p : Cd9} {f f2 : Nat → Int32} {x : Int32} (h1 : Em a x f f2) (ho : OkC ml pl p) (he : x = enc9 ml pl p) : CdR ml pl a [p] f2 := fun k q hq => by
  match k, hq with
  | 0, hq =>
    have e : p = q := Option.some.inj hq
    subst e
    rw [Nat.add_zero, h1.1]
    exact ⟨ho, he⟩
  | k + 1, hq => exact nomatch (show (none : Option Cd9) = some q from hq)
/-- both sides' codes are the same -/
theorem CdC.ce {ml pl : List Int64} {a : Nat} {cs : List Cd9} {f g h : Nat → Int32} (h1 : CdC ml pl a cs f g) (h2 : CdR ml pl a cs h) : ∀ k, k < cs.length → EncS (f (a + k)) (g (a + k)) (h (a + k)) := fun k hk => by
  have e : cs[k]? = some cs[k] := List.getElem?_eq_getElem hk
  rw [(h2 k _ e).2]
  exact (h1 k _ e).2

/-- what a text defines: rate, basis, grace; the deposits; the milestones' amounts, priorities, codes -/
abbrev Ct9 := (Int64 × Int64 × Int64) × List Int64 × List (Int64 × Int64 × List Cd9)
def stc (K : Nat → Int32) (V : Nat → Int64) (f i : Nat) (C : Ct9) : Option (Nat × Ct9) :=
  if K i = 8 then some (i + 3, ((V (i + 1), V (i + 2), C.1.2.2), C.2))
  else if K i = 9 then some (i + 2, C)
  else if K i = 10 then some (i + 2, ((C.1.1, C.1.2.1, V (i + 1)), C.2))
  else if K i = 11 then some (i + 2, (C.1, C.2.1 ++ [V (i + 1)], C.2.2))
  else match pc K V f 3 (i + 5) with
    | none => none
    | some p => some (p.1, (C.1, C.2.1, C.2.2 ++ [(V (i + 2), V (i + 3), p.2)]))
theorem stc_mono {K : Nat → Int32} {V : Nat → Int64} {f i : Nat} {C : Ct9} {r : Nat × Ct9} (h : stc K V f i C = some r) : stc K V (f + 1) i C = some r := by
  unfold stc at h ⊢
  refine it_mono id (it_mono id (it_mono id (it_mono id (fun h => ?_)))) h
  cases hp : pc K V f 3 (i + 5) with
  | none => rw [hp] at h; exact nomatch h
  | some p => rw [hp] at h; rw [pc_mono _ _ _ _ hp]; exact h
theorem stc_le {K : Nat → Int32} {V : Nat → Int64} {f i : Nat} {C : Ct9} {r : Nat × Ct9} (h : stc K V f i C = some r) : ∀ g, stc K V (f + g) i C = some r := by
  intro g
  induction g with
  | zero => exact h
  | succ g ih => exact stc_mono ih
def SC9 (K : Nat → Int32) (V : Nat → Int64) (i : Nat) (C : Ct9) (j : Nat) (C2 : Ct9) : Prop := ∃ f, stc K V f i C = some (j, C2)
def ptc (K : Nat → Int32) (V : Nat → Int64) : Nat → Nat → Ct9 → Option Ct9
  | 0, _, _ => none
  | f + 1, i, C =>
    if K i = 1 then some C
    else match stc K V f i C with
      | none => none
      | some p => ptc K V f (p.1 + 1) p.2
theorem ptc_mono {K : Nat → Int32} {V : Nat → Int64} : ∀ (f i : Nat) (C r : Ct9), ptc K V f i C = some r → ptc K V (f + 1) i C = some r := by
  intro f
  induction f with
  | zero => intro i C r h; exact nomatch (show (none : Option Ct9) = some r from h)
  | succ f ih =>
    intro i C r h
    rw [ptc] at h ⊢
    by_cases q : K i = 1
    · rw [if_pos q] at h ⊢; exact h
    · rw [if_neg q] at h ⊢
      cases hs : stc K V f i C with
      | none => rw [hs] at h; exact nomatch (show (none : Option Ct9) = some r from h)
      | some z =>
        rw [hs] at h
        rw [stc_mono hs]
        exact ih _ _ _ h
theorem ptc_le {K : Nat → Int32} {V : Nat → Int64} {f i : Nat} {C r : Ct9} (h : ptc K V f i C = some r) : ∀ g, ptc K V (f + g) i C = some r := by
  intro g
  induction g with
  | zero => exact h
  | succ g ih => exact ptc_mono _ _ _ _ ih
def TC9 (K : Nat → Int32) (V : Nat → Int64) (i : Nat) (C C2 : Ct9) : Prop := ∃ f, ptc K V f i C = some C2
theorem TC9.det {K : Nat → Int32} {V : Nat → Int64} {i : Nat} {C C2 C3 : Ct9} (h : TC9 K V i C C2) (h2 : TC9 K V i C C3) : C2 = C3 := by
  obtain ⟨f, h⟩ := h
  obtain ⟨g, h2⟩ := h2
  have a := ptc_le h g
  have b := ptc_le h2 f
  rw [Nat.add_comm] at b
  rw [a] at b
  exact Option.some.inj b
theorem TC9.fin {K : Nat → Int32} {V : Nat → Int64} {i : Nat} {C : Ct9} (h : K i = 1) : TC9 K V i C C := ⟨0 + 1, by rw [ptc, if_pos h]⟩
theorem TC9.go {K : Nat → Int32} {V : Nat → Int64} {i j : Nat} {C C2 C3 : Ct9} (h : ¬ K i = 1) (h1 : SC9 K V i C j C2) (h2 : TC9 K V (j + 1) C2 C3) : TC9 K V i C C3 := by
  obtain ⟨f, h1⟩ := h1
  obtain ⟨g, h2⟩ := h2
  refine ⟨f + g + 1, ?_⟩
  rw [ptc, if_neg h, stc_le h1 g]
  show ptc K V (f + g) (j + 1) C2 = some C3
  rw [Nat.add_comm]
  exact ptc_le h2 f
def Tc9 (K : Nat → Int32) (V : Nat → Int64) (i : Nat) (C : Ct9) (ii : Nat) (Ci : Ct9) : Prop := ∀ C3, TC9 K V ii Ci C3 → TC9 K V i C C3
theorem Tc9.zero {K : Nat → Int32} {V : Nat → Int64} {i : Nat} {C : Ct9} : Tc9 K V i C i C := fun _ h => h
theorem Tc9.go {K : Nat → Int32} {V : Nat → Int64} {i ii j : Nat} {C Ci C2 : Ct9} (h : Tc9 K V i C ii Ci) (hn : ¬ K ii = 1) (h1 : SC9 K V ii Ci j C2) : Tc9 K V i C (j + 1) C2 := fun C3 h3 => h C3 (TC9.go hn h1 h3)
theorem SC9.rate {K : Nat → Int32} {V : Nat → Int64} {i : Nat} {C : Ct9} (h : K i = 8) : SC9 K V i C (i + 3) ((V (i + 1), V (i + 2), C.1.2.2), C.2) := ⟨0, by unfold stc; rw [if_pos h]⟩
theorem SC9.fee {K : Nat → Int32} {V : Nat → Int64} {i : Nat} {C : Ct9} (h : K i = 9) : SC9 K V i C (i + 2) C := ⟨0, by unfold stc; rw [if_neg (by rw [h]; decide), if_pos h]⟩
theorem SC9.grace {K : Nat → Int32} {V : Nat → Int64} {i : Nat} {C : Ct9} (h : K i = 10) : SC9 K V i C (i + 2) ((C.1.1, C.1.2.1, V (i + 1)), C.2) := ⟨0, by unfold stc; rw [if_neg (by rw [h]; decide), if_neg (by rw [h]; decide), if_pos h]⟩
theorem SC9.dep {K : Nat → Int32} {V : Nat → Int64} {i : Nat} {C : Ct9} (h : K i = 11) : SC9 K V i C (i + 2) (C.1, C.2.1 ++ [V (i + 1)], C.2.2) := ⟨0, by unfold stc; rw [if_neg (by rw [h]; decide), if_neg (by rw [h]; decide), if_neg (by rw [h]; decide), if_pos h]⟩
theorem SC9.mil {K : Nat → Int32} {V : Nat → Int64} {i j : Nat} {C : Ct9} {c : List Cd9} (h : K i = 12) (h1 : PC K V 3 (i + 5) j c) : SC9 K V i C j (C.1, C.2.1, C.2.2 ++ [(V (i + 2), V (i + 3), c)]) := by
  obtain ⟨f, h1⟩ := h1
  exact ⟨f, by unfold stc; rw [if_neg (by rw [h]; decide), if_neg (by rw [h]; decide), if_neg (by rw [h]; decide), if_neg (by rw [h]; decide), h1]⟩

theorem NL.fi {ml : List Int64} {n k : Nat} {f : Nat → Int64} {w : Int64} (h : NL ml n f) (hk : k < n) (e : f k = w) (hn : Nof k w f) : fi9 ml w = k := by
  refine fi9_at ((h.2 k hk).trans (by rw [e])) (fun j hj q => hn j hj ?_)
  rw [h.2 j (by omega)] at q
  exact Option.some.inj q
theorem nm_in {lo hi : Nat} {k : Int32} {v : Int64} (h : nmE (lN lo) (lN hi) k v = none) (hl : lo < 2147483648) (hh : hi < 2147483648) : ∃ n, lo ≤ n ∧ n ≤ hi ∧ v = lN n := by
  unfold nmE at h
  by_cases a : k = 3
  · rw [if_pos a] at h
    by_cases b : lN lo ≤ v ∧ v ≤ lN hi
    · have b1 := Int64.le_iff_toInt_le.mp b.1
      have b2 := Int64.le_iff_toInt_le.mp b.2
      rw [lN_toInt (by omega)] at b1 b2
      refine ⟨v.toInt.toNat, by omega, by omega, Int64.toInt_inj.mp ?_⟩
      rw [lN_toInt (by omega)]
      omega
    · rw [if_neg b] at h; exact nomatch h
  · rw [if_neg a] at h; exact nomatch h
theorem nm_32 {lo hi : Nat} {k : Int32} {v : Int64} (h : nmE (lN lo) (lN hi) k v = none) (hl : lo < 2147483648) (hh : hi < 2147483648) : ∃ n, lo ≤ n ∧ n ≤ hi ∧ v = lN n ∧ v.toInt32 = nI n := by
  obtain ⟨n, a, b, e⟩ := nm_in h hl hh
  exact ⟨n, a, b, e, by rw [e, lN_i]⟩
theorem E_18 {ml pl : List Int64} {v : Int64} {x : Int32} (h : v ∈ pl) (l : pl.length ≤ 8) (e : x = nI (fi9 pl v)) : OkC ml pl (18, v) ∧ EncS 18 x (enc9 ml pl (18, v)) := by
  have z := fi9_lt h
  exact ⟨Or.inr (Or.inr (Or.inl ⟨rfl, h, l⟩)), Or.inr (Or.inr (Or.inr (Or.inr (Or.inl ⟨rfl, fi9 pl v, by omega, e, rfl⟩))))⟩
theorem E_19 {ml pl : List Int64} {v : Int64} {x : Int32} (h : v ∈ ml) (l : ml.length ≤ 10) (e : x = nI (fi9 ml v)) : OkC ml pl (19, v) ∧ EncS 19 x (enc9 ml pl (19, v)) := by
  have z := fi9_lt h
  exact ⟨Or.inr (Or.inr (Or.inr ⟨rfl, h, l⟩)), Or.inr (Or.inr (Or.inr (Or.inr (Or.inr (Or.inl ⟨rfl, fi9 ml v, by omega, e, rfl⟩)))))⟩
theorem E_17 {ml pl : List Int64} {v : Int64} {x : Int32} {hi : Nat} {k : Int32} (h : nmE (lN 0) (lN hi) k v = none) (hh : hi < 100000) (e : x = v.toInt32) : OkC ml pl (17, v) ∧ EncS 17 x (enc9 ml pl (17, v)) := by
  obtain ⟨n, -, b, c, d⟩ := nm_32 h (by omega) (by omega)
  exact ⟨Or.inr (Or.inl ⟨Or.inl rfl, n, by omega, c⟩), Or.inr (Or.inr (Or.inr (Or.inl ⟨rfl, n, by omega, e.trans d, d⟩)))⟩
theorem E_20 {ml pl : List Int64} {v : Int64} {x : Int32} {hi : Nat} {k : Int32} (h : nmE (lN 0) (lN hi) k v = none) (hh : hi < 100000) (e : x = v.toInt32) : OkC ml pl (20, v) ∧ EncS 20 x (enc9 ml pl (20, v)) := by
  obtain ⟨n, -, b, c, d⟩ := nm_32 h (by omega) (by omega)
  refine ⟨Or.inr (Or.inl ⟨Or.inr rfl, n, by omega, c⟩), Or.inr (Or.inr (Or.inr (Or.inr (Or.inr (Or.inr (Or.inl ⟨rfl, n, by omega, e.trans d, ?_⟩))))))⟩
  show 300000 + v.toInt32 = _
  rw [d]
  exact nI_add 300000 n
theorem E_16 {ml pl : List Int64} {o : Int32} : OkC ml pl (16, 0) ∧ EncS 16 o (enc9 ml pl (16, 0)) := ⟨Or.inl (Or.inr (Or.inr (Or.inl rfl))), Or.inl ⟨rfl, rfl⟩⟩
theorem E_15 {ml pl : List Int64} {o : Int32} : OkC ml pl (15, 0) ∧ EncS 15 o (enc9 ml pl (15, 0)) := ⟨Or.inl (Or.inr (Or.inl rfl)), Or.inr (Or.inl ⟨rfl, rfl⟩)⟩
theorem E_14 {ml pl : List Int64} {o : Int32} : OkC ml pl (14, 0) ∧ EncS 14 o (enc9 ml pl (14, 0)) := ⟨Or.inl (Or.inl rfl), Or.inr (Or.inr (Or.inl ⟨rfl, rfl⟩))⟩
theorem E_pl {ml pl : List Int64} {k o : Int32} (h : k = 21 ∨ k = 22) : OkC ml pl (k, 0) ∧ EncS k o (enc9 ml pl (k, 0)) := by
  rcases h with h | h
  · subst h
    exact ⟨Or.inl (Or.inr (Or.inr (Or.inr (Or.inl rfl)))), Or.inr (Or.inr (Or.inr (Or.inr (Or.inr (Or.inr (Or.inr (Or.inl ⟨rfl, rfl⟩)))))))⟩
  · subst h
    exact ⟨Or.inl (Or.inr (Or.inr (Or.inr (Or.inr rfl)))), Or.inr (Or.inr (Or.inr (Or.inr (Or.inr (Or.inr (Or.inr (Or.inr ⟨rfl, rfl⟩)))))))⟩
/-- the class has read a condition's part from token i to j; its steps go from a to b; the rows were f, g and are f2, g2 -/
def CD9 (K : Nat → Int32) (V : Nat → Int64) (m i j : Nat) (ml pl pl2 : List Int64) (a b : Nat) (f g f2 g2 : Nat → Int32) : Prop := ∃ cs, PC K V m i j cs ∧ b = a + cs.length ∧ CdC ml pl2 a cs f2 g2 ∧ KpC a f g f2 g2 ∧ Ext9 pl pl2
def CDL (K : Nat → Int32) (V : Nat → Int64) (m i m2 ii : Nat) (ml pl pl2 : List Int64) (a b : Nat) (f g f2 g2 : Nat → Int32) : Prop := ∃ ci, Cc9 K V m i m2 ii ci ∧ b = a + ci.length ∧ CdC ml pl2 a ci f2 g2 ∧ KpC a f g f2 g2 ∧ Ext9 pl pl2
theorem CD9.one {K : Nat → Int32} {V : Nat → Int64} {m i j : Nat} {ml pl pl2 : List Int64} {a b : Nat} {f g f2 g2 : Nat → Int32} {x y : Int32} {p : Cd9} (hp : PC K V m i j [p]) (h1 : Upp a x f f2) (h2 : Upp a y g g2) (ho : OkC ml pl2 p ∧ EncS x y (enc9 ml pl2 p)) (he : Ext9 pl pl2) (hb : b = a + 1) : CD9 K V m i j ml pl pl2 a b f g f2 g2 := ⟨[p], hp, hb, CdC.one h1 h2 ho.1 ho.2, KpC.put h1 h2, he⟩
theorem CD9.opn {K : Nat → Int32} {V : Nat → Int64} {i j j2 : Nat} {ml pl pl2 : List Int64} {a b : Nat} {f g f2 g2 : Nat → Int32} (hk : K i = 5) (h : CD9 K V 3 (i + 1) j ml pl pl2 a b f g f2 g2) (hj : j2 = j + 1) : CD9 K V 0 i j2 ml pl pl2 a b f g f2 g2 := by
  obtain ⟨cs, h1, h2, h3, h4, h5⟩ := h
  exact ⟨cs, by rw [hj]; exact C_open hk h1, h2, h3, h4, h5⟩
theorem CD9.more {ml pl2 : List Int64} {a b : Nat} {cs : List Cd9} {f2 g2 f3 g3 : Nat → Int32} {x y : Int32} {p : Cd9} (hb : b = a + cs.length) (hc : CdC ml pl2 a cs f2 g2) (h1 : Upp b x f2 f3) (h2 : Upp b y g2 g3) (ho : OkC ml pl2 p ∧ EncS x y (enc9 ml pl2 p)) : CdC ml pl2 a (cs ++ [p]) f3 g3 := CdC.app (hc.keep (KpC.put h1 h2) (by omega)) (CdC.one h1 h2 ho.1 ho.2) hb
theorem CD9.not {K : Nat → Int32} {V : Nat → Int64} {i j : Nat} {ml pl pl2 : List Int64} {a b b2 : Nat} {f g f2 g2 f3 g3 : Nat → Int32} {y : Int32} (hk : K i = 16) (h : CD9 K V 0 (i + 1) j ml pl pl2 a b f g f2 g2) (h1 : Upp b 16 f2 f3) (h2 : Upp b y g2 g3) (hb : b2 = b + 1) : CD9 K V 0 i j ml pl pl2 a b2 f g f3 g3 := by
  obtain ⟨cs, q1, q2, q3, q4, q5⟩ := h
  refine ⟨cs ++ [(16, 0)], C_not hk q1, by rw [List.length_append]; show b2 = a + (cs.length + 1); omega, CD9.more q2 q3 h1 h2 E_16, q4.tr (KpC.put h1 h2) (by omega), q5⟩
theorem CDL.both {K : Nat → Int32} {V : Nat → Int64} {i j : Nat} {ml pl pl2 : List Int64} {a b : Nat} {f g f2 g2 : Nat → Int32} (h : CD9 K V 0 i j ml pl pl2 a b f g f2 g2) : CDL K V 1 i 2 j ml pl pl2 a b f g f2 g2 := by
  obtain ⟨cs, q1, q⟩ := h
  exact ⟨cs, Cc9.both q1, q⟩
theorem CDL.cond {K : Nat → Int32} {V : Nat → Int64} {i j : Nat} {ml pl pl2 : List Int64} {a b : Nat} {f g f2 g2 : Nat → Int32} (h : CD9 K V 1 i j ml pl pl2 a b f g f2 g2) : CDL K V 3 i 4 j ml pl pl2 a b f g f2 g2 := by
  obtain ⟨cs, q1, q⟩ := h
  exact ⟨cs, Cc9.cond q1, q⟩
theorem CDL.go {ml pl pl2 pl3 : List Int64} {a b b3 b4 : Nat} {ci c : List Cd9} {f g f2 g2 f3 g3 f4 g4 : Nat → Int32} {x y : Int32} {p : Cd9} (l1 : ml.length ≤ 10) (l2 : pl3.length ≤ 8) (h2 : b = a + ci.length) (h3 : CdC ml pl2 a ci f2 g2) (h4 : KpC a f g f2 g2) (h5 : Ext9 pl pl2) (q2 : b3 = b + c.length) (q3 : CdC ml pl3 b c f3 g3) (q4 : KpC b f2 g2 f3 g3) (q5 : Ext9 pl2 pl3) (u1 : Upp b3 x f3 f4) (u2 : Upp b3 y g3 g4) (ho : OkC ml pl3 p ∧ EncS x y (enc9 ml pl3 p)) (hb : b4 = b3 + 1) : b4 = a + (ci ++ c ++ [p]).length ∧ CdC ml pl3 a (ci ++ c ++ [p]) f4 g4 ∧ KpC a f g f4 g4 ∧ Ext9 pl pl3 := by
  have e : b3 = a + (ci ++ c).length := by rw [List.length_append]; omega
  refine ⟨by rw [List.length_append]; show b4 = a + ((ci ++ c).length + 1); omega, CD9.more e (CdC.app ((h3.ext (Ext9.rf ml) q5 l1 l2).keep q4 (by omega)) q3 h2) u1 u2 ho, ?_, h5.tr q5⟩
  exact (h4.tr q4 (by omega)).tr (KpC.put u1 u2) (by omega)
theorem CDL.and {K : Nat → Int32} {V : Nat → Int64} {m i ii j : Nat} {ml pl pl2 pl3 : List Int64} {a b b3 b4 : Nat} {f g f2 g2 f3 g3 f4 g4 : Nat → Int32} {y : Int32} (h : CDL K V m i 2 ii ml pl pl2 a b f g f2 g2) (hk : K ii = 15) (h1 : CD9 K V 0 (ii + 1) j ml pl2 pl3 b b3 f2 g2 f3 g3) (u1 : Upp b3 15 f3 f4) (u2 : Upp b3 y g3 g4) (hb : b4 = b3 + 1) (l1 : ml.length ≤ 10) (l2 : pl3.length ≤ 8) : CDL K V m i 2 j ml pl pl3 a b4 f g f4 g4 := by
  obtain ⟨ci, p1, p2, p3, p4, p5⟩ := h
  obtain ⟨c, q1, q2, q3, q4, q5⟩ := h1
  exact ⟨_, p1.and hk q1, CDL.go l1 l2 p2 p3 p4 p5 q2 q3 q4 q5 u1 u2 E_15 hb⟩
theorem CDL.or {K : Nat → Int32} {V : Nat → Int64} {m i ii j : Nat} {ml pl pl2 pl3 : List Int64} {a b b3 b4 : Nat} {f g f2 g2 f3 g3 f4 g4 : Nat → Int32} {y : Int32} (h : CDL K V m i 4 ii ml pl pl2 a b f g f2 g2) (hk : K ii = 14) (h1 : CD9 K V 1 (ii + 1) j ml pl2 pl3 b b3 f2 g2 f3 g3) (u1 : Upp b3 14 f3 f4) (u2 : Upp b3 y g3 g4) (hb : b4 = b3 + 1) (l1 : ml.length ≤ 10) (l2 : pl3.length ≤ 8) : CDL K V m i 4 j ml pl pl3 a b4 f g f4 g4 := by
  obtain ⟨ci, p1, p2, p3, p4, p5⟩ := h
  obtain ⟨c, q1, q2, q3, q4, q5⟩ := h1
  exact ⟨_, p1.or hk q1, CDL.go l1 l2 p2 p3 p4 p5 q2 q3 q4 q5 u1 u2 E_14 hb⟩
theorem CDL.end2 {K : Nat → Int32} {V : Nat → Int64} {m i ii : Nat} {ml pl pl2 : List Int64} {a b : Nat} {f g f2 g2 : Nat → Int32} (h : CDL K V m i 2 ii ml pl pl2 a b f g f2 g2) (hk : ¬ K ii = 15) : CD9 K V m i ii ml pl pl2 a b f g f2 g2 := by
  obtain ⟨ci, p1, p⟩ := h
  exact ⟨ci, p1.end2 hk, p⟩
theorem CDL.end4 {K : Nat → Int32} {V : Nat → Int64} {m i ii : Nat} {ml pl pl2 : List Int64} {a b : Nat} {f g f2 g2 : Nat → Int32} (h : CDL K V m i 4 ii ml pl pl2 a b f g f2 g2) (hk : ¬ K ii = 14) : CD9 K V m i ii ml pl pl2 a b f g f2 g2 := by
  obtain ⟨ci, p1, p⟩ := h
  exact ⟨ci, p1.end4 hk, p⟩
/-- the reference has read a condition's part from token i to j; its codes go from a to b -/
def CR9 (K : Nat → Int32) (V : Nat → Int64) (m i j : Nat) (ml pl pl2 : List Int64) (a b : Nat) (f f2 : Nat → Int32) : Prop := ∃ cs, PC K V m i j cs ∧ b = a + cs.length ∧ CdR ml pl2 a cs f2 ∧ Kp a f f2 ∧ Ext9 pl pl2
def CRL (K : Nat → Int32) (V : Nat → Int64) (m i m2 ii : Nat) (ml pl pl2 : List Int64) (a b : Nat) (f f2 : Nat → Int32) : Prop := ∃ ci, Cc9 K V m i m2 ii ci ∧ b = a + ci.length ∧ CdR ml pl2 a ci f2 ∧ Kp a f f2 ∧ Ext9 pl pl2
theorem CR9.one {K : Nat → Int32} {V : Nat → Int64} {m i j : Nat} {ml pl pl2 : List Int64} {a b : Nat} {f f2 : Nat → Int32} {x : Int32} {p : Cd9} (hp : PC K V m i j [p]) (h1 : Em a x f f2) (ho : OkC ml pl2 p) (hx : x = enc9 ml pl2 p) (he : Ext9 pl pl2) (hb : b = a + 1) : CR9 K V m i j ml pl pl2 a b f f2 := ⟨[p], hp, hb, CdR.one h1 ho hx, Em.kp h1, he⟩
theorem CR9.opn {K : Nat → Int32} {V : Nat → Int64} {i j j2 : Nat} {ml pl pl2 : List Int64} {a b : Nat} {f f2 : Nat → Int32} (hk : K i = 5) (h : CR9 K V 3 (i + 1) j ml pl pl2 a b f f2) (hj : j2 = j + 1) : CR9 K V 0 i j2 ml pl pl2 a b f f2 := by
  obtain ⟨cs, h1, h2, h3, h4, h5⟩ := h
  exact ⟨cs, by rw [hj]; exact C_open hk h1, h2, h3, h4, h5⟩
theorem CR9.more {ml pl2 : List Int64} {a b : Nat} {cs : List Cd9} {f2 f3 : Nat → Int32} {x : Int32} {p : Cd9} (hb : b = a + cs.length) (hc : CdR ml pl2 a cs f2) (h1 : Em b x f2 f3) (ho : OkC ml pl2 p) (hx : x = enc9 ml pl2 p) : CdR ml pl2 a (cs ++ [p]) f3 := CdR.app (hc.keep (n := b) (Em.kp h1) (by omega)) (CdR.one h1 ho hx) hb
theorem CR9.not {K : Nat → Int32} {V : Nat → Int64} {i j : Nat} {ml pl pl2 : List Int64} {a b b2 : Nat} {f f2 f3 : Nat → Int32} (hk : K i = 16) (h : CR9 K V 0 (i + 1) j ml pl pl2 a b f f2) (h1 : Em b (-3) f2 f3) (hb : b2 = b + 1) : CR9 K V 0 i j ml pl pl2 a b2 f f3 := by
  obtain ⟨cs, q1, q2, q3, q4, q5⟩ := h
  refine ⟨cs ++ [(16, 0)], C_not hk q1, by rw [List.length_append]; show b2 = a + (cs.length + 1); omega, CR9.more q2 q3 h1 (E_16 (o := 0)).1 rfl, q4.tr (Em.kp h1) (by omega), q5⟩
theorem CRL.both {K : Nat → Int32} {V : Nat → Int64} {i j : Nat} {ml pl pl2 : List Int64} {a b : Nat} {f f2 : Nat → Int32} (h : CR9 K V 0 i j ml pl pl2 a b f f2) : CRL K V 1 i 2 j ml pl pl2 a b f f2 := by
  obtain ⟨cs, q1, q⟩ := h
  exact ⟨cs, Cc9.both q1, q⟩
theorem CRL.cond {K : Nat → Int32} {V : Nat → Int64} {i j : Nat} {ml pl pl2 : List Int64} {a b : Nat} {f f2 : Nat → Int32} (h : CR9 K V 1 i j ml pl pl2 a b f f2) : CRL K V 3 i 4 j ml pl pl2 a b f f2 := by
  obtain ⟨cs, q1, q⟩ := h
  exact ⟨cs, Cc9.cond q1, q⟩
theorem CRL.go {ml pl pl2 pl3 : List Int64} {a b b3 b4 : Nat} {ci c : List Cd9} {f f2 f3 f4 : Nat → Int32} {x : Int32} {p : Cd9} (l1 : ml.length ≤ 10) (l2 : pl3.length ≤ 8) (h2 : b = a + ci.length) (h3 : CdR ml pl2 a ci f2) (h4 : Kp a f f2) (h5 : Ext9 pl pl2) (q2 : b3 = b + c.length) (q3 : CdR ml pl3 b c f3) (q4 : Kp b f2 f3) (q5 : Ext9 pl2 pl3) (u1 : Em b3 x f3 f4) (ho : OkC ml pl3 p) (hx : x = enc9 ml pl3 p) (hb : b4 = b3 + 1) : b4 = a + (ci ++ c ++ [p]).length ∧ CdR ml pl3 a (ci ++ c ++ [p]) f4 ∧ Kp a f f4 ∧ Ext9 pl pl3 := by
  have e : b3 = a + (ci ++ c).length := by rw [List.length_append]; omega
  refine ⟨by rw [List.length_append]; show b4 = a + ((ci ++ c).length + 1); omega, CR9.more e (CdR.app ((h3.ext (Ext9.rf ml) q5 l1 l2).keep q4 (by omega)) q3 h2) u1 ho hx, ?_, h5.tr q5⟩
  exact (h4.tr q4 (by omega)).tr (Em.kp u1) (by omega)
theorem CRL.and {K : Nat → Int32} {V : Nat → Int64} {m i ii j : Nat} {ml pl pl2 pl3 : List Int64} {a b b3 b4 : Nat} {f f2 f3 f4 : Nat → Int32} (h : CRL K V m i 2 ii ml pl pl2 a b f f2) (hk : K ii = 15) (h1 : CR9 K V 0 (ii + 1) j ml pl2 pl3 b b3 f2 f3) (u1 : Em b3 (-1) f3 f4) (hb : b4 = b3 + 1) (l1 : ml.length ≤ 10) (l2 : pl3.length ≤ 8) : CRL K V m i 2 j ml pl pl3 a b4 f f4 := by
  obtain ⟨ci, p1, p2, p3, p4, p5⟩ := h
  obtain ⟨c, q1, q2, q3, q4, q5⟩ := h1
  exact ⟨_, p1.and hk q1, CRL.go l1 l2 p2 p3 p4 p5 q2 q3 q4 q5 u1 (E_15 (o := 0)).1 rfl hb⟩
theorem CRL.or {K : Nat → Int32} {V : Nat → Int64} {m i ii j : Nat} {ml pl pl2 pl3 : List Int64} {a b b3 b4 : Nat} {f f2 f3 f4 : Nat → Int32} (h : CRL K V m i 4 ii ml pl pl2 a b f f2) (hk : K ii = 14) (h1 : CR9 K V 1 (ii + 1) j ml pl2 pl3 b b3 f2 f3) (u1 : Em b3 (-2) f3 f4) (hb : b4 = b3 + 1) (l1 : ml.length ≤ 10) (l2 : pl3.length ≤ 8) : CRL K V m i 4 j ml pl pl3 a b4 f f4 := by
  obtain ⟨ci, p1, p2, p3, p4, p5⟩ := h
  obtain ⟨c, q1, q2, q3, q4, q5⟩ := h1
  exact ⟨_, p1.or hk q1, CRL.go l1 l2 p2 p3 p4 p5 q2 q3 q4 q5 u1 (E_14 (o := 0)).1 rfl hb⟩
theorem CRL.end2 {K : Nat → Int32} {V : Nat → Int64} {m i ii : Nat} {ml pl pl2 : List Int64} {a b : Nat} {f f2 : Nat → Int32} (h : CRL K V m i 2 ii ml pl pl2 a b f f2) (hk : ¬ K ii = 15) : CR9 K V m i ii ml pl pl2 a b f f2 := by
  obtain ⟨ci, p1, p⟩ := h
  exact ⟨ci, p1.end2 hk, p⟩
theorem CRL.end4 {K : Nat → Int32} {V : Nat → Int64} {m i ii : Nat} {ml pl pl2 : List Int64} {a b : Nat} {f f2 : Nat → Int32} (h : CRL K V m i 4 ii ml pl pl2 a b f f2) (hk : ¬ K ii = 14) : CR9 K V m i ii ml pl pl2 a b f f2 := by
  obtain ⟨ci, p1, p⟩ := h
  exact ⟨ci, p1.end4 hk, p⟩
def NV9 (x : Int32) (v : Int64) : Prop := x = v.toInt32
theorem NV9.of {v : Int64} {u : Int32} (h : v = u.toInt64) : NV9 u v := by
  unfold NV9
  rw [h]
  refine Int32.toInt_inj.mp ?_
  rw [Int64.toInt_toInt32, Int32.toInt_toInt64]
  have a := Int32.le_toInt u
  have b := Int32.toInt_lt u
  exact (Int.bmod_eq_of_le (by omega) (by omega)).symm
theorem ER_17 {ml pl : List Int64} {v : Int64} {x : Int32} {hi n : Nat} {k : Int32} (h : nmE (lN 0) (lN hi) k v = none) (hh : hi < 100000) (hv : NV9 (nI n) v) (e : x = nI (0 + n)) : OkC ml pl (17, v) ∧ x = enc9 ml pl (17, v) := by
  refine ⟨(E_17 (ml := ml) (pl := pl) h hh rfl).1, ?_⟩
  show x = v.toInt32
  rw [e, Nat.zero_add]
  exact hv
theorem ER_20 {ml pl : List Int64} {v : Int64} {x : Int32} {hi n : Nat} {k : Int32} (h : nmE (lN 0) (lN hi) k v = none) (hh : hi < 100000) (hv : NV9 (nI n) v) (e : x = nI (300000 + n)) : OkC ml pl (20, v) ∧ x = enc9 ml pl (20, v) := by
  refine ⟨(E_20 (ml := ml) (pl := pl) h hh rfl).1, ?_⟩
  show x = 300000 + v.toInt32
  rw [e, ← (show nI n = v.toInt32 from hv)]
  exact (nI_add 300000 n).symm
theorem ER_18 {ml pl : List Int64} {v : Int64} {x : Int32} {k : Nat} (h : v ∈ pl) (l : pl.length ≤ 8) (hk : fi9 pl v = k) (e : x = nI (100000 + k)) : OkC ml pl (18, v) ∧ x = enc9 ml pl (18, v) := by
  refine ⟨(E_18 (ml := ml) h l rfl).1, ?_⟩
  rw [e, ← hk]
  rfl
theorem ER_19 {ml pl : List Int64} {v : Int64} {x : Int32} {k : Nat} (h : v ∈ ml) (l : ml.length ≤ 10) (hk : fi9 ml v = k) (e : x = nI (200000 + k)) : OkC ml pl (19, v) ∧ x = enc9 ml pl (19, v) := by
  refine ⟨(E_19 (pl := pl) h l rfl).1, ?_⟩
  rw [e, ← hk]
  rfl
theorem nm_k3 {lo hi : Int64} {k : Int32} {v : Int64} (h : nmE lo hi k v = none) : k = 3 := by
  unfold nmE at h
  by_cases a : k = 3
  · exact a
  · rw [if_neg a] at h; exact nomatch h
/-- the row but for the number of proofs -/
def K14 (f g : Nat → Int32) : Prop := ∀ j, j ≠ 14 → g j = f j
theorem K14.rf (f : Nat → Int32) : K14 f f := fun _ _ => rfl
theorem K14.tr {f g h : Nat → Int32} (a : K14 f g) (b : K14 g h) : K14 f h := fun j hj => (b j hj).trans (a j hj)
theorem K14.put {f g : Nat → Int32} {v : Int32} (h : Upp 14 v f g) : K14 f g := fun j hj => by
  unfold Upp at h
  rw [h]
  exact pk_un hj
/-- a number is put into the row -/
def UpV (k : Nat) (f g : Nat → Int32) (v : Int64) : Prop := g = upd f k v.toInt32
theorem UpV.of {k : Nat} {x : Int32} {f g : Nat → Int32} {v : Int64} (h : Upp k x f g) (hv : NV9 x v) : UpV k f g v := by
  unfold Upp at h
  unfold UpV
  rw [h, show x = v.toInt32 from hv]
def Rpp {α : Type} (f : Nat → α) : Prop := f = f

/-- how many codes the first m milestones have -/
def qC9 (l : List (Int64 × Int64 × List Cd9)) : Nat → Nat
  | 0 => 0
  | m + 1 => qC9 l m + (match l[m]? with | some x => x.2.2.length | none => 0)
theorem qC9_app {l : List (Int64 × Int64 × List Cd9)} {x : Int64 × Int64 × List Cd9} : ∀ {m : Nat}, m ≤ l.length → qC9 (l ++ [x]) m = qC9 l m
  | 0, _ => rfl
  | m + 1, h => by
    rw [qC9, qC9, qC9_app (l := l) (x := x) (m := m) (by omega), List.getElem?_append_left (by omega)]
theorem qC9_new (l : List (Int64 × Int64 × List Cd9)) (x : Int64 × Int64 × List Cd9) : qC9 (l ++ [x]) (l.length + 1) = qC9 l l.length + x.2.2.length := by
  have e : (l ++ [x])[l.length]? = some x := by rw [List.getElem?_append_right (Nat.le_refl _), Nat.sub_self]; rfl
  rw [qC9, qC9_app (Nat.le_refl _), e]
theorem qC9_at {l : List (Int64 × Int64 × List Cd9)} {m : Nat} {a p : Int64} {c : List Cd9} (h : l[m]? = some (a, p, c)) : qC9 l (m + 1) = qC9 l m + c.length := by
  rw [qC9, h]
theorem qC9_mono (l : List (Int64 × Int64 × List Cd9)) (m : Nat) : ∀ d, qC9 l m ≤ qC9 l (m + d)
  | 0 => Nat.le_refl _
  | d + 1 => Nat.le_trans (qC9_mono l m d) (Nat.le_add_right _ _)
def C09 : Ct9 := ((0, 365, 0), [], [])
/-- the plan's numbers are those that the text defines -/
def PLC (C : Ct9) (ml pl : List Int64) (fde fam fpi fen fst fop : Nat → Int32) (pr pb pg : Int32) (nd cn sc : Nat) : Prop :=
  (pr = C.1.1.toInt32 ∧ pb = C.1.2.1.toInt32 ∧ pg = C.1.2.2.toInt32) ∧ (nd = C.2.1.length ∧ ∀ k v, C.2.1[k]? = some v → fde k = v.toInt32 ∧ ∃ n, 1 ≤ n ∧ n ≤ 99999 ∧ v = lN n) ∧ (cn = C.2.2.length ∧ sc = qC9 C.2.2 cn) ∧
  ((∃ n, n ≤ 3000 ∧ C.1.1 = lN n) ∧ (C.1.2.1 = 360 ∨ C.1.2.1 = 365) ∧ ∃ n, n ≤ 60 ∧ C.1.2.2 = lN n) ∧
  ∀ m a p c, C.2.2[m]? = some (a, p, c) → fam m = a.toInt32 ∧ fpi m = p.toInt32 ∧ fen m = nI (qC9 C.2.2 (m + 1)) ∧ CdC ml pl (qC9 C.2.2 m) c fst fop ∧ (∃ n, 1 ≤ n ∧ n ≤ 99999 ∧ a = lN n) ∧ ∃ n, n ≤ 99 ∧ p = lN n
/-- the class's reader stands at token i -/
def TL9 (K : Nat → Int32) (V : Nat → Int64) (ml pl : List Int64) (fde fam fpi fen fst fop : Nat → Int32) (pr pb pg : Int32) (nd cn sc i : Nat) : Prop := ∃ C, Tc9 K V 0 C09 i C ∧ PLC C ml pl fde fam fpi fen fst fop pr pb pg nd cn sc
/-- the whole text has been read -/
def DF9 (K : Nat → Int32) (V : Nat → Int64) (ml pl : List Int64) (fde fam fpi fen fst fop : Nat → Int32) (pr pb pg : Int32) (nd cn sc : Nat) : Prop := ∃ C, TC9 K V 0 C09 C ∧ PLC C ml pl fde fam fpi fen fst fop pr pb pg nd cn sc
theorem TL9.zero (K : Nat → Int32) (V : Nat → Int64) (fde fam fpi fen fst fop : Nat → Int32) : TL9 K V [] [] fde fam fpi fen fst fop 0 365 0 0 0 0 0 :=
  ⟨C09, Tc9.zero, ⟨rfl, rfl, rfl⟩, ⟨rfl, fun k v h => nomatch (show (none : Option Int64) = some v from h)⟩, ⟨rfl, rfl⟩, ⟨⟨0, by omega, rfl⟩, Or.inr rfl, ⟨0, by omega, rfl⟩⟩, fun m a p c h => nomatch (show (none : Option (Int64 × Int64 × List Cd9)) = some (a, p, c) from h)⟩
theorem TL9.fin {K : Nat → Int32} {V : Nat → Int64} {ml pl : List Int64} {fde fam fpi fen fst fop : Nat → Int32} {pr pb pg : Int32} {nd cn sc i : Nat} (h : TL9 K V ml pl fde fam fpi fen fst fop pr pb pg nd cn sc i) (hk : K i = 1) : DF9 K V ml pl fde fam fpi fen fst fop pr pb pg nd cn sc := by
  obtain ⟨C, h1, h2⟩ := h
  exact ⟨C, h1 C (TC9.fin hk), h2⟩
theorem TL9.rate {K : Nat → Int32} {V : Nat → Int64} {ml pl : List Int64} {fde fam fpi fen fst fop : Nat → Int32} {pr pb pg : Int32} {nd cn sc i : Nat} {j : Nat} {x y : Int32} (h : TL9 K V ml pl fde fam fpi fen fst fop pr pb pg nd cn sc i) (hk : K i = 8) (h1 : nmE (lN 0) (lN 3000) (K (i + 1)) (V (i + 1)) = none) (h2 : V (i + 2) = 360 ∨ V (i + 2) = 365) (ex : x = (V (i + 1)).toInt32) (ey : y = (V (i + 2)).toInt32) (hj : j = i + 3 + 1) : TL9 K V ml pl fde fam fpi fen fst fop x y pg nd cn sc j := by
  obtain ⟨C, q1, ⟨p1, p2, p3⟩, q2, q3, ⟨p4, p5, p6⟩, q5⟩ := h
  obtain ⟨n, -, b, c⟩ := nm_in h1 (by omega) (by omega)
  rw [hj]
  exact ⟨_, q1.go (by rw [hk]; decide) (SC9.rate hk), ⟨ex, ey, p3⟩, q2, q3, ⟨⟨n, b, c⟩, h2, p6⟩, q5⟩
theorem TL9.fee {K : Nat → Int32} {V : Nat → Int64} {ml pl : List Int64} {fde fam fpi fen fst fop : Nat → Int32} {pr pb pg : Int32} {nd cn sc i : Nat} {j : Nat} (h : TL9 K V ml pl fde fam fpi fen fst fop pr pb pg nd cn sc i) (hk : K i = 9) (hj : j = i + 2 + 1) : TL9 K V ml pl fde fam fpi fen fst fop pr pb pg nd cn sc j := by
  obtain ⟨C, q1, q2⟩ := h
  rw [hj]
  exact ⟨C, q1.go (by rw [hk]; decide) (SC9.fee hk), q2⟩
theorem TL9.grace {K : Nat → Int32} {V : Nat → Int64} {ml pl : List Int64} {fde fam fpi fen fst fop : Nat → Int32} {pr pb pg : Int32} {nd cn sc i : Nat} {j : Nat} {x : Int32} (h : TL9 K V ml pl fde fam fpi fen fst fop pr pb pg nd cn sc i) (hk : K i = 10) (h1 : nmE (lN 0) (lN 60) (K (i + 1)) (V (i + 1)) = none) (ex : x = (V (i + 1)).toInt32) (hj : j = i + 2 + 1) : TL9 K V ml pl fde fam fpi fen fst fop pr pb x nd cn sc j := by
  obtain ⟨C, q1, ⟨p1, p2, p3⟩, q2, q3, ⟨p4, p5, p6⟩, q5⟩ := h
  obtain ⟨n, -, b, c⟩ := nm_in h1 (by omega) (by omega)
  rw [hj]
  exact ⟨_, q1.go (by rw [hk]; decide) (SC9.grace hk), ⟨p1, p2, ex⟩, q2, q3, ⟨p4, p5, ⟨n, b, c⟩⟩, q5⟩
theorem TL9.dep {K : Nat → Int32} {V : Nat → Int64} {ml pl : List Int64} {fde fam fpi fen fst fop : Nat → Int32} {pr pb pg : Int32} {nd cn sc i : Nat} {j nd2 : Nat} {x : Int32} {zde : Nat → Int32} (h : TL9 K V ml pl fde fam fpi fen fst fop pr pb pg nd cn sc i) (hk : K i = 11) (h1 : nmE (lN 1) (lN 99999) (K (i + 1)) (V (i + 1)) = none) (hu : Upp nd x fde zde) (ex : x = (V (i + 1)).toInt32) (hn : nd2 = nd + 1) (hj : j = i + 2 + 1) : TL9 K V ml pl zde fam fpi fen fst fop pr pb pg nd2 cn sc j := by
  obtain ⟨C, q1, q2, ⟨p1, p2⟩, q3, q4, q5⟩ := h
  obtain ⟨n, a, b, c⟩ := nm_in h1 (by omega) (by omega)
  rw [hj]
  refine ⟨_, q1.go (by rw [hk]; decide) (SC9.dep hk), q2, ⟨by rw [List.length_append, hn, p1]; rfl, fun k v hv => ?_⟩, q3, q4, q5⟩
  unfold Upp at hu
  by_cases e : k < C.2.1.length
  · rw [List.getElem?_append_left e] at hv
    rw [hu, pk_un (by omega)]
    exact p2 k v hv
  · have l := (List.getElem?_eq_some_iff.mp hv).1
    rw [List.length_append] at l
    have l2 : k < C.2.1.length + 1 := l
    have ek : k = C.2.1.length := by omega
    rw [ek, List.getElem?_append_right (Nat.le_refl _), Nat.sub_self] at hv
    have ev : V (i + 1) = v := Option.some.inj hv
    rw [hu, ek, ← p1, pk_us, ex, ← ev]
    exact ⟨rfl, n, a, b, c⟩
theorem TL9.mil {K : Nat → Int32} {V : Nat → Int64} {ml pl : List Int64} {fde fam fpi fen fst fop : Nat → Int32} {pr pb pg : Int32} {nd cn sc i : Nat} {j j0 cn2 sc2 : Nat} {ml2 pl2 : List Int64} {x y z : Int32} {w : Int64} {zam zpi zen zst zop : Nat → Int32} (h : TL9 K V ml pl fde fam fpi fen fst fop pr pb pg nd cn sc i) (hk : K i = 12) (h1 : nmE (lN 1) (lN 99999) (K (i + 2)) (V (i + 2)) = none) (h3 : nmE (lN 0) (lN 99) (K (i + 3)) (V (i + 3)) = none) (hc : CD9 K V 3 (i + 5) j0 ml pl pl2 sc sc2 fst fop zst zop)
    (u1 : Upp cn x fam zam) (u2 : Upp cn y fpi zpi) (u3 : Upp cn z fen zen) (ex : x = (V (i + 2)).toInt32) (ey : y = (V (i + 3)).toInt32) (ez : z = nI sc2) (hm : ml2 = ml ++ [w]) (l1 : ml2.length ≤ 10) (l2 : pl2.length ≤ 8) (hn : cn2 = cn + 1) (hj : j = j0 + 1) : TL9 K V ml2 pl2 fde zam zpi zen zst zop pr pb pg nd cn2 sc2 j := by
  obtain ⟨C, q1, q2, q3, ⟨p1, p2⟩, q4, q5⟩ := h
  obtain ⟨n, a, b, c⟩ := nm_in h1 (by omega) (by omega)
  obtain ⟨n3, a3, b3, c3⟩ := nm_in h3 (by omega) (by omega)
  obtain ⟨cs, r1, r2, r3, r4, r5⟩ := hc
  have hE : Ext9 ml ml2 := ⟨[w], hm⟩
  have eq2 : sc2 = qC9 (C.2.2 ++ [(V (i + 2), V (i + 3), cs)]) (C.2.2.length + 1) := by rw [qC9_new, ← p1, ← p2]; exact r2
  rw [hj]
  refine ⟨_, q1.go (by rw [hk]; decide) (SC9.mil hk r1), q2, q3, ⟨by rw [List.length_append, hn, p1]; rfl, by rw [hn, p1]; exact eq2⟩, q4, fun m a9 p9 c9 hx => ?_⟩
  unfold Upp at u1 u2 u3
  by_cases e : m < C.2.2.length
  · rw [List.getElem?_append_left e] at hx
    obtain ⟨s1, s2, s3, s4, s5, s6⟩ := q5 m a9 p9 c9 hx
    have le1 : qC9 C.2.2 m + c9.length ≤ sc := by
      rw [← qC9_at hx, p2, p1]
      have := qC9_mono C.2.2 (m + 1) (C.2.2.length - (m + 1))
      rw [show m + 1 + (C.2.2.length - (m + 1)) = C.2.2.length by omega] at this
      exact this
    rw [qC9_app (show m ≤ C.2.2.length by omega), qC9_app (show m + 1 ≤ C.2.2.length by omega), u1, u2, u3, pk_un (by omega), pk_un (by omega), pk_un (by omega)]
    exact ⟨s1, s2, s3, (s4.ext hE r5 l1 l2).keep r4 le1, s5, s6⟩
  · have l := (List.getElem?_eq_some_iff.mp hx).1
    rw [List.length_append] at l
    have l9 : m < C.2.2.length + 1 := l
    have ek : m = C.2.2.length := by omega
    rw [ek, List.getElem?_append_right (Nat.le_refl _), Nat.sub_self] at hx
    have ev := Prod.mk.inj (Option.some.inj hx)
    have ev2 := Prod.mk.inj ev.2
    rw [← ev.1, ← ev2.1, ← ev2.2, ek, ← eq2, qC9_app (Nat.le_refl _), u1, u2, u3, ← p1, pk_us, pk_us, pk_us, ← p2]
    exact ⟨ex, ey, ez, r3.ext hE (Ext9.rf _) l1 l2, ⟨n, a, b, c⟩, n3, b3, c3⟩
/-- the order of the milestones -/
def BYS (n : Nat) (fby fpi : Nat → Int32) : Prop := ∃ b p : Nat → Nat, (∀ k, k < n → b k < n ∧ p (b k) = k ∧ fby k = nI (b k)) ∧ (∀ m, m < n → p m < n ∧ b (p m) = m) ∧ ∀ j k, j < k → k < n → fpi (b j) < fpi (b k) ∨ (fpi (b j) = fpi (b k) ∧ b j < b k)
theorem BYS.zero (fby fpi : Nat → Int32) : BYS 0 fby fpi := ⟨id, id, fun k h => absurd h (Nat.not_lt_zero k), fun k h => absurd h (Nat.not_lt_zero k), fun j k _ h => absurd h (Nat.not_lt_zero k)⟩
/-- an order into which the milestone n with the priority v is put: the places behind r are moved -/
def Ins9 (n r : Nat) (v : Int32) (fby fpi g : Nat → Int32) : Prop := r ≤ n ∧ (∀ j, j < r → g j = fby j) ∧ ∀ j, r ≤ j → j < n → g (j + 1) = fby j ∧ v < fpi (fby j).toNatClampNeg
theorem Ins9.zero (n : Nat) (v : Int32) (fby fpi : Nat → Int32) : Ins9 n n v fby fpi fby := ⟨Nat.le_refl n, fun _ _ => rfl, fun j h1 h2 => by omega⟩
theorem Ins9.step {n r : Nat} {v : Int32} {fby fpi g g2 : Nat → Int32} (h : Ins9 n (r + 1) v fby fpi g) (hv : v < fpi (g r).toNatClampNeg) (hu : Upp (r + 1) (g r) g g2) : Ins9 n r v fby fpi g2 := by
  unfold Upp at hu
  refine ⟨by have := h.1; omega, fun j hj => by rw [hu, pk_un (by omega)]; exact h.2.1 j (by omega), fun j h1 h2 => ?_⟩
  by_cases e : j = r
  · subst e
    rw [hu, pk_us]
    have z := h.2.1 j (by omega)
    rw [z] at hv ⊢
    exact ⟨rfl, hv⟩
  · rw [hu, pk_un (by omega)]
    exact h.2.2 j (by omega) h2
/-- the milestone is put in -/
theorem BYS.ins {n r : Nat} {v : Int32} {fby fpi g g2 zpi : Nat → Int32} (h : BYS n fby fpi) (hi : Ins9 n r v fby fpi g) (hs : r = 0 ∨ ∃ q, r = q + 1 ∧ fpi (g q).toNatClampNeg ≤ v) (hu : Upp r (nI n) g g2) (hp : Upp n v fpi zpi) (hn : n < 100) : BYS (n + 1) g2 zpi := by
  obtain ⟨b, p, h1, h2, h3⟩ := h
  unfold Upp at hu hp
  have hr := hi.1
  have bc : ∀ k, k < n → (fby k).toNatClampNeg = b k := fun k hk => by rw [(h1 k hk).2.2, nI_clamp (by have := (h1 k hk).1; omega)]
  have zp : ∀ m, m < n → zpi m = fpi m := fun m hm => by rw [hp, pk_un (by omega)]
  have zn : zpi n = v := by rw [hp, pk_us]
  -- behind r all have a greater priority, ahead of it none
  have hb : ∀ k, r ≤ k → k < n → v < fpi (b k) := fun k k1 k2 => by rw [← bc k k2]; exact (hi.2.2 k k1 k2).2
  have ha : ∀ k, k < r → fpi (b k) ≤ v := fun k hk => by
    rcases hs with e | ⟨q, e, hq⟩
    · omega
    · rw [hi.2.1 q (by omega), bc q (by omega)] at hq
      by_cases d : k = q
      · subst d; exact hq
      · rcases h3 k q (by omega) (by omega) with z | z
        · exact Int32.le_trans (Int32.le_of_lt z) hq
        · rw [z.1]; exact hq
  refine ⟨fun k => if k < r then b k else if k = r then n else b (k - 1), fun m => if m = n then r else if p m < r then p m else p m + 1, fun k hk => ?_, fun m hm => ?_, fun j k hj hk => ?_⟩
  · by_cases c1 : k < r
    · have z := h1 k (by omega)
      show (if k < r then b k else if k = r then n else b (k - 1)) < n + 1 ∧ (if (if k < r then b k else if k = r then n else b (k - 1)) = n then r else if p (if k < r then b k else if k = r then n else b (k - 1)) < r then p (if k < r then b k else if k = r then n else b (k - 1)) else p (if k < r then b k else if k = r then n else b (k - 1)) + 1) = k ∧ g2 k = nI (if k < r then b k else if k = r then n else b (k - 1))
      rw [if_pos c1, if_neg (by omega), z.2.1, if_pos c1, hu, pk_un (by omega), hi.2.1 k c1]
      exact ⟨by omega, rfl, z.2.2⟩
    · by_cases c2 : k = r
      · show (if k < r then b k else if k = r then n else b (k - 1)) < n + 1 ∧ (if (if k < r then b k else if k = r then n else b (k - 1)) = n then r else if p (if k < r then b k else if k = r then n else b (k - 1)) < r then p (if k < r then b k else if k = r then n else b (k - 1)) else p (if k < r then b k else if k = r then n else b (k - 1)) + 1) = k ∧ g2 k = nI (if k < r then b k else if k = r then n else b (k - 1))
        rw [if_neg c1, if_pos c2, if_pos rfl, hu, c2, pk_us]
        exact ⟨by omega, rfl, rfl⟩
      · have z := h1 (k - 1) (by omega)
        show (if k < r then b k else if k = r then n else b (k - 1)) < n + 1 ∧ (if (if k < r then b k else if k = r then n else b (k - 1)) = n then r else if p (if k < r then b k else if k = r then n else b (k - 1)) < r then p (if k < r then b k else if k = r then n else b (k - 1)) else p (if k < r then b k else if k = r then n else b (k - 1)) + 1) = k ∧ g2 k = nI (if k < r then b k else if k = r then n else b (k - 1))
        rw [if_neg c1, if_neg c2, if_neg (by omega), z.2.1, if_neg (by omega), hu, pk_un (by omega)]
        have y := (hi.2.2 (k - 1) (by omega) (by omega)).1
        rw [show k - 1 + 1 = k by omega] at y
        rw [y]
        exact ⟨by omega, by omega, z.2.2⟩
  · by_cases c1 : m = n
    · show (if m = n then r else if p m < r then p m else p m + 1) < n + 1 ∧ (if (if m = n then r else if p m < r then p m else p m + 1) < r then b (if m = n then r else if p m < r then p m else p m + 1) else if (if m = n then r else if p m < r then p m else p m + 1) = r then n else b ((if m = n then r else if p m < r then p m else p m + 1) - 1)) = m
      rw [if_pos c1, if_neg (by omega), if_pos rfl]
      exact ⟨by omega, c1.symm⟩
    · have z := h2 m (by omega)
      by_cases c2 : p m < r
      · show (if m = n then r else if p m < r then p m else p m + 1) < n + 1 ∧ (if (if m = n then r else if p m < r then p m else p m + 1) < r then b (if m = n then r else if p m < r then p m else p m + 1) else if (if m = n then r else if p m < r then p m else p m + 1) = r then n else b ((if m = n then r else if p m < r then p m else p m + 1) - 1)) = m
        rw [if_neg c1, if_pos c2, if_pos c2]
        exact ⟨by omega, z.2⟩
      · show (if m = n then r else if p m < r then p m else p m + 1) < n + 1 ∧ (if (if m = n then r else if p m < r then p m else p m + 1) < r then b (if m = n then r else if p m < r then p m else p m + 1) else if (if m = n then r else if p m < r then p m else p m + 1) = r then n else b ((if m = n then r else if p m < r then p m else p m + 1) - 1)) = m
        rw [if_neg c1, if_neg c2, if_neg (by omega), if_neg (by omega), Nat.add_sub_cancel]
        exact ⟨by omega, z.2⟩
  · show zpi (if j < r then b j else if j = r then n else b (j - 1)) < zpi (if k < r then b k else if k = r then n else b (k - 1)) ∨ (zpi (if j < r then b j else if j = r then n else b (j - 1)) = zpi (if k < r then b k else if k = r then n else b (k - 1)) ∧ (if j < r then b j else if j = r then n else b (j - 1)) < (if k < r then b k else if k = r then n else b (k - 1)))
    by_cases c1 : j < r
    · have zj := h1 j (by omega)
      rw [if_pos c1, zp _ zj.1]
      by_cases d1 : k < r
      · have zk := h1 k (by omega)
        rw [if_pos d1, zp _ zk.1]
        exact h3 j k hj (by omega)
      · by_cases d2 : k = r
        · rw [if_neg d1, if_pos d2, zn]
          by_cases e : fpi (b j) = v
          · exact Or.inr ⟨e, zj.1⟩
          · exact Or.inl (Int32.lt_of_le_of_ne (ha j c1) e)
        · have zk := h1 (k - 1) (by omega)
          rw [if_neg d1, if_neg d2, zp _ zk.1]
          exact Or.inl (Int32.lt_of_le_of_lt (ha j c1) (hb (k - 1) (by omega) (by omega)))
    · by_cases c2 : j = r
      · have zk := h1 (k - 1) (by omega)
        rw [if_neg c1, if_pos c2, zn, if_neg (by omega), if_neg (by omega), zp _ zk.1]
        exact Or.inl (hb (k - 1) (by omega) (by omega))
      · have zj := h1 (j - 1) (by omega)
        have zk := h1 (k - 1) (by omega)
        rw [if_neg c1, if_neg c2, if_neg (by omega), if_neg (by omega), zp _ zj.1, zp _ zk.1]
        exact h3 (j - 1) (k - 1) (by omega) (by omega)

/-- the sum of the deposits -/
def dsL (l : List Int64) : Int32 := l.foldl (fun s v => s + v.toInt32) 0
theorem dsL_app (l : List Int64) (v : Int64) : dsL (l ++ [v]) = dsL l + v.toInt32 := by
  unfold dsL
  rw [List.foldl_append]
  rfl
/-- the row of the account that a text defines -/
def RwC (C : Ct9) (f : Nat → Int32) : Prop :=
  (f 0 = C.1.1.toInt32 ∧ f 1 = C.1.2.1.toInt32 ∧ f 3 = C.1.2.2.toInt32) ∧ (f 4 = 0 ∧ f 7 = 0 ∧ f 8 = 0 ∧ f 10 = 0 ∧ f 12 = 0) ∧ (f 5 = dsL C.2.1 ∧ f 6 = dsL C.2.1 ∧ f 15 = nI C.2.1.length ∧ C.2.1.length ≤ 6) ∧
  (∀ m a p c, C.2.2[m]? = some (a, p, c) → f (16 + 7 * m + 0) = a.toInt32 ∧ f (16 + 7 * m + 1) = 0 ∧ f (16 + 7 * m + 2) = 0 ∧ f (16 + 7 * m + 3) = 0 ∧ f (16 + 7 * m + 4) = -1 ∧ f (16 + 7 * m + 5) = 0 ∧ f (16 + 7 * m + 6) = p.toInt32) ∧
  ∀ m, C.2.2.length ≤ m → m < 10 → f (16 + 7 * m + 1) = 0 ∧ f (16 + 7 * m + 2) = 0 ∧ f (16 + 7 * m + 3) = 0 ∧ f (16 + 7 * m + 5) = 0
/-- the reference's codes -/
def CfC (C : Ct9) (ml pl : List Int64) (fc fq : Nat → Int32) (cn cd : Nat) : Prop := cn = C.2.2.length ∧ cd = qC9 C.2.2 cn ∧ ∀ m a p c, C.2.2[m]? = some (a, p, c) → CdR ml pl (qC9 C.2.2 m) c fc ∧ fq m = nI (qC9 C.2.2 m) ∧ fq (m + 1) = nI (qC9 C.2.2 (m + 1))
def TR9 (K : Nat → Int32) (V : Nat → Int64) (ml pl : List Int64) (fp fc fq : Nat → Int32) (cn cd dd i : Nat) : Prop := ∃ C, Tc9 K V 0 C09 i C ∧ RwC C fp ∧ CfC C ml pl fc fq cn cd ∧ dd = C.2.1.length
/-- a statement has been read up to its semicolon at j -/
def TS9 (K : Nat → Int32) (V : Nat → Int64) (ml pl : List Int64) (fp fc fq : Nat → Int32) (cn cd dd j : Nat) : Prop := ∃ C i C2, Tc9 K V 0 C09 i C ∧ ¬ K i = 1 ∧ SC9 K V i C j C2 ∧ RwC C2 fp ∧ CfC C2 ml pl fc fq cn cd ∧ dd = C2.2.1.length
def DR9 (K : Nat → Int32) (V : Nat → Int64) (ml pl : List Int64) (fp fc fq : Nat → Int32) (cn cd : Nat) : Prop := ∃ C, TC9 K V 0 C09 C ∧ RwC C fp ∧ CfC C ml pl fc fq cn cd
theorem TS9.go {K : Nat → Int32} {V : Nat → Int64} {ml pl : List Int64} {fp fc fq : Nat → Int32} {cn cd dd i : Nat} {j : Nat} (h : TS9 K V ml pl fp fc fq cn cd dd i) (hj : j = i + 1) : TR9 K V ml pl fp fc fq cn cd dd j := by
  obtain ⟨C, i0, C2, h1, h2, h3, h4⟩ := h
  rw [hj]
  exact ⟨C2, h1.go h2 h3, h4⟩
theorem TR9.fin {K : Nat → Int32} {V : Nat → Int64} {ml pl : List Int64} {fp fc fq : Nat → Int32} {cn cd dd i : Nat} (h : TR9 K V ml pl fp fc fq cn cd dd i) (hk : K i = 1) : DR9 K V ml pl fp fc fq cn cd := by
  obtain ⟨C, h1, h2⟩ := h
  exact ⟨C, h1 C (TC9.fin hk), h2.1, h2.2.1⟩
/-- an empty row -/
def Row0 (f : Nat → Int32) : Prop := f 1 = 365 ∧ ∀ j, j < 86 → j ≠ 1 → f j = 0
theorem TR9.zero {K : Nat → Int32} {V : Nat → Int64} {fp fc fq : Nat → Int32} (h : Row0 fp) : TR9 K V [] [] fp fc fq 0 0 0 0 :=
  ⟨C09, Tc9.zero, ⟨⟨h.2 0 (by omega) (by omega), h.1, h.2 3 (by omega) (by omega)⟩, ⟨h.2 4 (by omega) (by omega), h.2 7 (by omega) (by omega), h.2 8 (by omega) (by omega), h.2 10 (by omega) (by omega), h.2 12 (by omega) (by omega)⟩, ⟨h.2 5 (by omega) (by omega), h.2 6 (by omega) (by omega), h.2 15 (by omega) (by omega), Nat.zero_le _⟩, (fun m a p c q => nomatch (show (none : Option (Int64 × Int64 × List Cd9)) = some (a, p, c) from q)), fun m _ hm => ⟨h.2 _ (by omega) (by omega), h.2 _ (by omega) (by omega), h.2 _ (by omega) (by omega), h.2 _ (by omega) (by omega)⟩⟩, ⟨rfl, rfl, fun m a p c q => nomatch (show (none : Option (Int64 × Int64 × List Cd9)) = some (a, p, c) from q)⟩, rfl⟩
theorem TS9.rate {K : Nat → Int32} {V : Nat → Int64} {ml pl : List Int64} {fp fc fq : Nat → Int32} {cn cd dd i : Nat} {j : Nat} {z1 z2 : Nat → Int32} (h : TR9 K V ml pl fp fc fq cn cd dd i) (hk : K i = 8) (u1 : UpV 0 fp z1 (V (i + 1))) (u2 : UpV 1 z1 z2 (V (i + 2))) (hj : j = i + 3) : TS9 K V ml pl z2 fc fq cn cd dd j := by
  obtain ⟨C, h1, ⟨⟨a0, a1, a3⟩, a4, a5, aM, aN⟩, h3⟩ := h
  unfold UpV at u1 u2
  have fo : ∀ k, k ≠ 0 → k ≠ 1 → z2 k = fp k := fun k k0 k1 => by rw [u2, u1, pk_un k1, pk_un k0]
  rw [hj]
  refine ⟨C, i, _, h1, by rw [hk]; decide, SC9.rate hk, ⟨⟨by rw [u2, u1, pk_un (by omega), pk_us], by rw [u2, pk_us], (fo 3 (by omega) (by omega)).trans a3⟩, ?_, ?_, fun m a p c hm => ?_, fun m l1 l2 => ?_⟩, h3⟩
  · rw [fo 4 (by omega) (by omega), fo 7 (by omega) (by omega), fo 8 (by omega) (by omega), fo 10 (by omega) (by omega), fo 12 (by omega) (by omega)]; exact a4
  · rw [fo 5 (by omega) (by omega), fo 6 (by omega) (by omega), fo 15 (by omega) (by omega)]; exact a5
  · have z := aM m a p c hm
    rw [fo (16 + 7 * m + 0) (by omega) (by omega), fo (16 + 7 * m + 1) (by omega) (by omega), fo (16 + 7 * m + 2) (by omega) (by omega), fo (16 + 7 * m + 3) (by omega) (by omega), fo (16 + 7 * m + 4) (by omega) (by omega), fo (16 + 7 * m + 5) (by omega) (by omega), fo (16 + 7 * m + 6) (by omega) (by omega)]
    exact z
  · have z := aN m l1 l2
    rw [fo (16 + 7 * m + 1) (by omega) (by omega), fo (16 + 7 * m + 2) (by omega) (by omega), fo (16 + 7 * m + 3) (by omega) (by omega), fo (16 + 7 * m + 5) (by omega) (by omega)]
    exact z
theorem TS9.set {K : Nat → Int32} {V : Nat → Int64} {ml pl : List Int64} {fp fc fq : Nat → Int32} {cn cd dd i : Nat} {j k : Nat} {z : Nat → Int32} {v : Int64} (h : TR9 K V ml pl fp fc fq cn cd dd i) (hk : (K i = 9 ∧ k = 2) ∨ (K i = 10 ∧ k = 3)) (u : UpV k fp z v) (hv : v = V (i + 1)) (hj : j = i + 2) : TS9 K V ml pl z fc fq cn cd dd j := by
  obtain ⟨C, h1, ⟨⟨a0, a1, a3⟩, a4, a5, aM, aN⟩, h3⟩ := h
  unfold UpV at u
  subst hv
  rw [hj]
  have fo : ∀ x, x ≠ k → z x = fp x := fun x hx => by rw [u, pk_un hx]
  have k23 : k = 2 ∨ k = 3 := by omega
  have w4 : z 4 = 0 ∧ z 7 = 0 ∧ z 8 = 0 ∧ z 10 = 0 ∧ z 12 = 0 := by
    rw [fo 4 (by omega), fo 7 (by omega), fo 8 (by omega), fo 10 (by omega), fo 12 (by omega)]; exact a4
  have w5 : z 5 = dsL C.2.1 ∧ z 6 = dsL C.2.1 ∧ z 15 = nI C.2.1.length ∧ C.2.1.length ≤ 6 := by
    rw [fo 5 (by omega), fo 6 (by omega), fo 15 (by omega)]; exact a5
  have wM : ∀ m a p c, C.2.2[m]? = some (a, p, c) → z (16 + 7 * m + 0) = a.toInt32 ∧ z (16 + 7 * m + 1) = 0 ∧ z (16 + 7 * m + 2) = 0 ∧ z (16 + 7 * m + 3) = 0 ∧ z (16 + 7 * m + 4) = -1 ∧ z (16 + 7 * m + 5) = 0 ∧ z (16 + 7 * m + 6) = p.toInt32 := fun m a p c hm => by
    rw [fo (16 + 7 * m + 0) (by omega), fo (16 + 7 * m + 1) (by omega), fo (16 + 7 * m + 2) (by omega), fo (16 + 7 * m + 3) (by omega), fo (16 + 7 * m + 4) (by omega), fo (16 + 7 * m + 5) (by omega), fo (16 + 7 * m + 6) (by omega)]
    exact aM m a p c hm
  have wN : ∀ m, C.2.2.length ≤ m → m < 10 → z (16 + 7 * m + 1) = 0 ∧ z (16 + 7 * m + 2) = 0 ∧ z (16 + 7 * m + 3) = 0 ∧ z (16 + 7 * m + 5) = 0 := fun m l1 l2 => by
    rw [fo (16 + 7 * m + 1) (by omega), fo (16 + 7 * m + 2) (by omega), fo (16 + 7 * m + 3) (by omega), fo (16 + 7 * m + 5) (by omega)]
    exact aN m l1 l2
  rcases hk with ⟨q, e⟩ | ⟨q, e⟩
  · subst e
    exact ⟨C, i, _, h1, by rw [q]; decide, SC9.fee q, ⟨⟨(fo 0 (by omega)).trans a0, (fo 1 (by omega)).trans a1, (fo 3 (by omega)).trans a3⟩, w4, w5, wM, wN⟩, h3⟩
  · subst e
    exact ⟨C, i, _, h1, by rw [q]; decide, SC9.grace q, ⟨⟨(fo 0 (by omega)).trans a0, (fo 1 (by omega)).trans a1, by rw [u, pk_us]⟩, w4, w5, wM, wN⟩, h3⟩
theorem TS9.dep {K : Nat → Int32} {V : Nat → Int64} {ml pl : List Int64} {fp fc fq : Nat → Int32} {cn cd dd i : Nat} {j d2 : Nat} {x : Int32} {z : Nat → Int32} (h : TR9 K V ml pl fp fc fq cn cd dd i) (hk : K i = 11) (h1 : nmE (lN 1) (lN 99999) (K (i + 1)) (V (i + 1)) = none) (hx : NV9 x (V (i + 1))) (ha : Ab (entR x (upd (upd fp 5 (fp 5 + x)) 6 (fp 6 + x))) z) (hd : dd < 6) (hn : d2 = dd + 1) (hj : j = i + 2) (hcn : cn ≤ 10) : TS9 K V ml pl z fc fq cn cd d2 j := by
  obtain ⟨C, hT, ⟨⟨a0, a1, a3⟩, a4, a5, aM, aN⟩, h3, h4⟩ := h
  obtain ⟨n, l1, l2, l3, l4⟩ := nm_32 h1 (by omega) (by omega)
  have ex : x = (V (i + 1)).toInt32 := hx
  have x0 : ¬ x = 0 := by
    rw [ex, l4]
    intro e
    have := (nI_eq (a := n) (b := 0) (by omega) (by omega)).mp e
    omega
  have hd6 : C.2.1.length < 6 := by omega
  have fo : ∀ k, k < 86 → k ≠ 5 → k ≠ 6 → k ≠ 15 → k ≠ 9 → z k = fp k := fun k k86 k5 k6 k15 k9 => by rw [ha k k86 k9, entR_n k15, pk_un k6, pk_un k5]
  have w5 : z 5 = fp 5 + x := by rw [ha 5 (by omega) (by omega), entR_n (by omega), pk_un (by omega), pk_us]
  have w6 : z 6 = fp 6 + x := by rw [ha 6 (by omega) (by omega), entR_n (by omega), pk_us]
  have w15 : z 15 = nI (C.2.1.length + 1) := by
    rw [ha 15 (by omega) (by omega), entR_e (k := C.2.1.length) (by rw [pk_un (by omega), pk_un (by omega)]; exact a5.2.2.1) (by omega)]
    unfold entN
    rw [if_neg x0]
    congr 1
    omega
  have hcl : C.2.2.length ≤ 10 := by rw [← h3.1]; exact hcn
  rw [hj]
  refine ⟨C, i, _, hT, by rw [hk]; decide, SC9.dep hk, ⟨⟨(fo 0 (by omega) (by omega) (by omega) (by omega) (by omega)).trans a0, (fo 1 (by omega) (by omega) (by omega) (by omega) (by omega)).trans a1, (fo 3 (by omega) (by omega) (by omega) (by omega) (by omega)).trans a3⟩, ?_, ⟨?_, ?_, ?_, ?_⟩, fun m a p c hm => ?_, fun m l1 l2 => ?_⟩, h3, by rw [List.length_append, hn, h4]; rfl⟩
  · rw [fo 4 (by omega) (by omega) (by omega) (by omega) (by omega), fo 7 (by omega) (by omega) (by omega) (by omega) (by omega), fo 8 (by omega) (by omega) (by omega) (by omega) (by omega), fo 10 (by omega) (by omega) (by omega) (by omega) (by omega), fo 12 (by omega) (by omega) (by omega) (by omega) (by omega)]; exact a4
  · rw [w5, a5.1, ex]; exact (dsL_app _ _).symm
  · rw [w6, a5.2.1, ex]; exact (dsL_app _ _).symm
  · rw [w15, List.length_append]; rfl
  · rw [List.length_append]; show C.2.1.length + 1 ≤ 6; omega
  · have hl : m < C.2.2.length := (List.getElem?_eq_some_iff.mp hm).1
    have y := aM m a p c hm
    rw [fo (16 + 7 * m + 0) (by omega) (by omega) (by omega) (by omega) (by omega), fo (16 + 7 * m + 1) (by omega) (by omega) (by omega) (by omega) (by omega), fo (16 + 7 * m + 2) (by omega) (by omega) (by omega) (by omega) (by omega), fo (16 + 7 * m + 3) (by omega) (by omega) (by omega) (by omega) (by omega), fo (16 + 7 * m + 4) (by omega) (by omega) (by omega) (by omega) (by omega), fo (16 + 7 * m + 5) (by omega) (by omega) (by omega) (by omega) (by omega), fo (16 + 7 * m + 6) (by omega) (by omega) (by omega) (by omega) (by omega)]
    exact y
  · have y := aN m l1 l2
    rw [fo (16 + 7 * m + 1) (by omega) (by omega) (by omega) (by omega) (by omega), fo (16 + 7 * m + 2) (by omega) (by omega) (by omega) (by omega) (by omega), fo (16 + 7 * m + 3) (by omega) (by omega) (by omega) (by omega) (by omega), fo (16 + 7 * m + 5) (by omega) (by omega) (by omega) (by omega) (by omega)]
    exact y
theorem TS9.mil {K : Nat → Int32} {V : Nat → Int64} {ml pl : List Int64} {fp fc fq : Nat → Int32} {cn cd dd i : Nat} {j cn2 cd2 : Nat} {ml2 pl2 : List Int64} {w : Int64} {z1 z2 z3 z4 z5 zc q1 q2 : Nat → Int32} (h : TR9 K V ml pl fp fc fq cn cd dd i) (hk : K i = 12) (u1 : UpV (16 + 7 * cn + 0) fp z1 (V (i + 2))) (u2 : UpV (16 + 7 * cn + 6) z1 z2 (V (i + 3))) (k3 : K14 z2 z3) (u4 : Upp (16 + 7 * cn + 4) (-1) z3 z4) (u5 : Upp 13 (nI cn2) z4 z5) (hc : CR9 K V 3 (i + 5) j ml pl pl2 cd cd2 fc zc) (v1 : Upp cn (nI cd) fq q1) (v2 : Upp (cn + 1) (nI cd2) q1 q2) (hm : ml2 = ml ++ [w]) (l1 : ml2.length ≤ 10) (l2 : pl2.length ≤ 8) (hn : cn2 = cn + 1) (hc10 : cn < 10) : TS9 K V ml2 pl2 z5 zc q2 cn2 cd2 dd j := by
  obtain ⟨C, hT, ⟨⟨a0, a1, a3⟩, a4, a5, aM, aN⟩, ⟨c1, c2, c3⟩, h9⟩ := h
  obtain ⟨cs, r1, r2, r3, r4, r5⟩ := hc
  unfold UpV at u1 u2
  unfold Upp at u4 u5 v1 v2
  have hE : Ext9 ml ml2 := ⟨[w], hm⟩
  have fo : ∀ k, k ≠ 14 → k ≠ 13 → k ≠ 16 + 7 * cn + 0 → k ≠ 16 + 7 * cn + 6 → k ≠ 16 + 7 * cn + 4 → z5 k = fp k := fun k k14 k13 k0 k6 k4 => by rw [u5, pk_un k13, u4, pk_un k4, k3 k k14, u2, pk_un k6, u1, pk_un k0]
  have w0 : z5 (16 + 7 * cn + 0) = (V (i + 2)).toInt32 := by rw [u5, pk_un (by omega), u4, pk_un (by omega), k3 _ (by omega), u2, pk_un (by omega), u1, pk_us]
  have w6 : z5 (16 + 7 * cn + 6) = (V (i + 3)).toInt32 := by rw [u5, pk_un (by omega), u4, pk_un (by omega), k3 _ (by omega), u2, pk_us]
  have w4 : z5 (16 + 7 * cn + 4) = -1 := by rw [u5, pk_un (by omega), u4, pk_us]
  have eq2 : cd2 = qC9 (C.2.2 ++ [(V (i + 2), V (i + 3), cs)]) (C.2.2.length + 1) := by rw [qC9_new, ← c1, ← c2]; exact r2
  refine ⟨C, i, _, hT, by rw [hk]; decide, SC9.mil hk r1, ⟨⟨?_, ?_, ?_⟩, ?_, ?_, fun m a p c hx => ?_, fun m l1 l2 => ?_⟩, ⟨by rw [List.length_append, hn, c1]; rfl, by rw [hn, c1]; exact eq2, fun m a p c hx => ?_⟩, h9⟩
  · rw [fo 0 (by omega) (by omega) (by omega) (by omega) (by omega)]; exact a0
  · rw [fo 1 (by omega) (by omega) (by omega) (by omega) (by omega)]; exact a1
  · rw [fo 3 (by omega) (by omega) (by omega) (by omega) (by omega)]; exact a3
  · rw [fo 4 (by omega) (by omega) (by omega) (by omega) (by omega), fo 7 (by omega) (by omega) (by omega) (by omega) (by omega), fo 8 (by omega) (by omega) (by omega) (by omega) (by omega), fo 10 (by omega) (by omega) (by omega) (by omega) (by omega), fo 12 (by omega) (by omega) (by omega) (by omega) (by omega)]; exact a4
  · rw [fo 5 (by omega) (by omega) (by omega) (by omega) (by omega), fo 6 (by omega) (by omega) (by omega) (by omega) (by omega), fo 15 (by omega) (by omega) (by omega) (by omega) (by omega)]; exact a5
  · by_cases e : m < C.2.2.length
    · rw [List.getElem?_append_left e] at hx
      have y := aM m a p c hx
      rw [fo (16 + 7 * m + 0) (by omega) (by omega) (by omega) (by omega) (by omega), fo (16 + 7 * m + 1) (by omega) (by omega) (by omega) (by omega) (by omega), fo (16 + 7 * m + 2) (by omega) (by omega) (by omega) (by omega) (by omega), fo (16 + 7 * m + 3) (by omega) (by omega) (by omega) (by omega) (by omega), fo (16 + 7 * m + 4) (by omega) (by omega) (by omega) (by omega) (by omega), fo (16 + 7 * m + 5) (by omega) (by omega) (by omega) (by omega) (by omega), fo (16 + 7 * m + 6) (by omega) (by omega) (by omega) (by omega) (by omega)]
      exact y
    · have l := (List.getElem?_eq_some_iff.mp hx).1
      rw [List.length_append] at l
      have l9 : m < C.2.2.length + 1 := l
      have ek : m = cn := by omega
      rw [ek, c1, List.getElem?_append_right (Nat.le_refl _), Nat.sub_self] at hx
      have ev := Prod.mk.inj (Option.some.inj hx)
      have ev2 := Prod.mk.inj ev.2
      have y := aN cn (by omega) hc10
      rw [ek, w0, w6, w4, fo (16 + 7 * cn + 1) (by omega) (by omega) (by omega) (by omega) (by omega), fo (16 + 7 * cn + 2) (by omega) (by omega) (by omega) (by omega) (by omega), fo (16 + 7 * cn + 3) (by omega) (by omega) (by omega) (by omega) (by omega), fo (16 + 7 * cn + 5) (by omega) (by omega) (by omega) (by omega) (by omega), ev.1, ev2.1]
      exact ⟨rfl, y.1, y.2.1, y.2.2.1, rfl, y.2.2.2, rfl⟩
  · rw [List.length_append] at l1
    have l9 : C.2.2.length + 1 ≤ m := l1
    have y := aN m (by omega) l2
    rw [fo (16 + 7 * m + 1) (by omega) (by omega) (by omega) (by omega) (by omega), fo (16 + 7 * m + 2) (by omega) (by omega) (by omega) (by omega) (by omega), fo (16 + 7 * m + 3) (by omega) (by omega) (by omega) (by omega) (by omega), fo (16 + 7 * m + 5) (by omega) (by omega) (by omega) (by omega) (by omega)]
    exact y
  · by_cases e : m < C.2.2.length
    · rw [List.getElem?_append_left e] at hx
      obtain ⟨s1, s2, s3⟩ := c3 m a p c hx
      have le1 : qC9 C.2.2 m + c.length ≤ cd := by
        rw [← qC9_at hx, c2, c1]
        have := qC9_mono C.2.2 (m + 1) (C.2.2.length - (m + 1))
        rw [show m + 1 + (C.2.2.length - (m + 1)) = C.2.2.length by omega] at this
        exact this
      rw [qC9_app (show m ≤ C.2.2.length by omega), qC9_app (show m + 1 ≤ C.2.2.length by omega)]
      refine ⟨(s1.ext hE r5 l1 l2).keep (n := cd) r4 le1, ?_, ?_⟩
      · rw [v2, pk_un (by omega), v1, pk_un (by omega)]; exact s2
      · by_cases d : m + 1 = cn
        · rw [v2, pk_un (by omega), v1, d, pk_us, c2, c1]
        · rw [v2, pk_un (by omega), v1, pk_un d]; exact s3
    · have l := (List.getElem?_eq_some_iff.mp hx).1
      rw [List.length_append] at l
      have l9 : m < C.2.2.length + 1 := l
      have ek : m = C.2.2.length := by omega
      rw [ek, List.getElem?_append_right (Nat.le_refl _), Nat.sub_self] at hx
      have ev := Prod.mk.inj (Option.some.inj hx)
      have ev2 := Prod.mk.inj ev.2
      rw [ek, ← eq2, qC9_app (Nat.le_refl _), ← ev2.2, ← c1, ← c2]
      refine ⟨r3.ext hE (Ext9.rf _) l1 l2, ?_, ?_⟩
      · rw [v2, pk_un (by omega), v1, pk_us]
      · rw [v2, pk_us]
/-- what has been read, once it is taken over -/
def DW9 (K : Nat → Int32) (V : Nat → Int64) (ml pl : List Int64) (fs f31 f33 : Nat → Int32) (cn : Nat) : Prop := ∃ cd, DR9 K V ml pl fs f31 f33 cn cd
theorem RwC.cp {C : Ct9} {f g : Nat → Int32} (h : RwC C f) (hl : C.2.2.length ≤ 10) (k : ∀ j, j < 86 → g j = f j) : RwC C g := by
  obtain ⟨⟨a0, a1, a3⟩, ⟨b4, b7, b8, b10, b12⟩, ⟨d5, d6, d15, dl⟩, aM, aN⟩ := h
  refine ⟨⟨(k 0 (by omega)).trans a0, (k 1 (by omega)).trans a1, (k 3 (by omega)).trans a3⟩, ⟨(k 4 (by omega)).trans b4, (k 7 (by omega)).trans b7, (k 8 (by omega)).trans b8, (k 10 (by omega)).trans b10, (k 12 (by omega)).trans b12⟩, ⟨(k 5 (by omega)).trans d5, (k 6 (by omega)).trans d6, (k 15 (by omega)).trans d15, dl⟩, fun m a p c hm => ?_, fun m l1 l2 => ?_⟩
  · have hm10 := (List.getElem?_eq_some_iff.mp hm).1
    obtain ⟨z0, z1, z2, z3, z4, z5, z6⟩ := aM m a p c hm
    exact ⟨(k _ (by omega)).trans z0, (k _ (by omega)).trans z1, (k _ (by omega)).trans z2, (k _ (by omega)).trans z3, (k _ (by omega)).trans z4, (k _ (by omega)).trans z5, (k _ (by omega)).trans z6⟩
  · obtain ⟨z1, z2, z3, z5⟩ := aN m l1 l2
    exact ⟨(k _ (by omega)).trans z1, (k _ (by omega)).trans z2, (k _ (by omega)).trans z3, (k _ (by omega)).trans z5⟩
theorem qC9_le {l : List (Int64 × Int64 × List Cd9)} {m : Nat} {a p : Int64} {c : List Cd9} (h : l[m]? = some (a, p, c)) : qC9 l m + c.length ≤ qC9 l l.length := by
  have hm := (List.getElem?_eq_some_iff.mp h).1
  rw [← qC9_at h]
  have := qC9_mono l (m + 1) (l.length - (m + 1))
  rw [show m + 1 + (l.length - (m + 1)) = l.length by omega] at this
  exact this
theorem DR9.take {K : Nat → Int32} {V : Nat → Int64} {ml pl : List Int64} {fp fc fq fs f31 f33 : Nat → Int32} {cn cd : Nat} (h : DR9 K V ml pl fp fc fq cn cd) (hcn : cn ≤ 10) (h1 : ∀ j, j < 326 → fs j = fp j) (h2 : ∀ j, j < cd → f31 j = fc j) (h3 : ∀ j, j < 11 → f33 j = fq j) : DW9 K V ml pl fs f31 f33 cn := by
  obtain ⟨C, hT, hR, c1, c2, c3⟩ := h
  refine ⟨cd, C, hT, hR.cp (by omega) (fun j hj => h1 j (by omega)), c1, c2, fun m a p c hm => ?_⟩
  have hl := (List.getElem?_eq_some_iff.mp hm).1
  obtain ⟨z1, z2, z3⟩ := c3 m a p c hm
  have le1 : qC9 C.2.2 m + c.length ≤ cd := by rw [c2, c1]; exact qC9_le hm
  exact ⟨z1.keep (n := cd) h2 le1, (h3 m (by omega)).trans z2, (h3 (m + 1) (by omega)).trans z3⟩

/-- the first i places hold v -/
def Zf9 (i : Nat) (v : Int32) (f : Nat → Int32) : Prop := ∀ j, j < i → f j = v
theorem Zf9.zero (v : Int32) (f : Nat → Int32) : Zf9 0 v f := fun j h => absurd h (Nat.not_lt_zero j)
theorem Zf9.step {i : Nat} {v : Int32} {f : Nat → Int32} (h : Zf9 i v f) (hi : i < 2147483648) : Zf9 (i + 1) v (upd f (nI i).toNatClampNeg v) := fun j hj => by
  rw [nI_clamp hi]
  by_cases e : j = i
  · subst e; exact pk_us
  · rw [pk_un e]; exact h j (by omega)
/-- the sum of the first deposits; the entries that they leave -/
def dcS (f : Nat → Int32) : Nat → Int32
  | 0 => 0
  | n + 1 => dcS f n + f n
def dkN (f : Nat → Int32) : Nat → Nat
  | 0 => 0
  | n + 1 => entC (dkN f n) (f n)
def De9 (f : Nat → Int32) (i : Nat) (x : Int32) : Prop := x = dcS f i
def Dk9 (f : Nat → Int32) (i k : Nat) : Prop := k = dkN f i
theorem De9.zero (f : Nat → Int32) : De9 f 0 0 := rfl
theorem De9.step {f : Nat → Int32} {i : Nat} {x : Int32} (h : De9 f i x) : De9 f (i + 1) (x + f i) := by
  unfold De9 at h ⊢
  rw [h]
  rfl
theorem Dk9.zero (f : Nat → Int32) : Dk9 f 0 0 := rfl
theorem Dk9.step {f : Nat → Int32} {i k k2 : Nat} (h : Dk9 f i k) (e : k2 = entC k (f i)) : Dk9 f (i + 1) k2 := by
  unfold Dk9 at h ⊢
  rw [e, h]
  rfl
/-- the account as a plan opens it -/
def OpnA (n : Nat) (fde : Nat → Int32) (pr pb pg i6 i7 i8 : Int32) (i9 i11 : Int64) (i12 i13 i15 i16 i17 i18 i19 : Int32) (kp : Nat) (fs fp ff fd : Nat → Int32) : Prop :=
  (i6 = 0 ∧ De9 fde n i7 ∧ De9 fde n i8 ∧ i9 = 0 ∧ i11 = 0 ∧ i12 = 0 ∧ i13 = 0 ∧ i15 = pr ∧ i16 = pb ∧ i17 = pg ∧ i18 = 0 ∧ i19 = 0) ∧ Dk9 fde n kp ∧ Zf9 10 0 fs ∧ Zf9 10 0 fp ∧ Zf9 10 0 ff ∧ Zf9 10 (-1) fd
/-- the account as it was -/
def KeepA (i6 i7 i8 : Int32) (i9 i11 : Int64) (i12 i13 i15 i16 i17 i18 i19 : Int32) (kp : Nat) (fs fp ff fd : Nat → Int32) (z6 z7 z8 : Int32) (z9 z11 : Int64) (z12 z13 z15 z16 z17 z18 z19 : Int32) (ky : Nat) (zs zp zf zd : Nat → Int32) : Prop :=
  (z6 = i6 ∧ z7 = i7 ∧ z8 = i8 ∧ z9 = i9 ∧ z11 = i11 ∧ z12 = i12 ∧ z13 = i13 ∧ z15 = i15 ∧ z16 = i16 ∧ z17 = i17 ∧ z18 = i18 ∧ z19 = i19) ∧ ky = kp ∧ zs = fs ∧ zp = fp ∧ zf = ff ∧ zd = fd
theorem KeepA.rf (i6 i7 i8 : Int32) (i9 i11 : Int64) (i12 i13 i15 i16 i17 i18 i19 : Int32) (kp : Nat) (fs fp ff fd : Nat → Int32) : KeepA i6 i7 i8 i9 i11 i12 i13 i15 i16 i17 i18 i19 kp fs fp ff fd i6 i7 i8 i9 i11 i12 i13 i15 i16 i17 i18 i19 kp fs fp ff fd :=
  ⟨⟨rfl, rfl, rfl, rfl, rfl, rfl, rfl, rfl, rfl, rfl, rfl, rfl⟩, rfl, rfl, rfl, rfl, rfl⟩
theorem Nul.row0 {f : Nat → Int32} (h : Nul 326 f) : Row0 (upd f 1 365) := ⟨pk_us, fun j hj hn => (pk_un hn).trans (h j (by omega))⟩
theorem Zs.row0 {f : Nat → Int32} (h : Zs f) : Row0 f := ⟨h.1, fun j hj hn => h.2 j (by omega) hn⟩

/-- how many values wait behind codes -/
def dpl : List Cd9 → Nat → Option Nat
  | [], d => some d
  | p :: t, d => if p.1 = 16 then (if 1 ≤ d then dpl t d else none) else if p.1 = 15 ∨ p.1 = 14 then (if 2 ≤ d then dpl t (d - 1) else none) else if d < 31 then dpl t (d + 1) else none
theorem dpl_app : ∀ (a b : List Cd9) (d e : Nat), dpl a d = some e → dpl (a ++ b) d = dpl b e
  | [], b, d, e, h => by
    have h2 : d = e := Option.some.inj h
    rw [h2]
    rfl
  | p :: t, b, d, e, h => by
    rw [dpl] at h
    show dpl (p :: (t ++ b)) d = dpl b e
    rw [dpl]
    by_cases c1 : p.1 = 16
    · rw [if_pos c1] at h ⊢
      by_cases c2 : 1 ≤ d
      · rw [if_pos c2] at h ⊢; exact dpl_app t b d e h
      · rw [if_neg c2] at h; exact nomatch h
    · rw [if_neg c1] at h ⊢
      by_cases c3 : p.1 = 15 ∨ p.1 = 14
      · rw [if_pos c3] at h ⊢
        by_cases c2 : 2 ≤ d
        · rw [if_pos c2] at h ⊢; exact dpl_app t b (d - 1) e h
        · rw [if_neg c2] at h; exact nomatch h
      · rw [if_neg c3] at h ⊢
        by_cases c2 : d < 31
        · rw [if_pos c2] at h ⊢; exact dpl_app t b (d + 1) e h
        · rw [if_neg c2] at h; exact nomatch h
theorem dpl_one {k : Int32} {v : Int64} {d : Nat} (h16 : ¬ k = 16) (h15 : ¬ k = 15) (h14 : ¬ k = 14) (hd : d < 31) : dpl [(k, v)] d = some (d + 1) := by
  rw [dpl, if_neg h16, if_neg (fun q => q.elim h15 h14), if_pos hd]
  rfl
theorem dpl_not {d : Nat} (hd : 1 ≤ d) : dpl [((16 : Int32), (0 : Int64))] d = some d := by
  rw [dpl, if_pos rfl, if_pos hd]
  rfl
theorem dpl_and {t : List Cd9} {d : Nat} (hd : 2 ≤ d) : dpl (((15 : Int32), (0 : Int64)) :: t) d = dpl t (d - 1) := by
  rw [dpl, if_neg (by decide), if_pos (Or.inl rfl), if_pos hd]
theorem dpl_or {t : List Cd9} {d : Nat} (hd : 2 ≤ d) : dpl (((14 : Int32), (0 : Int64)) :: t) d = dpl t (d - 1) := by
  rw [dpl, if_neg (by decide), if_pos (Or.inr rfl), if_pos hd]
theorem bd_inr {x : Option Rz9} {k : Nat → List Int64 → Option Rz9} {r : Nat × List Int64} (h : bd x k = some (.inr r)) : ∃ j pl, x = some (.inr (j, pl)) ∧ k j pl = some (.inr r) := by
  cases x with
  | none => exact nomatch (show (none : Option Rz9) = some (.inr r) from h)
  | some z =>
    cases z with
    | inl e => exact nomatch (show (some (Sum.inl e) : Option Rz9) = some (Sum.inr r) from h)
    | inr p => exact ⟨p.1, p.2, rfl, h⟩
theorem cb_some {x : Option (Nat × List Cd9)} {k : Nat → List Cd9 → Option (Nat × List Cd9)} {r : Nat × List Cd9} (h : cb x k = some r) : ∃ j c, x = some (j, c) ∧ k j c = some r := by
  cases x with
  | none => exact nomatch (show (none : Option (Nat × List Cd9)) = some r from h)
  | some p => exact ⟨p.1, p.2, rfl, h⟩
theorem nm_inr {K S : Nat → Int32} {V : Nat → Int64} {lo hi : Int64} {i : Nat} {x : Option Rz9} {r : Nat × List Int64} (h : nm K S V lo hi i x = some (.inr r)) : x = some (.inr r) := by
  unfold nm at h
  cases hq : nmE lo hi (K i) (V i) with
  | none => rw [hq] at h; exact h
  | some e => rw [hq] at h; exact nomatch (show (some (Sum.inl (flo K S i e)) : Option Rz9) = some (Sum.inr r) from h)
/-- how many more values wait within a part: at level o -/
def wd9 (o m : Nat) : Nat := 1 + 2 * (8 - o) + (if m = 0 then 0 else if m = 1 ∨ m = 2 then 1 else 2)
def sd9 (m : Nat) : Nat := if m = 2 ∨ m = 4 then 1 else 0
theorem sd9_0 : sd9 0 = 0 := rfl
theorem sd9_1 : sd9 1 = 0 := rfl
theorem sd9_2 : sd9 2 = 1 := rfl
theorem sd9_3 : sd9 3 = 0 := rfl
theorem sd9_4 : sd9 4 = 1 := rfl
theorem wd9_0 (o : Nat) : wd9 o 0 = 1 + 2 * (8 - o) + 0 := rfl
theorem wd9_1 (o : Nat) : wd9 o 1 = 1 + 2 * (8 - o) + 1 := rfl
theorem wd9_2 (o : Nat) : wd9 o 2 = 1 + 2 * (8 - o) + 1 := rfl
theorem wd9_3 (o : Nat) : wd9 o 3 = 1 + 2 * (8 - o) + 2 := rfl
theorem wd9_4 (o : Nat) : wd9 o 4 = 1 + 2 * (8 - o) + 2 := rfl
theorem sm_inr {a : Int32 × Int32} {r : Nat × List Int64} {p : Prop} (h : (some (Sum.inl a) : Option Rz9) = some (Sum.inr r)) : p := nomatch h
/-- a condition that both read: they end together, and no more than so many values wait -/
theorem dep9 {K S : Nat → Int32} {V : Nat → Int64} {ml : List Int64} : ∀ (f g m o i : Nat) (pl : List Int64) (j : Nat) (pl2 : List Int64) (j2 : Nat) (c : List Cd9), m ≤ 4 → o ≤ 8 → pr K S V ml f m o i pl = some (.inr (j, pl2)) → pc K V g m i = some (j2, c) → j2 = j ∧ ∀ d, d + wd9 o m ≤ 31 → dpl c (d + sd9 m) = some (d + 1) := by
  intro f
  induction f with
  | zero => intro g m o i pl j pl2 j2 c _ _ h _; exact nomatch (show (none : Option Rz9) = some (.inr (j, pl2)) from h)
  | succ f ih =>
    intro g m o i pl j pl2 j2 c hm ho h h2
    cases g with
    | zero => exact nomatch (show (none : Option (Nat × List Cd9)) = some (j2, c) from h2)
    | succ g =>
    rw [pr] at h
    rw [pc] at h2
    by_cases m0 : m = 0
    · subst m0
      rw [if_pos rfl] at h h2
      by_cases q8 : (K i = 16 ∨ K i = 5) ∧ 8 ≤ o
      · rw [if_pos q8] at h; exact sm_inr h
      rw [if_neg q8] at h
      by_cases k5 : K i = 5
      · rw [if_pos k5] at h h2
        obtain ⟨a, pa, h3, h4⟩ := bd_inr h
        obtain ⟨b, cs, h5, h6⟩ := cb_some h2
        have o8 : o < 8 := by
          by_cases z : 8 ≤ o
          · exact absurd ⟨Or.inr k5, z⟩ q8
          · omega
        obtain ⟨e1, e2⟩ := ih g 3 (o + 1) (i + 1) pl a pa b cs (by omega) (by omega) h3 h5
        rw [sd9_3] at e2
        by_cases k6 : K a = 6
        · rw [if_pos k6] at h4
          have h7 := Prod.mk.inj (Sum.inr.inj (Option.some.inj h4))
          have h8 := Prod.mk.inj (Option.some.inj h6)
          refine ⟨by rw [← h8.1, ← h7.1, e1], fun d hd => ?_⟩
          rw [← h8.2]
          rw [wd9_0] at hd
          rw [sd9_0]
          exact e2 d (by rw [wd9_3]; omega)
        · rw [if_neg k6] at h4; exact sm_inr h4
      rw [if_neg k5] at h h2
      by_cases k16 : K i = 16
      · rw [if_pos k16] at h h2
        obtain ⟨b, cs, h5, h6⟩ := cb_some h2
        have o8 : o < 8 := by
          by_cases z : 8 ≤ o
          · exact absurd ⟨Or.inl k16, z⟩ q8
          · omega
        obtain ⟨e1, e2⟩ := ih g 0 (o + 1) (i + 1) pl j pl2 b cs (by omega) (by omega) h h5
        rw [sd9_0] at e2
        have h8 := Prod.mk.inj (Option.some.inj h6)
        refine ⟨h8.1.symm.trans e1, fun d hd => ?_⟩
        rw [wd9_0] at hd
        rw [sd9_0]
        rw [← h8.2, dpl_app cs _ (d + 0) (d + 1) (e2 d (by rw [wd9_0]; omega))]
        exact dpl_not (by omega)
      rw [if_neg k16] at h h2
      have lf : ∀ v : Int64, ¬ K i = 15 → ¬ K i = 14 → ∀ d, d + wd9 o 0 ≤ 31 → dpl [(K i, v)] (d + sd9 0) = some (d + 1) := fun v n15 n14 d hd => by
        rw [wd9_0] at hd
        rw [sd9_0]
        exact dpl_one k16 n15 n14 (show d + 0 < 31 by omega)
      have two : ¬ (K i = 21 ∨ K i = 22) → ¬ K i = 15 → ¬ K i = 14 → j = i + 2 → j2 = j ∧ ∀ d, d + wd9 o 0 ≤ 31 → dpl c (d + sd9 0) = some (d + 1) := fun n2 n15 n14 ej => by
        rw [if_neg n2] at h2
        have h8 := Prod.mk.inj (Option.some.inj h2)
        rw [← h8.2]
        exact ⟨h8.1.symm.trans ej.symm, lf _ n15 n14⟩
      by_cases k17 : K i = 17
      · rw [if_pos k17] at h
        have h7 := Prod.mk.inj (Sum.inr.inj (Option.some.inj (nm_inr h)))
        exact two (by rw [k17]; decide) (by rw [k17]; decide) (by rw [k17]; decide) h7.1.symm
      rw [if_neg k17] at h
      by_cases k20 : K i = 20
      · rw [if_pos k20] at h
        have h7 := Prod.mk.inj (Sum.inr.inj (Option.some.inj (nm_inr h)))
        exact two (by rw [k20]; decide) (by rw [k20]; decide) (by rw [k20]; decide) h7.1.symm
      rw [if_neg k20] at h
      by_cases k18 : K i = 18
      · rw [if_pos k18] at h
        have n2 : ¬ (K i = 21 ∨ K i = 22) := by rw [k18]; decide
        by_cases z4 : K (i + 1) = 4
        · rw [if_pos z4] at h
          by_cases zi : V (i + 1) ∈ pl
          · rw [if_pos zi] at h
            exact two n2 (by rw [k18]; decide) (by rw [k18]; decide) (Prod.mk.inj (Sum.inr.inj (Option.some.inj h))).1.symm
          · rw [if_neg zi] at h
            by_cases z8 : pl.length = 8
            · rw [if_pos z8] at h; exact sm_inr h
            · rw [if_neg z8] at h
              exact two n2 (by rw [k18]; decide) (by rw [k18]; decide) (Prod.mk.inj (Sum.inr.inj (Option.some.inj h))).1.symm
        · rw [if_neg z4] at h; exact sm_inr h
      rw [if_neg k18] at h
      by_cases k19 : K i = 19
      · rw [if_pos k19] at h
        have n2 : ¬ (K i = 21 ∨ K i = 22) := by rw [k19]; decide
        by_cases z4 : K (i + 1) = 4
        · rw [if_pos z4] at h
          by_cases zi : V (i + 1) ∈ ml
          · rw [if_pos zi] at h
            exact two n2 (by rw [k19]; decide) (by rw [k19]; decide) (Prod.mk.inj (Sum.inr.inj (Option.some.inj h))).1.symm
          · rw [if_neg zi] at h; exact sm_inr h
        · rw [if_neg z4] at h; exact sm_inr h
      rw [if_neg k19] at h
      by_cases k21 : K i = 21 ∨ K i = 22
      · rw [if_pos k21] at h h2
        have h7 := Prod.mk.inj (Sum.inr.inj (Option.some.inj h))
        have h8 := Prod.mk.inj (Option.some.inj h2)
        rw [← h8.2]
        exact ⟨h8.1.symm.trans h7.1, lf _ (by rcases k21 with z | z <;> rw [z] <;> decide) (by rcases k21 with z | z <;> rw [z] <;> decide)⟩
      · rw [if_neg k21] at h; exact sm_inr h
    rw [if_neg m0] at h h2
    by_cases m1 : m = 1
    · subst m1
      rw [if_pos rfl] at h h2
      obtain ⟨a, pa, h3, h4⟩ := bd_inr h
      obtain ⟨b, c1, h5, h6⟩ := cb_some h2
      obtain ⟨b2, c2, h7, h8⟩ := cb_some h6
      obtain ⟨e1, e2⟩ := ih g 0 o i pl a pa b c1 (by omega) ho h3 h5
      rw [sd9_0] at e2
      subst e1
      obtain ⟨e3, e4⟩ := ih g 2 o b pa j pl2 b2 c2 (by omega) ho h4 h7
      rw [sd9_2] at e4
      have h9 := Prod.mk.inj (Option.some.inj h8)
      refine ⟨h9.1.symm.trans e3, fun d hd => ?_⟩
      rw [wd9_1] at hd
      rw [sd9_1]
      rw [← h9.2, dpl_app c1 c2 (d + 0) (d + 1) (e2 d (by rw [wd9_0]; omega))]
      exact e4 d (by rw [wd9_2]; omega)
    rw [if_neg m1] at h h2
    by_cases m2 : m = 2
    · subst m2
      rw [if_pos rfl] at h h2
      by_cases k15 : K i = 15
      · rw [if_pos k15] at h h2
        obtain ⟨a, pa, h3, h4⟩ := bd_inr h
        obtain ⟨b, c1, h5, h6⟩ := cb_some h2
        obtain ⟨b2, c2, h7, h8⟩ := cb_some h6
        obtain ⟨e1, e2⟩ := ih g 0 o (i + 1) pl a pa b c1 (by omega) ho h3 h5
        rw [sd9_0] at e2
        subst e1
        obtain ⟨e3, e4⟩ := ih g 2 o b pa j pl2 b2 c2 (by omega) ho h4 h7
        rw [sd9_2] at e4
        have h9 := Prod.mk.inj (Option.some.inj h8)
        refine ⟨h9.1.symm.trans e3, fun d hd => ?_⟩
        rw [wd9_2] at hd
        rw [sd9_2]
        rw [← h9.2, dpl_app c1 _ (d + 1) (d + 1 + 1) (e2 (d + 1) (by rw [wd9_0]; omega)), dpl_and (by omega)]
        exact e4 d (by rw [wd9_2]; omega)
      · rw [if_neg k15] at h h2
        have h7 := Prod.mk.inj (Sum.inr.inj (Option.some.inj h))
        have h8 := Prod.mk.inj (Option.some.inj h2)
        refine ⟨h8.1.symm.trans h7.1, fun d _ => ?_⟩
        rw [← h8.2, sd9_2]
        rfl
    rw [if_neg m2] at h h2
    by_cases m3 : m = 3
    · subst m3
      rw [if_pos rfl] at h h2
      obtain ⟨a, pa, h3, h4⟩ := bd_inr h
      obtain ⟨b, c1, h5, h6⟩ := cb_some h2
      obtain ⟨b2, c2, h7, h8⟩ := cb_some h6
      obtain ⟨e1, e2⟩ := ih g 1 o i pl a pa b c1 (by omega) ho h3 h5
      rw [sd9_1] at e2
      subst e1
      obtain ⟨e3, e4⟩ := ih g 4 o b pa j pl2 b2 c2 (by omega) ho h4 h7
      rw [sd9_4] at e4
      have h9 := Prod.mk.inj (Option.some.inj h8)
      refine ⟨h9.1.symm.trans e3, fun d hd => ?_⟩
      rw [wd9_3] at hd
      rw [sd9_3]
      rw [← h9.2, dpl_app c1 c2 (d + 0) (d + 1) (e2 d (by rw [wd9_1]; omega))]
      exact e4 d (by rw [wd9_4]; omega)
    rw [if_neg m3] at h h2
    have m4 : m = 4 := by omega
    subst m4
    by_cases k14 : K i = 14
    · rw [if_pos k14] at h h2
      obtain ⟨a, pa, h3, h4⟩ := bd_inr h
      obtain ⟨b, c1, h5, h6⟩ := cb_some h2
      obtain ⟨b2, c2, h7, h8⟩ := cb_some h6
      obtain ⟨e1, e2⟩ := ih g 1 o (i + 1) pl a pa b c1 (by omega) ho h3 h5
      rw [sd9_1] at e2
      subst e1
      obtain ⟨e3, e4⟩ := ih g 4 o b pa j pl2 b2 c2 (by omega) ho h4 h7
      rw [sd9_4] at e4
      have h9 := Prod.mk.inj (Option.some.inj h8)
      refine ⟨h9.1.symm.trans e3, fun d hd => ?_⟩
      rw [wd9_4] at hd
      rw [sd9_4]
      rw [← h9.2, dpl_app c1 _ (d + 1) (d + 1 + 1) (e2 (d + 1) (by rw [wd9_1]; omega)), dpl_or (by omega)]
      exact e4 d (by rw [wd9_4]; omega)
    · rw [if_neg k14] at h h2
      have h7 := Prod.mk.inj (Sum.inr.inj (Option.some.inj h))
      have h8 := Prod.mk.inj (Option.some.inj h2)
      refine ⟨h8.1.symm.trans h7.1, fun d _ => ?_⟩
      rw [← h8.2, sd9_4]
      rfl
/-- every milestone's condition leaves one value -/
def DpC (C : Ct9) : Prop := ∀ (m : Nat) (a p : Int64) (c : List Cd9), C.2.2[m]? = some (a, p, c) → dpl c 0 = some 1
theorem ns_inr {K S : Nat → Int32} {V : Nat → Int64} {lo hi : Int64} {i : Nat} {x : Option Rs9} {r : Nat × Nat × List Int64 × List Int64} (h : ns K S V lo hi i x = some (.inr r)) : x = some (.inr r) := by
  unfold ns at h
  cases hq : nmE lo hi (K i) (V i) with
  | none => rw [hq] at h; exact h
  | some e => rw [hq] at h; exact nomatch (show (some (Sum.inl (flo K S i e)) : Option Rs9) = some (Sum.inr r) from h)
theorem ss_inr {a : Int32 × Int32} {r : Nat × Nat × List Int64 × List Int64} {p : Prop} (h : (some (Sum.inl a) : Option Rs9) = some (Sum.inr r)) : p := nomatch h
theorem cs_inr {x : Option Rz9} {d : Nat} {ml : List Int64} {r : Nat × Nat × List Int64 × List Int64} (h : cs x d ml = some (.inr r)) : ∃ j pl, x = some (.inr (j, pl)) ∧ r = (j, d, ml, pl) := by
  cases x with
  | none => exact nomatch (show (none : Option Rs9) = some (.inr r) from h)
  | some z =>
    cases z with
    | inl e => exact nomatch (show (some (Sum.inl e) : Option Rs9) = some (Sum.inr r) from h)
    | inr p => exact ⟨p.1, p.2, rfl, (Sum.inr.inj (Option.some.inj h)).symm⟩
/-- a statement that both read -/
theorem dps9 {K S : Nat → Int32} {V : Nat → Int64} {f g i d : Nat} {ml pl : List Int64} {C C2 : Ct9} {r : Nat × Nat × List Int64 × List Int64} {j : Nat} (h : stm K S V f i d ml pl = some (.inr r)) (h2 : stc K V g i C = some (j, C2)) (hC : DpC C) : j = r.1 ∧ DpC C2 := by
  unfold stm at h
  unfold stc at h2
  have z2 : ∀ n : Nat, ∀ C3 : Ct9, DpC C3 → (some (n, C3) : Option (Nat × Ct9)) = some (j, C2) → j = n ∧ DpC C2 := fun n C3 h3 e => by
    have e2 := Prod.mk.inj (Option.some.inj e)
    rw [← e2.2]
    exact ⟨e2.1.symm, h3⟩
  by_cases k8 : K i = 8
  · rw [if_pos k8] at h h2
    have h3 := ns_inr h
    by_cases q : K (i + 2) = 3 ∧ ¬ (V (i + 2) = 360 ∨ V (i + 2) = 365)
    · rw [if_pos q] at h3; exact ss_inr h3
    · rw [if_neg q] at h3
      have h4 := Sum.inr.inj (Option.some.inj (ns_inr h3))
      rw [← h4]
      exact z2 (i + 3) ((V (i + 1), V (i + 2), C.1.2.2), C.2) hC h2
  rw [if_neg k8] at h h2
  by_cases k9 : K i = 9
  · rw [if_pos k9] at h h2
    have h4 := Sum.inr.inj (Option.some.inj (ns_inr h))
    rw [← h4]
    exact z2 (i + 2) C hC h2
  rw [if_neg k9] at h h2
  by_cases k10 : K i = 10
  · rw [if_pos k10] at h h2
    have h4 := Sum.inr.inj (Option.some.inj (ns_inr h))
    rw [← h4]
    exact z2 (i + 2) ((C.1.1, C.1.2.1, V (i + 1)), C.2) hC h2
  rw [if_neg k10] at h h2
  by_cases k11 : K i = 11
  · rw [if_pos k11] at h h2
    by_cases d6 : d = 6
    · rw [if_pos d6] at h; exact ss_inr h
    · rw [if_neg d6] at h
      have h4 := Sum.inr.inj (Option.some.inj (ns_inr h))
      rw [← h4]
      exact z2 (i + 2) (C.1, C.2.1 ++ [V (i + 1)], C.2.2) hC h2
  rw [if_neg k11] at h h2
  by_cases k12 : K i = 12
  · rw [if_pos k12] at h
    by_cases a1 : ml.length = 10
    · rw [if_pos a1] at h; exact ss_inr h
    rw [if_neg a1] at h
    by_cases a2 : K (i + 1) = 4
    · rw [if_pos a2] at h
      by_cases a3 : V (i + 1) ∈ ml
      · rw [if_pos a3] at h; exact ss_inr h
      rw [if_neg a3] at h
      have h3 := ns_inr (ns_inr h)
      by_cases a4 : K (i + 4) = 13
      · rw [if_pos a4] at h3
        obtain ⟨a, pa, h5, h6⟩ := cs_inr h3
        cases hp : pc K V g 3 (i + 5) with
        | none => rw [hp] at h2; exact nomatch h2
        | some p =>
          rw [hp] at h2
          have h7 : (some (p.1, (C.1, C.2.1, C.2.2 ++ [(V (i + 2), V (i + 3), p.2)])) : Option (Nat × Ct9)) = some (j, C2) := h2
          obtain ⟨e1, e2⟩ := dep9 f g 3 0 (i + 5) pl a pa p.1 p.2 (by omega) (by omega) h5 hp
          rw [sd9_3] at e2
          have h8 := z2 p.1 (C.1, C.2.1, C.2.2 ++ [(V (i + 2), V (i + 3), p.2)]) (fun m b q c hm => by
            have hm2 : (C.2.2 ++ [(V (i + 2), V (i + 3), p.2)])[m]? = some (b, q, c) := hm
            by_cases l : m < C.2.2.length
            · rw [List.getElem?_append_left l] at hm2
              exact hC m b q c hm2
            · have l2 := (List.getElem?_eq_some_iff.mp hm2).1
              rw [List.length_append] at l2
              have l3 : m < C.2.2.length + 1 := l2
              have em : m = C.2.2.length := by omega
              rw [em, List.getElem?_append_right (Nat.le_refl _), Nat.sub_self] at hm2
              have ev := Prod.mk.inj (Option.some.inj hm2)
              have ev2 := Prod.mk.inj ev.2
              rw [← ev2.2]
              exact e2 0 (by rw [wd9_3]; omega)) h7
          rw [h6]
          exact ⟨h8.1.trans e1, h8.2⟩
      · rw [if_neg a4] at h3; exact ss_inr h3
    · rw [if_neg a2] at h; exact ss_inr h
  · rw [if_neg k12] at h; exact ss_inr h
/-- a text that both read -/
theorem dpt9 {K S : Nat → Int32} {V : Nat → Int64} : ∀ (f g i d : Nat) (ml pl : List Int64) (r : List Int64 × List Int64) (C C2 : Ct9), pt K S V f i d ml pl = some (.inr r) → ptc K V g i C = some C2 → DpC C → DpC C2 := by
  intro f
  induction f with
  | zero => intro g i d ml pl r C C2 h _ _; exact nomatch (show (none : Option Rt) = some (.inr r) from h)
  | succ f ih =>
    intro g i d ml pl r C C2 h h2 hC
    cases g with
    | zero => exact nomatch (show (none : Option Ct9) = some C2 from h2)
    | succ g =>
    rw [pt] at h
    rw [ptc] at h2
    by_cases k1 : K i = 1
    · rw [if_pos k1] at h2
      rw [← Option.some.inj h2]
      exact hC
    · rw [if_neg k1] at h h2
      cases hs : stm K S V f i d ml pl with
      | none => rw [hs] at h; exact nomatch h
      | some z =>
        rw [hs] at h
        cases z with
        | inl e => exact nomatch (show (some (Sum.inl e) : Option Rt) = some (Sum.inr r) from h)
        | inr p =>
          have h3 : (if K p.1 = 7 then pt K S V f (p.1 + 1) p.2.1 p.2.2.1 p.2.2.2 else some (.inl (flo K S p.1 2))) = (some (.inr r) : Option Rt) := h
          by_cases k7 : K p.1 = 7
          · rw [if_pos k7] at h3
            cases hc : stc K V g i C with
            | none => rw [hc] at h2; exact nomatch h2
            | some y =>
              rw [hc] at h2
              obtain ⟨e1, e2⟩ := dps9 hs (show stc K V g i C = some (y.1, y.2) from hc) hC
              have h4 : ptc K V g (y.1 + 1) y.2 = some C2 := h2
              rw [e1] at h4
              exact ih g (p.1 + 1) p.2.1 p.2.2.1 p.2.2.2 r y.2 C2 h3 h4 e2
          · rw [if_neg k7] at h3; exact nomatch h3
theorem TP.dp {K S : Nat → Int32} {V : Nat → Int64} {r : List Int64 × List Int64} {C : Ct9} (h : TP K S V 0 0 [] [] (.inr r)) (h2 : TC9 K V 0 C09 C) : DpC C := by
  obtain ⟨f, h⟩ := h
  obtain ⟨g, h2⟩ := h2
  exact dpt9 f g 0 0 [] [] r C09 C h h2 (fun m a p c q => nomatch (show (none : Option (Int64 × Int64 × List Cd9)) = some (a, p, c) from q))
/-- the same in the reference's codes -/
theorem enc_dp {ml pl : List Int64} {p : Cd9} (h : OkC ml pl p) : (p.1 = 16 → enc9 ml pl p = -3) ∧ (p.1 = 15 ∨ p.1 = 14 → ¬ enc9 ml pl p = -3 ∧ enc9 ml pl p < 0) ∧ (¬ p.1 = 16 → ¬ (p.1 = 15 ∨ p.1 = 14) → ¬ enc9 ml pl p < 0) := by
  have ps : ∀ n : Nat, n < 1000000 → ¬ nI n < 0 := fun n hn => nI_pos (by omega)
  refine ⟨fun e => by unfold enc9; rw [if_pos e], fun e => ?_, fun n16 n1 => ?_⟩
  · unfold enc9
    rcases e with e | e
    · rw [if_neg (by rw [e]; decide), if_pos e]; decide
    · rw [if_neg (by rw [e]; decide), if_neg (by rw [e]; decide), if_pos e]; decide
  · unfold enc9
    rw [if_neg n16, if_neg (fun q => n1 (Or.inl q)), if_neg (fun q => n1 (Or.inr q))]
    rcases h with h | ⟨h, v, hv, e2⟩ | ⟨h, hi, hl⟩ | ⟨h, hi, hl⟩
    · rcases h with z | z | z | z | z
      · exact absurd (Or.inr z) n1
      · exact absurd (Or.inl z) n1
      · exact absurd z n16
      · rw [if_neg (by rw [z]; decide), if_neg (by rw [z]; decide), if_neg (by rw [z]; decide), if_neg (by rw [z]; decide), if_pos z]
        exact ps _ (by omega)
      · rw [if_neg (by rw [z]; decide), if_neg (by rw [z]; decide), if_neg (by rw [z]; decide), if_neg (by rw [z]; decide), if_neg (by rw [z]; decide)]
        exact ps _ (by omega)
    · rcases h with z | z
      · rw [if_pos z, e2, lN_i]; exact ps v (by omega)
      · rw [if_neg (by rw [z]; decide), if_neg (by rw [z]; decide), if_neg (by rw [z]; decide), if_pos z, e2, lN_i, show (300000 : Int32) + nI v = nI (300000 + v) from nI_add 300000 v]
        exact ps _ (by omega)
    · have := fi9_lt hi
      rw [if_neg (by rw [h]; decide), if_pos h]
      exact ps _ (by omega)
    · have := fi9_lt hi
      rw [if_neg (by rw [h]; decide), if_neg (by rw [h]; decide), if_pos h]
      exact ps _ (by omega)
theorem CdR.tl {ml pl : List Int64} {a : Nat} {p : Cd9} {t : List Cd9} {f : Nat → Int32} (h : CdR ml pl a (p :: t) f) : CdR ml pl (a + 1) t f := fun k q hq => by
  have z := h (k + 1) q hq
  rw [show a + (k + 1) = a + 1 + k by omega] at z
  exact z
theorem dpl_dpf {ml pl : List Int64} {f : Nat → Int32} : ∀ (cs : List Cd9) (a d : Nat), CdR ml pl a cs f → dpf f cs.length a d = dpl cs d
  | [], _, _, _ => rfl
  | p :: t, a, d, h => by
    obtain ⟨ho, he⟩ := h 0 p rfl
    rw [Nat.add_zero] at he
    obtain ⟨e16, e1, e0⟩ := enc_dp ho
    have ih := fun d => dpl_dpf t (a + 1) d h.tl
    show dpf f (t.length + 1) a d = dpl (p :: t) d
    rw [dpf, dpl, he]
    by_cases c1 : p.1 = 16
    · rw [if_pos c1, e16 c1, if_pos rfl, ih]
    · rw [if_neg c1]
      by_cases c2 : p.1 = 15 ∨ p.1 = 14
      · rw [if_pos c2, if_neg (e1 c2).1, if_pos (e1 c2).2, ih]
      · rw [if_neg c2, if_neg (fun q => e0 c1 c2 (by rw [q]; decide)), if_neg (e0 c1 c2), ih]

theorem btC_0 (b : Int32) : ¬ btC 0 b := fun h => by
  unfold btC at h
  rw [show (0 : Int32).toUInt32 = 0 from rfl, UInt32.zero_shiftRight] at h
  exact absurd h (by decide)
theorem dsL_dcS {l : List Int64} {f : Nat → Int32} (h : ∀ k v, l[k]? = some v → f k = v.toInt32) : ∀ n, n ≤ l.length → dsL (l.take n) = dcS f n
  | 0, _ => by rw [List.take_zero]; rfl
  | n + 1, hn => by
    have hv : l[n]? = some l[n] := List.getElem?_eq_getElem (by omega)
    rw [List.take_succ, hv]
    show dsL (l.take n ++ [l[n]]) = dcS f (n + 1)
    rw [dsL_app, dsL_dcS h n (by omega), dcS, h n _ hv]
theorem dcS_b {f : Nat → Int32} : ∀ (n : Nat), n ≤ 6 → (∀ k, k < n → 0 ≤ (f k).toInt ∧ (f k).toInt ≤ 99999) → 0 ≤ (dcS f n).toInt ∧ (dcS f n).toInt ≤ 99999 * n
  | 0, _, _ => by
    have e : (dcS f 0).toInt = 0 := by show (0 : Int32).toInt = 0; decide
    omega
  | n + 1, hn, h => by
    have h1 := dcS_b n (by omega) (fun k hk => h k (by omega))
    have h2 := h n (by omega)
    rw [dcS, i_add (by omega) (by omega)]
    omega
theorem dkN_n {f : Nat → Int32} : ∀ (n : Nat), n ≤ 6 → (∀ k, k < n → 1 ≤ (f k).toInt) → dkN f n = n
  | 0, _, _ => rfl
  | n + 1, hn, h => by
    have h2 := h n (by omega)
    rw [dkN, dkN_n n (by omega) (fun k hk => h k (by omega))]
    unfold entC
    have hq : ¬ f n ≤ 0 := fun q => by
      have q2 := i_le.mp q
      rw [show (0 : Int32).toInt = 0 by decide] at q2
      omega
    rw [if_neg hq]
    omega
theorem fsI_0 {f : Nat → Int} : ∀ (n : Nat), (∀ m, m < n → f (16 + 7 * m + 3) = 0) → fsI f n = 0
  | 0, _ => rfl
  | n + 1, h => by
    show fsI f n + f (16 + 7 * n + 3) = 0
    rw [fsI_0 n (fun m hm => h m (by omega)), h n (by omega)]
    rfl
theorem getx {l : List (Int64 × Int64 × List Cd9)} {m : Nat} (h : m < l.length) : ∃ a p c, l[m]? = some (a, p, c) := ⟨_, _, _, List.getElem?_eq_getElem h⟩
theorem CE.of9 {l : List (Int64 × Int64 × List Cd9)} {ml pl : List Int64} {fst fop f : Nat → Int32} (h1 : ∀ m a p c, l[m]? = some (a, p, c) → CdC ml pl (qC9 l m) c fst fop) (h2 : ∀ m a p c, l[m]? = some (a, p, c) → CdR ml pl (qC9 l m) c f) : ∀ n, n ≤ l.length → CE (qC9 l n) f fst fop
  | 0, _ => fun k hk => absurd hk (Nat.not_lt_zero k)
  | n + 1, hn => fun k hk => by
    obtain ⟨a, p, c, e⟩ := getx (show n < l.length by omega)
    by_cases q : k < qC9 l n
    · exact CE.of9 h1 h2 n (by omega) k q
    · rw [qC9_at e] at hk
      have z := (h1 n a p c e).ce (h2 n a p c e) (k - qC9 l n) (by omega)
      rw [show qC9 l n + (k - qC9 l n) = k by omega] at z
      exact z
/-- both sides' fresh account -/
theorem frs9 {K S : Nat → Int32} {V : Nat → Int64} {ml pl : List Int64} {fde fam fpi fen fst fop fby ra f31 f33 : Nat → Int32} {pr pb pg : Int32} {nd cn c2 sc : Nat} {i6 i7 i8 : Int32} {i9 i11 : Int64} {i12 i13 i15 i16 i17 i18 i19 : Int32} {kp : Nat} {fs fp ff fd : Nat → Int32}
    (hT : TP K S V 0 0 [] [] (.inr (ml, pl))) (h1 : DF9 K V ml pl fde fam fpi fen fst fop pr pb pg nd cn sc) (h2 : DW9 K V ml pl ra f31 f33 c2) (h3 : OpnA nd fde pr pb pg i6 i7 i8 i9 i11 i12 i13 i15 i16 i17 i18 i19 kp fs fp ff fd) (hb : BYS cn fby fpi) (hcn : cn ≤ 10) (hnd : nd ≤ 6) (hsc : sc ≤ 350) :
    c2 = cn ∧ ∃ (cq b p : Nat → Nat), RC0 cn ra 0 i6 i7 i8 i9 i11 i12 i13 i15 i16 i17 i18 i19 kp fs fp ff fd fam ∧ CE sc f31 fst fop ∧ CQ cn f31 cq ∧ Ens cn cq fen ∧ Elq cn cq f33 ∧ cq cn ≤ sc ∧ BYR cn b p ra ∧ Bor cn b fby ∧ DI 0 0 cn ra 0 := by
  obtain ⟨C, t1, ⟨p1, p2, p3⟩, ⟨p4, p5⟩, ⟨p6, p7⟩, ⟨⟨n0, l0, e0⟩, pbs, n3, l3, e3⟩, pm⟩ := h1
  obtain ⟨cd, C2, t2, ⟨⟨a0, a1, a3⟩, ⟨b4, b7, b8, b10, b12⟩, ⟨d5, d6, d15, d9⟩, aM, aN⟩, c1, c3, cm⟩ := h2
  have eC : C2 = C := t2.det t1
  subst eC
  obtain ⟨⟨o6, o7, o8, o9, o11, o12, o13, o15, o16, o17, o18, o19⟩, ok, os, op, ox, od⟩ := h3
  have hD : DpC C2 := TP.dp hT t1
  have ecn : c2 = cn := c1.trans p6.symm
  refine ⟨ecn, qC9 C2.2.2, ?_⟩
  obtain ⟨b, p, y1, y2, y3⟩ := hb
  have hl10 : C2.2.2.length ≤ 10 := by omega
  have esc : sc = qC9 C2.2.2 C2.2.2.length := by rw [p7, p6]
  -- deposits
  have dep : ∀ k, k < nd → 1 ≤ (fde k).toInt ∧ (fde k).toInt ≤ 99999 := fun k hk => by
    have hk2 : k < C2.2.1.length := by omega
    obtain ⟨z1, n, z2, z3, z4⟩ := p5 k _ (List.getElem?_eq_getElem hk2)
    have z5 : (fde k).toInt = (n : Int) := by rw [z1, z4, lN_i, i_n (by omega)]
    omega
  have sum : dsL C2.2.1 = dcS fde nd := by
    have z := dsL_dcS (l := C2.2.1) (f := fde) (fun k v hv => (p5 k v hv).1) C2.2.1.length (Nat.le_refl _)
    rw [List.take_length, ← p4] at z
    exact z
  have sb := dcS_b (f := fde) nd hnd (fun k hk => by have := dep k hk; omega)
  have kn : kp = nd := ok.trans (dkN_n nd hnd (fun k hk => (dep k hk).1))
  -- numbers of the row
  have r0 : tI ra 0 = (n0 : Int) := by rw [tI_v (a0.trans (by rw [e0, lN_i])), i_n (by omega)]
  have r1 : tI ra 1 = 360 ∨ tI ra 1 = 365 := pbs.imp (fun e => (tI_v (v := 360) (a1.trans (by rw [e]; rfl))).trans (by decide)) (fun e => (tI_v (v := 365) (a1.trans (by rw [e]; rfl))).trans (by decide))
  have z0 : (0 : Int32).toInt = 0 := by decide
  have r4 : tI ra 4 = 0 := (tI_v b4).trans z0
  have r5 : tI ra 5 = (dcS fde nd).toInt := tI_v (d5.trans sum)
  have r6 : tI ra 6 = (dcS fde nd).toInt := tI_v (d6.trans sum)
  have r7 : tI ra 7 = 0 := (tI_v b7).trans z0
  have r8 : tI ra 8 = 0 := (tI_v b8).trans z0
  have mil : ∀ m, m < cn → ∃ a q c, C2.2.2[m]? = some (a, q, c) := fun m hm => getx (show m < C2.2.2.length by omega)
  have rM : ∀ m, m < cn → MI9 (tI ra) m := fun m hm => by
    obtain ⟨a, q, c, e⟩ := mil m hm
    obtain ⟨x0, x1, x2, x3, x4, x5, x6⟩ := aM m a q c e
    obtain ⟨w1, w2, w3, w4, ⟨n, l1, l2, w5⟩, w6⟩ := pm m a q c e
    have v0 : tI ra (16 + 7 * m + 0) = (n : Int) := by rw [tI_v (x0.trans (by rw [w5, lN_i])), i_n (by omega)]
    have v1 : tI ra (16 + 7 * m + 1) = 0 := (tI_v x1).trans z0
    have v2 : tI ra (16 + 7 * m + 2) = 0 := (tI_v x2).trans z0
    have v3 : tI ra (16 + 7 * m + 3) = 0 := (tI_v x3).trans z0
    unfold MI9
    rw [v0, v1, v2, v3]
    refine ⟨by omega, by omega, by omega, by omega, by omega, by omega, by omega, fun _ => rfl⟩
  have rS : fsI (tI ra) cn = 0 := fsI_0 cn (fun m hm => by
    obtain ⟨a, q, c, e⟩ := mil m hm
    exact (tI_v (aM m a q c e).2.2.2.1).trans z0)
  have q0 : (0 : Int64).toInt = 0 := by decide
  have hW : WFa cn ra 0 := by
    unfold WFa WI
    rw [r0, r4, r5, r6, r7, r8, rS, q0]
    refine ⟨⟨by omega, by omega⟩, ⟨by omega, by omega⟩, ⟨by omega, by omega⟩, ⟨by omega, by omega, by omega⟩, ⟨by omega, by omega, by omega⟩, ⟨by omega, by omega⟩, by omega, rM⟩
  have hR : RC0 cn ra 0 i6 i7 i8 i9 i11 i12 i13 i15 i16 i17 i18 i19 kp fs fp ff fd fam := by
    refine ⟨hW, ⟨hcn, by omega⟩, ⟨b4.trans o6.symm, (d5.trans sum).trans o7.symm, (d6.trans sum).trans o8.symm, by rw [b7, o9]; rfl, o11.symm, by rw [b10, o12, o13]; rfl, (a0.trans p1.symm).trans o15.symm, (a1.trans p2.symm).trans o16.symm, (a3.trans p3.symm).trans o17.symm, b12.trans o18.symm, by rw [d15, kn, p4]⟩, fun m hm => ?_⟩
    obtain ⟨a, q, c, e⟩ := mil m hm
    obtain ⟨x0, x1, x2, x3, x4, x5, x6⟩ := aM m a q c e
    obtain ⟨w1, w2, w3, w4, w5, w6⟩ := pm m a q c e
    have m10 : m < 10 := by omega
    exact ⟨x0.trans w1.symm, x1.trans (op m m10).symm, x2.trans (os m m10).symm, x3.trans (ox m m10).symm, x4.trans (od m m10).symm, by rw [x5, o19, bI_f (btC_0 _)]⟩
  refine ⟨b, p, hR, ?_, ?_, fun m hm => ?_, fun m hm => ?_, Nat.le_of_eq p7.symm, ⟨fun k hk => ⟨(y1 k hk).1, (y1 k hk).2.1⟩, y2, fun j k hj hk => ?_⟩, fun k hk => ⟨(y1 k hk).1, (y1 k hk).2.2⟩, ?_⟩
  · rw [esc]
    exact CE.of9 (fun m a q c e => (pm m a q c e).2.2.2.1) (fun m a q c e => (cm m a q c e).1) _ (Nat.le_refl _)
  · refine ⟨rfl, fun m hm => ?_⟩
    obtain ⟨a, q, c, e⟩ := mil m hm
    have e1 := qC9_at e
    have e2 := qC9_le e
    refine ⟨by show qC9 C2.2.2 m ≤ qC9 C2.2.2 (m + 1); omega, by show qC9 C2.2.2 (m + 1) ≤ 350; omega, ?_⟩
    show dpf f31 (qC9 C2.2.2 (m + 1) - qC9 C2.2.2 m) (qC9 C2.2.2 m) 0 = some 1
    rw [show qC9 C2.2.2 (m + 1) - qC9 C2.2.2 m = c.length by omega, dpl_dpf c _ 0 (cm m a q c e).1]
    exact hD m a q c e
  · obtain ⟨a, q, c, e⟩ := mil m hm
    exact (pm m a q c e).2.2.1
  · obtain ⟨a, q, c, e⟩ := mil m hm
    exact (cm m a q c e).2
  · obtain ⟨a, q, c, e⟩ := mil (b j) (y1 j (by omega)).1
    obtain ⟨a', q', c', e'⟩ := mil (b k) (y1 k hk).1
    have g1 : ra (16 + 7 * b j + 6) = fpi (b j) := (aM _ a q c e).2.2.2.2.2.2.trans (pm _ a q c e).2.1.symm
    have g2 : ra (16 + 7 * b k + 6) = fpi (b k) := (aM _ a' q' c' e').2.2.2.2.2.2.trans (pm _ a' q' c' e').2.1.symm
    show ra (16 + 7 * b j + 6) < ra (16 + 7 * b k + 6) ∨ (ra (16 + 7 * b j + 6) = ra (16 + 7 * b k + 6) ∧ b j < b k)
    rw [g1, g2]
    exact y3 j k hj hk
  · refine ⟨⟨_, _, _, _, _, _, _, _, _, _, _, _, _, _, _, _, _, _, hR⟩, b4, by rw [q0, r8]; omega, by rw [r8]; exact Int.le_refl 0, nd, by rw [d15, p4], by omega, by omega⟩

/-- a row that the reference remembers: the i-th from the last -/
def hr (fh : Nat → Int32) (ed i : Nat) : Nat → Int32 := fun j => fh (326 * (ed - 1 - i) + j)
/-- a remembered account of the class -/
def RC0S (n : Nat) (r : Nat → Int32) (q : Int64) (mi : Nat → Nat → Int32) (ml : Nat → Nat → Int64) (mk : Nat → Nat) (mf : Nat → Nat → Nat → Int32) (s : Nat) (fam : Nat → Int32) : Prop := RC0 n r q (mi s 6) (mi s 7) (mi s 8) (ml s 9) (ml s 11) (mi s 12) (mi s 13) (mi s 15) (mi s 16) (mi s 17) (mi s 18) (mi s 19) (mk s) (mf s 3) (mf s 4) (mf s 5) (mf s 6) fam
def DyC (x : Int32) : Prop := ∃ dy, dy ≤ 9999 ∧ x = nI dy
/-- the plan, in both sides' codes -/
def COD (n sc : Nat) (fst fop fen fby f31 f33 : Nat → Int32) (cq b : Nat → Nat) : Prop := CE sc f31 fst fop ∧ CQ n f31 cq ∧ Ens n cq fen ∧ Elq n cq f33 ∧ cq n ≤ sc ∧ Bor n b fby
/-- both sides' accounts agree; c i credits lie behind the i-th account -/
def SYN (c : Nat → Nat) (n : Nat) (fam : Nat → Int32) (i6 : Int32) (i7 : Int32) (i8 : Int32) (i9 : Int64) (i11 : Int64) (i12 : Int32) (i13 : Int32) (i15 : Int32) (i16 : Int32) (i17 : Int32) (i18 : Int32) (i19 : Int32) (kp : Nat) (fs : Nat → Int32) (fp : Nat → Int32) (ff : Nat → Int32) (fd : Nat → Int32) (wn wc : Nat) (mi : Nat → Nat → Int32) (ml : Nat → Nat → Int64) (mk : Nat → Nat) (mf : Nat → Nat → Nat → Int32) (r : Nat → Int32) (q : Int64) (ed : Nat) (fh : Nat → Int32) (fl : Nat → Int64) : Prop :=
  (RC0 n r q i6 i7 i8 i9 i11 i12 i13 i15 i16 i17 i18 i19 kp fs fp ff fd fam ∧ ∃ dy, dy ≤ 9999 ∧ DI (c 0) dy n r q) ∧ ed = wc ∧ (∀ i, i < wc → RC0S n (hr fh wc i) (fl (wc - 1 - i)) mi ml mk mf ((wn + 9 - i) % 10) fam ∧ ∃ dy, dy ≤ 9999 ∧ DI (c (i + 1)) dy n (hr fh wc i) (fl (wc - 1 - i))) ∧ (∀ i, i < wc → c (i + 1) ≤ 100) ∧ ∀ i, i < wc → c i ≤ c (i + 1) + 4
/-- saturated: 60 entries are kept, now and in all that is remembered -/
def SYSc (i6 : Int32) (kp wn wc : Nat) (mi : Nat → Nat → Int32) (mk : Nat → Nat) : Prop := kp = 60 ∧ DyC i6 ∧ ∀ i, i < wc → mk ((wn + 9 - i) % 10) = 60 ∧ DyC (mi ((wn + 9 - i) % 10) 6)
def SYSr (r : Nat → Int32) (ed : Nat) (fh : Nat → Int32) : Prop := Kge 60 r ∧ ∀ i, i < ed → Kge 60 (hr fh ed i)
def SYx (sm : Prop) (cq b p : Nat → Nat) (n sc : Nat) (fst fop fen fby fam : Nat → Int32) (i6 : Int32) (i7 : Int32) (i8 : Int32) (i9 : Int64) (i11 : Int64) (i12 : Int32) (i13 : Int32) (i15 : Int32) (i16 : Int32) (i17 : Int32) (i18 : Int32) (i19 : Int32) (kp : Nat) (fs : Nat → Int32) (fp : Nat → Int32) (ff : Nat → Int32) (fd : Nat → Int32) (wn wc : Nat) (mi : Nat → Nat → Int32) (ml : Nat → Nat → Int64) (mk : Nat → Nat) (mf : Nat → Nat → Nat → Int32) (f31 f33 r : Nat → Int32) (q : Int64) (ed : Nat) (fh : Nat → Int32) (fl : Nat → Int64) : Prop :=
  COD n sc fst fop fen fby f31 f33 cq b ∧ BYR n b p r ∧ (∀ i, i < ed → Pri n r (hr fh ed i)) ∧ (n ≤ 10 ∧ wn < 10 ∧ wc ≤ 10 ∧ ed ≤ 10) ∧ ((¬ sm ∧ ∃ c, SYN c n fam i6 i7 i8 i9 i11 i12 i13 i15 i16 i17 i18 i19 kp fs fp ff fd wn wc mi ml mk mf r q ed fh fl ∧ c 0 ≤ 100) ∨ (sm ∧ SYSc i6 kp wn wc mi mk ∧ SYSr r ed fh))
def SY (n sc : Nat) (fst fop fen fby fam : Nat → Int32) (i6 : Int32) (i7 : Int32) (i8 : Int32) (i9 : Int64) (i11 : Int64) (i12 : Int32) (i13 : Int32) (i15 : Int32) (i16 : Int32) (i17 : Int32) (i18 : Int32) (i19 : Int32) (kp : Nat) (fs : Nat → Int32) (fp : Nat → Int32) (ff : Nat → Int32) (fd : Nat → Int32) (wn wc : Nat) (mi : Nat → Nat → Int32) (ml : Nat → Nat → Int64) (mk : Nat → Nat) (mf : Nat → Nat → Nat → Int32) (f31 f33 r : Nat → Int32) (q : Int64) (ed : Nat) (fh : Nat → Int32) (fl : Nat → Int64) : Prop := ∃ (sm : Prop) (cq b p : Nat → Nat), SYx sm cq b p n sc fst fop fen fby fam i6 i7 i8 i9 i11 i12 i13 i15 i16 i17 i18 i19 kp fs fp ff fd wn wc mi ml mk mf f31 f33 r q ed fh fl
/-- what an edit leaves of days, credits, entries, priorities -/
def OpK (n : Nat) (r s : Nat → Int32) : Prop := s 4 = r 4 ∧ s 8 = r 8 ∧ (∀ K, Kge K r → Kge K s) ∧ Pri n r s
theorem OpK.rf (n : Nat) (r : Nat → Int32) : OpK n r r := ⟨rfl, rfl, fun _ h => h, Pri.rf n r⟩
theorem OpK.tr {n : Nat} {r s t : Nat → Int32} (h : OpK n r s) (g : OpK n s t) : OpK n r t := ⟨g.1.trans h.1, g.2.1.trans h.2.1, fun K k => g.2.2.1 K (h.2.2.1 K k), h.2.2.2.tr g.2.2.2⟩
theorem OpK.set {n : Nat} {r : Nat → Int32} (k : Nat) (v : Int32) (h4 : k ≠ 4) (h8 : k ≠ 8) (h15 : k ≠ 15) (hm : ∀ m, m < n → k ≠ 16 + 7 * m + 6) : OpK n r (upd r k v) := ⟨pk_un (fun e => h4 e.symm), pk_un (fun e => h8 e.symm), fun _ h => h.set h15, Pri.set k v hm⟩
theorem OpK.ent {n : Nat} {r : Nat → Int32} (x : Int32) : OpK n r (entR x r) := ⟨entR_n (by omega), entR_n (by omega), fun _ h => h.ent, Pri.ent x⟩
theorem OpK.ab {n : Nat} {r s : Nat → Int32} (h : Ab r s) (hn : n ≤ 10) : OpK n r s := ⟨h.at 4 (by omega), h.at 8 (by omega), fun _ k => k.abv h, Pri.ab h hn⟩
theorem OpK.mkPv {n : Nat} {r : Nat → Int32} (m : Nat) (x : Int32) : OpK n r (mkP m x r) := by
  unfold mkP
  exact ((OpK.set 6 _ (by omega) (by omega) (by omega) (fun m _ => by omega)).tr ((OpK.set 10 _ (by omega) (by omega) (by omega) (fun m _ => by omega)).tr (OpK.set _ _ (by omega) (by omega) (by omega) (fun m _ => by omega)))).tr (OpK.ent x)
theorem OpK.clRv {n : Nat} {r : Nat → Int32} (m : Nat) : OpK n r (clR m r) := by
  unfold clR
  by_cases c : remR r m = 0
  · rw [if_pos c]; exact OpK.set _ _ (by omega) (by omega) (by omega) (fun m _ => by omega)
  · rw [if_neg c]; exact OpK.rf n r
theorem OpK.refRv {n : Nat} {r : Nat → Int32} (x : Int32) : OpK n r (refR x r) := by
  unfold refR
  exact ((OpK.set 6 _ (by omega) (by omega) (by omega) (fun m _ => by omega)).tr (OpK.set 11 _ (by omega) (by omega) (by omega) (fun m _ => by omega))).tr (OpK.ent x)
theorem OpK.dep {n : Nat} {r : Nat → Int32} (x : Int32) : OpK n r (depR x r) := by
  unfold depR
  exact ((OpK.set 5 _ (by omega) (by omega) (by omega) (fun m _ => by omega)).tr (OpK.set 6 _ (by omega) (by omega) (by omega) (fun m _ => by omega))).tr (OpK.ent x)
theorem OpK.gra {n : Nat} {r : Nat → Int32} (x : Int32) : OpK n r (graR x r) := OpK.set 3 x (by omega) (by omega) (by omega) (fun m _ => by omega)
theorem OpK.pin {n : Nat} {r : Nat → Int32} (x : Int32) : OpK n r (pinR x r) := by
  unfold pinR
  exact (OpK.set 7 _ (by omega) (by omega) (by omega) (fun m _ => by omega)).tr (OpK.ent x)
theorem OpK.rat {n : Nat} {r : Nat → Int32} (x y : Int32) : OpK n r (ratR x y r) := by
  unfold ratR
  exact (OpK.set 0 _ (by omega) (by omega) (by omega) (fun m _ => by omega)).tr (OpK.set 1 _ (by omega) (by omega) (by omega) (fun m _ => by omega))
theorem OpK.sub {n : Nat} {r : Nat → Int32} (k : Nat) : OpK n r (subR k r) := OpK.set 12 _ (by omega) (by omega) (by omega) (fun m _ => by omega)
theorem OpK.app {n : Nat} {r : Nat → Int32} (k : Nat) : OpK n r (appR k r) := OpK.set _ _ (by omega) (by omega) (by omega) (fun m _ => by omega)
theorem OpK.pay {n : Nat} {r : Nat → Int32} (x : Int32) (k : Nat) : OpK n r (payR x k r) := (OpK.mkPv k x).tr (OpK.clRv k)
theorem OpK.dis {n : Nat} {r : Nat → Int32} (k : Nat) : OpK n r (disR n k r) := by
  unfold disR
  exact (OpK.set _ _ (by omega) (by omega) (by omega) (fun m _ => by omega)).tr (OpK.set _ _ (by omega) (by omega) (by omega) (fun m _ => by omega))
theorem OpK.wdr {n : Nat} {r : Nat → Int32} (k : Nat) : OpK n r (wdrR k r) := by
  unfold wdrR
  exact (OpK.set _ _ (by omega) (by omega) (by omega) (fun m _ => by omega)).tr (OpK.set _ _ (by omega) (by omega) (by omega) (fun m _ => by omega))
theorem OpK.can {n : Nat} {r : Nat → Int32} (k : Nat) : OpK n r (canR k r) := OpK.set _ _ (by omega) (by omega) (by omega) (fun m _ => by omega)
theorem OpK.res {n : Nat} {r : Nat → Int32} (j : Int32) (k : Nat) : OpK n r (resR n j k r) := by
  unfold resR
  exact ((OpK.set _ _ (by omega) (by omega) (by omega) (fun m _ => by omega)).tr ((OpK.mkPv k _).tr (OpK.refRv _))).tr (OpK.set _ _ (by omega) (by omega) (by omega) (fun m _ => by omega))
theorem OpK.clo {n : Nat} {r : Nat → Int32} : OpK n r (cloR r) := OpK.refRv _
theorem Pri.sy {n : Nat} {r s : Nat → Int32} (h : Pri n r s) : Pri n s r := fun m hm => (h m hm).symm
theorem RCE.abv {n : Nat} {r s : Nat → Int32} {q : Int64} (h : RCE n r q) (a : Ab r s) : RCE n s q := by
  obtain ⟨i6, i7, i8, i9, i11, i12, i13, i15, i16, i17, i18, i19, kp, fs, fp, ff, fd, fam, h⟩ := h
  exact ⟨i6, i7, i8, i9, i11, i12, i13, i15, i16, i17, i18, i19, kp, fs, fp, ff, fd, fam, h.ab a⟩
theorem DI.op {c dy n : Nat} {r s : Nat → Int32} {q : Int64} (h : DI c dy n r q) (hE : RCE n s q) (k : OpK n r s) : DI c dy n s q := by
  obtain ⟨-, h4, hQ, h8, hK⟩ := h
  have e8 : tI s 8 = tI r 8 := congrArg Int32.toInt k.2.1
  exact ⟨hE, k.1.trans h4, by rw [e8]; exact hQ, by rw [e8]; exact h8, k.2.2.1 _ hK⟩
theorem DI.abv {c dy n : Nat} {r s : Nat → Int32} {q : Int64} (h : DI c dy n r q) (a : Ab r s) (hn : n ≤ 10) : DI c dy n s q := h.op (h.1.abv a) (OpK.ab a hn)
theorem RC0.e {n : Nat} {r : Nat → Int32} {q : Int64} {i6 : Int32} {i7 : Int32} {i8 : Int32} {i9 : Int64} {i11 : Int64} {i12 : Int32} {i13 : Int32} {i15 : Int32} {i16 : Int32} {i17 : Int32} {i18 : Int32} {i19 : Int32} {kp : Nat} {fs : Nat → Int32} {fp : Nat → Int32} {ff : Nat → Int32} {fd : Nat → Int32} {fam : Nat → Int32} (h : RC0 n r q i6 i7 i8 i9 i11 i12 i13 i15 i16 i17 i18 i19 kp fs fp ff fd fam) : RCE n r q := ⟨_, _, _, _, _, _, _, _, _, _, _, _, _, _, _, _, _, _, h⟩
theorem RC0.cpv {n : Nat} {r : Nat → Int32} {q : Int64} {i6 : Int32} {i7 : Int32} {i8 : Int32} {i9 : Int64} {i11 : Int64} {i12 : Int32} {i13 : Int32} {i15 : Int32} {i16 : Int32} {i17 : Int32} {i18 : Int32} {i19 : Int32} {kp : Nat} {fs : Nat → Int32} {fp : Nat → Int32} {ff : Nat → Int32} {fd : Nat → Int32} {fam zs zp zf zd : Nat → Int32} (h : RC0 n r q i6 i7 i8 i9 i11 i12 i13 i15 i16 i17 i18 i19 kp fs fp ff fd fam) (h1 : Cp 10 fs zs) (h2 : Cp 10 fp zp) (h3 : Cp 10 ff zf) (h4 : Cp 10 fd zd) : RC0 n r q i6 i7 i8 i9 i11 i12 i13 i15 i16 i17 i18 i19 kp zs zp zf zd fam := by
  obtain ⟨w, l, e, m⟩ := h
  refine ⟨w, l, e, fun k hk => ?_⟩
  have k10 : k < 10 := by omega
  obtain ⟨a0, a1, a2, a3, a4, a5⟩ := m k hk
  exact ⟨a0, a1.trans (h2 k k10).symm, a2.trans (h1 k k10).symm, a3.trans (h3 k k10).symm, a4.trans (h4 k k10).symm, a5⟩
theorem RC0.k60 {n : Nat} {r : Nat → Int32} {q : Int64} {i6 : Int32} {i7 : Int32} {i8 : Int32} {i9 : Int64} {i11 : Int64} {i12 : Int32} {i13 : Int32} {i15 : Int32} {i16 : Int32} {i17 : Int32} {i18 : Int32} {i19 : Int32} {kp : Nat} {fs : Nat → Int32} {fp : Nat → Int32} {ff : Nat → Int32} {fd : Nat → Int32} {fam : Nat → Int32} (h : RC0 n r q i6 i7 i8 i9 i11 i12 i13 i15 i16 i17 i18 i19 kp fs fp ff fd fam) (g : Kge 60 r) : kp = 60 := by
  obtain ⟨-, ⟨-, l⟩, ⟨-, -, -, -, -, -, -, -, -, -, e⟩, -⟩ := h
  obtain ⟨k, a, b, c⟩ := g
  have := nI_ij (e.symm.trans a) (by omega) (by omega)
  omega
theorem RC0.dyv {n c dy : Nat} {r : Nat → Int32} {q : Int64} {i6 : Int32} {i7 : Int32} {i8 : Int32} {i9 : Int64} {i11 : Int64} {i12 : Int32} {i13 : Int32} {i15 : Int32} {i16 : Int32} {i17 : Int32} {i18 : Int32} {i19 : Int32} {kp : Nat} {fs : Nat → Int32} {fp : Nat → Int32} {ff : Nat → Int32} {fd : Nat → Int32} {fam : Nat → Int32} (h : RC0 n r q i6 i7 i8 i9 i11 i12 i13 i15 i16 i17 i18 i19 kp fs fp ff fd fam) (g : DI c dy n r q) (hd : dy ≤ 9999) : DyC i6 := by
  obtain ⟨-, -, ⟨e, -⟩, -⟩ := h
  exact ⟨dy, hd, e.symm.trans g.2.1⟩
theorem Hrem.len {ed ed2 : Nat} {fh fs zh : Nat → Int32} {fl zl : Nat → Int64} {q : Int64} (h : Hrem ed fh fl fs q ed2 zh zl) : ed2 = min (ed + 1) 10 := h.1
theorem Hrem.top {ed ed2 : Nat} {fh fs zh : Nat → Int32} {fl zl : Nat → Int64} {q : Int64} (h : Hrem ed fh fl fs q ed2 zh zl) : Ab fs (hr zh ed2 0) ∧ zl (ed2 - 1 - 0) = q := ⟨fun j hj _ => h.2.2.1 j (by omega), h.2.2.2⟩
theorem Hrem.old {ed ed2 i : Nat} {fh fs zh : Nat → Int32} {fl zl : Nat → Int64} {q : Int64} (h : Hrem ed fh fl fs q ed2 zh zl) (hi : i + 1 < ed2) (he : ed ≤ 10) : Ab (hr fh ed i) (hr zh ed2 (i + 1)) ∧ zl (ed2 - 1 - (i + 1)) = fl (ed - 1 - i) := by
  have e := h.1
  obtain ⟨a, b⟩ := h.2.1 (ed2 - 1 - (i + 1)) (by omega)
  rw [show ed2 - 1 - (i + 1) + (ed + 1 - ed2) = ed - 1 - i by omega] at a b
  exact ⟨fun j hj _ => a j (by omega), b⟩
/-- what an edit of the class comes to -/
def CdM (sm P HR RN KP : Prop) : Prop := ((sm ∨ P) ∧ HR ∧ RN) ∨ ((sm ∨ ¬ P) ∧ KP)
def CdK (sm : Prop) (n : Nat) (i : Int32) (P : Nat → Prop) (HR : Prop) (RN : Nat → Prop) (KP : Prop) : Prop := (∃ k, k < n ∧ i = nI k ∧ (sm ∨ P k) ∧ HR ∧ RN k) ∨ ((sm ∨ ¬ ∃ k, k < n ∧ i = nI k ∧ P k) ∧ KP)
def KpH (wn wc : Nat) (mi : Nat → Nat → Int32) (ml : Nat → Nat → Int64) (mk : Nat → Nat) (mf : Nat → Nat → Nat → Int32) (wn2 wc2 : Nat) (mi2 : Nat → Nat → Int32) (ml2 : Nat → Nat → Int64) (mk2 : Nat → Nat) (mf2 : Nat → Nat → Nat → Int32) : Prop := wn2 = wn ∧ wc2 = wc ∧ mi2 = mi ∧ ml2 = ml ∧ mk2 = mk ∧ mf2 = mf
theorem KpH.rf (wn wc : Nat) (mi : Nat → Nat → Int32) (ml : Nat → Nat → Int64) (mk : Nat → Nat) (mf : Nat → Nat → Nat → Int32) : KpH wn wc mi ml mk mf wn wc mi ml mk mf := ⟨rfl, rfl, rfl, rfl, rfl, rfl⟩
-- the common part behind the reference's step
theorem SYx.pr {n ed ed2 : Nat} {b p : Nat → Nat} {r zr fh zh : Nat → Int32} {fl zl : Nat → Int64} {q : Int64} (h1 : BYR n b p r) (h2 : ∀ i, i < ed → Pri n r (hr fh ed i)) (hn : n ≤ 10) (he : ed ≤ 10) (hh : Hrem ed fh fl r q ed2 zh zl) (g : Pri n r zr) : BYR n b p zr ∧ ∀ i, i < ed2 → Pri n zr (hr zh ed2 i) := by
  refine ⟨h1.pri g, fun i hi => ?_⟩
  have e := hh.len
  cases i with
  | zero => exact g.sy.tr (Pri.ab hh.top.1 hn)
  | succ i => exact g.sy.tr ((h2 i (by omega)).tr (Pri.ab (hh.old hi he).1 hn))
theorem SYSr.rem {r zr fh zh : Nat → Int32} {ed ed2 : Nat} {fl zl : Nat → Int64} {q : Int64} (h : SYSr r ed fh) (he : ed ≤ 10) (hh : Hrem ed fh fl r q ed2 zh zl) (g : Kge 60 zr) : SYSr zr ed2 zh := by
  refine ⟨g, fun i hi => ?_⟩
  have e := hh.len
  cases i with
  | zero => exact h.1.abv hh.top.1
  | succ i => exact (h.2 i (by omega)).abv (hh.old hi he).1
theorem HrC.slot {wn wc wn2 wc2 : Nat} {mi : Nat → Nat → Int32} {ml : Nat → Nat → Int64} {mk : Nat → Nat} {mf : Nat → Nat → Nat → Int32} {mi2 : Nat → Nat → Int32} {ml2 : Nat → Nat → Int64} {mk2 : Nat → Nat} {mf2 : Nat → Nat → Nat → Int32} {i6 : Int32} {i7 : Int32} {i8 : Int32} {i9 : Int64} {i11 : Int64} {i12 : Int32} {i13 : Int32} {i15 : Int32} {i16 : Int32} {i17 : Int32} {i18 : Int32} {i19 : Int32} {kp : Nat} {fs : Nat → Int32} {fp : Nat → Int32} {ff : Nat → Int32} {fd : Nat → Int32} (h : HrC wn wc mi ml mk mf i6 i7 i8 i9 i11 i12 i13 i15 i16 i17 i18 i19 kp fs fp ff fd wn2 wc2 mi2 ml2 mk2 mf2) (hw : wn < 10) (hc : wc ≤ 10) : wn2 < 10 ∧ wc2 = min (wc + 1) 10 ∧ (wn2 + 9 - 0) % 10 = wn ∧ ∀ i, i + 1 < wc2 → (wn2 + 9 - (i + 1)) % 10 = (wn + 9 - i) % 10 ∧ (wn + 9 - i) % 10 ≠ wn := by
  have e1 := h.1
  have e2 := h.2.1
  refine ⟨by omega, e2, by omega, fun i hi => ⟨by omega, by omega⟩⟩
theorem SYSc.rem {wn wc wn2 wc2 : Nat} {mi : Nat → Nat → Int32} {ml : Nat → Nat → Int64} {mk : Nat → Nat} {mf : Nat → Nat → Nat → Int32} {mi2 : Nat → Nat → Int32} {ml2 : Nat → Nat → Int64} {mk2 : Nat → Nat} {mf2 : Nat → Nat → Nat → Int32} {i6 : Int32} {i7 : Int32} {i8 : Int32} {i9 : Int64} {i11 : Int64} {i12 : Int32} {i13 : Int32} {i15 : Int32} {i16 : Int32} {i17 : Int32} {i18 : Int32} {i19 : Int32} {kp : Nat} {fs : Nat → Int32} {fp : Nat → Int32} {ff : Nat → Int32} {fd : Nat → Int32} {y6 : Int32} {ky : Nat} (h : SYSc i6 kp wn wc mi mk) (hw : wn < 10) (hc : wc ≤ 10) (hh : HrC wn wc mi ml mk mf i6 i7 i8 i9 i11 i12 i13 i15 i16 i17 i18 i19 kp fs fp ff fd wn2 wc2 mi2 ml2 mk2 mf2) (hk : ky = 60) (hd : DyC y6) : SYSc y6 ky wn2 wc2 mi2 mk2 := by
  obtain ⟨s1, s2, s3, s4⟩ := hh.slot hw hc
  obtain ⟨-, -, m6, -, -, -, -, -, -, -, -, -, -, -, mk9, -, -, -, -, mo⟩ := hh
  refine ⟨hk, hd, fun i hi => ?_⟩
  cases i with
  | zero => rw [s3, mk9, m6]; exact ⟨h.1, h.2.1⟩
  | succ i =>
    obtain ⟨t1, t2⟩ := s4 i hi
    obtain ⟨u1, u2, u3, u4⟩ := mo _ t2
    rw [t1, u1, u3]
    exact h.2.2 i (by omega)
def crS (c2 : Nat) (c : Nat → Nat) : Nat → Nat
  | 0 => c2
  | i + 1 => c i
/-- the accounts agree behind an edit -/
theorem SYN.rem {c : Nat → Nat} {n : Nat} {fam : Nat → Int32} {i6 : Int32} {i7 : Int32} {i8 : Int32} {i9 : Int64} {i11 : Int64} {i12 : Int32} {i13 : Int32} {i15 : Int32} {i16 : Int32} {i17 : Int32} {i18 : Int32} {i19 : Int32} {kp : Nat} {fs : Nat → Int32} {fp : Nat → Int32} {ff : Nat → Int32} {fd : Nat → Int32} {z6 : Int32} {z7 : Int32} {z8 : Int32} {z9 : Int64} {z11 : Int64} {z12 : Int32} {z13 : Int32} {z15 : Int32} {z16 : Int32} {z17 : Int32} {z18 : Int32} {z19 : Int32} {ky : Nat} {zs : Nat → Int32} {zp : Nat → Int32} {zf : Nat → Int32} {zd : Nat → Int32} {wn wc wn2 wc2 : Nat} {mi : Nat → Nat → Int32} {ml : Nat → Nat → Int64} {mk : Nat → Nat} {mf : Nat → Nat → Nat → Int32} {mi2 : Nat → Nat → Int32} {ml2 : Nat → Nat → Int64} {mk2 : Nat → Nat} {mf2 : Nat → Nat → Nat → Int32} {r zr : Nat → Int32} {q zq : Int64} {ed ed2 : Nat} {fh zh : Nat → Int32} {fl zl : Nat → Int64} {c2 : Nat} (h : SYN c n fam i6 i7 i8 i9 i11 i12 i13 i15 i16 i17 i18 i19 kp fs fp ff fd wn wc mi ml mk mf r q ed fh fl) (h0 : c 0 ≤ 100) (hn : n ≤ 10) (hw : wn < 10) (hc : wc ≤ 10) (hh : HrC wn wc mi ml mk mf i6 i7 i8 i9 i11 i12 i13 i15 i16 i17 i18 i19 kp fs fp ff fd wn2 wc2 mi2 ml2 mk2 mf2) (hg : Hrem ed fh fl r q ed2 zh zl) (hR : RC0 n zr zq z6 z7 z8 z9 z11 z12 z13 z15 z16 z17 z18 z19 ky zs zp zf zd fam) (hD : ∃ dy, dy ≤ 9999 ∧ DI c2 dy n zr zq) (l2 : c2 ≤ c 0 + 4) : SYN (crS c2 c) n fam z6 z7 z8 z9 z11 z12 z13 z15 z16 z17 z18 z19 ky zs zp zf zd wn2 wc2 mi2 ml2 mk2 mf2 zr zq ed2 zh zl := by
  obtain ⟨⟨a1, a2⟩, e1, a3, a4, a5⟩ := h
  obtain ⟨s1, s2, s3, s4⟩ := hh.slot hw hc
  have el := hg.len
  have ee : ed2 = wc2 := by omega
  subst e1
  subst ee
  obtain ⟨-, -, m6, m7, m8, m9, m11, m12, m13, m15, m16, m17, m18, m19, mk9, f3, f4, f5, f6, mo⟩ := hh
  refine ⟨⟨hR, hD⟩, rfl, fun i hi => ?_, fun i hi => ?_, fun i hi => ?_⟩
  · cases i with
    | zero =>
      obtain ⟨t1, t2⟩ := hg.top
      obtain ⟨dy, d1, d2⟩ := a2
      rw [s3, t2]
      refine ⟨?_, dy, d1, ?_⟩
      · show RC0 n (hr zh ed2 0) q (mi2 wn 6) (mi2 wn 7) (mi2 wn 8) (ml2 wn 9) (ml2 wn 11) (mi2 wn 12) (mi2 wn 13) (mi2 wn 15) (mi2 wn 16) (mi2 wn 17) (mi2 wn 18) (mi2 wn 19) (mk2 wn) (mf2 wn 3) (mf2 wn 4) (mf2 wn 5) (mf2 wn 6) fam
        rw [m6, m7, m8, m9, m11, m12, m13, m15, m16, m17, m18, m19, mk9]
        exact (a1.cpv f3 f4 f5 f6).ab t1
      · exact d2.abv t1 hn
    | succ i =>
      obtain ⟨t1, t2⟩ := hg.old hi hc
      obtain ⟨v1, v2⟩ := s4 i hi
      obtain ⟨u1, u2, u3, u4⟩ := mo _ v2
      obtain ⟨b1, dy, d1, d2⟩ := a3 i (by omega)
      rw [v1, t2]
      refine ⟨?_, dy, d1, d2.abv t1 hn⟩
      unfold RC0S at b1 ⊢
      rw [u1, u2, u3, u4]
      exact b1.ab t1
  · cases i with
    | zero => exact h0
    | succ i => exact a4 i (by omega)
  · cases i with
    | zero => exact l2
    | succ i => exact a5 i (by omega)
/-- either still below the bound, or saturated -/
theorem SYN.fin {cq b p c : Nat → Nat} {n sc : Nat} {fst fop fen fby fam : Nat → Int32} {i6 : Int32} {i7 : Int32} {i8 : Int32} {i9 : Int64} {i11 : Int64} {i12 : Int32} {i13 : Int32} {i15 : Int32} {i16 : Int32} {i17 : Int32} {i18 : Int32} {i19 : Int32} {kp : Nat} {fs : Nat → Int32} {fp : Nat → Int32} {ff : Nat → Int32} {fd : Nat → Int32} {wn wc : Nat} {mi : Nat → Nat → Int32} {ml : Nat → Nat → Int64} {mk : Nat → Nat} {mf : Nat → Nat → Nat → Int32} {f31 f33 r : Nat → Int32} {q : Int64} {ed : Nat} {fh : Nat → Int32} {fl : Nat → Int64} (h : SYN c n fam i6 i7 i8 i9 i11 i12 i13 i15 i16 i17 i18 i19 kp fs fp ff fd wn wc mi ml mk mf r q ed fh fl) (h1 : COD n sc fst fop fen fby f31 f33 cq b) (h2 : BYR n b p r) (h3 : ∀ i, i < ed → Pri n r (hr fh ed i)) (h4 : n ≤ 10 ∧ wn < 10 ∧ wc ≤ 10 ∧ ed ≤ 10) : SY n sc fst fop fen fby fam i6 i7 i8 i9 i11 i12 i13 i15 i16 i17 i18 i19 kp fs fp ff fd wn wc mi ml mk mf f31 f33 r q ed fh fl := by
  by_cases g : c 0 ≤ 100
  · exact ⟨False, cq, b, p, h1, h2, h3, h4, Or.inl ⟨id, c, h, g⟩⟩
  · refine ⟨True, cq, b, p, h1, h2, h3, h4, Or.inr ⟨trivial, ?_, ?_⟩⟩
    · obtain ⟨⟨a1, dy, d1, d2⟩, e1, a3, a4, a5⟩ := h
      have st : ∀ i, i ≤ wc → c 0 ≤ c i + 4 * i := fun i => by
        induction i with
        | zero => intro _; omega
        | succ i ih => intro hi; have := ih (by omega); have := a5 i (by omega); omega
      refine ⟨a1.k60 (d2.2.2.2.2.le (by omega)), a1.dyv d2 d1, fun i hi => ?_⟩
      obtain ⟨b1, dy2, d3, d4⟩ := a3 i hi
      have := st (i + 1) (by omega)
      exact ⟨RC0.k60 b1 (d4.2.2.2.2.le (by omega)), RC0.dyv b1 d4 d3⟩
    · obtain ⟨⟨a1, dy, d1, d2⟩, e1, a3, a4, a5⟩ := h
      have st : ∀ i, i ≤ wc → c 0 ≤ c i + 4 * i := fun i => by
        induction i with
        | zero => intro _; omega
        | succ i ih => intro hi; have := ih (by omega); have := a5 i (by omega); omega
      refine ⟨d2.2.2.2.2.le (by omega), fun i hi => ?_⟩
      subst e1
      obtain ⟨b1, dy2, d3, d4⟩ := a3 i hi
      have := st (i + 1) (by omega)
      exact d4.2.2.2.2.le (by omega)
theorem SYx.sy {sm : Prop} {cq b p : Nat → Nat}  {n sc : Nat} {fst fop fen fby fam : Nat → Int32} {i6 : Int32} {i7 : Int32} {i8 : Int32} {i9 : Int64} {i11 : Int64} {i12 : Int32} {i13 : Int32} {i15 : Int32} {i16 : Int32} {i17 : Int32} {i18 : Int32} {i19 : Int32} {kp : Nat} {fs : Nat → Int32} {fp : Nat → Int32} {ff : Nat → Int32} {fd : Nat → Int32} {wn wc : Nat} {mi : Nat → Nat → Int32} {ml : Nat → Nat → Int64} {mk : Nat → Nat} {mf : Nat → Nat → Nat → Int32} {f31 f33 r : Nat → Int32} {q : Int64} {ed : Nat} {fh : Nat → Int32} {fl : Nat → Int64} (h : SYx sm cq b p n sc fst fop fen fby fam i6 i7 i8 i9 i11 i12 i13 i15 i16 i17 i18 i19 kp fs fp ff fd wn wc mi ml mk mf f31 f33 r q ed fh fl) : SY n sc fst fop fen fby fam i6 i7 i8 i9 i11 i12 i13 i15 i16 i17 i18 i19 kp fs fp ff fd wn wc mi ml mk mf f31 f33 r q ed fh fl := ⟨sm, cq, b, p, h⟩
theorem SYx.rc {sm : Prop} {cq b p : Nat → Nat}  {n sc : Nat} {fst fop fen fby fam : Nat → Int32} {i6 : Int32} {i7 : Int32} {i8 : Int32} {i9 : Int64} {i11 : Int64} {i12 : Int32} {i13 : Int32} {i15 : Int32} {i16 : Int32} {i17 : Int32} {i18 : Int32} {i19 : Int32} {kp : Nat} {fs : Nat → Int32} {fp : Nat → Int32} {ff : Nat → Int32} {fd : Nat → Int32} {wn wc : Nat} {mi : Nat → Nat → Int32} {ml : Nat → Nat → Int64} {mk : Nat → Nat} {mf : Nat → Nat → Nat → Int32} {f31 f33 r : Nat → Int32} {q : Int64} {ed : Nat} {fh : Nat → Int32} {fl : Nat → Int64} (h : SYx sm cq b p n sc fst fop fen fby fam i6 i7 i8 i9 i11 i12 i13 i15 i16 i17 i18 i19 kp fs fp ff fd wn wc mi ml mk mf f31 f33 r q ed fh fl) : RC sm n r q i6 i7 i8 i9 i11 i12 i13 i15 i16 i17 i18 i19 kp fs fp ff fd fam := by
  obtain ⟨-, -, -, ⟨hn, -⟩, ⟨hs, c, hN, -⟩ | ⟨hs, hc, -⟩⟩ := h
  · exact Or.inl ⟨hs, hN.1.1⟩
  · exact Or.inr ⟨hs, hn, hc.1⟩
theorem SYx.dy {sm : Prop} {cq b p : Nat → Nat}  {n sc : Nat} {fst fop fen fby fam : Nat → Int32} {i6 : Int32} {i7 : Int32} {i8 : Int32} {i9 : Int64} {i11 : Int64} {i12 : Int32} {i13 : Int32} {i15 : Int32} {i16 : Int32} {i17 : Int32} {i18 : Int32} {i19 : Int32} {kp : Nat} {fs : Nat → Int32} {fp : Nat → Int32} {ff : Nat → Int32} {fd : Nat → Int32} {wn wc : Nat} {mi : Nat → Nat → Int32} {ml : Nat → Nat → Int64} {mk : Nat → Nat} {mf : Nat → Nat → Nat → Int32} {f31 f33 r : Nat → Int32} {q : Int64} {ed : Nat} {fh : Nat → Int32} {fl : Nat → Int64} (h : SYx sm cq b p n sc fst fop fen fby fam i6 i7 i8 i9 i11 i12 i13 i15 i16 i17 i18 i19 kp fs fp ff fd wn wc mi ml mk mf f31 f33 r q ed fh fl) : DyC i6 := by
  obtain ⟨-, -, -, -, ⟨hs, c, hN, -⟩ | ⟨hs, hc, -⟩⟩ := h
  · obtain ⟨⟨a1, dy, d1, d2⟩, -⟩ := hN
    exact a1.dyv d2 d1
  · exact hc.2.1
theorem SYx.cap {sm : Prop} {cq b p : Nat → Nat}  {n sc : Nat} {fst fop fen fby fam : Nat → Int32} {i6 : Int32} {i7 : Int32} {i8 : Int32} {i9 : Int64} {i11 : Int64} {i12 : Int32} {i13 : Int32} {i15 : Int32} {i16 : Int32} {i17 : Int32} {i18 : Int32} {i19 : Int32} {kp : Nat} {fs : Nat → Int32} {fp : Nat → Int32} {ff : Nat → Int32} {fd : Nat → Int32} {wn wc : Nat} {mi : Nat → Nat → Int32} {ml : Nat → Nat → Int64} {mk : Nat → Nat} {mf : Nat → Nat → Nat → Int32} {f31 f33 r : Nat → Int32} {q : Int64} {ed : Nat} {fh : Nat → Int32} {fl : Nat → Int64} (h : SYx sm cq b p n sc fst fop fen fby fam i6 i7 i8 i9 i11 i12 i13 i15 i16 i17 i18 i19 kp fs fp ff fd wn wc mi ml mk mf f31 f33 r q ed fh fl) {dy : Nat} (e : i6 = nI dy) (hd : dy ≤ 9999) : CapN sm f31 cq n b dy 120 r q := by
  obtain ⟨hC, -, -, -, ⟨hs, c, hN, h0⟩ | ⟨hs, -⟩⟩ := h
  · obtain ⟨⟨a1, dy2, d1, d2⟩, -⟩ := hN
    have ey : dy2 = dy := nI_ij (d2.2.1.symm.trans (a1.2.2.1.1.trans e)) (by omega) (by omega)
    subst ey
    exact fun k hk ns => d2.capN h0 (fun j hj => (hC.2.2.2.2.2 j hj).1) hd k hk id
  · exact CapN.sat hs
theorem SYx.kept {sm : Prop} {cq b p : Nat → Nat}  {n sc : Nat} {fst fop fen fby fam : Nat → Int32} {i6 : Int32} {i7 : Int32} {i8 : Int32} {i9 : Int64} {i11 : Int64} {i12 : Int32} {i13 : Int32} {i15 : Int32} {i16 : Int32} {i17 : Int32} {i18 : Int32} {i19 : Int32} {kp : Nat} {fs : Nat → Int32} {fp : Nat → Int32} {ff : Nat → Int32} {fd : Nat → Int32} {wn wc : Nat} {mi : Nat → Nat → Int32} {ml : Nat → Nat → Int64} {mk : Nat → Nat} {mf : Nat → Nat → Nat → Int32} {f31 f33 r : Nat → Int32} {q : Int64} {ed : Nat} {fh : Nat → Int32} {fl : Nat → Int64} {en : Nat} (h : SYx sm cq b p n sc fst fop fen fby fam i6 i7 i8 i9 i11 i12 i13 i15 i16 i17 i18 i19 kp fs fp ff fd wn wc mi ml mk mf f31 f33 r q ed fh fl) (hk : kp ≤ 60) (he : en ≤ 60) (e15 : r 15 = nI en) : kp = en := by
  obtain ⟨-, -, -, -, ⟨hs, c, hN, -⟩ | ⟨hs, hc, hr⟩⟩ := h
  · exact nI_ij (hN.1.1.2.2.1.2.2.2.2.2.2.2.2.2.2.symm.trans e15) (by omega) (by omega)
  · obtain ⟨k, a, b, c⟩ := hr.1
    have := nI_ij (e15.symm.trans a) (by omega) (by omega)
    have := hc.1
    omega
theorem SY.keptv {n sc : Nat} {fst fop fen fby fam : Nat → Int32} {i6 : Int32} {i7 : Int32} {i8 : Int32} {i9 : Int64} {i11 : Int64} {i12 : Int32} {i13 : Int32} {i15 : Int32} {i16 : Int32} {i17 : Int32} {i18 : Int32} {i19 : Int32} {kp : Nat} {fs : Nat → Int32} {fp : Nat → Int32} {ff : Nat → Int32} {fd : Nat → Int32} {wn wc : Nat} {mi : Nat → Nat → Int32} {ml : Nat → Nat → Int64} {mk : Nat → Nat} {mf : Nat → Nat → Nat → Int32} {f31 f33 r : Nat → Int32} {q : Int64} {ed : Nat} {fh : Nat → Int32} {fl : Nat → Int64} {en : Nat} (h : SY n sc fst fop fen fby fam i6 i7 i8 i9 i11 i12 i13 i15 i16 i17 i18 i19 kp fs fp ff fd wn wc mi ml mk mf f31 f33 r q ed fh fl) (hk : kp ≤ 60) (he : en ≤ 60) (e15 : r 15 = nI en) : kp = en := by
  obtain ⟨sm, cq, b, p, h⟩ := h
  exact h.kept hk he e15
theorem SYx.ed {sm : Prop} {cq b p : Nat → Nat}  {n sc : Nat} {fst fop fen fby fam : Nat → Int32} {i6 : Int32} {i7 : Int32} {i8 : Int32} {i9 : Int64} {i11 : Int64} {i12 : Int32} {i13 : Int32} {i15 : Int32} {i16 : Int32} {i17 : Int32} {i18 : Int32} {i19 : Int32} {kp : Nat} {fs : Nat → Int32} {fp : Nat → Int32} {ff : Nat → Int32} {fd : Nat → Int32} {wn wc : Nat} {mi : Nat → Nat → Int32} {ml : Nat → Nat → Int64} {mk : Nat → Nat} {mf : Nat → Nat → Nat → Int32} {f31 f33 r : Nat → Int32} {q : Int64} {ed : Nat} {fh : Nat → Int32} {fl : Nat → Int64} {z6 : Int32} {z7 : Int32} {z8 : Int32} {z9 : Int64} {z11 : Int64} {z12 : Int32} {z13 : Int32} {z15 : Int32} {z16 : Int32} {z17 : Int32} {z18 : Int32} {z19 : Int32} {ky : Nat} {zs : Nat → Int32} {zp : Nat → Int32} {zf : Nat → Int32} {zd : Nat → Int32} {wn2 wc2 : Nat} {mi2 : Nat → Nat → Int32} {ml2 : Nat → Nat → Int64} {mk2 : Nat → Nat} {mf2 : Nat → Nat → Nat → Int32} {zr : Nat → Int32} {zq : Int64} {ed2 : Nat} {zh : Nat → Int32} {zl : Nat → Int64} {P : Prop} {op : (Nat → Int32) → Nat → Int32} (h : SYx sm cq b p n sc fst fop fen fby fam i6 i7 i8 i9 i11 i12 i13 i15 i16 i17 i18 i19 kp fs fp ff fd wn wc mi ml mk mf f31 f33 r q ed fh fl) (hk : OpK n r (op r)) (hd : z6 = i6)
    (hc : CdM sm P (HrC wn wc mi ml mk mf i6 i7 i8 i9 i11 i12 i13 i15 i16 i17 i18 i19 kp fs fp ff fd wn2 wc2 mi2 ml2 mk2 mf2) (RC sm n (op r) q z6 z7 z8 z9 z11 z12 z13 z15 z16 z17 z18 z19 ky zs zp zf zd fam) (KpH wn wc mi ml mk mf wn2 wc2 mi2 ml2 mk2 mf2 ∧ KeepA i6 i7 i8 i9 i11 i12 i13 i15 i16 i17 i18 i19 kp fs fp ff fd z6 z7 z8 z9 z11 z12 z13 z15 z16 z17 z18 z19 ky zs zp zf zd)) (he : EdM P op ed fh fl r q ed2 zh zl zr) (eq : zq = q) : SY n sc fst fop fen fby fam z6 z7 z8 z9 z11 z12 z13 z15 z16 z17 z18 z19 ky zs zp zf zd wn2 wc2 mi2 ml2 mk2 mf2 f31 f33 zr zq ed2 zh zl := by
  subst eq hd
  obtain ⟨h1, h2, h3, ⟨hn, hw, hwc, hed⟩, hB⟩ := h
  -- what the reference has done
  have ref : Pri n r zr ∧ BYR n b p zr ∧ (∀ i, i < ed2 → Pri n zr (hr zh ed2 i)) ∧ ed2 ≤ 10 ∧ (SYSr r ed fh → SYSr zr ed2 zh) := by
    rcases he with ⟨-, hH, hA⟩ | ⟨-, e1, e2, e3, e4⟩
    · have g : OpK n r zr := hk.tr (OpK.ab hA hn)
      have z := SYx.pr h2 h3 hn hed hH g.2.2.2
      have := hH.len
      exact ⟨g.2.2.2, z.1, z.2, by omega, fun s => s.rem hed hH (g.2.2.1 _ s.1)⟩
    · subst e1 e2 e3 e4
      exact ⟨Pri.rf n zr, h2, h3, hed, id⟩
  obtain ⟨g1, g2, g3, g4, g5⟩ := ref
  rcases hB with ⟨hs, c, hN, h0⟩ | ⟨hs, hSc, hSr⟩
  · rcases hc with ⟨p1, hH, hR⟩ | ⟨p1, hK, hA⟩
    · have p2 : P := p1.resolve_left hs
      rcases he with ⟨-, hG, hA⟩ | ⟨np, -⟩
      · have hR0 : RC0 n (op r) zq z6 z7 z8 z9 z11 z12 z13 z15 z16 z17 z18 z19 ky zs zp zf zd fam := by
          rcases hR with ⟨-, hR⟩ | ⟨hs2, -⟩
          · exact hR
          · exact absurd hs2 hs
        have hR1 := hR0.ab hA
        obtain ⟨dy, d1, d2⟩ := hN.1.2
        have hl := hH.slot hw hwc
        have := hG.len
        exact (hN.rem (c2 := c 0) h0 hn hw hwc hH hG hR1 ⟨dy, d1, d2.op hR1.e (hk.tr (OpK.ab hA hn))⟩ (by omega)).fin h1 g2 g3 ⟨hn, hl.1, by have := hl.2.1; omega, g4⟩
      · exact absurd p2 np
    · have p2 : ¬ P := p1.resolve_left hs
      rcases he with ⟨p3, -⟩ | ⟨-, e1, e2, e3, e4⟩
      · exact absurd p3 p2
      · subst e1 e2 e3 e4
        obtain ⟨w1, w2, w3, w4, w5, w6⟩ := hK
        obtain ⟨⟨y6, y7, y8, y9, y11, y12, y13, y15, y16, y17, y18, y19⟩, yk, ys, yp, yf, yd⟩ := hA
        subst w1 w2 w3 w4 w5 w6 y7 y8 y9 y11 y12 y13 y15 y16 y17 y18 y19 yk ys yp yf yd
        exact ⟨sm, cq, b, p, h1, h2, h3, ⟨hn, hw, hwc, hed⟩, Or.inl ⟨hs, c, hN, h0⟩⟩
  · have cls : (wn2 < 10 ∧ wc2 ≤ 10) ∧ SYSc z6 ky wn2 wc2 mi2 mk2 := by
      rcases hc with ⟨-, hH, hR⟩ | ⟨-, hK, hA⟩
      · have hl := hH.slot hw hwc
        have k60 : ky = 60 := by
          rcases hR with ⟨ns, -⟩ | ⟨-, -, k⟩
          · exact absurd hs ns
          · exact k
        exact ⟨⟨hl.1, by have := hl.2.1; omega⟩, hSc.rem hw hwc hH k60 hSc.2.1⟩
      · obtain ⟨w1, w2, w3, w4, w5, w6⟩ := hK
        subst w1 w2 w3 w5
        refine ⟨⟨hw, hwc⟩, ?_⟩
        rw [show ky = kp from hA.2.1]
        exact hSc
    exact ⟨sm, cq, b, p, h1, g2, g3, ⟨hn, cls.1.1, cls.1.2, g4⟩, Or.inr ⟨hs, cls.2, g5 hSr⟩⟩
theorem SYx.edk {sm : Prop} {cq b p : Nat → Nat}  {n sc : Nat} {fst fop fen fby fam : Nat → Int32} {i6 : Int32} {i7 : Int32} {i8 : Int32} {i9 : Int64} {i11 : Int64} {i12 : Int32} {i13 : Int32} {i15 : Int32} {i16 : Int32} {i17 : Int32} {i18 : Int32} {i19 : Int32} {kp : Nat} {fs : Nat → Int32} {fp : Nat → Int32} {ff : Nat → Int32} {fd : Nat → Int32} {wn wc : Nat} {mi : Nat → Nat → Int32} {ml : Nat → Nat → Int64} {mk : Nat → Nat} {mf : Nat → Nat → Nat → Int32} {f31 f33 r : Nat → Int32} {q : Int64} {ed : Nat} {fh : Nat → Int32} {fl : Nat → Int64} {z6 : Int32} {z7 : Int32} {z8 : Int32} {z9 : Int64} {z11 : Int64} {z12 : Int32} {z13 : Int32} {z15 : Int32} {z16 : Int32} {z17 : Int32} {z18 : Int32} {z19 : Int32} {ky : Nat} {zs : Nat → Int32} {zp : Nat → Int32} {zf : Nat → Int32} {zd : Nat → Int32} {wn2 wc2 : Nat} {mi2 : Nat → Nat → Int32} {ml2 : Nat → Nat → Int64} {mk2 : Nat → Nat} {mf2 : Nat → Nat → Nat → Int32} {zr : Nat → Int32} {zq : Int64} {ed2 : Nat} {zh : Nat → Int32} {zl : Nat → Int64} {m : Nat} {i : Int32} {P : Nat → Prop} {op : Nat → (Nat → Int32) → Nat → Int32} (h : SYx sm cq b p n sc fst fop fen fby fam i6 i7 i8 i9 i11 i12 i13 i15 i16 i17 i18 i19 kp fs fp ff fd wn wc mi ml mk mf f31 f33 r q ed fh fl) (hm : m ≤ 10) (hk : ∀ k, OpK n r (op k r)) (hd : z6 = i6)
    (hc : CdK sm m i P (HrC wn wc mi ml mk mf i6 i7 i8 i9 i11 i12 i13 i15 i16 i17 i18 i19 kp fs fp ff fd wn2 wc2 mi2 ml2 mk2 mf2) (fun k => RC sm n (op k r) q z6 z7 z8 z9 z11 z12 z13 z15 z16 z17 z18 z19 ky zs zp zf zd fam) (KpH wn wc mi ml mk mf wn2 wc2 mi2 ml2 mk2 mf2 ∧ KeepA i6 i7 i8 i9 i11 i12 i13 i15 i16 i17 i18 i19 kp fs fp ff fd z6 z7 z8 z9 z11 z12 z13 z15 z16 z17 z18 z19 ky zs zp zf zd)) (he : EdK m i P op ed fh fl r q ed2 zh zl zr) (eq : zq = q) : SY n sc fst fop fen fby fam z6 z7 z8 z9 z11 z12 z13 z15 z16 z17 z18 z19 ky zs zp zf zd wn2 wc2 mi2 ml2 mk2 mf2 f31 f33 zr zq ed2 zh zl := by
  by_cases g : ∃ k, k < m ∧ i = nI k
  · obtain ⟨k, g1, g2⟩ := g
    have u : ∀ k2, k2 < m → i = nI k2 → k2 = k := fun k2 l e => nI_ij (e.symm.trans g2) (by omega) (by omega)
    refine h.ed (P := P k) (op := op k) (hk k) hd ?_ ?_ eq
    · rcases hc with ⟨k2, a1, a2, a3, a4, a5⟩ | ⟨a3, a4⟩
      · have e := u k2 a1 a2
        subst e
        exact Or.inl ⟨a3, a4, a5⟩
      · exact Or.inr ⟨a3.imp id (fun z y => z ⟨k, g1, g2, y⟩), a4⟩
    · rcases he with ⟨k2, a1, a2, a3, a4, a5⟩ | ⟨a3, a4⟩
      · have e := u k2 a1 a2
        subst e
        exact Or.inl ⟨a3, a4, a5⟩
      · exact Or.inr ⟨fun y => a3 ⟨k, g1, g2, y⟩, a4⟩
  · refine h.ed (P := False) (op := fun r => r) (OpK.rf n r) hd ?_ ?_ eq
    · rcases hc with ⟨k2, a1, a2, -⟩ | ⟨-, a4⟩
      · exact absurd ⟨k2, a1, a2⟩ g
      · exact Or.inr ⟨Or.inr id, a4⟩
    · rcases he with ⟨k2, a1, a2, -⟩ | ⟨-, a4⟩
      · exact absurd ⟨k2, a1, a2⟩ g
      · exact Or.inr ⟨id, a4⟩
/-- a pass of days of the class -/
def CdP (i : Int32) (dy y6 : Nat) (HR : Prop) (RN : Nat → Prop) (KP : Prop) : Prop := (∃ N, (1 ≤ N ∧ N ≤ 120) ∧ i = nI N ∧ dy + N ≤ 9999 ∧ y6 = dy + N ∧ HR ∧ RN N) ∨ (y6 = dy ∧ (¬ ∃ N, (1 ≤ N ∧ N ≤ 120) ∧ i = nI N ∧ dy + N ≤ 9999) ∧ KP)
theorem SYx.pass {sm : Prop} {cq b p : Nat → Nat}  {n sc : Nat} {fst fop fen fby fam : Nat → Int32} {i6 : Int32} {i7 : Int32} {i8 : Int32} {i9 : Int64} {i11 : Int64} {i12 : Int32} {i13 : Int32} {i15 : Int32} {i16 : Int32} {i17 : Int32} {i18 : Int32} {i19 : Int32} {kp : Nat} {fs : Nat → Int32} {fp : Nat → Int32} {ff : Nat → Int32} {fd : Nat → Int32} {wn wc : Nat} {mi : Nat → Nat → Int32} {ml : Nat → Nat → Int64} {mk : Nat → Nat} {mf : Nat → Nat → Nat → Int32} {f31 f33 r : Nat → Int32} {q : Int64} {ed : Nat} {fh : Nat → Int32} {fl : Nat → Int64} {z6 : Int32} {z7 : Int32} {z8 : Int32} {z9 : Int64} {z11 : Int64} {z12 : Int32} {z13 : Int32} {z15 : Int32} {z16 : Int32} {z17 : Int32} {z18 : Int32} {z19 : Int32} {ky : Nat} {zs : Nat → Int32} {zp : Nat → Int32} {zf : Nat → Int32} {zd : Nat → Int32} {wn2 wc2 : Nat} {mi2 : Nat → Nat → Int32} {ml2 : Nat → Nat → Int64} {mk2 : Nat → Nat} {mf2 : Nat → Nat → Nat → Int32} {zr : Nat → Int32} {zq : Int64} {ed2 : Nat} {zh : Nat → Int32} {zl : Nat → Int64} {i : Int32} {dy dy2 y6 : Nat} (h : SYx sm cq b p n sc fst fop fen fby fam i6 i7 i8 i9 i11 i12 i13 i15 i16 i17 i18 i19 kp fs fp ff fd wn wc mi ml mk mf f31 f33 r q ed fh fl) (hi : i6 = nI dy) (hdy : dy ≤ 9999) (hr4 : r 4 = nI dy2) (hd2 : dy2 ≤ 9999) (hz : z6 = nI y6)
    (hc : CdP i dy y6 (HrC wn wc mi ml mk mf i6 i7 i8 i9 i11 i12 i13 i15 i16 i17 i18 i19 kp fs fp ff fd wn2 wc2 mi2 ml2 mk2 mf2) (fun N => RC sm n (dysP f31 cq n b dy r q N).1 (dysP f31 cq n b dy r q N).2 z6 z7 z8 z9 z11 z12 z13 z15 z16 z17 z18 z19 ky zs zp zf zd fam) (KpH wn wc mi ml mk mf wn2 wc2 mi2 ml2 mk2 mf2 ∧ KeepA i6 i7 i8 i9 i11 i12 i13 i15 i16 i17 i18 i19 kp fs fp ff fd z6 z7 z8 z9 z11 z12 z13 z15 z16 z17 z18 z19 ky zs zp zf zd)) (he : EdP i ed fh fl f31 cq n dy2 r q ed2 zh zl zr zq) : SY n sc fst fop fen fby fam z6 z7 z8 z9 z11 z12 z13 z15 z16 z17 z18 z19 ky zs zp zf zd wn2 wc2 mi2 ml2 mk2 mf2 f31 f33 zr zq ed2 zh zl := by
  obtain ⟨h1, h2, h3, ⟨hn, hw, hwc, hed⟩, hB⟩ := h
  have hbo : ∀ j, j < n → b j < n := fun j hj => (h1.2.2.2.2.2 j hj).1
  have ref : Pri n r zr ∧ BYR n b p zr ∧ (∀ i, i < ed2 → Pri n zr (hr zh ed2 i)) ∧ ed2 ≤ 10 ∧ (SYSr r ed fh → SYSr zr ed2 zh) := by
    rcases he with ⟨N, -, -, -, hH, hA⟩ | ⟨-, e1, e2, e3, e4, -⟩
    · have z9 := DysR.is hn h2 hA
      have g : Pri n r zr := (Pri.dys N).tr (Pri.ab z9.1 hn)
      have z := SYx.pr h2 h3 hn hed hH g
      have := hH.len
      exact ⟨g, z.1, z.2, by omega, fun s => s.rem hed hH (s.1.DysRv hA)⟩
    · subst e1 e2 e3 e4
      exact ⟨Pri.rf n zr, h2, h3, hed, id⟩
  obtain ⟨g1, g2, g3, g4, g5⟩ := ref
  rcases hB with ⟨hs, c, hN, h0⟩ | ⟨hs, hSc, hSr⟩
  · have e6 : r 4 = i6 := hN.1.1.2.2.1.1
    have edd : dy2 = dy := nI_ij (hr4.symm.trans (e6.trans hi)) (by omega) (by omega)
    subst edd
    rcases hc with ⟨N, hN1, hN2, hN3, y7, hH, hR⟩ | ⟨y7, np, hK, hA⟩
    · rcases he with ⟨M, hM1, hM2, hM3, hG, hA⟩ | ⟨np, -⟩
      · have eMN : M = N := nI_ij (hM2.symm.trans hN2) (by omega) (by omega)
        subst eMN
        have hR0 : RC0 n (dysP f31 cq n b dy2 r q M).1 (dysP f31 cq n b dy2 r q M).2 z6 z7 z8 z9 z11 z12 z13 z15 z16 z17 z18 z19 ky zs zp zf zd fam := by
          rcases hR with ⟨-, hR⟩ | ⟨hs2, -⟩
          · exact hR
          · exact absurd hs2 hs
        have z9 := DysR.is hn h2 hA
        obtain ⟨dy3, d1, d2⟩ := hN.1.2
        have e3 : dy3 = dy2 := nI_ij (d2.2.1.symm.trans hr4) (by omega) (by omega)
        subst e3
        obtain ⟨c2, l1, l2, d3⟩ := d2.days (f := f31) (cq := cq) (b := b) h0 hbo hN1.2 (show dy3 + M ≤ 20000 by omega)
        rw [← z9.2] at hR0 d3
        have hl := hH.slot hw hwc
        exact (hN.rem (c2 := c2) h0 hn hw hwc hH hG (hR0.ab z9.1) ⟨dy3 + M, hN3, d3.abv z9.1 hn⟩ (by omega)).fin h1 g2 g3 ⟨hn, hl.1, by have := hl.2.1; omega, g4⟩
      · exact absurd ⟨N, hN1, hN2, hN3⟩ np
    · rcases he with ⟨M, hM1, hM2, hM3, -⟩ | ⟨-, e1, e2, e3, e4, e5⟩
      · exact absurd ⟨M, hM1, hM2, hM3⟩ np
      · subst e1 e2 e3 e4 e5
        obtain ⟨w1, w2, w3, w4, w5, w6⟩ := hK
        obtain ⟨⟨y6, y7, y8, y9, y11, y12, y13, y15, y16, y17, y18, y19⟩, yk, ys, yp, yf, yd⟩ := hA
        subst w1 w2 w3 w4 w5 w6 y6 y7 y8 y9 y11 y12 y13 y15 y16 y17 y18 y19 yk ys yp yf yd
        exact ⟨sm, cq, b, p, h1, h2, h3, ⟨hn, hw, hwc, hed⟩, Or.inl ⟨hs, c, hN, h0⟩⟩
  · have cls : (wn2 < 10 ∧ wc2 ≤ 10) ∧ SYSc z6 ky wn2 wc2 mi2 mk2 := by
      rcases hc with ⟨N, hN1, hN2, hN3, y7, hH, hR⟩ | ⟨y7, np, hK, hA⟩
      · have hl := hH.slot hw hwc
        have k60 : ky = 60 := by
          rcases hR with ⟨ns, -⟩ | ⟨-, -, k⟩
          · exact absurd hs ns
          · exact k
        exact ⟨⟨hl.1, by have := hl.2.1; omega⟩, hSc.rem hw hwc hH k60 ⟨y6, by omega, hz⟩⟩
      · obtain ⟨w1, w2, w3, w4, w5, w6⟩ := hK
        subst w1 w2 w3 w5
        refine ⟨⟨hw, hwc⟩, ?_⟩
        rw [show ky = kp from hA.2.1, show z6 = i6 from hA.1.1]
        exact hSc
    exact ⟨sm, cq, b, p, h1, g2, g3, ⟨hn, cls.1.1, cls.1.2, g4⟩, Or.inr ⟨hs, cls.2, g5 hSr⟩⟩
theorem hr_un {fh : Nat → Int32} {ed i : Nat} : hr fh (ed - 1) i = hr fh ed (i + 1) := by
  unfold hr
  funext j
  rw [show ed - 1 - 1 - i = ed - 1 - (i + 1) by omega]
/-- undo of both sides -/
theorem SYx.und {sm : Prop} {cq b p : Nat → Nat}  {n sc : Nat} {fst fop fen fby fam : Nat → Int32} {i6 : Int32} {i7 : Int32} {i8 : Int32} {i9 : Int64} {i11 : Int64} {i12 : Int32} {i13 : Int32} {i15 : Int32} {i16 : Int32} {i17 : Int32} {i18 : Int32} {i19 : Int32} {kp : Nat} {fs : Nat → Int32} {fp : Nat → Int32} {ff : Nat → Int32} {fd : Nat → Int32} {wn wc : Nat} {mi : Nat → Nat → Int32} {ml : Nat → Nat → Int64} {mk : Nat → Nat} {mf : Nat → Nat → Nat → Int32} {f31 f33 r : Nat → Int32} {q : Int64} {ed : Nat} {fh : Nat → Int32} {fl : Nat → Int64} {z6 : Int32} {z7 : Int32} {z8 : Int32} {z9 : Int64} {z11 : Int64} {z12 : Int32} {z13 : Int32} {z15 : Int32} {z16 : Int32} {z17 : Int32} {z18 : Int32} {z19 : Int32} {ky : Nat} {zs : Nat → Int32} {zp : Nat → Int32} {zf : Nat → Int32} {zd : Nat → Int32} {wn2 wc2 ed2 : Nat} {zr : Nat → Int32} {zq : Int64} (h : SYx sm cq b p n sc fst fop fen fby fam i6 i7 i8 i9 i11 i12 i13 i15 i16 i17 i18 i19 kp fs fp ff fd wn wc mi ml mk mf f31 f33 r q ed fh fl) (hc : HuC wn wc mi ml mk mf i6 i7 i8 i9 i11 i12 i13 i15 i16 i17 i18 i19 kp fs fp ff fd z6 z7 z8 z9 z11 z12 z13 z15 z16 z17 z18 z19 ky zs zp zf zd wn2 wc2) (he : Hund ed fh fl r q ed2 zr zq) : SY n sc fst fop fen fby fam z6 z7 z8 z9 z11 z12 z13 z15 z16 z17 z18 z19 ky zs zp zf zd wn2 wc2 mi ml mk mf f31 f33 zr zq ed2 fh fl := by
  obtain ⟨h1, h2, h3, ⟨hn, hw, hwc, hed⟩, hB⟩ := h
  have ref : Pri n r zr ∧ BYR n b p zr ∧ (∀ i, i < ed2 → Pri n zr (hr fh ed2 i)) ∧ ed2 ≤ 10 ∧ (SYSr r ed fh → SYSr zr ed2 fh) := by
    rcases he with ⟨-, e1, e2, -⟩ | ⟨l0, e1, e2, -⟩
    · subst e1 e2
      exact ⟨Pri.rf n zr, h2, h3, hed, id⟩
    · have a0 : Ab (hr fh ed 0) zr := fun j hj _ => e2 j (by omega)
      have g : Pri n r zr := (h3 0 l0).tr (Pri.ab a0 hn)
      subst e1
      refine ⟨g, h2.pri g, fun i hi => ?_, by omega, fun s => ⟨(s.2 0 l0).abv a0, fun i hi => ?_⟩⟩
      · rw [hr_un]; exact g.sy.tr (h3 (i + 1) (by omega))
      · rw [hr_un]; exact s.2 (i + 1) (by omega)
  obtain ⟨g1, g2, g3, g4, g5⟩ := ref
  rcases hB with ⟨hs, c, hN, h0⟩ | ⟨hs, hSc, hSr⟩
  · have ew : ed = wc := hN.2.1
    rcases hc with ⟨w0, hc⟩ | ⟨w0, hc⟩
    · rcases he with ⟨-, e1, e2, e3⟩ | ⟨l0, -⟩
      · obtain ⟨w1, w2, y6, y7, y8, y9, y11, y12, y13, y15, y16, y17, y18, y19, yk, ys, yp, yf, yd⟩ := hc
        subst e1 e2 e3 w1 w2 y6 y7 y8 y9 y11 y12 y13 y15 y16 y17 y18 y19 yk ys yp yf yd
        exact ⟨sm, cq, b, p, h1, h2, h3, ⟨hn, hw, hwc, hed⟩, Or.inl ⟨hs, c, hN, h0⟩⟩
      · omega
    · rcases he with ⟨e0, -⟩ | ⟨l0, e1, e2, e3⟩
      · omega
      · obtain ⟨w1, w2, y6, y7, y8, y9, y11, y12, y13, y15, y16, y17, y18, y19, yk, ys, yp, yf, yd⟩ := hc
        obtain ⟨-, -, a3, a4, a5⟩ := hN
        have a0 : Ab (hr fh wc 0) zr := fun j hj _ => by rw [e2 j (by omega), ew]; rfl
        obtain ⟨b1, dy, d1, d2⟩ := a3 0 w0
        have s0 : (wn + 9 - 0) % 10 = wn2 := w1.symm
        have q0 : fl (wc - 1 - 0) = zq := by
          show fl (wc - 1) = zq
          rw [e3, ew]
        rw [s0, q0] at b1
        rw [q0] at d2
        have hR : RC0 n zr zq z6 z7 z8 z9 z11 z12 z13 z15 z16 z17 z18 z19 ky zs zp zf zd fam := by
          rw [y6, y7, y8, y9, y11, y12, y13, y15, y16, y17, y18, y19, yk]
          exact (RC0.cpv b1 ys yp yf yd).ab a0
        have hN2 : SYN (fun i => c (i + 1)) n fam z6 z7 z8 z9 z11 z12 z13 z15 z16 z17 z18 z19 ky zs zp zf zd wn2 wc2 mi ml mk mf zr zq ed2 fh fl := by
          refine ⟨⟨hR, dy, d1, d2.abv a0 hn⟩, by omega, fun i hi => ?_, fun i hi => a4 (i + 1) (by omega), fun i hi => a5 (i + 1) (by omega)⟩
          have z := a3 (i + 1) (by omega)
          rw [w2, hr_un, show wc - 1 - 1 - i = wc - 1 - (i + 1) by omega, show (wn2 + 9 - i) % 10 = (wn + 9 - (i + 1)) % 10 by omega]
          exact z
        have hw2 : wn2 < 10 := by omega
        exact hN2.fin h1 g2 g3 ⟨hn, hw2, by omega, g4⟩
  · have cls : (wn2 < 10 ∧ wc2 ≤ 10) ∧ SYSc z6 ky wn2 wc2 mi mk := by
      rcases hc with ⟨w0, w1, w2, y6, -, -, -, -, -, -, -, -, -, -, -, yk, -⟩ | ⟨w0, w1, w2, y6, -, -, -, -, -, -, -, -, -, -, -, yk, -⟩
      · rw [w1, w2, y6, yk]
        exact ⟨⟨hw, hwc⟩, hSc⟩
      · have hw2 : wn2 < 10 := by omega
        have z0 := hSc.2.2 0 w0
        rw [show (wn + 9 - 0) % 10 = wn2 from w1.symm] at z0
        refine ⟨⟨hw2, by omega⟩, by rw [yk]; exact z0.1, by rw [y6]; exact z0.2, fun i hi => ?_⟩
        have z := hSc.2.2 (i + 1) (by omega)
        rw [show (wn + 9 - (i + 1)) % 10 = (wn2 + 9 - i) % 10 by omega] at z
        exact z
    exact ⟨sm, cq, b, p, h1, g2, g3, ⟨hn, cls.1.1, cls.1.2, g4⟩, Or.inr ⟨hs, cls.2, g5 hSr⟩⟩
/-- a trial of the reference leaves its row -/
theorem SY.cpv {n sc : Nat} {fst fop fen fby fam : Nat → Int32} {i6 : Int32} {i7 : Int32} {i8 : Int32} {i9 : Int64} {i11 : Int64} {i12 : Int32} {i13 : Int32} {i15 : Int32} {i16 : Int32} {i17 : Int32} {i18 : Int32} {i19 : Int32} {kp : Nat} {fs : Nat → Int32} {fp : Nat → Int32} {ff : Nat → Int32} {fd : Nat → Int32} {wn wc : Nat} {mi : Nat → Nat → Int32} {ml : Nat → Nat → Int64} {mk : Nat → Nat} {mf : Nat → Nat → Nat → Int32} {f31 f33 r : Nat → Int32} {q : Int64} {ed : Nat} {fh : Nat → Int32} {fl : Nat → Int64} {zr : Nat → Int32} (h : SY n sc fst fop fen fby fam i6 i7 i8 i9 i11 i12 i13 i15 i16 i17 i18 i19 kp fs fp ff fd wn wc mi ml mk mf f31 f33 r q ed fh fl) (k : Cp 326 r zr) : SY n sc fst fop fen fby fam i6 i7 i8 i9 i11 i12 i13 i15 i16 i17 i18 i19 kp fs fp ff fd wn wc mi ml mk mf f31 f33 zr q ed fh fl := by
  obtain ⟨sm, cq, b, p, h1, h2, h3, h4, hB⟩ := h
  have a : Ab r zr := fun j hj _ => k j (by omega)
  have g : Pri n r zr := Pri.ab a h4.1
  refine ⟨sm, cq, b, p, h1, h2.pri g, fun i hi => g.sy.tr (h3 i hi), h4, ?_⟩
  rcases hB with ⟨hs, c, ⟨⟨b1, dy, d1, d2⟩, hN⟩, h0⟩ | ⟨hs, hSc, hSr⟩
  · exact Or.inl ⟨hs, c, ⟨⟨b1.ab a, dy, d1, d2.abv a h4.1⟩, hN⟩, h0⟩
  · exact Or.inr ⟨hs, hSc, hSr.1.abv a, hSr.2⟩
theorem SY.keep {n sc : Nat} {fst fop fen fby fam : Nat → Int32} {i6 : Int32} {i7 : Int32} {i8 : Int32} {i9 : Int64} {i11 : Int64} {i12 : Int32} {i13 : Int32} {i15 : Int32} {i16 : Int32} {i17 : Int32} {i18 : Int32} {i19 : Int32} {kp : Nat} {fs : Nat → Int32} {fp : Nat → Int32} {ff : Nat → Int32} {fd : Nat → Int32} {wn wc : Nat} {mi : Nat → Nat → Int32} {ml : Nat → Nat → Int64} {mk : Nat → Nat} {mf : Nat → Nat → Nat → Int32} {f31 f33 r : Nat → Int32} {q : Int64} {ed : Nat} {fh : Nat → Int32} {fl : Nat → Int64} {z6 : Int32} {z7 : Int32} {z8 : Int32} {z9 : Int64} {z11 : Int64} {z12 : Int32} {z13 : Int32} {z15 : Int32} {z16 : Int32} {z17 : Int32} {z18 : Int32} {z19 : Int32} {ky : Nat} {zs : Nat → Int32} {zp : Nat → Int32} {zf : Nat → Int32} {zd : Nat → Int32} (h : SY n sc fst fop fen fby fam i6 i7 i8 i9 i11 i12 i13 i15 i16 i17 i18 i19 kp fs fp ff fd wn wc mi ml mk mf f31 f33 r q ed fh fl) (k : KeepA i6 i7 i8 i9 i11 i12 i13 i15 i16 i17 i18 i19 kp fs fp ff fd z6 z7 z8 z9 z11 z12 z13 z15 z16 z17 z18 z19 ky zs zp zf zd) : SY n sc fst fop fen fby fam z6 z7 z8 z9 z11 z12 z13 z15 z16 z17 z18 z19 ky zs zp zf zd wn wc mi ml mk mf f31 f33 r q ed fh fl := by
  obtain ⟨⟨y6, y7, y8, y9, y11, y12, y13, y15, y16, y17, y18, y19⟩, yk, ys, yp, yf, yd⟩ := k
  subst y6 y7 y8 y9 y11 y12 y13 y15 y16 y17 y18 y19 yk ys yp yf yd
  exact h
/-- both sides have loaded a text -/
theorem SY.fresh {K S : Nat → Int32} {V : Nat → Int64} {mll pll : List Int64} {fde fpi : Nat → Int32} {pr pb pg : Int32} {nd c2 : Nat} {n sc : Nat} {fst fop fen fby fam : Nat → Int32} {i6 : Int32} {i7 : Int32} {i8 : Int32} {i9 : Int64} {i11 : Int64} {i12 : Int32} {i13 : Int32} {i15 : Int32} {i16 : Int32} {i17 : Int32} {i18 : Int32} {i19 : Int32} {kp : Nat} {fs : Nat → Int32} {fp : Nat → Int32} {ff : Nat → Int32} {fd : Nat → Int32} {wn : Nat} {mi : Nat → Nat → Int32} {ml : Nat → Nat → Int64} {mk : Nat → Nat} {mf : Nat → Nat → Nat → Int32} {f31 f33 r : Nat → Int32} {fh : Nat → Int32} {fl : Nat → Int64}
    (hT : TP K S V 0 0 [] [] (.inr (mll, pll))) (h1 : DF9 K V mll pll fde fam fpi fen fst fop pr pb pg nd n sc) (h2 : DW9 K V mll pll r f31 f33 c2) (h3 : OpnA nd fde pr pb pg i6 i7 i8 i9 i11 i12 i13 i15 i16 i17 i18 i19 kp fs fp ff fd) (hb : BYS n fby fpi) (hcn : n ≤ 10) (hnd : nd ≤ 6) (hsc : sc ≤ 350) (hw : wn < 10) : SY n sc fst fop fen fby fam i6 i7 i8 i9 i11 i12 i13 i15 i16 i17 i18 i19 kp fs fp ff fd wn 0 mi ml mk mf f31 f33 r 0 0 fh fl := by
  obtain ⟨-, cq, b, p, hR, hCE, hCQ, hEn, hEl, hqs, hBY, hBo, hDI⟩ := frs9 hT h1 h2 h3 hb hcn hnd hsc
  exact ⟨False, cq, b, p, ⟨hCE, hCQ, hEn, hEl, hqs, hBo⟩, hBY, fun i hi => absurd hi (Nat.not_lt_zero i), ⟨hcn, hw, by omega, by omega⟩, Or.inl ⟨id, fun _ => 0, ⟨⟨hR, 0, by omega, hDI⟩, rfl, fun i hi => absurd hi (Nat.not_lt_zero i), fun i hi => absurd hi (Nat.not_lt_zero i), fun i hi => absurd hi (Nat.not_lt_zero i)⟩, Nat.zero_le 100⟩⟩
theorem no9 {P : Nat → Prop} (i : Nat) (h : i < 0) : P i := absurd h (Nat.not_lt_zero i)
/-- at the beginning -/
theorem SY.zero {fst fop fen fby fam : Nat → Int32} {fs fp ff fd : Nat → Int32} {wn : Nat} {mi : Nat → Nat → Int32} {ml : Nat → Nat → Int64} {mk : Nat → Nat} {mf : Nat → Nat → Nat → Int32} {f31 f33 r : Nat → Int32} {fh : Nat → Int32} {fl : Nat → Int64} (h : Row0 r) (hw : wn < 10) : SY 0 0 fst fop fen fby fam 0 0 0 0 0 0 0 0 365 0 0 0 0 fs fp ff fd wn 0 mi ml mk mf f31 f33 r 0 0 fh fl := by
  have z0 : (0 : Int32).toInt = 0 := by decide
  have q0 : (0 : Int64).toInt = 0 := by decide
  have e : ∀ j, j < 86 → j ≠ 1 → tI r j = 0 := fun j h1 h2 => (tI_v (h.2 j h1 h2)).trans z0
  have e1 : tI r 1 = 365 := (tI_v h.1).trans (by decide)
  have hW : WFa 0 r 0 := by
    unfold WFa WI
    rw [e 0 (by omega) (by omega), e1, e 4 (by omega) (by omega), e 5 (by omega) (by omega), e 6 (by omega) (by omega), e 7 (by omega) (by omega), e 8 (by omega) (by omega), q0]
    exact ⟨⟨by omega, by omega⟩, ⟨by omega, by omega⟩, ⟨by omega, by omega⟩, ⟨by omega, by omega, by omega⟩, ⟨by omega, by omega, by omega⟩, ⟨by omega, by omega⟩, Int.le_refl 0, no9⟩
  have hR : RC0 0 r 0 0 0 0 0 0 0 0 0 365 0 0 0 0 fs fp ff fd fam := ⟨hW, ⟨by omega, by omega⟩, ⟨h.2 4 (by omega) (by omega), h.2 5 (by omega) (by omega), h.2 6 (by omega) (by omega), by rw [h.2 7 (by omega) (by omega)]; decide, rfl, (h.2 10 (by omega) (by omega)).trans (by decide), h.2 0 (by omega) (by omega), h.1, h.2 3 (by omega) (by omega), h.2 12 (by omega) (by omega), h.2 15 (by omega) (by omega)⟩, no9⟩
  have hD : DI 0 0 0 r 0 := by
    refine ⟨hR.e, h.2 4 (by omega) (by omega), ?_, ?_, 0, h.2 15 (by omega) (by omega), by omega, by omega⟩
    · rw [q0, e 8 (by omega) (by omega)]; omega
    · rw [e 8 (by omega) (by omega)]; exact Int.le_refl 0
  exact ⟨False, fun _ => 0, id, id, ⟨no9, ⟨rfl, no9⟩, no9, no9, Nat.zero_le _, no9⟩, ⟨no9, no9, fun j k _ hk => absurd hk (Nat.not_lt_zero k)⟩, no9, ⟨by omega, hw, by omega, by omega⟩, Or.inl ⟨id, fun _ => 0, ⟨⟨hR, 0, by omega, hD⟩, rfl, no9, no9, no9⟩, Nat.zero_le 100⟩⟩
