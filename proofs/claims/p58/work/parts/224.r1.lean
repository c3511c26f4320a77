theorem cpy_at {α : Type} (f g : Nat → α) (n : Nat) : ∀ j, j < n → va_cpy f g 0 0 n j = f j := fun j hj => by
  unfold va_cpy
  rw [if_pos (by omega)]
  congr 1
  omega
def avC (p : Int32) (f : Nat → Int32) : Nat → Int32
  | 0 => p
  | n + 1 => avC p f n - f n
def Avc (p : Int32) (f : Nat → Int32) (i : Nat) (v : Int32) : Prop := v = avC p f i
theorem Avc.zero (p : Int32) (f : Nat → Int32) : Avc p f 0 p := rfl
theorem Avc.step {p : Int32} {f : Nat → Int32} {i : Nat} {v : Int32} (h : Avc p f i v) : Avc p f (i + 1) (v - f i) := by
  unfold Avc at h ⊢
  rw [h]
  rfl
def rmC (fs fp fam : Nat → Int32) (m : Nat) : Int32 := if 3 ≤ fs m then 0 else fam m - fp m
theorem rmC_0 {fs fp fam : Nat → Int32} {m : Nat} (h : 3 ≤ fs m) : rmC fs fp fam m = 0 := if_pos h
theorem rmC_1 {fs fp fam : Nat → Int32} {m : Nat} (h : ¬ 3 ≤ fs m) : rmC fs fp fam m = fam m - fp m := if_neg h
def doC (f : Nat → Int32) : Nat → Int32
  | 0 => 0
  | n + 1 => doC f n ||| (if f n = 3 ∨ f n = 4 then (1 : Int32) <<< (nI n &&& 31) else 0)
def Doc (f : Nat → Int32) (i : Nat) (v : Int32) : Prop := v = doC f i
theorem Doc.zero (f : Nat → Int32) : Doc f 0 0 := rfl
theorem or0 (x : Int32) : x ||| 0 = x := Int32.toBitVec_inj.mp (by rw [Int32.toBitVec_or]; show x.toBitVec ||| 0#32 = x.toBitVec; exact BitVec.or_zero)
theorem Doc.yes {f : Nat → Int32} {i : Nat} {v : Int32} (h : Doc f i v) (c : f i = 3 ∨ f i = 4) : Doc f (i + 1) (v ||| (1 : Int32) <<< (nI i &&& 31)) := by
  unfold Doc at h ⊢
  rw [doC, if_pos c, h]
theorem Doc.no {f : Nat → Int32} {i : Nat} {v : Int32} (h : Doc f i v) (c : ¬ (f i = 3 ∨ f i = 4)) : Doc f (i + 1) v := by
  unfold Doc at h ⊢
  rw [doC, if_neg c, or0, h]
abbrev btC (a b : Int32) : Prop := (a.toUInt32 >>> (b.toUInt32 &&& Int32.toUInt32 31)).toInt32 &&& 1 = 1
def wAn (a b : Int32) : Int32 := (a <<< (1 &&& 31)) ||| (if b = 0 then 0 else 1)
/-- a step and its operand as a code -/
def EncS (s o c : Int32) : Prop := (s = 16 ∧ c = -3) ∨ (s = 15 ∧ c = -1) ∨ (s = 14 ∧ c = -2) ∨ (s = 17 ∧ ∃ v, v < 100000 ∧ o = nI v ∧ c = nI v) ∨ (s = 18 ∧ ∃ v, v < 31 ∧ o = nI v ∧ c = nI (100000 + v)) ∨ (s = 19 ∧ ∃ v, v < 31 ∧ o = nI v ∧ c = nI (200000 + v)) ∨ (s = 20 ∧ ∃ v, v < 100000 ∧ o = nI v ∧ c = nI (300000 + v)) ∨ (s = 21 ∧ c = nI 400000) ∨ (s = 22 ∧ c = nI 500000)
def CE (n : Nat) (f s o : Nat → Int32) : Prop := ∀ k, k < n → EncS (s k) (o k) (f k)
def Ens (n : Nat) (q : Nat → Nat) (f : Nat → Int32) : Prop := ∀ m, m < n → f m = nI (q (m + 1))
theorem Ens.at {n m : Nat} {q : Nat → Nat} {f : Nat → Int32} (h : Ens n q f) (hm : m < n) : f m = nI (q (m + 1)) := h m hm
theorem CQ.mono {n : Nat} {f : Nat → Int32} {q : Nat → Nat} (h : CQ n f q) : ∀ {m : Nat}, m ≤ n → q m ≤ q n := by
  intro m hm
  have g : ∀ k, m + k ≤ n → q m ≤ q (m + k) := by
    intro k
    induction k with
    | zero => intro _; exact Nat.le_refl _
    | succ k ih =>
      intro hk
      exact Nat.le_trans (ih (by omega)) (h.2 (m + k) (by omega)).1
  have := g (n - m) (by omega)
  rw [show m + (n - m) = n by omega] at this
  exact this
abbrev fcG (p ap a b d x y : Int32) : Prop := (a = 0 ∧ b ≤ d) ∨ (a = 1 ∧ btQ x b) ∨ (a = 2 ∧ btQ y b) ∨ (a = 3 ∧ b ≤ p) ∨ (a = 4 ∧ ap = 1) ∨ (a ≠ 0 ∧ a ≠ 1 ∧ a ≠ 2 ∧ a ≠ 3 ∧ a ≠ 4)
def hdG (p ap d x y c : Int32) : Bool := decide (fcG p ap (c / 100000) (c - c / 100000 * 100000) d x y)
theorem hdFG (r : Nat → Int32) (m : Nat) (d x y : Int32) : hdF r m d x y = hdG (r 10) (r (16 + 7 * m + 5)) d x y := rfl
/-- the values that wait, as a number's bits -/
def bn : List Bool → Nat
  | [] => 0
  | b :: t => 2 * bn t + b.toNat
theorem bn_lt : ∀ st : List Bool, bn st < 2 ^ st.length
  | [] => by decide
  | b :: t => by
    have h := bn_lt t
    show 2 * bn t + b.toNat < 2 ^ (t.length + 1)
    rw [Nat.pow_succ]
    have : b.toNat ≤ 1 := Bool.toNat_le b
    omega
theorem bn_31 {st : List Bool} (h : st.length ≤ 31) : bn st < 2147483648 := Nat.lt_of_lt_of_le (bn_lt st) (Nat.le_trans (Nat.pow_le_pow_right (by decide) h) (by decide))
theorem nI_bt (n i : Nat) (hi : i < 32) : (nI n).toBitVec.getLsbD i = n.testBit i := by
  show (BitVec.ofNat 32 n).getLsbD i = n.testBit i
  rw [BitVec.getLsbD_ofNat]
  simp [hi]
theorem nI_x1 (x : Nat) (b : Bool) : nI (2 * x + b.toNat) ^^^ 1 = nI (2 * x + (!b).toNat) := by
  apply Int32.toBitVec_inj.mp
  apply BitVec.eq_of_getLsbD_eq
  intro i hi
  rw [Int32.toBitVec_xor, BitVec.getLsbD_xor, nI_bt _ _ hi, nI_bt _ _ hi, show (1 : Int32) = nI 1 from rfl, nI_bt _ _ hi]
  cases i with
  | zero =>
    rw [Nat.testBit_zero, Nat.testBit_zero, Nat.testBit_zero]
    cases b
    · rw [show (2 * x + false.toNat) % 2 = 0 by show (2 * x + 0) % 2 = 0; omega, show (2 * x + (!false).toNat) % 2 = 1 by show (2 * x + 1) % 2 = 1; omega]; rfl
    · rw [show (2 * x + true.toNat) % 2 = 1 by show (2 * x + 1) % 2 = 1; omega, show (2 * x + (!true).toNat) % 2 = 0 by show (2 * x + 0) % 2 = 0; omega]; rfl
  | succ i =>
    rw [Nat.testBit_succ, Nat.testBit_succ, Nat.testBit_succ, show (2 * x + b.toNat) / 2 = x by have := Bool.toNat_le b; omega, show (2 * x + (!b).toNat) / 2 = x by have := Bool.toNat_le (!b); omega, show 1 / 2 = 0 by decide, Nat.zero_testBit, Bool.xor_false]
theorem nI_o1 (x : Nat) (d c : Bool) : nI (2 * x + d.toNat) ||| nI c.toNat = nI (2 * x + (d || c).toNat) := by
  apply Int32.toBitVec_inj.mp
  apply BitVec.eq_of_getLsbD_eq
  intro i hi
  rw [Int32.toBitVec_or, BitVec.getLsbD_or, nI_bt _ _ hi, nI_bt _ _ hi, nI_bt _ _ hi]
  cases i with
  | zero =>
    rw [Nat.testBit_zero, Nat.testBit_zero, Nat.testBit_zero]
    cases d <;> cases c <;> simp <;> omega
  | succ i =>
    rw [Nat.testBit_succ, Nat.testBit_succ, Nat.testBit_succ, show (2 * x + d.toNat) / 2 = x by have := Bool.toNat_le d; omega, show (2 * x + (d || c).toNat) / 2 = x by have := Bool.toNat_le (d || c); omega, show c.toNat / 2 = 0 by have := Bool.toNat_le c; omega, Nat.zero_testBit, Bool.or_false]
theorem m2_bt : ∀ i, i < 32 → (-2 : Int32).toBitVec.getLsbD i = decide (1 ≤ i) := by decide +kernel
theorem m1_bt : ∀ i, i < 32 → (-1 : Int32).toBitVec.getLsbD i = true := by decide +kernel
theorem nI_m1 (n : Nat) : nI n &&& -1 = nI n := by
  apply Int32.toBitVec_inj.mp
  apply BitVec.eq_of_getLsbD_eq
  intro i hi
  rw [Int32.toBitVec_and, BitVec.getLsbD_and, m1_bt i hi, Bool.and_true]
theorem nI_m2 (x : Nat) (d : Bool) : nI (2 * x + d.toNat) &&& -2 = nI (2 * x + 0) := by
  apply Int32.toBitVec_inj.mp
  apply BitVec.eq_of_getLsbD_eq
  intro i hi
  rw [Int32.toBitVec_and, BitVec.getLsbD_and, m2_bt i hi, nI_bt _ _ hi, nI_bt _ _ hi]
  cases i with
  | zero =>
    rw [Nat.testBit_zero, Nat.testBit_zero, show (2 * x + 0) % 2 = 0 by omega]
    cases d <;> simp
  | succ i =>
    rw [Nat.testBit_succ, Nat.testBit_succ, show (2 * x + d.toNat) / 2 = x by have := Bool.toNat_le d; omega, show (2 * x + 0) / 2 = x by omega, show decide (1 ≤ i + 1) = true from decide_eq_true (by omega), Bool.and_true]
theorem nI_a1 (x : Nat) (d c : Bool) : nI (2 * x + d.toNat) &&& (nI c.toNat ||| -2) = nI (2 * x + (d && c).toNat) := by
  cases c
  · rw [show nI false.toNat ||| -2 = (-2 : Int32) by decide, nI_m2, Bool.and_false]; rfl
  · rw [show nI true.toNat ||| -2 = (-1 : Int32) by decide, nI_m1, Bool.and_true]
/-- the class's number of answers, behind the codes from a to i -/
def HC9 (F : Int32 → Bool) (f : Nat → Int32) (a b i : Nat) (w : Int32) : Prop := ∃ st : List Bool, w = nI (bn st) ∧ st.length ≤ 31 ∧ evf F f (b - i) i st = evf F f (b - a) a [] ∧ dpf f (b - i) i st.length = some 1
theorem HC9.zero {F : Int32 → Bool} {f : Nat → Int32} {a b : Nat} (h : dpf f (b - a) a 0 = some 1) : HC9 F f a b a 0 := ⟨[], rfl, by decide, rfl, h⟩
theorem En_k16 {s o c : Int32} (e : EncS s o c) (h : s = 16) : c = -3 := by
  subst h
  rcases e with q | q | q | q | q | q | q | q | q
  · exact q.2
  all_goals exact absurd q.1 (by decide)
theorem En_k15 {s o c : Int32} (e : EncS s o c) (h : s = 15) : c = -1 := by
  subst h
  rcases e with q | q | q | q | q | q | q | q | q
  · exact absurd q.1 (by decide)
  · exact q.2
  all_goals exact absurd q.1 (by decide)
theorem En_k14 {s o c : Int32} (e : EncS s o c) (h : s = 14) : c = -2 := by
  subst h
  rcases e with q | q | q | q | q | q | q | q | q
  · exact absurd q.1 (by decide)
  · exact absurd q.1 (by decide)
  · exact q.2
  all_goals exact absurd q.1 (by decide)
theorem HC9.not {F : Int32 → Bool} {f : Nat → Int32} {a b i : Nat} {w s o : Int32} (h : HC9 F f a b i w) (hi : i < b) (e : EncS s o (f i)) (hs : s = 16) : HC9 F f a b (i + 1) (w ^^^ 1) := by
  have e := En_k16 e hs
  obtain ⟨st, h1, h2, h3, h4⟩ := h
  rcases dpf_at hi h4 with q | q | q
  · match st, h1, h2, h3, q with
    | [], h1, h2, h3, q => exact absurd q.2.1 (by decide)
    | c :: t, h1, h2, h3, q =>
      refine ⟨(!c) :: t, ?_, h2, ?_, q.2.2⟩
      · rw [h1]; exact nI_x1 _ _
      · rw [← h3, evf_at hi]
        unfold stp
        rw [if_pos e]
  · exact absurd e q.1
  · exact absurd e q.1
theorem HC9.bin {F : Int32 → Bool} {f : Nat → Int32} {a b i : Nat} {w w2 : Int32} (h : HC9 F f a b i w) (hi : i < b) (e : ¬ f i = -3) (e2 : f i < 0) (hw : ∀ (x : Nat) (d c : Bool), 4 * x + 2 * d.toNat + c.toNat < 2147483648 → w = nI (2 * (2 * x + d.toNat) + c.toNat) → w2 = nI (2 * x + (if f i = -1 then d && c else d || c).toNat)) : HC9 F f a b (i + 1) w2 := by
  obtain ⟨st, h1, h2, h3, h4⟩ := h
  rcases dpf_at hi h4 with q | q | q
  · exact absurd q.1 e
  · match st, h1, h2, h3, q with
    | [], h1, h2, h3, q => exact absurd q.2.2.1 (by decide)
    | [_], h1, h2, h3, q => exact absurd q.2.2.1 (by simp)
    | c :: d :: t, h1, h2, h3, q =>
      refine ⟨(if f i = -1 then d && c else d || c) :: t, ?_, ?_, ?_, q.2.2.2⟩
      · refine hw (bn t) d c ?_ h1
        have := bn_31 h2
        have e9 : bn (c :: d :: t) = 2 * (2 * bn t + d.toNat) + c.toNat := rfl
        omega
      · have : t.length + 1 + 1 ≤ 31 := h2
        show t.length + 1 ≤ 31
        omega
      · rw [← h3, evf_at hi]
        unfold stp
        rw [if_neg e, if_pos e2]
  · exact absurd e2 q.2.1
theorem w_sr {x : Nat} {d c : Bool} (h : 4 * x + 2 * d.toNat + c.toNat < 2147483648) : ((nI (2 * (2 * x + d.toNat) + c.toNat)).toUInt32 >>> ((1 : Int32).toUInt32 &&& Int32.toUInt32 31)).toInt32 = nI (2 * x + d.toNat) := by
  rw [pk_ushrN (by omega) 1 1 (by decide)]
  congr 1
  have := Bool.toNat_le c
  omega
theorem w_an {x : Nat} {d c : Bool} (h : 4 * x + 2 * d.toNat + c.toNat < 2147483648) : nI (2 * (2 * x + d.toNat) + c.toNat) &&& 1 = nI c.toNat := by
  rw [pk_andN (by omega) 1 (by decide)]
  congr 1
  have := Bool.toNat_le c
  omega
theorem HC9.and {F : Int32 → Bool} {f : Nat → Int32} {a b i : Nat} {w s o : Int32} (h : HC9 F f a b i w) (hi : i < b) (e : EncS s o (f i)) (hs : s = 15) : HC9 F f a b (i + 1) ((w.toUInt32 >>> ((1 : Int32).toUInt32 &&& Int32.toUInt32 31)).toInt32 &&& ((w &&& 1) ||| -2)) := by
  have e := En_k15 e hs
  refine h.bin hi (by rw [e]; decide) (by rw [e]; decide) (fun x d c hb hw => ?_)
  rw [hw, w_sr hb, w_an hb, nI_a1, if_pos e]
theorem HC9.or {F : Int32 → Bool} {f : Nat → Int32} {a b i : Nat} {w s o : Int32} (h : HC9 F f a b i w) (hi : i < b) (e : EncS s o (f i)) (hs : s = 14) : HC9 F f a b (i + 1) ((w.toUInt32 >>> ((1 : Int32).toUInt32 &&& Int32.toUInt32 31)).toInt32 ||| (w &&& 1)) := by
  have e := En_k14 e hs
  refine h.bin hi (by rw [e]; decide) (by rw [e]; decide) (fun x d c hb hw => ?_)
  rw [hw, w_sr hb, w_an hb, nI_o1, if_neg (by rw [e]; decide)]
theorem HC9.psh {F : Int32 → Bool} {f : Nat → Int32} {a b i : Nat} {w v : Int32} (h : HC9 F f a b i w) (hi : i < b) (e : 0 ≤ f i) (hv : (v = 1 ∧ F (f i) = true) ∨ (v = 0 ∧ ¬ F (f i) = true)) : HC9 F f a b (i + 1) (wAn w v) := by
  have n2 : ¬ f i < 0 := Int32.not_lt.mpr e
  obtain ⟨st, h1, h2, h3, h4⟩ := h
  rcases dpf_at hi h4 with q | q | q
  · rw [q.1] at e; exact absurd e (by decide)
  · exact absurd q.2.1 n2
  · have hb : (if v = 0 then (0 : Int32) else 1) = nI (F (f i)).toNat := by
      rcases hv with ⟨a1, a2⟩ | ⟨a1, a2⟩
      · rw [a1, a2]; decide
      · rw [a1, Bool.eq_false_iff.mpr a2]; decide
    refine ⟨F (f i) :: st, ?_, q.2.2.1, ?_, q.2.2.2⟩
    · unfold wAn
      have hlt := bn_31 h2
      rw [hb, h1, show ((1 : Int32) &&& 31) = 1 by decide, pk_shlN 1 1 (by decide) (by omega), show bn st * 2 ^ 1 = 2 * bn st + false.toNat by show bn st * 2 = 2 * bn st + 0; omega, nI_o1, Bool.false_or]
      rfl
    · rw [← h3, evf_at hi]
      unfold stp
      rw [if_neg q.1, if_neg n2]
theorem HC9.fin {F : Int32 → Bool} {f : Nat → Int32} {a b : Nat} {w : Int32} (h : HC9 F f a b b w) : (w &&& 1 = 1) ↔ (evf F f (b - a) a []).headD false = true := by
  obtain ⟨st, h1, h2, h3, h4⟩ := h
  rw [Nat.sub_self] at h3 h4
  have e : st.length = 1 := Option.some.inj h4
  rw [← h3]
  match st, h1, e with
  | [c], h1, e =>
    rw [h1]
    show nI (bn [c]) &&& 1 = 1 ↔ c = true
    cases c <;> decide
def EnX (v k : Nat) : Prop := nI (100000 * k + v) / 100000 = nI k ∧ nI (100000 * k + v) - nI (100000 * k + v) / 100000 * 100000 = nI v ∧ 0 ≤ nI (100000 * k + v)
theorem enx {v k : Nat} (hv : v < 100000) (hk : k < 6) : EnX v k := by
  have h1 : nI (100000 * k + v) / 100000 = nI k := by
    rw [show (100000 : Int32) = nI 100000 from rfl, nI_div (by omega) (by omega) (by omega)]
    congr 1
    omega
  refine ⟨h1, ?_, nI_pos' (by omega)⟩
  rw [show (100000 : Int32) = nI 100000 from rfl, nI_rem (by omega) (by omega) (by omega)]
  congr 1
  omega
theorem En_kind {s o c : Int32} (e : EncS s o c) (h6 : ¬ s = 14) (h5 : ¬ s = 15) (h4 : ¬ s = 16) : ∃ v k, v < 100000 ∧ k < 6 ∧ c = nI (100000 * k + v) ∧ ((s = 17 ∧ k = 0 ∧ o = nI v) ∨ (s = 18 ∧ k = 1 ∧ v < 31 ∧ o = nI v) ∨ (s = 19 ∧ k = 2 ∧ v < 31 ∧ o = nI v) ∨ (s = 20 ∧ k = 3 ∧ o = nI v) ∨ (s = 21 ∧ k = 4) ∨ (s = 22 ∧ k = 5)) := by
  rcases e with q | q | q | ⟨q, v, hv, ho, hc⟩ | ⟨q, v, hv, ho, hc⟩ | ⟨q, v, hv, ho, hc⟩ | ⟨q, v, hv, ho, hc⟩ | ⟨q, hc⟩ | ⟨q, hc⟩
  · exact absurd q.1 h4
  · exact absurd q.1 h5
  · exact absurd q.1 h6
  · exact ⟨v, 0, hv, by omega, by rw [hc]; congr 1; omega, Or.inl ⟨q, rfl, ho⟩⟩
  · exact ⟨v, 1, by omega, by omega, by rw [hc], Or.inr (Or.inl ⟨q, rfl, hv, ho⟩)⟩
  · exact ⟨v, 2, by omega, by omega, by rw [hc], Or.inr (Or.inr (Or.inl ⟨q, rfl, hv, ho⟩))⟩
  · exact ⟨v, 3, hv, by omega, by rw [hc], Or.inr (Or.inr (Or.inr (Or.inl ⟨q, rfl, ho⟩)))⟩
  · exact ⟨0, 4, by omega, by omega, by rw [hc], Or.inr (Or.inr (Or.inr (Or.inr (Or.inl ⟨q, rfl⟩))))⟩
  · exact ⟨0, 5, by omega, by omega, by rw [hc], Or.inr (Or.inr (Or.inr (Or.inr (Or.inr ⟨q, rfl⟩))))⟩
theorem n17 {s : Int32} {k : Int32} (h : s = k) (h1 : k ≠ 14) (h2 : k ≠ 15) (h3 : k ≠ 16) : ¬ s = 14 ∧ ¬ s = 15 ∧ ¬ s = 16 := ⟨fun q => h1 (h.symm.trans q), fun q => h2 (h.symm.trans q), fun q => h3 (h.symm.trans q)⟩
theorem En_pos {s o c : Int32} (e : EncS s o c) {k : Int32} (h : s = k) (hk : k ≠ 14 ∧ k ≠ 15 ∧ k ≠ 16 := by decide) : 0 ≤ c := by
  obtain ⟨a, b, d⟩ := n17 h hk.1 hk.2.1 hk.2.2
  obtain ⟨v, k, hv, hk, hc, -⟩ := En_kind e a b d
  rw [hc]
  exact (enx hv hk).2.2
theorem En_alw {s o c : Int32} (h6 : ¬ s = 14) (h5 : ¬ s = 15) (h4 : ¬ s = 16) (e : EncS s o c) : 0 ≤ c := by
  obtain ⟨v, k, hv, hk, hc, -⟩ := En_kind e h6 h5 h4
  rw [hc]
  exact (enx hv hk).2.2
theorem bt_uq {x : Int32} {v : Nat} (hv : v < 31) : btQ x (nI v) ↔ btC x (nI v) := by
  have h : (x >>> (nI v &&& 31)) &&& 1 = (x.toUInt32 >>> ((nI v).toUInt32 &&& Int32.toUInt32 31)).toInt32 &&& 1 := by
    apply Int32.toBitVec_inj.mp
    apply BitVec.eq_of_getLsbD_eq
    intro i hi
    rw [Int32.toBitVec_and, Int32.toBitVec_and, BitVec.getLsbD_and, BitVec.getLsbD_and]
    cases i with
    | zero =>
      congr 1
      have h1 := b_sshr v (by omega) x (i := 0) (by omega)
      have h2 := b_ushr v (by omega) x 0
      unfold bt at h1 h2
      rw [h1, h2, if_pos (by omega)]
    | succ i =>
      rw [show (1 : Int32) = nI 1 from rfl, nI_bt _ _ hi, Nat.testBit_succ, show 1 / 2 = 0 by decide, Nat.zero_testBit, Bool.and_false, Bool.and_false]
  unfold btQ btC
  rw [h]
theorem hdG_at {p ap d x y : Int32} {v k : Nat} (hv : v < 100000) (hk : k < 6) : hdG p ap d x y (nI (100000 * k + v)) = true ↔ fcG p ap (nI k) (nI v) d x y := by
  unfold hdG
  rw [(enx hv hk).2.1, (enx hv hk).1]
  exact decide_eq_true_iff
theorem fcg_0 {p ap a b d x y : Int32} (h : a = 0) : fcG p ap a b d x y ↔ b ≤ d := by
  subst h
  refine ⟨fun q => ?_, fun q => Or.inl ⟨rfl, q⟩⟩
  rcases q with q | q | q | q | q | q
  · exact q.2
  · exact absurd q.1 (by decide)
  · exact absurd q.1 (by decide)
  · exact absurd q.1 (by decide)
  · exact absurd q.1 (by decide)
  · exact absurd rfl q.1
theorem fcg_1 {p ap a b d x y : Int32} (h : a = 1) : fcG p ap a b d x y ↔ btQ x b := by
  subst h
  refine ⟨fun q => ?_, fun q => Or.inr (Or.inl ⟨rfl, q⟩)⟩
  rcases q with q | q | q | q | q | q
  · exact absurd q.1 (by decide)
  · exact q.2
  · exact absurd q.1 (by decide)
  · exact absurd q.1 (by decide)
  · exact absurd q.1 (by decide)
  · exact absurd rfl q.2.1
theorem fcg_2 {p ap a b d x y : Int32} (h : a = 2) : fcG p ap a b d x y ↔ btQ y b := by
  subst h
  refine ⟨fun q => ?_, fun q => Or.inr (Or.inr (Or.inl ⟨rfl, q⟩))⟩
  rcases q with q | q | q | q | q | q
  · exact absurd q.1 (by decide)
  · exact absurd q.1 (by decide)
  · exact q.2
  · exact absurd q.1 (by decide)
  · exact absurd q.1 (by decide)
  · exact absurd rfl q.2.2.1
theorem fcg_3 {p ap a b d x y : Int32} (h : a = 3) : fcG p ap a b d x y ↔ b ≤ p := by
  subst h
  refine ⟨fun q => ?_, fun q => Or.inr (Or.inr (Or.inr (Or.inl ⟨rfl, q⟩)))⟩
  rcases q with q | q | q | q | q | q
  · exact absurd q.1 (by decide)
  · exact absurd q.1 (by decide)
  · exact absurd q.1 (by decide)
  · exact q.2
  · exact absurd q.1 (by decide)
  · exact absurd rfl q.2.2.2.1
theorem fcg_4 {p ap a b d x y : Int32} (h : a = 4) : fcG p ap a b d x y ↔ ap = 1 := by
  subst h
  refine ⟨fun q => ?_, fun q => Or.inr (Or.inr (Or.inr (Or.inr (Or.inl ⟨rfl, q⟩))))⟩
  rcases q with q | q | q | q | q | q
  · exact absurd q.1 (by decide)
  · exact absurd q.1 (by decide)
  · exact absurd q.1 (by decide)
  · exact absurd q.1 (by decide)
  · exact q.2
  · exact absurd rfl q.2.2.2.2
theorem fcg_5 {p ap a b d x y : Int32} (h0 : ¬ a = 0) (h1 : ¬ a = 1) (h2 : ¬ a = 2) (h3 : ¬ a = 3) (h4 : ¬ a = 4) : fcG p ap a b d x y := Or.inr (Or.inr (Or.inr (Or.inr (Or.inr ⟨h0, h1, h2, h3, h4⟩))))
theorem En_17 {p ap d x y s o c : Int32} (e : EncS s o c) (h : s = 17) : hdG p ap d x y c = true ↔ o ≤ d := by
  obtain ⟨a, b, z⟩ := n17 h (by decide) (by decide) (by decide)
  obtain ⟨v, k, hv, hk, hc, q⟩ := En_kind e a b z
  subst h
  rcases q with q | q | q | q | q | q
  · obtain ⟨-, e1, e2⟩ := q
    subst e1 e2
    rw [hc, hdG_at hv hk]
    exact fcg_0 rfl
  · exact absurd q.1 (by decide)
  · exact absurd q.1 (by decide)
  · exact absurd q.1 (by decide)
  · exact absurd q.1 (by decide)
  · exact absurd q.1 (by decide)
theorem En_18 {p ap d x y s o c : Int32} (e : EncS s o c) (h : s = 18) : hdG p ap d x y c = true ↔ btC x o := by
  obtain ⟨a, b, z⟩ := n17 h (by decide) (by decide) (by decide)
  obtain ⟨v, k, hv, hk, hc, q⟩ := En_kind e a b z
  subst h
  rcases q with q | q | q | q | q | q
  · exact absurd q.1 (by decide)
  · obtain ⟨-, e1, hv3, e2⟩ := q
    subst e1 e2
    rw [hc, hdG_at hv hk, ← bt_uq hv3]
    exact fcg_1 rfl
  · exact absurd q.1 (by decide)
  · exact absurd q.1 (by decide)
  · exact absurd q.1 (by decide)
  · exact absurd q.1 (by decide)
theorem En_19 {p ap d x y s o c : Int32} (e : EncS s o c) (h : s = 19) : hdG p ap d x y c = true ↔ btC y o := by
  obtain ⟨a, b, z⟩ := n17 h (by decide) (by decide) (by decide)
  obtain ⟨v, k, hv, hk, hc, q⟩ := En_kind e a b z
  subst h
  rcases q with q | q | q | q | q | q
  · exact absurd q.1 (by decide)
  · exact absurd q.1 (by decide)
  · obtain ⟨-, e1, hv3, e2⟩ := q
    subst e1 e2
    rw [hc, hdG_at hv hk, ← bt_uq hv3]
    exact fcg_2 rfl
  · exact absurd q.1 (by decide)
  · exact absurd q.1 (by decide)
  · exact absurd q.1 (by decide)
theorem En_20 {p ap d x y s o c : Int32} (e : EncS s o c) (h : s = 20) : hdG p ap d x y c = true ↔ o ≤ p := by
  obtain ⟨a, b, z⟩ := n17 h (by decide) (by decide) (by decide)
  obtain ⟨v, k, hv, hk, hc, q⟩ := En_kind e a b z
  subst h
  rcases q with q | q | q | q | q | q
  · exact absurd q.1 (by decide)
  · exact absurd q.1 (by decide)
  · exact absurd q.1 (by decide)
  · obtain ⟨-, e1, e2⟩ := q
    subst e1 e2
    rw [hc, hdG_at hv hk]
    exact fcg_3 rfl
  · exact absurd q.1 (by decide)
  · exact absurd q.1 (by decide)
theorem En_21 {p d x y s o c : Int32} (e : EncS s o c) (h : s = 21) : ∀ {a4 : Int32}, (a4 = 0 ∨ a4 = 1) → (a4 = 1 ∧ hdG p a4 d x y c = true) ∨ (a4 = 0 ∧ ¬ hdG p a4 d x y c = true) := by
  obtain ⟨a, b, z⟩ := n17 h (by decide) (by decide) (by decide)
  obtain ⟨v, k, hv, hk, hc, q⟩ := En_kind e a b z
  subst h
  rcases q with q | q | q | q | q | q
  · exact absurd q.1 (by decide)
  · exact absurd q.1 (by decide)
  · exact absurd q.1 (by decide)
  · exact absurd q.1 (by decide)
  · obtain ⟨-, e1⟩ := q
    subst e1
    intro a4 ha
    rw [hc, hdG_at hv hk, fcg_4 (a := nI 4) rfl]
    rcases ha with z9 | z9
    · exact Or.inr ⟨z9, by rw [z9]; decide⟩
    · exact Or.inl ⟨z9, z9⟩
  · exact absurd q.1 (by decide)
theorem En_22 {p ap d x y s o c : Int32} (e : EncS s o c) (h1 : ¬ s = 14) (h2 : ¬ s = 15) (h3 : ¬ s = 16) (h4 : ¬ s = 17) (h5 : ¬ s = 18) (h6 : ¬ s = 19) (h7 : ¬ s = 20) (h8 : ¬ s = 21) : hdG p ap d x y c = true := by
  obtain ⟨v, k, hv, hk, hc, q⟩ := En_kind e h1 h2 h3
  rcases q with q | q | q | q | q | q
  · exact absurd q.1 h4
  · exact absurd q.1 h5
  · exact absurd q.1 h6
  · exact absurd q.1 h7
  · exact absurd q.1 h8
  · obtain ⟨-, e1⟩ := q
    subst e1
    rw [hc, hdG_at hv hk]
    exact fcg_5 (by decide) (by decide) (by decide) (by decide) (by decide)
