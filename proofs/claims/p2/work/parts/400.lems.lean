/-- the words that no name can be, as numbers -/
def kwv : List Int64 := [591493, 6309, 7930981, 4480027956, 14615962074565, 762030, 498, 1476, 14836, 4153, 17382886, 146885, 20141, 52095867044, 46892851]
def KW (n : Nat) (f : Nat → Int64) : Prop := ∀ k, k < n → f k = kwv.getD k 0
theorem kwv_ge : ∀ k, k < 15 → (27 : Int64) ≤ kwv.getD k 0 := by decide
/-- a symbol stands within the text -/
def TKF (tk : Int32) (st : Nat) : Prop := tk = 4 → st < 700
/-- a word that no name can be has two letters at least -/
def KWF (kw : Int32) (st nx : Nat) : Prop := kw ≠ -1 → st + 2 ≤ nx
def LW (a i : Nat) (w : Int64) : Prop := (i = a → w = 0) ∧ (i = a + 1 → w < 27)
theorem LW.zero (a : Nat) : LW a a 0 := ⟨fun _ => rfl, fun h => by omega⟩
theorem LW.step {a i : Nat} {u y1 y2 y3 : Int64} {b : Int32} (h : LW a i u) (hai : a ≤ i) (hb : 97 ≤ b ∧ b ≤ 122) (e1 : y1 = 32 * u) (e2 : y2 = y1 + b.toInt64) (e3 : y3 = y2 - 96) : LW a (i + 1) y3 := by
  refine ⟨fun q => by omega, fun q => ?_⟩
  have hu := h.1 (by omega)
  subst hu
  have hz : y1 = 0 := by rw [e1]; decide
  subst hz
  rw [e3, e2, Int64.zero_add]
  obtain ⟨n, h1, h2, e⟩ := btw_c (m := b) (lo := 97) (hi := 122) (lo' := 97) (hi' := 122) (by decide) (by decide) (by rw [Int64.le_iff_toInt_le, Int32.toInt_toInt64]; have := Int32.le_iff_toInt_le.mp hb.1; exact this) (by rw [Int64.le_iff_toInt_le, Int32.toInt_toInt64]; have := Int32.le_iff_toInt_le.mp hb.2; exact this)
  rw [e, nI_l (by omega), show (96 : Int64) = lN 96 from rfl, lN_sub (by omega), Int64.lt_iff_toInt_lt, lN_toInt (by omega)]
  have a2 : (27 : Int64).toInt = 27 := by decide
  omega
theorem LW.far {a i : Nat} {u : Int64} (h : a + 9 ≤ i) : LW a (i + 1) u := ⟨fun q => by omega, fun q => by omega⟩
theorem KWF.none (a b : Nat) : KWF (-1) a b := fun h => absurd rfl h
theorem KWF.of {f : Nat → Int64} {a b : Nat} {w : Int64} {r : Int32} (hk : KW 15 f) (hl : LW a b w) (hab : a ≤ b) (h : r = -1 ∨ ∃ n, n < 15 ∧ r = nI n ∧ f n = w) : KWF r a b := fun hr => by
  rcases h with h | ⟨n, h1, -, h3⟩
  · exact absurd h hr
  · have h4 := kwv_ge n h1
    rw [← hk n h1, h3] at h4
    rcases Nat.lt_or_ge b (a + 2) with q | q
    · exfalso
      rcases (show b = a ∨ b = a + 1 by omega) with z | z
      · rw [hl.1 z] at h4
        exact absurd h4 (by decide)
      · have h5 := hl.2 z
        rw [Int64.le_iff_toInt_le] at h4
        rw [Int64.lt_iff_toInt_lt] at h5
        omega
    · exact q
/-- a number between two bounds -/
def NB (lo hi : Nat) (v : Int32) : Prop := ∃ n, lo ≤ n ∧ n ≤ hi ∧ v = nI n
theorem btw_nn {v : Int32} {lo hi : Nat} (hh : hi < 2147483648) (hl : lo < 2147483648) (h1 : (nI lo).toInt64 ≤ v.toInt64) (h2 : v.toInt64 ≤ (nI hi).toInt64) : NB lo hi v := by
  refine btw_c (lo' := (nI lo).toInt64) (hi' := (nI hi).toInt64) ?_ ?_ h1 h2
  · rw [Int32.toInt_toInt64, nI_toInt hl]
  · rw [Int32.toInt_toInt64, nI_toInt hh]
theorem kwq {f : Nat → Int64} {i : Nat} {y w : Int64} (c : lg_cmp y w = 0) (e : y = f (nI i).toNatClampNeg) (h : i < 2147483648) : f i = w := by
  rw [nI_clamp h] at e
  rw [← e]
  unfold lg_cmp at c
  split at c
  · exact absurd c (by decide)
  · split at c
    · next q => exact q
    · exact absurd c (by decide)
def Tru (f : Nat → Int32) : Prop := f = f
/-- v was put at k; what lies before it is kept -/
def Em (k : Nat) (v : Int32) (f g : Nat → Int32) : Prop := g k = v ∧ ∀ j, j < k → g j = f j
theorem Em.of {k : Nat} {v : Int32} {f : Nat → Int32} (hk : k < 2147483648) : Em k v f (upd f (nI k).toNatClampNeg v) := by
  rw [nI_clamp hk]
  exact ⟨pk_us, fun j hj => pk_un (by omega)⟩
def Kp (n : Nat) (f g : Nat → Int32) : Prop := ∀ j, j < n → g j = f j
theorem Kp.rf (n : Nat) (f : Nat → Int32) : Kp n f f := fun _ _ => rfl
theorem Em.kp {k : Nat} {v : Int32} {f g : Nat → Int32} (h : Em k v f g) : Kp k f g := h.2
theorem Kp.tr {a b : Nat} {f g h : Nat → Int32} (h1 : Kp a f g) (h2 : Kp b g h) (hab : a ≤ b) : Kp a f h := fun j hj => (h2 j (by omega)).trans (h1 j hj)
/-- how many values wait behind n codes from k on -/
def cxe (f : Nat → Int32) : Nat → Nat → Nat → Option Nat
  | 0, _, d => some d
  | n + 1, k, d => if f k = -3 then (if 1 ≤ d then cxe f n (k + 1) d else none) else if f k < 0 then (if 2 ≤ d then cxe f n (k + 1) (d - 1) else none) else cxe f n (k + 1) (d + 1)
theorem cxe_app (f : Nat → Int32) : ∀ (n m k d : Nat), cxe f (n + m) k d = (cxe f n k d).bind (fun d2 => cxe f m (k + n) d2) := by
  intro n
  induction n with
  | zero => intro m k d; rw [Nat.zero_add, Nat.add_zero]; rfl
  | succ n ih =>
    intro m k d
    rw [show n + 1 + m = (n + m) + 1 by omega]
    simp only [cxe]
    have e : k + (n + 1) = k + 1 + n := by omega
    rw [e]
    split
    · split
      · exact ih m (k + 1) d
      · rfl
    · split
      · split
        · exact ih m (k + 1) (d - 1)
        · rfl
      · exact ih m (k + 1) (d + 1)
theorem cxe_keep {f g : Nat → Int32} : ∀ (n k d : Nat), (∀ j, j < k + n → g j = f j) → cxe g n k d = cxe f n k d := by
  intro n
  induction n with
  | zero => intro k d _; rfl
  | succ n ih =>
    intro k d h
    simp only [cxe]
    rw [h k (by omega), ih (k + 1) d (fun j hj => h j (by omega)), ih (k + 1) (d - 1) (fun j hj => h j (by omega)), ih (k + 1) (d + 1) (fun j hj => h j (by omega))]
theorem cxe_pfx {f : Nat → Int32} : ∀ (n k d x : Nat), cxe f n k d = some x → Pfx f n k d := by
  intro n
  induction n with
  | zero => intro k d x _; exact trivial
  | succ n ih =>
    intro k d x h
    simp only [cxe] at h
    split at h
    · next q =>
      split at h
      · next q2 => exact Or.inl ⟨q, q2, ih _ _ _ h⟩
      · cases h
    · next q =>
      split at h
      · next q2 =>
        split at h
        · next q3 => exact Or.inr (Or.inl ⟨q, q2, q3, ih _ _ _ h⟩)
        · cases h
      · next q2 => exact Or.inr (Or.inr ⟨q, q2, ih _ _ _ h⟩)
/-- the codes from a up to b leave one value more -/
def Sg (a b : Nat) (f : Nat → Int32) : Prop := a ≤ b ∧ ∀ d, cxe f (b - a) a d = some (d + 1)
theorem Sg.pfx {a b : Nat} {f : Nat → Int32} (h : Sg a b f) : Pfx f (b - a) a 0 := cxe_pfx _ _ _ _ (h.2 0)
theorem Sg.keep {a b : Nat} {f g : Nat → Int32} (h : Sg a b f) (k : ∀ j, j < b → g j = f j) : Sg a b g := ⟨h.1, fun d => (cxe_keep _ _ _ (fun j hj => k j (by have := h.1; omega))).trans (h.2 d)⟩
theorem Sg.leaf {a : Nat} {v : Int32} {f g : Nat → Int32} (h : Em a v f g) (hv : ¬ v < 0) : Sg a (a + 1) g := by
  refine ⟨by omega, fun d => ?_⟩
  have h3 : ¬ v = -3 := fun q => hv (by rw [q]; decide)
  rw [show a + 1 - a = 1 by omega]
  simp only [cxe]
  rw [h.1, if_neg h3, if_neg hv]
theorem Sg.inv {a b : Nat} {v : Int32} {f g : Nat → Int32} (h : Sg a b f) (m : Em b v f g) (hv : v = -3) : Sg a (b + 1) g := by
  have h1 := h.1
  have h2 := h.keep m.2
  refine ⟨by omega, fun d => ?_⟩
  rw [show b + 1 - a = (b - a) + 1 by omega, cxe_app, h2.2 d]
  simp only [Option.bind, cxe]
  rw [show a + (b - a) = b by omega, m.1, if_pos hv, if_pos (by omega)]
theorem Sg.join {a b x : Nat} {v : Int32} {f0 f g : Nat → Int32} (h1 : Sg a b f0) (k : Kp b f0 f) (h2 : Sg b x f) (m : Em x v f g) (hv : v = -1 ∨ v = -2) : Sg a (x + 1) g := by
  have l1 := h1.1
  have l2 := h2.1
  have q1 := (h1.keep k).keep (fun j hj => m.2 j (by omega))
  have q2 := h2.keep m.2
  have n3 : ¬ v = -3 := by rcases hv with q | q <;> rw [q] <;> decide
  have ng : v < 0 := by rcases hv with q | q <;> rw [q] <;> decide
  refine ⟨by omega, fun d => ?_⟩
  rw [show x + 1 - a = (b - a) + ((x - b) + 1) by omega, cxe_app, q1.2 d]
  simp only [Option.bind]
  rw [cxe_app, show a + (b - a) = b by omega, q2.2 (d + 1)]
  simp only [Option.bind, cxe]
  rw [show b + (x - b) = x by omega, m.1, if_neg n3, if_pos ng, if_pos (by omega)]
  rfl
/-- the conditions that have been read: their codes lie one behind another up to n -/
def CR (c n : Nat) (fc fq : Nat → Int32) : Prop := (∀ m, m < c → ∃ a b, a ≤ b ∧ b ≤ n ∧ Elem m a fq ∧ Elem (m + 1) b fq ∧ Sg a b fc) ∧ (0 < c → Elem c n fq)
theorem CR.zero (n : Nat) (fc fq : Nat → Int32) : CR 0 n fc fq := ⟨fun m h => absurd h (Nat.not_lt_zero m), fun h => absurd h (Nat.not_lt_zero 0)⟩
/-- the place of a new one -/
theorem CR.from {c n : Nat} {fc fq : Nat → Int32} (h : CR c n fc fq) (hc : c < 2147483648) : CR c n fc (upd fq (nI c).toNatClampNeg (nI n)) := by
  rw [nI_clamp hc]
  refine ⟨fun m hm => ?_, fun _ => pk_us⟩
  obtain ⟨a, b, h1, h2, h3, h4, h5⟩ := h.1 m hm
  by_cases e : m + 1 = c
  · have h6 : Elem c n fq := h.2 (by omega)
    have h7 : Elem c b fq := by rw [← e]; exact h4
    have h8 : nI n = nI b := h6.symm.trans h7
    refine ⟨a, b, h1, h2, (pk_un (by omega)).trans h3, ?_, h5⟩
    show upd fq c (nI n) (m + 1) = nI b
    rw [e, ← h8]
    exact pk_us
  · exact ⟨a, b, h1, h2, (pk_un (by omega)).trans h3, (pk_un e).trans h4, h5⟩
theorem CR.next {c n n2 : Nat} {fc gc fq : Nat → Int32} (h : CR c n fc fq) (h0 : fq c = nI n) (k : Kp n fc gc) (hn : n ≤ n2) (g : Sg n n2 gc) (hc : c < 1000) : CR (c + 1) n2 gc (upd fq (nI (c + 1)).toNatClampNeg (nI n2)) := by
  rw [nI_clamp (by omega)]
  refine ⟨fun m hm => ?_, fun _ => pk_us⟩
  by_cases e : m = c
  · subst e
    exact ⟨n, n2, hn, Nat.le_refl _, (pk_un (by omega)).trans h0, pk_us, g⟩
  · obtain ⟨a, b, h1, h2, h3, h4, h5⟩ := h.1 m (by omega)
    exact ⟨a, b, h1, by omega, (pk_un (by omega)).trans h3, (pk_un (by omega)).trans h4, h5.keep (fun j hj => k j (by omega))⟩
theorem CR.cw {c n : Nat} {fc fq gc gq : Nat → Int32} (h : CR c n fc fq) (hn : n ≤ 400) (hc : c ≤ 10) (k1 : Cp n fc gc) (k2 : Cp 11 fq gq) : CW c gc gq := fun m hm => by
  obtain ⟨a, b, h1, h2, h3, h4, h5⟩ := h.1 m hm
  exact ⟨a, b, h1, by omega, (k2 m (by omega)).trans h3, (k2 (m + 1) (by omega)).trans h4, (h5.keep (fun j hj => k1 j (by omega))).pfx⟩
theorem RI.cnt {c q e d : Nat} {f : Nat → Int32} (h : RI c q e d f) (n : Nat) : RI n q e d (upd f 13 (nI n)) :=
  ⟨pk_us, (pk_un (by decide)).trans h.2.1, (pk_un (by decide)).trans h.2.2.1, (pk_un (by decide)).trans h.2.2.2.1, by obtain ⟨b, b1, b2, b3⟩ := h.2.2.2.2; exact ⟨b, b1, b2, (pk_un (by decide)).trans b3⟩⟩
theorem RI.prf {c q e d : Nat} {f : Nat → Int32} (h : RI c q e d f) (n : Nat) : RI c n e d (upd f 14 (nI n)) :=
  ⟨(pk_un (by decide)).trans h.1, pk_us, (pk_un (by decide)).trans h.2.2.1, (pk_un (by decide)).trans h.2.2.2.1, by obtain ⟨b, b1, b2, b3⟩ := h.2.2.2.2; exact ⟨b, b1, b2, (pk_un (by decide)).trans b3⟩⟩
theorem l64_0 {a : Nat} (h : a < 2147483648) : (0 : Int64) ≤ (nI a).toInt64 := by
  rw [Int64.le_iff_toInt_le, Int32.toInt_toInt64, nI_toInt h]
  have a0 : (0 : Int64).toInt = 0 := by decide
  omega
theorem l64_le {a b : Nat} (h : a ≤ b) (hb : b < 2147483648) : (nI a).toInt64 ≤ (nI b).toInt64 := by
  rw [Int64.le_iff_toInt_le, Int32.toInt_toInt64, Int32.toInt_toInt64, nI_toInt hb, nI_toInt (by omega)]
  omega
theorem l64_no {i : Int32} {b : Nat} (h : i < 0 ∨ nI b < i) : ¬ ((0 : Int64) ≤ i.toInt64 ∧ i.toInt64 ≤ (nI b).toInt64) := fun q => by
  have h1 := Int64.le_iff_toInt_le.mp q.1
  have h2 := Int64.le_iff_toInt_le.mp q.2
  rw [Int32.toInt_toInt64] at h1 h2
  rw [Int32.toInt_toInt64] at h2
  have a0 : (0 : Int64).toInt = 0 := by decide
  have a1 : (0 : Int32).toInt = 0 := by decide
  rcases h with h | h
  · have := Int32.lt_iff_toInt_lt.mp h
    omega
  · have := Int32.lt_iff_toInt_lt.mp h
    omega
theorem HI.zero (c q : Nat) (f : Nat → Int32) : HI c q 0 f := fun k hk => absurd hk (Nat.not_lt_zero k)
