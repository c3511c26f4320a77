
theorem z_0 : (0 : Int32).toInt = 0 := by decide
theorem zl_0 : (0 : Int64).toInt = 0 := by decide
theorem z_1 : (1 : Int32).toInt = 1 := by decide
theorem zl_1 : (1 : Int64).toInt = 1 := by decide
theorem z_2 : (2 : Int32).toInt = 2 := by decide
theorem zl_2 : (2 : Int64).toInt = 2 := by decide
theorem z_3 : (3 : Int32).toInt = 3 := by decide
theorem zl_3 : (3 : Int64).toInt = 3 := by decide
theorem z_4 : (4 : Int32).toInt = 4 := by decide
theorem zl_4 : (4 : Int64).toInt = 4 := by decide
theorem z_5 : (5 : Int32).toInt = 5 := by decide
theorem zl_5 : (5 : Int64).toInt = 5 := by decide
theorem z_1000 : (1000 : Int32).toInt = 1000 := by decide
theorem zl_1000 : (1000 : Int64).toInt = 1000 := by decide
theorem z_3000 : (3000 : Int32).toInt = 3000 := by decide
theorem zl_3000 : (3000 : Int64).toInt = 3000 := by decide
theorem z_10000 : (10000 : Int32).toInt = 10000 := by decide
theorem zl_10000 : (10000 : Int64).toInt = 10000 := by decide
theorem z_99999 : (99999 : Int32).toInt = 99999 := by decide
theorem zl_99999 : (99999 : Int64).toInt = 99999 := by decide
theorem z_360 : (360 : Int32).toInt = 360 := by decide
theorem zl_360 : (360 : Int64).toInt = 360 := by decide
theorem z_365 : (365 : Int32).toInt = 365 := by decide
theorem zl_365 : (365 : Int64).toInt = 365 := by decide
theorem z_9999999 : (9999999 : Int32).toInt = 9999999 := by decide
theorem zl_9999999 : (9999999 : Int64).toInt = 9999999 := by decide
theorem l_le {a b : Int64} : a ≤ b ↔ a.toInt ≤ b.toInt := Int64.le_iff_toInt_le
theorem l_lt {a b : Int64} : a < b ↔ a.toInt < b.toInt := Int64.lt_iff_toInt_lt
theorem i_wle {a b : Int32} : a.toInt64 ≤ b.toInt64 ↔ a ≤ b := by rw [l_le, i_le, i_w, i_w]
theorem w1_le {x : Int32} : 1 ≤ x.toInt64 ↔ 1 ≤ x := by rw [l_le, i_le, i_w, z_1, zl_1]
theorem w0_le {x : Int32} : 0 ≤ x.toInt64 ↔ 0 ≤ x := by rw [l_le, i_le, i_w, z_0, zl_0]
theorem w5_le {x : Int32} : x.toInt64 ≤ 99999 ↔ x ≤ 99999 := by rw [l_le, i_le, i_w, z_99999, zl_99999]
theorem w3_le {x : Int32} : x.toInt64 ≤ 3000 ↔ x ≤ 3000 := by rw [l_le, i_le, i_w, z_3000, zl_3000]
theorem ac_gra {x : Int32} (g : 0 ≤ x ∧ x ≤ 60) : AcGra x := ⟨w0_le.mpr g.1, by rw [l_le, i_w]; exact i_le.mp g.2⟩
theorem ac_gra_n {x : Int32} (g : ¬ (0 ≤ x ∧ x ≤ 60)) : ¬ AcGra x := fun q => g ⟨w0_le.mp q.1, by have q2 := q.2; rw [l_le, i_w] at q2; exact i_le.mpr q2⟩
theorem l360 {x : Int32} (h : x.toInt64 = 360) : x = 360 := i_inj (by have e := congrArg Int64.toInt h; rw [i_w, zl_360] at e; rw [z_360]; exact e)
theorem l365 {x : Int32} (h : x.toInt64 = 365) : x = 365 := i_inj (by have e := congrArg Int64.toInt h; rw [i_w, zl_365] at e; rw [z_365]; exact e)
theorem bas_or {x : Int32} (h : x.toInt64 = 360 ∨ x.toInt64 = 365) : x = 360 ∨ x = 365 := h.imp l360 l365
theorem ac_rat {a b : Int32} (g : 0 ≤ a ∧ a ≤ 3000) (h : b.toInt64 = 360 ∨ b.toInt64 = 365) : AcRat a b := ⟨⟨w0_le.mpr g.1, w3_le.mpr g.2⟩, bas_or h⟩
theorem ac_rat_n1 {a b : Int32} (g : ¬ (0 ≤ a ∧ a ≤ 3000)) : ¬ AcRat a b := fun q => g ⟨w0_le.mp q.1.1, w3_le.mp q.1.2⟩
theorem ac_rat_n2 {a b : Int32} (g : ¬ (b.toInt64 = 360 ∨ b.toInt64 = 365)) : ¬ AcRat a b := fun q => g (q.2.imp (fun e => by rw [e]; decide) (fun e => by rw [e]; decide))
theorem tI_c {r s : Nat → Int32} {j k : Nat} (h : s j = r k) : tI s j = tI r k := congrArg Int32.toInt h
theorem tI_v {s : Nat → Int32} {j : Nat} {v : Int32} (h : s j = v) : tI s j = v.toInt := congrArg Int32.toInt h
/-- another row with the same milestones -/
theorem WFa.sc {n : Nat} {r s : Nat → Int32} {q q2 : Int64} (h : WFa n r q) (hm : ∀ m i, m < n → i < 4 → s (16 + 7 * m + i) = r (16 + 7 * m + i)) (a0 : 0 ≤ tI s 0 ∧ tI s 0 ≤ 3000) (a1 : 360 ≤ tI s 1 ∧ tI s 1 ≤ 365) (a4 : 0 ≤ tI s 4 ∧ tI s 4 ≤ 20000) (a6 : 0 ≤ tI s 6 ∧ tI s 6 ≤ tI s 5 ∧ tI s 5 ≤ 9999999) (a7 : 0 ≤ tI s 7 ∧ tI s 7 ≤ tI s 8 ∧ tI s 8 ≤ 2000000000) (aQ : 0 ≤ q2.toInt ∧ q2.toInt ≤ 3650000 + 30 * (3000 * (9999999 + tI s 8))) (aS : fsI (tI r) n ≤ tI s 6) : WFa n s q2 := by
  have e : ∀ m i, m < n → i < 4 → tI s (16 + 7 * m + i) = tI r (16 + 7 * m + i) := fun m i hm9 hi => tI_c (hm m i hm9 hi)
  refine ⟨a0, a1, a4, a6, a7, aQ, ?_, fun m hm9 => ?_⟩
  · rw [fsI_cong (f := tI r) (fun m hm9 => e m 3 hm9 (by omega))]; exact aS
  · have ek := h.2.2.2.2.2.2.2 m hm9
    unfold MI9 at ek ⊢
    rw [e m 0 hm9 (by omega), e m 1 hm9 (by omega), e m 2 hm9 (by omega), e m 3 hm9 (by omega)]
    exact ek
/-- another state and another frozen amount of milestone k -/
theorem WFa.fs {n k : Nat} {r s : Nat → Int32} {q : Int64} (h : WFa n r q) (hk : k < n) (ho : ∀ j, j ≠ 16 + 7 * k + 3 → j ≠ 16 + 7 * k + 2 → s j = r j) (hv : 0 ≤ tI s (16 + 7 * k + 3)) (hb : fsI (tI r) n - tI r (16 + 7 * k + 3) + tI s (16 + 7 * k + 3) ≤ tI r 6) (hs : 0 ≤ tI s (16 + 7 * k + 2) ∧ tI s (16 + 7 * k + 2) ≤ 5) (hz : tI s (16 + 7 * k + 2) ≠ 2 → tI s (16 + 7 * k + 3) = 0) : WFa n s q := by
  obtain ⟨a0, a1, a4, a6, a7, aQ, aS, aM⟩ := h
  have fc : ∀ j, j ≠ 16 + 7 * k + 3 → j ≠ 16 + 7 * k + 2 → tI s j = tI r j := fun j h3 h2 => tI_c (ho j h3 h2)
  refine ⟨?_, ?_, ?_, ?_, ?_, ?_, ?_, fun m hm => ?_⟩
  · rw [fc 0 (by omega) (by omega)]; exact a0
  · rw [fc 1 (by omega) (by omega)]; exact a1
  · rw [fc 4 (by omega) (by omega)]; exact a4
  · rw [fc 6 (by omega) (by omega), fc 5 (by omega) (by omega)]; exact a6
  · rw [fc 7 (by omega) (by omega), fc 8 (by omega) (by omega)]; exact a7
  · rw [fc 8 (by omega) (by omega)]; exact aQ
  · rw [fsI_upd (f := tI r) hk (fun m hm => fc _ (by omega) (by omega)), fc 6 (by omega) (by omega)]; exact hb
  · have ek := aM m hm
    by_cases c : m = k
    · subst c
      unfold MI9 at ek ⊢
      rw [fc (16 + 7 * m + 0) (by omega) (by omega), fc (16 + 7 * m + 1) (by omega) (by omega)]
      exact ⟨ek.1, ek.2.1, ek.2.2.1, ek.2.2.2.1, hs.1, hs.2, hv, hz⟩
    · unfold MI9 at ek ⊢
      rw [fc (16 + 7 * m + 0) (by omega) (by omega), fc (16 + 7 * m + 1) (by omega) (by omega), fc (16 + 7 * m + 2) (by omega) (by omega), fc (16 + 7 * m + 3) (by omega) (by omega)]
      exact ek
/-- a refund of x -/
theorem WFa.ref {n : Nat} {r : Nat → Int32} {q : Int64} {x : Int32} (h : WFa n r q) (h0 : 0 ≤ x.toInt) (h2 : x.toInt ≤ tI r 6 - fsI (tI r) n) : WFa n (refR x r) q := by
  unfold refR
  refine entR_w ?_
  obtain ⟨a0, a1, a4, a6, a7, aQ, aS, aM⟩ := h
  have p0 := fsI_pos aM
  have e6 : (r 6 - x).toInt = tI r 6 - x.toInt := i_sub (by show _ ≤ tI r 6 - _; omega) (by show tI r 6 - _ ≤ _; omega)
  have f6 : tI (upd (upd r 6 (r 6 - x)) 11 (r 11 + x)) 6 = tI r 6 - x.toInt := by rw [tI_v ((pk_un (by omega)).trans pk_us), e6]
  have fo : ∀ j, j ≠ 6 → j ≠ 11 → upd (upd r 6 (r 6 - x)) 11 (r 11 + x) j = r j := fun j h6 h11 => (pk_un h11).trans (pk_un h6)
  refine WFa.sc (r := r) (q := q) ⟨a0, a1, a4, a6, a7, aQ, aS, aM⟩ (fun m i _ _ => fo _ (by omega) (by omega)) ?_ ?_ ?_ ?_ ?_ ?_ ?_
  · rw [tI_c (fo 0 (by omega) (by omega))]; exact a0
  · rw [tI_c (fo 1 (by omega) (by omega))]; exact a1
  · rw [tI_c (fo 4 (by omega) (by omega))]; exact a4
  · rw [f6, tI_c (fo 5 (by omega) (by omega))]; omega
  · rw [tI_c (fo 7 (by omega) (by omega)), tI_c (fo 8 (by omega) (by omega))]; exact a7
  · rw [tI_c (fo 8 (by omega) (by omega))]; exact aQ
  · rw [f6]; omega
theorem fsI_z {f : Nat → Int} : ∀ {n : Nat}, (∀ m, m < n → f (16 + 7 * m + 3) = 0) → fsI f n = 0
  | 0, _ => rfl
  | n + 1, h => by
    show fsI f n + f (16 + 7 * n + 3) = 0
    rw [fsI_z (fun m hm => h m (by omega)), h n (by omega)]
    rfl
theorem ky60 {ky kp : Nat} {x : Int32} (hk : ky = entC kp x) (h : kp = 60) : ky = 60 := by
  rw [hk, h]
  unfold entC
  split <;> omega
/-- how many are closed -/
def ccC (f : Nat → Int32) : Nat → Nat
  | 0 => 0
  | n + 1 => ccC f n + (if 3 ≤ f n then 1 else 0)
theorem ccC_le (f : Nat → Int32) : ∀ n, ccC f n ≤ n
  | 0 => Nat.le_refl 0
  | n + 1 => by
    have := ccC_le f n
    rw [ccC]
    split <;> omega
theorem ccC_all {f : Nat → Int32} : ∀ {n : Nat}, ccC f n = n ↔ ∀ m, m < n → 3 ≤ f m
  | 0 => ⟨fun _ m hm => absurd hm (Nat.not_lt_zero m), fun _ => rfl⟩
  | n + 1 => by
    have l := ccC_le f n
    rw [ccC]
    by_cases c : 3 ≤ f n
    · rw [if_pos c]
      refine ⟨fun e m hm => ?_, fun h => ?_⟩
      · by_cases d : m = n
        · subst d; exact c
        · exact (ccC_all (n := n)).mp (by omega) m (by omega)
      · have := (ccC_all (n := n)).mpr (fun m hm => h m (by omega))
        omega
    · rw [if_neg c]
      refine ⟨fun e => by omega, fun h => absurd (h n (by omega)) c⟩
def Ccq (f : Nat → Int32) (i k : Nat) : Prop := k = ccC f i
theorem Ccq.zero (f : Nat → Int32) : Ccq f 0 0 := rfl
theorem Ccq.yes {f : Nat → Int32} {i k : Nat} (h : Ccq f i k) (c : 3 ≤ f i) : Ccq f (i + 1) (k + 1) := by
  unfold Ccq at h ⊢
  rw [ccC, if_pos c, h]
theorem Ccq.no {f : Nat → Int32} {i k : Nat} (h : Ccq f i k) (c : ¬ 3 ≤ f i) : Ccq f (i + 1) k := by
  unfold Ccq at h ⊢
  rw [ccC, if_neg c, h]
  rfl
/-- the order of payment -/
def Bor (n : Nat) (b : Nat → Nat) (f : Nat → Int32) : Prop := ∀ k, k < n → b k < n ∧ f k = nI (b k)
theorem Bor.at {n k : Nat} {b : Nat → Nat} {f : Nat → Int32} (h : Bor n b f) (hk : k < n) : b k < n ∧ f k = nI (b k) := h k hk
theorem Ens.prev {n m : Nat} {q : Nat → Nat} {f : Nat → Int32} {y : Int32} (h : Ens n q f) (h0 : 0 < m ∧ m < 2147483648) (hm : m < n) (e : y = f (nI (m - 1)).toNatClampNeg) : y = nI (q m) := by
  rw [e, nI_clamp (by omega), h (m - 1) (by omega), show m - 1 + 1 = m by omega]
/-- what is remembered of the class's account -/
def HrC (wn wc : Nat) (mi : Nat → Nat → Int32) (ml : Nat → Nat → Int64) (mk : Nat → Nat) (mf : Nat → Nat → Nat → Int32) (i6 i7 i8 : Int32) (i9 i11 : Int64) (i12 i13 i15 i16 i17 i18 i19 : Int32) (kp : Nat) (fs fp ff fd : Nat → Int32) (wn2 wc2 : Nat) (mi2 : Nat → Nat → Int32) (ml2 : Nat → Nat → Int64) (mk2 : Nat → Nat) (mf2 : Nat → Nat → Nat → Int32) : Prop :=
  wn2 = (wn + 1) % 10 ∧ wc2 = min (wc + 1) 10 ∧ mi2 wn 6 = i6 ∧ mi2 wn 7 = i7 ∧ mi2 wn 8 = i8 ∧ ml2 wn 9 = i9 ∧ ml2 wn 11 = i11 ∧ mi2 wn 12 = i12 ∧ mi2 wn 13 = i13 ∧ mi2 wn 15 = i15 ∧ mi2 wn 16 = i16 ∧ mi2 wn 17 = i17 ∧ mi2 wn 18 = i18 ∧ mi2 wn 19 = i19 ∧ mk2 wn = kp ∧ Cp 10 fs (mf2 wn 3) ∧ Cp 10 fp (mf2 wn 4) ∧ Cp 10 ff (mf2 wn 5) ∧ Cp 10 fd (mf2 wn 6) ∧ ∀ s9, s9 ≠ wn → mi2 s9 = mi s9 ∧ ml2 s9 = ml s9 ∧ mk2 s9 = mk s9 ∧ mf2 s9 = mf s9
def HuC (wn wc : Nat) (mi : Nat → Nat → Int32) (ml : Nat → Nat → Int64) (mk : Nat → Nat) (mf : Nat → Nat → Nat → Int32) (i6 i7 i8 : Int32) (i9 i11 : Int64) (i12 i13 i15 i16 i17 i18 i19 : Int32) (kp : Nat) (fs fp ff fd : Nat → Int32) (z6 z7 z8 : Int32) (z9 z11 : Int64) (z12 z13 z15 z16 z17 z18 z19 : Int32) (ky : Nat) (zs zp zf zd : Nat → Int32) (wn2 wc2 : Nat) : Prop :=
  (wc = 0 ∧ wn2 = wn ∧ wc2 = wc ∧ z6 = i6 ∧ z7 = i7 ∧ z8 = i8 ∧ z9 = i9 ∧ z11 = i11 ∧ z12 = i12 ∧ z13 = i13 ∧ z15 = i15 ∧ z16 = i16 ∧ z17 = i17 ∧ z18 = i18 ∧ z19 = i19 ∧ ky = kp ∧ zs = fs ∧ zp = fp ∧ zf = ff ∧ zd = fd) ∨
  (0 < wc ∧ wn2 = (wn + 9) % 10 ∧ wc2 = wc - 1 ∧ z6 = mi wn2 6 ∧ z7 = mi wn2 7 ∧ z8 = mi wn2 8 ∧ z9 = ml wn2 9 ∧ z11 = ml wn2 11 ∧ z12 = mi wn2 12 ∧ z13 = mi wn2 13 ∧ z15 = mi wn2 15 ∧ z16 = mi wn2 16 ∧ z17 = mi wn2 17 ∧ z18 = mi wn2 18 ∧ z19 = mi wn2 19 ∧ ky = mk wn2 ∧ Cp 10 (mf wn2 3) zs ∧ Cp 10 (mf wn2 4) zp ∧ Cp 10 (mf wn2 5) zf ∧ Cp 10 (mf wn2 6) zd)
/-- a day, as a function of the row -/
def day2 (dy : Nat) (r : Nat → Int32) (q : Int64) : Nat → Int32 := if (dy + 1) % 30 = 0 then crR (pqQ q r) (upd r 4 (nI (dy + 1))) else upd r 4 (nI (dy + 1))
def dayQ (dy : Nat) (r : Nat → Int32) (q : Int64) : Int64 := if (dy + 1) % 30 = 0 then crQ (pqQ q r) (upd r 4 (nI (dy + 1))) else pqQ q r
def dayR (f : Nat → Int32) (cq : Nat → Nat) (n : Nat) (b : Nat → Nat) (dy : Nat) (r : Nat → Int32) (q : Int64) : Nat → Int32 := pays n b (dues f cq (doR (day2 dy r q) n) (day2 dy r q) n) n
def dysP (f : Nat → Int32) (cq : Nat → Nat) (n : Nat) (b : Nat → Nat) (dy : Nat) (r : Nat → Int32) (q : Int64) : Nat → (Nat → Int32) × Int64
  | 0 => (r, q)
  | k + 1 => (dayR f cq n b (dy + k) (dysP f cq n b dy r q k).1 (dysP f cq n b dy r q k).2, dayQ (dy + k) (dysP f cq n b dy r q k).1 (dysP f cq n b dy r q k).2)
def Cap (sm : Prop) (r : Nat → Int32) : Prop := ¬ sm → Cap0 r
def Cpd (r : Nat → Int32) (q : Int64) : Prop := Cap0 r ∧ q.toInt ≤ 3650000 + (tI r 4 % 30) * (3000 * (9999999 + tI r 8))
def Capd (sm : Prop) (r : Nat → Int32) (q : Int64) : Prop := ¬ sm → Cpd r q
theorem Cap.day {sm : Prop} {r : Nat → Int32} {q : Int64} {v : Int32} (h : Capd sm r q) : Cap sm (upd r 4 v) := fun ns => Cap0.day (h ns).1
def CapN (sm : Prop) (f : Nat → Int32) (cq : Nat → Nat) (n : Nat) (b : Nat → Nat) (dy N : Nat) (r : Nat → Int32) (q : Int64) : Prop := ∀ k, k < N → Capd sm (dysP f cq n b dy r q k).1 (dysP f cq n b dy r q k).2
theorem CapN.le {sm : Prop} {f : Nat → Int32} {cq : Nat → Nat} {n : Nat} {b : Nat → Nat} {dy N M : Nat} {r : Nat → Int32} {q : Int64} (h : CapN sm f cq n b dy N r q) (hM : M ≤ N) : CapN sm f cq n b dy M r q := fun k hk => h k (by omega)
