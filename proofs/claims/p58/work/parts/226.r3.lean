def entC (k : Nat) (x : Int32) : Nat := if x ≤ 0 then k else min (k + 1) 60
theorem entCN {k : Nat} {x : Int32} (h : 0 ≤ x) : entC k x = entN k x := by
  unfold entC entN
  by_cases e : x = 0
  · rw [if_pos e, if_pos (by rw [e]; exact Int32.le_refl 0)]
  · rw [if_neg e, if_neg (fun q => e (Int32.le_antisymm q h))]
theorem fee_sum (a b x f : Int32) : (a + (x - f)) + (b + f) = a + b + x := by
  have e : (a + (x - f)) + (b + f) = a + b + (x - f + f) := by ac_rfl
  rw [e, Int32.sub_add_cancel]
def PaidS (m : Nat) (fs zp fam zs : Nat → Int32) : Prop := zs = if ¬ 3 ≤ fs m ∧ rmC fs zp fam m = 0 then upd fs m 3 else fs
theorem PaidS.y {m : Nat} {fs zp fam zs : Nat → Int32} (h : ¬ 3 ≤ fs m) (c : rmC fs zp fam m = 0) (hu : Upp m 3 fs zs) : PaidS m fs zp fam zs := by
  unfold PaidS
  rw [if_pos ⟨h, c⟩]
  exact hu
theorem PaidS.c {m : Nat} {fs zp fam : Nat → Int32} (h : 3 ≤ fs m) : PaidS m fs zp fam fs := by
  unfold PaidS
  rw [if_neg (fun q => q.1 h)]
theorem PaidS.n {m : Nat} {fs zp fam : Nat → Int32} (c : ¬ rmC fs zp fam m = 0) : PaidS m fs zp fam fs := by
  unfold PaidS
  rw [if_neg (fun q => c q.2)]
theorem bI_t {P : Prop} [Decidable P] (h : P) : bI (decide P) = 1 := by rw [decide_eq_true h]; rfl
theorem bI_f {P : Prop} [Decidable P] (h : ¬ P) : bI (decide P) = 0 := by rw [decide_eq_false h]; rfl
/-- the class's account is the one of the row r, with the accrued parts q -/
def RC0 (n : Nat) (r : Nat → Int32) (q : Int64) (i6 i7 i8 : Int32) (i9 i11 : Int64) (i12 i13 i15 i16 i17 i18 i19 : Int32) (kp : Nat) (fs fp ff fd fam : Nat → Int32) : Prop :=
  WFa n r q ∧ (n ≤ 10 ∧ kp ≤ 60) ∧ (r 4 = i6 ∧ r 5 = i7 ∧ r 6 = i8 ∧ (r 7).toInt64 = i9 ∧ q = i11 ∧ r 10 = i12 + i13 ∧ r 0 = i15 ∧ r 1 = i16 ∧ r 3 = i17 ∧ r 12 = i18 ∧ r 15 = nI kp) ∧
  ∀ m, m < n → r (16 + 7 * m + 0) = fam m ∧ r (16 + 7 * m + 1) = fp m ∧ r (16 + 7 * m + 2) = fs m ∧ r (16 + 7 * m + 3) = ff m ∧ r (16 + 7 * m + 4) = fd m ∧ r (16 + 7 * m + 5) = bI (decide (btC i19 (nI m)))
theorem RC0.av {n : Nat} {r : Nat → Int32} {q : Int64} {i6 i7 i8 : Int32} {i9 i11 : Int64} {i12 i13 i15 i16 i17 i18 i19 : Int32} {kp : Nat} {fs fp ff fd fam : Nat → Int32} (h : RC0 n r q i6 i7 i8 i9 i11 i12 i13 i15 i16 i17 i18 i19 kp fs fp ff fd fam) : avC i8 ff n = avR r n := by
  obtain ⟨-, -, ⟨-, -, e6, -⟩, hm⟩ := h
  have g : ∀ k, k ≤ n → avC i8 ff k = avR r k := by
    intro k
    induction k with
    | zero => intro _; exact e6.symm
    | succ k ih =>
      intro hk
      show avC i8 ff k - ff k = avR r k - r (16 + 7 * k + 3)
      rw [ih (by omega), (hm k (by omega)).2.2.2.1]
  exact g n (Nat.le_refl n)
theorem RC0.rm {n m : Nat} {r : Nat → Int32} {q : Int64} {i6 i7 i8 : Int32} {i9 i11 : Int64} {i12 i13 i15 i16 i17 i18 i19 : Int32} {kp : Nat} {fs fp ff fd fam : Nat → Int32} (h : RC0 n r q i6 i7 i8 i9 i11 i12 i13 i15 i16 i17 i18 i19 kp fs fp ff fd fam) (hm : m < n) : rmC fs fp fam m = remR r m := by
  obtain ⟨e0, e1, e2, -⟩ := h.2.2.2 m hm
  unfold rmC remR
  rw [e0, e1, e2]
theorem RC0.dq {n : Nat} {r : Nat → Int32} {q : Int64} {i6 i7 i8 : Int32} {i9 i11 : Int64} {i12 i13 i15 i16 i17 i18 i19 : Int32} {kp : Nat} {fs fp ff fd fam : Nat → Int32} (h : RC0 n r q i6 i7 i8 i9 i11 i12 i13 i15 i16 i17 i18 i19 kp fs fp ff fd fam) : doC fs n = doR r n := by
  have g : ∀ k, k ≤ n → doC fs k = doR r k := by
    intro k
    induction k with
    | zero => intro _; rfl
    | succ k ih =>
      intro hk
      rw [doC, doR, ih (by omega), (h.2.2.2 k (by omega)).2.2.1]
  exact g n (Nat.le_refl n)
/-- the milestone's condition: the row's function is the class's -/
theorem RC0.hd {n m : Nat} {r : Nat → Int32} {q : Int64} {i6 i7 i8 : Int32} {i9 i11 : Int64} {i12 i13 i15 i16 i17 i18 i19 : Int32} {kp : Nat} {fs fp ff fd fam : Nat → Int32} (h : RC0 n r q i6 i7 i8 i9 i11 i12 i13 i15 i16 i17 i18 i19 kp fs fp ff fd fam) (hm : m < n) (dn : Int32) : hdF r m (r 4) (r 12) dn = hdG (i12 + i13) (bI (decide (btC i19 (nI m)))) i6 i18 dn := by
  obtain ⟨-, -, ⟨e4, -, -, -, -, e10, -, -, -, e12, -⟩, hq⟩ := h
  rw [hdFG, e10, (hq m hm).2.2.2.2.2, e4, e12]
/-- a change of cells that RC0 speaks of: the new row by its cells -/
theorem RC0.mk {n : Nat} {r r2 : Nat → Int32} {q q2 : Int64} {i6 i7 i8 : Int32} {i9 i11 : Int64} {i12 i13 i15 i16 i17 i18 i19 : Int32} {kp kp2 : Nat} {fs fp ff fd fam fs2 fp2 ff2 fd2 : Nat → Int32} {j6 j7 j8 : Int32} {j9 j11 : Int64} {j12 j13 j15 j16 j17 j18 : Int32} (h : RC0 n r q i6 i7 i8 i9 i11 i12 i13 i15 i16 i17 i18 i19 kp fs fp ff fd fam)
    (hw : WFa n r2 q2) (hk : kp2 ≤ 60) (e4 : r2 4 = j6) (e5 : r2 5 = j7) (e6 : r2 6 = j8) (e7 : (r2 7).toInt64 = j9) (eq : q2 = j11) (e10 : r2 10 = j12 + j13) (e0 : r2 0 = j15) (e1 : r2 1 = j16) (e3 : r2 3 = j17) (e12 : r2 12 = j18) (e15 : r2 15 = nI kp2)
    (hm : ∀ m, m < n → r2 (16 + 7 * m + 0) = r (16 + 7 * m + 0) ∧ r2 (16 + 7 * m + 1) = fp2 m ∧ r2 (16 + 7 * m + 2) = fs2 m ∧ r2 (16 + 7 * m + 3) = ff2 m ∧ r2 (16 + 7 * m + 4) = fd2 m ∧ r2 (16 + 7 * m + 5) = r (16 + 7 * m + 5)) : RC0 n r2 q2 j6 j7 j8 j9 j11 j12 j13 j15 j16 j17 j18 i19 kp2 fs2 fp2 ff2 fd2 fam := by
  refine ⟨hw, ⟨h.2.1.1, hk⟩, ⟨e4, e5, e6, e7, eq, e10, e0, e1, e3, e12, e15⟩, fun m hm9 => ?_⟩
  obtain ⟨a0, a1, a2, a3, a4, a5⟩ := hm m hm9
  obtain ⟨b0, b1, b2, b3, b4, b5⟩ := h.2.2.2 m hm9
  exact ⟨a0.trans b0, a1, a2, a3, a4, a5.trans b5⟩

/-- cells that neither bounds nor milestones speak of -/
theorem WFa.set {n : Nat} {r : Nat → Int32} {q : Int64} (h : WFa n r q) (k : Nat) (v : Int32) (hk : k = 3 ∨ k = 10 ∨ k = 12 ∨ k = 15 ∨ k = 11 ∨ ∃ m, k = 16 + 7 * m + 4 ∨ k = 16 + 7 * m + 5) : WFa n (upd r k v) q := by
  have d1 : ∀ j, (j = 0 ∨ j = 1 ∨ j = 4 ∨ j = 5 ∨ j = 6 ∨ j = 7 ∨ j = 8) → j ≠ k := fun j hj => by rcases hk with e | e | e | e | e | ⟨m9, e | e⟩ <;> omega
  have d2 : ∀ m i, i < 4 → 16 + 7 * m + i ≠ k := fun m i hi => by rcases hk with e | e | e | e | e | ⟨m9, e | e⟩ <;> omega
  refine WI.cong h (fun j hj => ?_) (fun m i hm hi => ?_)
  · unfold tI
    rw [pk_un (d1 j hj)]
  · unfold tI
    rw [pk_un (d2 m i hi)]
theorem entR_w {n : Nat} {r : Nat → Int32} {q : Int64} {x : Int32} (h : WFa n r q) : WFa n (entR x r) q := by
  unfold entR
  by_cases c : x = 0
  · rw [if_pos c]; exact h
  · rw [if_neg c]; exact h.set 15 _ (by omega)
theorem ent15 {r : Nat → Int32} {k : Nat} {x : Int32} (e : r 15 = nI k) (hk : k ≤ 60) (hx : 0 ≤ x) : entR x r 15 = nI (entC k x) := by
  rw [entCN hx]
  exact entR_e e hk
theorem entC_60 {k : Nat} {x : Int32} (h : k ≤ 60) : entC k x ≤ 60 := by
  unfold entC
  split <;> omega
/-- a payment of x for milestone m -/
theorem WFa.pay {n m : Nat} {r : Nat → Int32} {q : Int64} {x : Int32} (h : WFa n r q) (hm : m < n) (h0 : 0 ≤ x.toInt) (h1 : x.toInt ≤ (remR r m).toInt) (h2 : x.toInt ≤ tI r 6 - fsI (tI r) n) : WFa n (mkP m x r) q := by
  unfold mkP
  refine entR_w ?_
  have hr := remR_I h hm
  obtain ⟨a0, a1, a4, a6, a7, aQ, aS, aM⟩ := h
  have p0 := fsI_pos aM
  have e6 : (r 6 - x).toInt = tI r 6 - x.toInt := i_sub (by show _ ≤ tI r 6 - _; omega) (by show tI r 6 - _ ≤ _; omega)
  have eM := aM m hm
  have e1 : (r (16 + 7 * m + 1) + x).toInt = tI r (16 + 7 * m + 1) + x.toInt := i_add (by show _ ≤ tI r (16 + 7 * m + 1) + _; have := eM.2.2.1; omega) (by show tI r (16 + 7 * m + 1) + _ ≤ _; have := eM.2.1; omega)
  refine ⟨?_, ?_, ?_, ?_, ?_, ?_, ?_, fun k hk => ?_⟩
  · show 0 ≤ (upd _ _ _ 0).toInt ∧ (upd _ _ _ 0).toInt ≤ 3000
    rw [pk_un (by omega), pk_un (by omega), pk_un (by omega)]; exact a0
  · show 360 ≤ (upd _ _ _ 1).toInt ∧ (upd _ _ _ 1).toInt ≤ 365
    rw [pk_un (by omega), pk_un (by omega), pk_un (by omega)]; exact a1
  · show 0 ≤ (upd _ _ _ 4).toInt ∧ (upd _ _ _ 4).toInt ≤ 20000
    rw [pk_un (by omega), pk_un (by omega), pk_un (by omega)]; exact a4
  · show 0 ≤ (upd _ _ _ 6).toInt ∧ (upd _ _ _ 6).toInt ≤ (upd _ _ _ 5).toInt ∧ (upd _ _ _ 5).toInt ≤ 9999999
    rw [pk_un (show 6 ≠ 16 + 7 * m + 1 by omega), pk_un (show 6 ≠ 10 by omega), pk_us, pk_un (show 5 ≠ 16 + 7 * m + 1 by omega), pk_un (show 5 ≠ 10 by omega), pk_un (show 5 ≠ 6 by omega), e6]
    have e5 : (r 5).toInt = tI r 5 := rfl
    rw [e5]
    omega
  · show 0 ≤ (upd _ _ _ 7).toInt ∧ (upd _ _ _ 7).toInt ≤ (upd _ _ _ 8).toInt ∧ (upd _ _ _ 8).toInt ≤ 2000000000
    rw [pk_un (by omega), pk_un (by omega), pk_un (by omega), pk_un (by omega), pk_un (by omega), pk_un (by omega)]; exact a7
  · show 0 ≤ q.toInt ∧ q.toInt ≤ 3650000 + 30 * (3000 * (9999999 + (upd _ _ _ 8).toInt))
    rw [pk_un (by omega), pk_un (by omega), pk_un (by omega)]; exact aQ
  · rw [fsI_cong (f := tI r) (fun k hk => by unfold tI; rw [pk_un (by omega), pk_un (by omega), pk_un (by omega)])]
    show _ ≤ (upd _ _ _ 6).toInt
    rw [pk_un (show 6 ≠ 16 + 7 * m + 1 by omega), pk_un (show 6 ≠ 10 by omega), pk_us, e6]
    omega
  · have ek := aM k hk
    by_cases c : k = m
    · subst c
      have f0 : tI (upd (upd (upd r 6 (r 6 - x)) 10 (r 10 + x)) (16 + 7 * k + 1) (r (16 + 7 * k + 1) + x)) (16 + 7 * k + 1) = tI r (16 + 7 * k + 1) + x.toInt := by unfold tI; rw [pk_us]; exact e1
      have fo : ∀ i, i < 4 → i ≠ 1 → tI (upd (upd (upd r 6 (r 6 - x)) 10 (r 10 + x)) (16 + 7 * k + 1) (r (16 + 7 * k + 1) + x)) (16 + 7 * k + i) = tI r (16 + 7 * k + i) := fun i hi h1 => by unfold tI; rw [pk_un (by omega), pk_un (by omega), pk_un (by omega)]
      unfold MI9 at ek ⊢
      rw [f0, fo 0 (by omega) (by omega), fo 2 (by omega) (by omega), fo 3 (by omega) (by omega)]
      omega
    · have fo : ∀ i, i < 4 → tI (upd (upd (upd r 6 (r 6 - x)) 10 (r 10 + x)) (16 + 7 * m + 1) (r (16 + 7 * m + 1) + x)) (16 + 7 * k + i) = tI r (16 + 7 * k + i) := fun i hi => by unfold tI; rw [pk_un (by omega), pk_un (by omega), pk_un (by omega)]
      unfold MI9 at ek ⊢
      rw [fo 0 (by omega), fo 1 (by omega), fo 2 (by omega), fo 3 (by omega)]
      exact ek
/-- another state of milestone m, which freezes nothing -/
theorem WFa.st {n m : Nat} {r : Nat → Int32} {q : Int64} {v : Int32} (h : WFa n r q) (hv : 0 ≤ v.toInt ∧ v.toInt ≤ 5) (hf : v.toInt ≠ 2 → tI r (16 + 7 * m + 3) = 0) : WFa n (upd r (16 + 7 * m + 2) v) q := by
  obtain ⟨a0, a1, a4, a6, a7, aQ, aS, aM⟩ := h
  have fc : ∀ j, j ≠ 16 + 7 * m + 2 → tI (upd r (16 + 7 * m + 2) v) j = tI r j := fun j hj => by unfold tI; rw [pk_un hj]
  refine ⟨?_, ?_, ?_, ?_, ?_, ?_, ?_, fun k hk => ?_⟩
  · rw [fc 0 (by omega)]; exact a0
  · rw [fc 1 (by omega)]; exact a1
  · rw [fc 4 (by omega)]; exact a4
  · rw [fc 6 (by omega), fc 5 (by omega)]; exact a6
  · rw [fc 7 (by omega), fc 8 (by omega)]; exact a7
  · rw [fc 8 (by omega)]; exact aQ
  · rw [fsI_cong (f := tI r) (fun k hk => fc _ (by omega)), fc 6 (by omega)]; exact aS
  · have ek := aM k hk
    by_cases c : k = m
    · subst c
      have f2 : tI (upd r (16 + 7 * k + 2) v) (16 + 7 * k + 2) = v.toInt := by unfold tI; rw [pk_us]
      unfold MI9 at ek ⊢
      rw [f2, fc (16 + 7 * k + 0) (by omega), fc (16 + 7 * k + 1) (by omega), fc (16 + 7 * k + 3) (by omega)]
      exact ⟨ek.1, ek.2.1, ek.2.2.1, ek.2.2.2.1, hv.1, hv.2, ek.2.2.2.2.2.2.1, hf⟩
    · unfold MI9 at ek ⊢
      rw [fc (16 + 7 * k + 0) (by omega), fc (16 + 7 * k + 1) (by omega), fc (16 + 7 * k + 2) (by omega), fc (16 + 7 * k + 3) (by omega)]
      exact ek

theorem upd_m {r : Nat → Int32} {k j : Nat} {v : Int32} (h : j ≠ k) : upd r k v j = r j := pk_un h
/-- the row behind a payment, cell by cell -/
theorem mkP_o {m : Nat} {x : Int32} {r : Nat → Int32} {j : Nat} (h6 : j ≠ 6) (h10 : j ≠ 10) (h15 : j ≠ 15) (h1 : j ≠ 16 + 7 * m + 1) : mkP m x r j = r j := by
  unfold mkP
  rw [entR_n h15, pk_un h1, pk_un h10, pk_un h6]
theorem mkP_6 {m : Nat} {x : Int32} {r : Nat → Int32} : mkP m x r 6 = r 6 - x := by
  unfold mkP
  rw [entR_n (by omega), pk_un (by omega), pk_un (by omega), pk_us]
theorem mkP_10 {m : Nat} {x : Int32} {r : Nat → Int32} : mkP m x r 10 = r 10 + x := by
  unfold mkP
  rw [entR_n (by omega), pk_un (by omega), pk_us]
theorem mkP_1 {m : Nat} {x : Int32} {r : Nat → Int32} : mkP m x r (16 + 7 * m + 1) = r (16 + 7 * m + 1) + x := by
  unfold mkP
  rw [entR_n (by omega), pk_us]
theorem mkP_15 {m k : Nat} {x : Int32} {r : Nat → Int32} (e : r 15 = nI k) (hk : k ≤ 60) (hx : 0 ≤ x) : mkP m x r 15 = nI (entC k x) := by
  unfold mkP
  refine ent15 ?_ hk hx
  rw [pk_un (by omega), pk_un (by omega), pk_un (by omega)]
  exact e
/-- a payment, and the milestone becomes paid if nothing remains -/
theorem RC0.payz {n m : Nat} {r : Nat → Int32} {q : Int64} {i6 i7 i8 : Int32} {i9 i11 : Int64} {i12 i13 i15 i16 i17 i18 i19 : Int32} {kp ky : Nat} {fs fp ff fd fam zs zp : Nat → Int32} {x z12 z13 : Int32} (h : RC0 n r q i6 i7 i8 i9 i11 i12 i13 i15 i16 i17 i18 i19 kp fs fp ff fd fam) (hm : m < n)
    (ho : ¬ 3 ≤ fs m) (hn2 : fs m ≠ 2) (hx0 : 0 ≤ x) (hx1 : x ≤ remR r m) (hx2 : x ≤ avR r n) (hk : ky = entC kp x) (hs : z12 + z13 = i12 + i13 + x) (hp : Upp m (fp m + x) fp zp) (hpd : PaidS m fs zp fam zs) : RC0 n (clR m (mkP m x r)) q i6 i7 (i8 - x) i9 i11 z12 z13 i15 i16 i17 i18 i19 ky zs zp ff fd fam := by
  have hw := h.1
  have hM := h.2.2.2 m hm
  obtain ⟨⟨hn, hkp⟩, ⟨e4, e5, e6, e7, eq, e10, e0, e1, e3, e12, e15⟩, hq⟩ := h.2
  have av := avR_I hw (Nat.le_refl n)
  have z0 : (0 : Int32).toInt = 0 := by decide
  have w1 : WFa n (mkP m x r) q := hw.pay hm (by have := i_le.mp hx0; omega) (i_le.mp hx1) (by have := i_le.mp hx2; omega)
  have hrm : remR (mkP m x r) m = rmC fs zp fam m := by
    unfold remR rmC
    unfold Upp at hp
    rw [mkP_o (by omega) (by omega) (by omega) (by omega), mkP_1, mkP_o (by omega) (by omega) (by omega) (by omega), hM.1, hM.2.1, hM.2.2.1, hp, pk_us]
  have st2 : tI (mkP m x r) (16 + 7 * m + 3) = 0 := by
    unfold tI
    rw [mkP_o (by omega) (by omega) (by omega) (by omega)]
    have eM := hw.2.2.2.2.2.2.2 m hm
    refine eM.2.2.2.2.2.2.2 (fun c => hn2 ?_)
    refine i_inj ?_
    rw [← hM.2.2.1]
    exact c
  have w2 : WFa n (clR m (mkP m x r)) q := by
    unfold clR
    by_cases c : remR (mkP m x r) m = 0
    · rw [if_pos c]; exact w1.st (by decide) (fun _ => st2)
    · rw [if_neg c]; exact w1
  have hc : ∀ j, j ≠ 16 + 7 * m + 2 → clR m (mkP m x r) j = mkP m x r j := fun j hj => by
    unfold clR
    by_cases c : remR (mkP m x r) m = 0
    · rw [if_pos c, pk_un hj]
    · rw [if_neg c]
  have hst : ∀ k, k < n → clR m (mkP m x r) (16 + 7 * k + 2) = zs k := fun k hk => by
    unfold PaidS at hpd
    unfold clR
    by_cases c : remR (mkP m x r) m = 0
    · rw [if_pos c, hpd, if_pos ⟨ho, hrm.symm.trans c⟩]
      by_cases d : k = m
      · subst d; rw [pk_us, pk_us]
      · rw [pk_un (by omega), pk_un d, mkP_o (by omega) (by omega) (by omega) (by omega)]; exact (hq k hk).2.2.1
    · rw [if_neg c, hpd, if_neg (fun z => c (hrm.trans z.2)), mkP_o (by omega) (by omega) (by omega) (by omega)]; exact (hq k hk).2.2.1
  unfold Upp at hp
  refine RC0.mk h w2 (by rw [hk]; exact entC_60 hkp) ?_ ?_ ?_ ?_ eq ?_ ?_ ?_ ?_ ?_ ?_ (fun k hk9 => ?_)
  · rw [hc _ (by omega), mkP_o (by omega) (by omega) (by omega) (by omega)]; exact e4
  · rw [hc _ (by omega), mkP_o (by omega) (by omega) (by omega) (by omega)]; exact e5
  · rw [hc _ (by omega), mkP_6, e6]
  · rw [hc _ (by omega), mkP_o (by omega) (by omega) (by omega) (by omega)]; exact e7
  · rw [hc _ (by omega), mkP_10, e10, hs]
  · rw [hc _ (by omega), mkP_o (by omega) (by omega) (by omega) (by omega)]; exact e0
  · rw [hc _ (by omega), mkP_o (by omega) (by omega) (by omega) (by omega)]; exact e1
  · rw [hc _ (by omega), mkP_o (by omega) (by omega) (by omega) (by omega)]; exact e3
  · rw [hc _ (by omega), mkP_o (by omega) (by omega) (by omega) (by omega)]; exact e12
  · rw [hc _ (by omega), mkP_15 e15 hkp hx0, hk]
  · obtain ⟨a0, a1, a2, a3, a4, a5⟩ := hq k hk9
    refine ⟨?_, ?_, hst k hk9, ?_, ?_, ?_⟩
    · rw [hc _ (by omega), mkP_o (by omega) (by omega) (by omega) (by omega)]
    · rw [hc _ (by omega), hp]
      by_cases d : k = m
      · subst d; rw [mkP_1, pk_us, a1]
      · rw [mkP_o (by omega) (by omega) (by omega) (by omega), pk_un d, a1]
    · rw [hc _ (by omega), mkP_o (by omega) (by omega) (by omega) (by omega)]; exact a3
    · rw [hc _ (by omega), mkP_o (by omega) (by omega) (by omega) (by omega)]; exact a4
    · rw [hc _ (by omega), mkP_o (by omega) (by omega) (by omega) (by omega)]
theorem min_le9 (a b : Int32) : minI a b ≤ a ∧ minI a b ≤ b := by
  have := minI_I a b
  exact ⟨i_le.mpr (by omega), i_le.mpr (by omega)⟩
theorem RC0.pst_y {n i : Nat} {b : Nat → Nat} {ra : Nat → Int32} {q : Int64} {i6 i7 i8 : Int32} {i9 i11 : Int64} {i12 i13 i15 i16 i17 i18 i19 : Int32} {kp ky : Nat} {fs fp ff fd fam zs zp : Nat → Int32} {z12 z13 : Int32} (h : RC0 n (pays n b ra i) q i6 i7 i8 i9 i11 i12 i13 i15 i16 i17 i18 i19 kp fs fp ff fd fam) (hm : b i < n)
    (hr : fs (b i) = 1 ∧ fd (b i) + i17 ≤ i6) (hp0 : 0 < minI (rmC fs fp fam (b i)) (avC i8 ff n)) (hk : ky = entC kp (minI (rmC fs fp fam (b i)) (avC i8 ff n))) (hs : z12 + z13 = i12 + i13 + minI (rmC fs fp fam (b i)) (avC i8 ff n)) (hp : Upp (b i) (fp (b i) + minI (rmC fs fp fam (b i)) (avC i8 ff n)) fp zp) (hpd : PaidS (b i) fs zp fam zs) : RC0 n (pays n b ra (i + 1)) q i6 i7 (i8 - minI (rmC fs fp fam (b i)) (avC i8 ff n)) i9 i11 z12 z13 i15 i16 i17 i18 i19 ky zs zp ff fd fam := by
  obtain ⟨e4, -, -, -, -, -, -, -, e3, -, -⟩ := h.2.2.1
  have hM := h.2.2.2 (b i) hm
  have e1 := h.rm hm
  have e2 := h.av
  have hrip : ripe (pays n b ra i) (b i) := ⟨by rw [hM.2.2.1]; exact hr.1, by rw [hM.2.2.2.2.1, e3, e4]; exact hr.2⟩
  rw [e1, e2] at hp0 hk hs hp ⊢
  show RC0 n (pstep n (b i) (pays n b ra i)) _ _ _ _ _ _ _ _ _ _ _ _ _ _ _ _ _ _ _
  rw [pstep_y hrip hp0]
  have ml := min_le9 (remR (pays n b ra i) (b i)) (avR (pays n b ra i) n)
  exact RC0.payz h hm (by rw [hr.1]; decide) (by rw [hr.1]; decide) (Int32.le_of_lt hp0) ml.1 ml.2 hk hs hp hpd
theorem RC0.pst_n {n i : Nat} {b : Nat → Nat} {ra : Nat → Int32} {q : Int64} {i6 i7 i8 : Int32} {i9 i11 : Int64} {i12 i13 i15 i16 i17 i18 i19 : Int32} {kp : Nat} {fs fp ff fd fam : Nat → Int32} (h : RC0 n (pays n b ra i) q i6 i7 i8 i9 i11 i12 i13 i15 i16 i17 i18 i19 kp fs fp ff fd fam) (hm : b i < n)
    (hn : ¬ ((fs (b i) = 1 ∧ fd (b i) + i17 ≤ i6) ∧ 0 < minI (rmC fs fp fam (b i)) (avC i8 ff n))) : RC0 n (pays n b ra (i + 1)) q i6 i7 i8 i9 i11 i12 i13 i15 i16 i17 i18 i19 kp fs fp ff fd fam := by
  obtain ⟨e4, -, -, -, -, -, -, -, e3, -, -⟩ := h.2.2.1
  have hM := h.2.2.2 (b i) hm
  have e1 := h.rm hm
  have e2 := h.av
  show RC0 n (pstep n (b i) (pays n b ra i)) _ _ _ _ _ _ _ _ _ _ _ _ _ _ _ _ _ _ _
  rw [pstep_n (fun z => hn ?_)]
  · exact h
  · rw [e1, e2]
    refine ⟨⟨?_, ?_⟩, z.2⟩
    · rw [← hM.2.2.1]; exact z.1.1
    · rw [← hM.2.2.2.2.1, ← e3, ← e4]; exact z.1.2

theorem RC0.due_n {n i : Nat} {f : Nat → Int32} {cq : Nat → Nat} {dn : Int32} {ra : Nat → Int32} {q : Int64} {i6 i7 i8 : Int32} {i9 i11 : Int64} {i12 i13 i15 i16 i17 i18 i19 : Int32} {kp : Nat} {fs fp ff fd fam : Nat → Int32} (h : RC0 n (dues f cq dn ra i) q i6 i7 i8 i9 i11 i12 i13 i15 i16 i17 i18 i19 kp fs fp ff fd fam) (hi : i < n) (hn : ¬ (fs i = 0 ∧ hdV (hdG (i12 + i13) (bI (decide (btC i19 (nI i)))) i6 i18 dn) f cq i = true)) : RC0 n (dues f cq dn ra (i + 1)) q i6 i7 i8 i9 i11 i12 i13 i15 i16 i17 i18 i19 kp fs fp ff fd fam := by
  have hM := h.2.2.2 i hi
  have hh := h.hd hi dn
  show RC0 n (dstep f cq dn i (dues f cq dn ra i)) _ _ _ _ _ _ _ _ _ _ _ _ _ _ _ _ _ _ _
  unfold dstep
  rw [if_neg (fun z => hn ⟨by rw [← hM.2.2.1]; exact z.1, by rw [← hh]; exact z.2⟩)]
  exact h
theorem RC0.due_y {n i : Nat} {f : Nat → Int32} {cq : Nat → Nat} {dn : Int32} {ra : Nat → Int32} {q : Int64} {i6 i7 i8 : Int32} {i9 i11 : Int64} {i12 i13 i15 i16 i17 i18 i19 : Int32} {kp : Nat} {fs fp ff fd fam zs zd : Nat → Int32} (h : RC0 n (dues f cq dn ra i) q i6 i7 i8 i9 i11 i12 i13 i15 i16 i17 i18 i19 kp fs fp ff fd fam) (hi : i < n) (c : fs i = 0) (h1 : hdV (hdG (i12 + i13) (bI (decide (btC i19 (nI i)))) i6 i18 dn) f cq i = true) (hu : Upp i 1 fs zs) (hd : Upp i i6 fd zd) : RC0 n (dues f cq dn ra (i + 1)) q i6 i7 i8 i9 i11 i12 i13 i15 i16 i17 i18 i19 kp zs fp ff zd fam := by
  have hM := h.2.2.2 i hi
  have hh := h.hd hi dn
  have hw := h.1
  obtain ⟨⟨hn, hkp⟩, ⟨e4, e5, e6, e7, eq, e10, e0, e1, e3, e12, e15⟩, hq⟩ := h.2
  show RC0 n (dstep f cq dn i (dues f cq dn ra i)) _ _ _ _ _ _ _ _ _ _ _ _ _ _ _ _ _ _ _
  unfold dstep
  rw [if_pos ⟨by rw [hM.2.2.1]; exact c, by rw [hh]; exact h1⟩]
  unfold Upp at hu hd
  generalize dues f cq dn ra i = r at *
  have eM := hw.2.2.2.2.2.2.2 i hi
  have hf : tI r (16 + 7 * i + 3) = 0 := by
    refine eM.2.2.2.2.2.2.2 (fun z => ?_)
    have z2 : (r (16 + 7 * i + 2)).toInt = 2 := z
    rw [hM.2.2.1, c] at z2
    exact absurd z2 (by decide)
  refine RC0.mk h ((hw.st (by decide) (fun _ => hf)).set _ _ (Or.inr (Or.inr (Or.inr (Or.inr (Or.inr ⟨i, Or.inl rfl⟩)))))) hkp ?_ ?_ ?_ ?_ eq ?_ ?_ ?_ ?_ ?_ ?_ (fun k hk => ?_)
  · rw [pk_un (by omega), pk_un (by omega)]; exact e4
  · rw [pk_un (by omega), pk_un (by omega)]; exact e5
  · rw [pk_un (by omega), pk_un (by omega)]; exact e6
  · rw [pk_un (by omega), pk_un (by omega)]; exact e7
  · rw [pk_un (by omega), pk_un (by omega)]; exact e10
  · rw [pk_un (by omega), pk_un (by omega)]; exact e0
  · rw [pk_un (by omega), pk_un (by omega)]; exact e1
  · rw [pk_un (by omega), pk_un (by omega)]; exact e3
  · rw [pk_un (by omega), pk_un (by omega)]; exact e12
  · rw [pk_un (by omega), pk_un (by omega)]; exact e15
  · obtain ⟨a0, a1, a2, a3, a4, a5⟩ := hq k hk
    refine ⟨?_, ?_, ?_, ?_, ?_, ?_⟩
    · rw [pk_un (by omega), pk_un (by omega)]
    · rw [pk_un (by omega), pk_un (by omega)]; exact a1
    · rw [pk_un (by omega), hu]
      by_cases d : k = i
      · subst d; rw [pk_us, pk_us]
      · rw [pk_un (by omega), pk_un d]; exact a2
    · rw [pk_un (by omega), pk_un (by omega)]; exact a3
    · rw [hd]
      by_cases d : k = i
      · subst d; rw [pk_us, pk_us]; exact e4
      · rw [pk_un (by omega), pk_un (by omega), pk_un d]; exact a4
    · rw [pk_un (by omega), pk_un (by omega)]
/-- what was credited leaves room for a credit more -/
def Cap0 (r : Nat → Int32) : Prop := tI r 8 ≤ 1000000000
theorem Cap0.day {r : Nat → Int32} {v : Int32} (h : Cap0 r) : Cap0 (upd r 4 v) := by
  unfold Cap0 tI
  rw [pk_un (by omega)]
  exact h
theorem pqQ_toInt {n : Nat} {r : Nat → Int32} {q : Int64} (h : WFa n r q) (hc : Cap0 r) : (pqQ q r).toInt = q.toInt + (tI r 6 + tI r 7) * tI r 0 ∧ (r 6 + r 7).toInt64.toInt = tI r 6 + tI r 7 := by
  obtain ⟨a0, a1, a4, a6, a7, aQ, aS, aM⟩ := h
  unfold Cap0 at hc
  have e : (r 6 + r 7).toInt = tI r 6 + tI r 7 := i_add (by show _ ≤ tI r 6 + tI r 7; omega) (by show tI r 6 + tI r 7 ≤ _; omega)
  have b1 : 0 ≤ (tI r 6 + tI r 7) * tI r 0 := Int.mul_nonneg (by omega) (by omega)
  have b2 : (tI r 6 + tI r 7) * tI r 0 ≤ 1009999999 * 3000 := Int.mul_le_mul (by omega) (by omega) (by omega) (by decide)
  have m : ((r 6 + r 7).toInt64 * (r 0).toInt64).toInt = (tI r 6 + tI r 7) * tI r 0 := by
    have z : (r 0).toInt = tI r 0 := rfl
    rw [l_mul (by rw [i_w, i_w, e, z]; omega) (by rw [i_w, i_w, e, z]; omega), i_w, i_w, e, z]
  refine ⟨?_, by rw [i_w, e]⟩
  unfold pqQ
  rw [l_add (by rw [m]; omega) (by rw [m]; omega), m]
