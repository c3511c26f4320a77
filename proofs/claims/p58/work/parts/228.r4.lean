theorem RC0.dep_a {n : Nat} {r : Nat → Int32} {q : Int64} {i6 i7 i8 : Int32} {i9 i11 : Int64} {i12 i13 i15 i16 i17 i18 i19 : Int32} {kp : Nat} {fs fp ff fd fam : Nat → Int32} {x : Int32} (h : RC0 n r q i6 i7 i8 i9 i11 i12 i13 i15 i16 i17 i18 i19 kp fs fp ff fd fam) (g : 1 ≤ x ∧ x ≤ 99999) (hc : i7 + x ≤ 9999999) : AcDep r x := by
  have g1 := i_le.mp g.1
  have g2 := i_le.mp g.2
  rw [z_1] at g1
  rw [z_99999] at g2
  have hw := h.1
  obtain ⟨⟨hn, hkp⟩, ⟨e4, e5, e6, e7, eq, e10, e0, e1, e3, e12, e15⟩, hq⟩ := h.2
  obtain ⟨a0, a1, a4, a6, a7, aQ, aS, aM⟩ := h.1
  have s5 : (r 5 + x).toInt = tI r 5 + x.toInt := i_add (by show _ ≤ tI r 5 + _; omega) (by show tI r 5 + _ ≤ _; omega)
  have hc2 := i_le.mp hc
  rw [z_9999999, ← e5, s5] at hc2
  refine ⟨⟨w1_le.mpr g.1, w5_le.mpr g.2⟩, l_le.mpr ?_⟩
  rw [zl_9999999, l_add (by rw [i_w, i_w]; show _ ≤ tI r 5 + _; omega) (by rw [i_w, i_w]; show tI r 5 + _ ≤ _; omega), i_w, i_w]
  exact hc2

theorem RC0.dep_r1 {r : Nat → Int32} {x : Int32} (g : ¬ (1 ≤ x ∧ x ≤ 99999)) : ¬ AcDep r x := fun q => g ⟨w1_le.mp q.1.1, w5_le.mp q.1.2⟩

theorem RC0.dep_r2 {n : Nat} {r : Nat → Int32} {q : Int64} {i6 i7 i8 : Int32} {i9 i11 : Int64} {i12 i13 i15 i16 i17 i18 i19 : Int32} {kp : Nat} {fs fp ff fd fam : Nat → Int32} {x : Int32} (h : RC0 n r q i6 i7 i8 i9 i11 i12 i13 i15 i16 i17 i18 i19 kp fs fp ff fd fam) (g : 1 ≤ x ∧ x ≤ 99999) (hc : 9999999 < i7 + x) : ¬ AcDep r x := by
  have g1 := i_le.mp g.1
  have g2 := i_le.mp g.2
  rw [z_1] at g1
  rw [z_99999] at g2
  have hw := h.1
  obtain ⟨⟨hn, hkp⟩, ⟨e4, e5, e6, e7, eq, e10, e0, e1, e3, e12, e15⟩, hq⟩ := h.2
  obtain ⟨a0, a1, a4, a6, a7, aQ, aS, aM⟩ := h.1
  intro q9
  have s5 : (r 5 + x).toInt = tI r 5 + x.toInt := i_add (by show _ ≤ tI r 5 + _; omega) (by show tI r 5 + _ ≤ _; omega)
  have hc2 := i_lt.mp hc
  rw [z_9999999, ← e5, s5] at hc2
  have q2 := l_le.mp q9.2
  rw [zl_9999999, l_add (by rw [i_w, i_w]; show _ ≤ tI r 5 + _; omega) (by rw [i_w, i_w]; show tI r 5 + _ ≤ _; omega), i_w, i_w] at q2
  have q3 : tI r 5 + x.toInt ≤ 9999999 := q2
  omega

theorem RC0.dep {n : Nat} {r : Nat → Int32} {q : Int64} {i6 i7 i8 : Int32} {i9 i11 : Int64} {i12 i13 i15 i16 i17 i18 i19 : Int32} {kp : Nat} {fs fp ff fd fam : Nat → Int32} {x : Int32} {ky : Nat} (h : RC0 n r q i6 i7 i8 i9 i11 i12 i13 i15 i16 i17 i18 i19 kp fs fp ff fd fam) (g : 1 ≤ x ∧ x ≤ 99999) (hc : i7 + x ≤ 9999999) (hk : ky = entC kp x) : RC0 n (depR x r) q i6 (i7 + x) (i8 + x) i9 i11 i12 i13 i15 i16 i17 i18 i19 ky fs fp ff fd fam := by
  have g1 := i_le.mp g.1
  have g2 := i_le.mp g.2
  rw [z_1] at g1
  rw [z_99999] at g2
  have hw := h.1
  obtain ⟨⟨hn, hkp⟩, ⟨e4, e5, e6, e7, eq, e10, e0, e1, e3, e12, e15⟩, hq⟩ := h.2
  obtain ⟨a0, a1, a4, a6, a7, aQ, aS, aM⟩ := h.1
  have s5 : (r 5 + x).toInt = tI r 5 + x.toInt := i_add (by show _ ≤ tI r 5 + _; omega) (by show tI r 5 + _ ≤ _; omega)
  have s6 : (r 6 + x).toInt = tI r 6 + x.toInt := i_add (by show _ ≤ tI r 6 + _; omega) (by show tI r 6 + _ ≤ _; omega)
  have hc2 := i_le.mp hc
  rw [z_9999999, ← e5, s5] at hc2
  have x0 : 0 ≤ x := i_le.mpr (by rw [z_0]; omega)
  have f5 : depR x r 5 = r 5 + x := (entR_n (by omega)).trans ((pk_un (by omega)).trans pk_us)
  have f6 : depR x r 6 = r 6 + x := (entR_n (by omega)).trans pk_us
  have fo : ∀ j, j ≠ 5 → j ≠ 6 → j ≠ 15 → depR x r j = r j := fun j h5 h6 h15 => (entR_n h15).trans ((pk_un h6).trans (pk_un h5))
  have w2 : WFa n (depR x r) q := by
    refine hw.sc (fun m i _ _ => fo _ (by omega) (by omega) (by omega)) ?_ ?_ ?_ ?_ ?_ ?_ ?_
    · rw [tI_c (fo 0 (by omega) (by omega) (by omega))]; exact a0
    · rw [tI_c (fo 1 (by omega) (by omega) (by omega))]; exact a1
    · rw [tI_c (fo 4 (by omega) (by omega) (by omega))]; exact a4
    · rw [tI_v f6, tI_v f5, s6, s5]; omega
    · rw [tI_c (fo 7 (by omega) (by omega) (by omega)), tI_c (fo 8 (by omega) (by omega) (by omega))]; exact a7
    · rw [tI_c (fo 8 (by omega) (by omega) (by omega))]; exact aQ
    · rw [tI_v f6, s6]; omega
  exact RC0.mk h w2 (by rw [hk]; exact entC_60 hkp) ((fo 4 (by omega) (by omega) (by omega)).trans e4) (f5.trans (by rw [e5])) (f6.trans (by rw [e6])) (by rw [fo 7 (by omega) (by omega) (by omega)]; exact e7) eq ((fo 10 (by omega) (by omega) (by omega)).trans e10) ((fo 0 (by omega) (by omega) (by omega)).trans e0) ((fo 1 (by omega) (by omega) (by omega)).trans e1) ((fo 3 (by omega) (by omega) (by omega)).trans e3) ((fo 12 (by omega) (by omega) (by omega)).trans e12) (by rw [hk]; exact ent15 (((pk_un (by omega)).trans (pk_un (by omega))).trans e15) hkp x0) (fun m hm => by
    obtain ⟨b0, b1, b2, b3, b4, b5⟩ := hq m hm
    exact ⟨fo _ (by omega) (by omega) (by omega), (fo _ (by omega) (by omega) (by omega)).trans b1, (fo _ (by omega) (by omega) (by omega)).trans b2, (fo _ (by omega) (by omega) (by omega)).trans b3, (fo _ (by omega) (by omega) (by omega)).trans b4, fo _ (by omega) (by omega) (by omega)⟩)

theorem RC0.gra {n : Nat} {r : Nat → Int32} {q : Int64} {i6 i7 i8 : Int32} {i9 i11 : Int64} {i12 i13 i15 i16 i17 i18 i19 : Int32} {kp : Nat} {fs fp ff fd fam : Nat → Int32} {x : Int32} (h : RC0 n r q i6 i7 i8 i9 i11 i12 i13 i15 i16 i17 i18 i19 kp fs fp ff fd fam) : RC0 n (graR x r) q i6 i7 i8 i9 i11 i12 i13 i15 i16 x i18 i19 kp fs fp ff fd fam := by
  have hw := h.1
  obtain ⟨⟨hn, hkp⟩, ⟨e4, e5, e6, e7, eq, e10, e0, e1, e3, e12, e15⟩, hq⟩ := h.2
  obtain ⟨a0, a1, a4, a6, a7, aQ, aS, aM⟩ := h.1
  have fo : ∀ j, j ≠ 3 → graR x r j = r j := fun j h3 => pk_un h3
  exact RC0.mk h (hw.set 3 x (by omega)) hkp ((fo 4 (by omega)).trans e4) ((fo 5 (by omega)).trans e5) ((fo 6 (by omega)).trans e6) (by rw [fo 7 (by omega)]; exact e7) eq ((fo 10 (by omega)).trans e10) ((fo 0 (by omega)).trans e0) ((fo 1 (by omega)).trans e1) pk_us ((fo 12 (by omega)).trans e12) ((fo 15 (by omega)).trans e15) (fun m hm => by
    obtain ⟨b0, b1, b2, b3, b4, b5⟩ := hq m hm
    exact ⟨fo _ (by omega), (fo _ (by omega)).trans b1, (fo _ (by omega)).trans b2, (fo _ (by omega)).trans b3, (fo _ (by omega)).trans b4, fo _ (by omega)⟩)

theorem RC0.sub {n : Nat} {r : Nat → Int32} {q : Int64} {i6 i7 i8 : Int32} {i9 i11 : Int64} {i12 i13 i15 i16 i17 i18 i19 : Int32} {kp : Nat} {fs fp ff fd fam : Nat → Int32} {k : Nat} (h : RC0 n r q i6 i7 i8 i9 i11 i12 i13 i15 i16 i17 i18 i19 kp fs fp ff fd fam) : RC0 n (subR k r) q i6 i7 i8 i9 i11 i12 i13 i15 i16 i17 (i18 ||| (1 : Int32) <<< (nI k &&& 31)) i19 kp fs fp ff fd fam := by
  have hw := h.1
  obtain ⟨⟨hn, hkp⟩, ⟨e4, e5, e6, e7, eq, e10, e0, e1, e3, e12, e15⟩, hq⟩ := h.2
  obtain ⟨a0, a1, a4, a6, a7, aQ, aS, aM⟩ := h.1
  have fo : ∀ j, j ≠ 12 → subR k r j = r j := fun j h3 => pk_un h3
  exact RC0.mk h (hw.set 12 _ (by omega)) hkp ((fo 4 (by omega)).trans e4) ((fo 5 (by omega)).trans e5) ((fo 6 (by omega)).trans e6) (by rw [fo 7 (by omega)]; exact e7) eq ((fo 10 (by omega)).trans e10) ((fo 0 (by omega)).trans e0) ((fo 1 (by omega)).trans e1) ((fo 3 (by omega)).trans e3) ((pk_us (f := r) (k := 12)).trans (by rw [e12])) ((fo 15 (by omega)).trans e15) (fun m hm => by
    obtain ⟨b0, b1, b2, b3, b4, b5⟩ := hq m hm
    exact ⟨fo _ (by omega), (fo _ (by omega)).trans b1, (fo _ (by omega)).trans b2, (fo _ (by omega)).trans b3, (fo _ (by omega)).trans b4, fo _ (by omega)⟩)

theorem RC0.rat {n : Nat} {r : Nat → Int32} {q : Int64} {i6 i7 i8 : Int32} {i9 i11 : Int64} {i12 i13 i15 i16 i17 i18 i19 : Int32} {kp : Nat} {fs fp ff fd fam : Nat → Int32} {a b : Int32} (h : RC0 n r q i6 i7 i8 i9 i11 i12 i13 i15 i16 i17 i18 i19 kp fs fp ff fd fam) (g : 0 ≤ a ∧ a ≤ 3000) (hb : b.toInt64 = 360 ∨ b.toInt64 = 365) : RC0 n (ratR a b r) q i6 i7 i8 i9 i11 i12 i13 a b i17 i18 i19 kp fs fp ff fd fam := by
  have hw := h.1
  obtain ⟨⟨hn, hkp⟩, ⟨e4, e5, e6, e7, eq, e10, e0, e1, e3, e12, e15⟩, hq⟩ := h.2
  obtain ⟨a0, a1, a4, a6, a7, aQ, aS, aM⟩ := h.1
  have g1 := i_le.mp g.1
  have g2 := i_le.mp g.2
  rw [z_0] at g1
  rw [z_3000] at g2
  have b1 : 360 ≤ b.toInt ∧ b.toInt ≤ 365 := by
    rcases bas_or hb with e | e
    · rw [e]; decide
    · rw [e]; decide
  have f0 : ratR a b r 0 = a := (pk_un (by omega)).trans pk_us
  have f1 : ratR a b r 1 = b := pk_us
  have fo : ∀ j, j ≠ 0 → j ≠ 1 → ratR a b r j = r j := fun j h0 h1 => (pk_un h1).trans (pk_un h0)
  have w2 : WFa n (ratR a b r) q := by
    refine hw.sc (fun m i _ _ => fo _ (by omega) (by omega)) ?_ ?_ ?_ ?_ ?_ ?_ ?_
    · rw [tI_v f0]; omega
    · rw [tI_v f1]; exact b1
    · rw [tI_c (fo 4 (by omega) (by omega))]; exact a4
    · rw [tI_c (fo 6 (by omega) (by omega)), tI_c (fo 5 (by omega) (by omega))]; exact a6
    · rw [tI_c (fo 7 (by omega) (by omega)), tI_c (fo 8 (by omega) (by omega))]; exact a7
    · rw [tI_c (fo 8 (by omega) (by omega))]; exact aQ
    · rw [tI_c (fo 6 (by omega) (by omega))]; exact aS
  exact RC0.mk h w2 hkp ((fo 4 (by omega) (by omega)).trans e4) ((fo 5 (by omega) (by omega)).trans e5) ((fo 6 (by omega) (by omega)).trans e6) (by rw [fo 7 (by omega) (by omega)]; exact e7) eq ((fo 10 (by omega) (by omega)).trans e10) f0 f1 ((fo 3 (by omega) (by omega)).trans e3) ((fo 12 (by omega) (by omega)).trans e12) ((fo 15 (by omega) (by omega)).trans e15) (fun m hm => by
    obtain ⟨b0, b1, b2, b3, b4, b5⟩ := hq m hm
    exact ⟨fo _ (by omega) (by omega), (fo _ (by omega) (by omega)).trans b1, (fo _ (by omega) (by omega)).trans b2, (fo _ (by omega) (by omega)).trans b3, (fo _ (by omega) (by omega)).trans b4, fo _ (by omega) (by omega)⟩)

theorem RC0.pin_a {n : Nat} {r : Nat → Int32} {q : Int64} {i6 i7 i8 : Int32} {i9 i11 : Int64} {i12 i13 i15 i16 i17 i18 i19 : Int32} {kp : Nat} {fs fp ff fd fam : Nat → Int32} {x : Int32} (h : RC0 n r q i6 i7 i8 i9 i11 i12 i13 i15 i16 i17 i18 i19 kp fs fp ff fd fam) (g : 1 ≤ x) (c : lg_cmp (x.toInt64) i9 ≤ 0) : AcPin r x := by
  refine ⟨w1_le.mpr g, ?_⟩
  rw [h.2.2.1.2.2.2.1]
  exact (lg_cmp_le _ _).mp c

theorem RC0.pin_r1 {r : Nat → Int32} {x : Int32} (c : x < 1) : ¬ AcPin r x := fun q => absurd c (Int32.not_lt.mpr (w1_le.mp q.1))

theorem RC0.pin_r2 {n : Nat} {r : Nat → Int32} {q : Int64} {i6 i7 i8 : Int32} {i9 i11 : Int64} {i12 i13 i15 i16 i17 i18 i19 : Int32} {kp : Nat} {fs fp ff fd fam : Nat → Int32} {x : Int32} (h : RC0 n r q i6 i7 i8 i9 i11 i12 i13 i15 i16 i17 i18 i19 kp fs fp ff fd fam) (c : ¬ lg_cmp (x.toInt64) i9 ≤ 0) : ¬ AcPin r x := by
  intro q9
  have q2 := q9.2
  rw [h.2.2.1.2.2.2.1] at q2
  exact c ((lg_cmp_le _ _).mpr q2)

theorem RC0.pin {n : Nat} {r : Nat → Int32} {q : Int64} {i6 i7 i8 : Int32} {i9 i11 : Int64} {i12 i13 i15 i16 i17 i18 i19 : Int32} {kp : Nat} {fs fp ff fd fam : Nat → Int32} {x : Int32} {ky : Nat} (h : RC0 n r q i6 i7 i8 i9 i11 i12 i13 i15 i16 i17 i18 i19 kp fs fp ff fd fam) (g : 1 ≤ x) (c : lg_cmp (x.toInt64) i9 ≤ 0) (hk : ky = entC kp x) : RC0 n (pinR x r) q i6 i7 i8 (i9 - x.toInt64) i11 i12 i13 i15 i16 i17 i18 i19 ky fs fp ff fd fam := by
  have hw := h.1
  obtain ⟨⟨hn, hkp⟩, ⟨e4, e5, e6, e7, eq, e10, e0, e1, e3, e12, e15⟩, hq⟩ := h.2
  obtain ⟨a0, a1, a4, a6, a7, aQ, aS, aM⟩ := h.1
  have g1 := i_le.mp g
  rw [z_1] at g1
  have c2 : x.toInt ≤ tI r 7 := by
    have z := l_le.mp ((lg_cmp_le _ _).mp c)
    rw [← e7, i_w, i_w] at z
    exact z
  have x0 : 0 ≤ x := i_le.mpr (by rw [z_0]; omega)
  have s7 : (r 7 - x).toInt = tI r 7 - x.toInt := i_sub (by show _ ≤ tI r 7 - _; omega) (by show tI r 7 - _ ≤ _; omega)
  have f7 : pinR x r 7 = r 7 - x := (entR_n (by omega)).trans pk_us
  have fo : ∀ j, j ≠ 7 → j ≠ 15 → pinR x r j = r j := fun j h7 h15 => (entR_n h15).trans (pk_un h7)
  have w2 : WFa n (pinR x r) q := by
    refine hw.sc (fun m i _ _ => fo _ (by omega) (by omega)) ?_ ?_ ?_ ?_ ?_ ?_ ?_
    · rw [tI_c (fo 0 (by omega) (by omega))]; exact a0
    · rw [tI_c (fo 1 (by omega) (by omega))]; exact a1
    · rw [tI_c (fo 4 (by omega) (by omega))]; exact a4
    · rw [tI_c (fo 6 (by omega) (by omega)), tI_c (fo 5 (by omega) (by omega))]; exact a6
    · rw [tI_v f7, s7, tI_c (fo 8 (by omega) (by omega))]; omega
    · rw [tI_c (fo 8 (by omega) (by omega))]; exact aQ
    · rw [tI_c (fo 6 (by omega) (by omega))]; exact aS
  have n7 : (pinR x r 7).toInt64 = i9 - x.toInt64 := by
    rw [f7, ← e7]
    refine l_inj ?_
    rw [i_w, s7, l_sub (by rw [i_w, i_w]; show _ ≤ tI r 7 - _; omega) (by rw [i_w, i_w]; show tI r 7 - _ ≤ _; omega), i_w, i_w]
    rfl
  exact RC0.mk h w2 (by rw [hk]; exact entC_60 hkp) ((fo 4 (by omega) (by omega)).trans e4) ((fo 5 (by omega) (by omega)).trans e5) ((fo 6 (by omega) (by omega)).trans e6) n7 eq ((fo 10 (by omega) (by omega)).trans e10) ((fo 0 (by omega) (by omega)).trans e0) ((fo 1 (by omega) (by omega)).trans e1) ((fo 3 (by omega) (by omega)).trans e3) ((fo 12 (by omega) (by omega)).trans e12) (by rw [hk]; exact ent15 ((pk_un (by omega)).trans e15) hkp x0) (fun m hm => by
    obtain ⟨b0, b1, b2, b3, b4, b5⟩ := hq m hm
    exact ⟨fo _ (by omega) (by omega), (fo _ (by omega) (by omega)).trans b1, (fo _ (by omega) (by omega)).trans b2, (fo _ (by omega) (by omega)).trans b3, (fo _ (by omega) (by omega)).trans b4, fo _ (by omega) (by omega)⟩)

theorem btC_bt {x : Int32} {m : Nat} (hm : m < 31) : btC x (nI m) ↔ bt x m = true := by
  have e : (x.toUInt32 >>> ((nI m).toUInt32 &&& Int32.toUInt32 31)).toInt32 &&& 1 = (if bt x m = true then 1 else 0) := by
    apply b_ext
    intro i hi
    rw [b_and, b_ushr m (by omega)]
    cases i with
    | zero =>
      rw [Nat.add_zero]
      cases h : bt x m
      · rw [Bool.false_and, if_neg (by decide)]; rfl
      · rw [Bool.true_and, if_pos rfl]
    | succ i =>
      have z : bt 1 (i + 1) = false := by
        unfold bt
        rw [show (1 : Int32) = nI 1 from rfl, nI_bt _ _ hi, Nat.testBit_succ, show 1 / 2 = 0 by decide, Nat.zero_testBit]
      rw [z, Bool.and_false]
      by_cases h : bt x m = true
      · rw [if_pos h, z]
      · rw [if_neg h, b_0]
  unfold btC
  rw [e]
  by_cases h : bt x m = true
  · rw [if_pos h]; exact ⟨fun _ => h, fun _ => rfl⟩
  · rw [if_neg h]; exact ⟨fun q => absurd q (by decide), fun q => absurd q h⟩
theorem bt_1 {i : Nat} (hi : i < 32) : bt 1 i = decide (i = 0) := by
  unfold bt
  rw [show (1 : Int32) = nI 1 from rfl, nI_bt _ _ hi]
  cases i with
  | zero => rfl
  | succ i => rw [Nat.testBit_succ, show 1 / 2 = 0 by decide, Nat.zero_testBit, decide_eq_false (by omega)]
theorem btC_or {x : Int32} {k m : Nat} (hk : k < 31) (hm : m < 31) : btC (x ||| (1 : Int32) <<< (nI k &&& 31)) (nI m) ↔ (m = k ∨ btC x (nI m)) := by
  rw [btC_bt hm, btC_bt hm, b_or, b_shl k (by omega) 1 (by omega), bt_1 (by omega), Bool.or_eq_true, Bool.and_eq_true, decide_eq_true_iff, decide_eq_true_iff]
  refine ⟨fun z => z.elim Or.inr (fun z => Or.inl (by omega)), fun z => z.elim (fun z => Or.inr (by omega)) Or.inl⟩

theorem RC0.app_a {n : Nat} {r : Nat → Int32} {q : Int64} {i6 i7 i8 : Int32} {i9 i11 : Int64} {i12 i13 i15 i16 i17 i18 i19 : Int32} {kp : Nat} {fs fp ff fd fam : Nat → Int32} {k : Nat} (h : RC0 n r q i6 i7 i8 i9 i11 i12 i13 i15 i16 i17 i18 i19 kp fs fp ff fd fam) (hm : k < n) (g : ¬ 3 ≤ fs k) : AcApp r k := by
  unfold AcApp
  rw [(h.2.2.2 k hm).2.2.1]
  exact g

theorem RC0.app_r {n : Nat} {r : Nat → Int32} {q : Int64} {i6 i7 i8 : Int32} {i9 i11 : Int64} {i12 i13 i15 i16 i17 i18 i19 : Int32} {kp : Nat} {fs fp ff fd fam : Nat → Int32} {k : Nat} (h : RC0 n r q i6 i7 i8 i9 i11 i12 i13 i15 i16 i17 i18 i19 kp fs fp ff fd fam) (hm : k < n) (g : 3 ≤ fs k) : ¬ AcApp r k := by
  unfold AcApp
  rw [(h.2.2.2 k hm).2.2.1]
  exact fun z => z g

theorem RC0.app {n : Nat} {r : Nat → Int32} {q : Int64} {i6 i7 i8 : Int32} {i9 i11 : Int64} {i12 i13 i15 i16 i17 i18 i19 : Int32} {kp : Nat} {fs fp ff fd fam : Nat → Int32} {k : Nat} (h : RC0 n r q i6 i7 i8 i9 i11 i12 i13 i15 i16 i17 i18 i19 kp fs fp ff fd fam) (hm : k < n) (h31 : k < 31) : RC0 n (appR k r) q i6 i7 i8 i9 i11 i12 i13 i15 i16 i17 i18 (i19 ||| (1 : Int32) <<< (nI k &&& 31)) kp fs fp ff fd fam := by
  have hw := h.1
  obtain ⟨⟨hn, hkp⟩, ⟨e4, e5, e6, e7, eq, e10, e0, e1, e3, e12, e15⟩, hq⟩ := h.2
  obtain ⟨a0, a1, a4, a6, a7, aQ, aS, aM⟩ := h.1
  have fo : ∀ j, j ≠ 16 + 7 * k + 5 → appR k r j = r j := fun j hj => pk_un hj
  refine ⟨hw.set _ _ (Or.inr (Or.inr (Or.inr (Or.inr (Or.inr ⟨k, Or.inr rfl⟩))))), ⟨hn, hkp⟩, ⟨(fo 4 (by omega)).trans e4, (fo 5 (by omega)).trans e5, (fo 6 (by omega)).trans e6, (by rw [fo 7 (by omega)]; exact e7), eq, (fo 10 (by omega)).trans e10, (fo 0 (by omega)).trans e0, (fo 1 (by omega)).trans e1, (fo 3 (by omega)).trans e3, (fo 12 (by omega)).trans e12, (fo 15 (by omega)).trans e15⟩, fun m hm9 => ?_⟩
  obtain ⟨b0, b1, b2, b3, b4, b5⟩ := hq m hm9
  refine ⟨(fo _ (by omega)).trans b0, (fo _ (by omega)).trans b1, (fo _ (by omega)).trans b2, (fo _ (by omega)).trans b3, (fo _ (by omega)).trans b4, ?_⟩
  by_cases d : m = k
  · subst d
    rw [show appR m r (16 + 7 * m + 5) = 1 from pk_us, bI_t ((btC_or h31 h31).mpr (Or.inl rfl))]
  · rw [fo _ (by omega), b5]
    by_cases c : btC i19 (nI m)
    · rw [bI_t c, bI_t ((btC_or h31 (by omega)).mpr (Or.inr c))]
    · rw [bI_f c, bI_f (fun z => c (((btC_or h31 (by omega)).mp z).resolve_left d))]

theorem RC0.opn_a {n : Nat} {r : Nat → Int32} {q : Int64} {i6 i7 i8 : Int32} {i9 i11 : Int64} {i12 i13 i15 i16 i17 i18 i19 : Int32} {kp : Nat} {fs fp ff fd fam : Nat → Int32} {k : Nat} (h : RC0 n r q i6 i7 i8 i9 i11 i12 i13 i15 i16 i17 i18 i19 kp fs fp ff fd fam) (hm : k < n) (g : fs k = 0 ∨ fs k = 1) : AcOpn r k := by
  unfold AcOpn
  rw [(h.2.2.2 k hm).2.2.1]
  rcases g with g | g
  · rw [g]; decide
  · rw [g]; decide

theorem RC0.opn_r {n : Nat} {r : Nat → Int32} {q : Int64} {i6 i7 i8 : Int32} {i9 i11 : Int64} {i12 i13 i15 i16 i17 i18 i19 : Int32} {kp : Nat} {fs fp ff fd fam : Nat → Int32} {k : Nat} (h : RC0 n r q i6 i7 i8 i9 i11 i12 i13 i15 i16 i17 i18 i19 kp fs fp ff fd fam) (hm : k < n) (g : ¬ (fs k = 0 ∨ fs k = 1)) : ¬ AcOpn r k := by
  intro z
  unfold AcOpn at z
  have z1 := i_le.mp z
  rw [z_1] at z1
  have eM := (h.1.2.2.2.2.2.2.2 k hm).2.2.2.2.1
  have e2 : tI r (16 + 7 * k + 2) = (r (16 + 7 * k + 2)).toInt := rfl
  have e3 := (h.2.2.2 k hm).2.2.1
  refine g ?_
  rw [← e3]
  by_cases c : (r (16 + 7 * k + 2)).toInt = 0
  · exact Or.inl (i_inj (by rw [z_0]; exact c))
  · exact Or.inr (i_inj (by rw [z_1]; omega))

theorem RC0.dsp_a {n : Nat} {r : Nat → Int32} {q : Int64} {i6 i7 i8 : Int32} {i9 i11 : Int64} {i12 i13 i15 i16 i17 i18 i19 : Int32} {kp : Nat} {fs fp ff fd fam : Nat → Int32} {k : Nat} (h : RC0 n r q i6 i7 i8 i9 i11 i12 i13 i15 i16 i17 i18 i19 kp fs fp ff fd fam) (hm : k < n) (g : fs k = 2) : AcDis r k := by
  unfold AcDis
  rw [(h.2.2.2 k hm).2.2.1]
  exact g

theorem RC0.dsp_r {n : Nat} {r : Nat → Int32} {q : Int64} {i6 i7 i8 : Int32} {i9 i11 : Int64} {i12 i13 i15 i16 i17 i18 i19 : Int32} {kp : Nat} {fs fp ff fd fam : Nat → Int32} {k : Nat} (h : RC0 n r q i6 i7 i8 i9 i11 i12 i13 i15 i16 i17 i18 i19 kp fs fp ff fd fam) (hm : k < n) (g : ¬ fs k = 2) : ¬ AcDis r k := by
  unfold AcDis
  rw [(h.2.2.2 k hm).2.2.1]
  exact g

theorem RC0.fz0 {n : Nat} {r : Nat → Int32} {q : Int64} {i6 i7 i8 : Int32} {i9 i11 : Int64} {i12 i13 i15 i16 i17 i18 i19 : Int32} {kp : Nat} {fs fp ff fd fam : Nat → Int32} {k : Nat} (h : RC0 n r q i6 i7 i8 i9 i11 i12 i13 i15 i16 i17 i18 i19 kp fs fp ff fd fam) (hm : k < n) (g : fs k ≠ 2) : tI r (16 + 7 * k + 3) = 0 := by
  have eM := h.1.2.2.2.2.2.2.2 k hm
  refine eM.2.2.2.2.2.2.2 (fun c => g (i_inj ?_))
  rw [← (h.2.2.2 k hm).2.2.1]
  exact c

theorem RC0.dis {n : Nat} {r : Nat → Int32} {q : Int64} {i6 i7 i8 : Int32} {i9 i11 : Int64} {i12 i13 i15 i16 i17 i18 i19 : Int32} {kp : Nat} {fs fp ff fd fam : Nat → Int32} {k : Nat} {zs zf : Nat → Int32} (h : RC0 n r q i6 i7 i8 i9 i11 i12 i13 i15 i16 i17 i18 i19 kp fs fp ff fd fam) (hm : k < n) (g : fs k = 0 ∨ fs k = 1) (hu : Upp k 2 fs zs) (hf : Upp k (minI (rmC fs fp fam k) (avC i8 ff n)) ff zf) : RC0 n (disR n k r) q i6 i7 i8 i9 i11 i12 i13 i15 i16 i17 i18 i19 kp zs fp zf fd fam := by
  have rm := h.rm hm
  have av := h.av
  have z3 := h.fz0 hm (fun c => by rcases g with g | g <;> (rw [g] at c; exact absurd c (by decide)))
  have hw := h.1
  obtain ⟨⟨hn, hkp⟩, ⟨e4, e5, e6, e7, eq, e10, e0, e1, e3, e12, e15⟩, hq⟩ := h.2
  obtain ⟨a0, a1, a4, a6, a7, aQ, aS, aM⟩ := h.1
  unfold Upp at hu hf
  rw [rm, av] at hf
  have rI := remR_I hw hm
  have aI := avR_I hw (Nat.le_refl n)
  have mI := minI_I (remR r k) (avR r n)
  have f2 : disR n k r (16 + 7 * k + 2) = 2 := pk_us
  have f3 : disR n k r (16 + 7 * k + 3) = minI (remR r k) (avR r n) := (pk_un (by omega)).trans pk_us
  have fo : ∀ j, j ≠ 16 + 7 * k + 3 → j ≠ 16 + 7 * k + 2 → disR n k r j = r j := fun j h3 h2 => (pk_un h2).trans (pk_un h3)
  have w2 : WFa n (disR n k r) q := by
    refine hw.fs hm fo ?_ ?_ ?_ ?_
    · rw [tI_v f3, mI]; omega
    · rw [tI_v f3, mI, z3]; omega
    · rw [tI_v f2, z_2]; omega
    · rw [tI_v f2]; exact fun c => absurd z_2 c
  exact RC0.mk h w2 hkp ((fo 4 (by omega) (by omega)).trans e4) ((fo 5 (by omega) (by omega)).trans e5) ((fo 6 (by omega) (by omega)).trans e6) (by rw [fo 7 (by omega) (by omega)]; exact e7) eq ((fo 10 (by omega) (by omega)).trans e10) ((fo 0 (by omega) (by omega)).trans e0) ((fo 1 (by omega) (by omega)).trans e1) ((fo 3 (by omega) (by omega)).trans e3) ((fo 12 (by omega) (by omega)).trans e12) ((fo 15 (by omega) (by omega)).trans e15) (fun m hm9 => by
    obtain ⟨b0, b1, b2, b3, b4, b5⟩ := hq m hm9
    refine ⟨fo _ (by omega) (by omega), (fo _ (by omega) (by omega)).trans b1, ?_, ?_, (fo _ (by omega) (by omega)).trans b4, fo _ (by omega) (by omega)⟩
    · by_cases d : m = k
      · subst d; rw [f2, hu, pk_us]
      · rw [fo _ (by omega) (by omega), hu, pk_un d]; exact b2
    · by_cases d : m = k
      · subst d; rw [f3, hf, pk_us]
      · rw [fo _ (by omega) (by omega), hf, pk_un d]; exact b3)

theorem RC0.wdr {n : Nat} {r : Nat → Int32} {q : Int64} {i6 i7 i8 : Int32} {i9 i11 : Int64} {i12 i13 i15 i16 i17 i18 i19 : Int32} {kp : Nat} {fs fp ff fd fam : Nat → Int32} {k : Nat} {zs zf : Nat → Int32} (h : RC0 n r q i6 i7 i8 i9 i11 i12 i13 i15 i16 i17 i18 i19 kp fs fp ff fd fam) (hm : k < n) (hu : Upp k 0 fs zs) (hf : Upp k 0 ff zf) : RC0 n (wdrR k r) q i6 i7 i8 i9 i11 i12 i13 i15 i16 i17 i18 i19 kp zs fp zf fd fam := by
  have hw := h.1
  obtain ⟨⟨hn, hkp⟩, ⟨e4, e5, e6, e7, eq, e10, e0, e1, e3, e12, e15⟩, hq⟩ := h.2
  obtain ⟨a0, a1, a4, a6, a7, aQ, aS, aM⟩ := h.1
  unfold Upp at hu hf
  have f2 : wdrR k r (16 + 7 * k + 2) = 0 := pk_us
  have f3 : wdrR k r (16 + 7 * k + 3) = 0 := (pk_un (by omega)).trans pk_us
  have fo : ∀ j, j ≠ 16 + 7 * k + 3 → j ≠ 16 + 7 * k + 2 → wdrR k r j = r j := fun j h3 h2 => (pk_un h2).trans (pk_un h3)
  have p3 := (aM k hm).2.2.2.2.2.2.1
  have w2 : WFa n (wdrR k r) q := by
    refine hw.fs hm fo ?_ ?_ ?_ ?_
    · rw [tI_v f3, z_0]; omega
    · rw [tI_v f3, z_0]; omega
    · rw [tI_v f2, z_0]; omega
    · rw [tI_v f3, z_0]; exact fun _ => rfl
  exact RC0.mk h w2 hkp ((fo 4 (by omega) (by omega)).trans e4) ((fo 5 (by omega) (by omega)).trans e5) ((fo 6 (by omega) (by omega)).trans e6) (by rw [fo 7 (by omega) (by omega)]; exact e7) eq ((fo 10 (by omega) (by omega)).trans e10) ((fo 0 (by omega) (by omega)).trans e0) ((fo 1 (by omega) (by omega)).trans e1) ((fo 3 (by omega) (by omega)).trans e3) ((fo 12 (by omega) (by omega)).trans e12) ((fo 15 (by omega) (by omega)).trans e15) (fun m hm9 => by
    obtain ⟨b0, b1, b2, b3, b4, b5⟩ := hq m hm9
    refine ⟨fo _ (by omega) (by omega), (fo _ (by omega) (by omega)).trans b1, ?_, ?_, (fo _ (by omega) (by omega)).trans b4, fo _ (by omega) (by omega)⟩
    · by_cases d : m = k
      · subst d; rw [f2, hu, pk_us]
      · rw [fo _ (by omega) (by omega), hu, pk_un d]; exact b2
    · by_cases d : m = k
      · subst d; rw [f3, hf, pk_us]
      · rw [fo _ (by omega) (by omega), hf, pk_un d]; exact b3)

theorem RC0.can {n : Nat} {r : Nat → Int32} {q : Int64} {i6 i7 i8 : Int32} {i9 i11 : Int64} {i12 i13 i15 i16 i17 i18 i19 : Int32} {kp : Nat} {fs fp ff fd fam : Nat → Int32} {k : Nat} {zs : Nat → Int32} (h : RC0 n r q i6 i7 i8 i9 i11 i12 i13 i15 i16 i17 i18 i19 kp fs fp ff fd fam) (hm : k < n) (g : fs k = 0 ∨ fs k = 1) (hu : Upp k 5 fs zs) : RC0 n (canR k r) q i6 i7 i8 i9 i11 i12 i13 i15 i16 i17 i18 i19 kp zs fp ff fd fam := by
  have z3 := h.fz0 hm (fun c => by rcases g with g | g <;> (rw [g] at c; exact absurd c (by decide)))
  have hw := h.1
  obtain ⟨⟨hn, hkp⟩, ⟨e4, e5, e6, e7, eq, e10, e0, e1, e3, e12, e15⟩, hq⟩ := h.2
  obtain ⟨a0, a1, a4, a6, a7, aQ, aS, aM⟩ := h.1
  unfold Upp at hu
  have f2 : canR k r (16 + 7 * k + 2) = 5 := pk_us
  have fo : ∀ j, j ≠ 16 + 7 * k + 2 → canR k r j = r j := fun j h2 => pk_un h2
  exact RC0.mk h (hw.st (by decide) (fun _ => z3)) hkp ((fo 4 (by omega)).trans e4) ((fo 5 (by omega)).trans e5) ((fo 6 (by omega)).trans e6) (by rw [fo 7 (by omega)]; exact e7) eq ((fo 10 (by omega)).trans e10) ((fo 0 (by omega)).trans e0) ((fo 1 (by omega)).trans e1) ((fo 3 (by omega)).trans e3) ((fo 12 (by omega)).trans e12) ((fo 15 (by omega)).trans e15) (fun m hm9 => by
    obtain ⟨b0, b1, b2, b3, b4, b5⟩ := hq m hm9
    refine ⟨fo _ (by omega), (fo _ (by omega)).trans b1, ?_, (fo _ (by omega)).trans b3, (fo _ (by omega)).trans b4, fo _ (by omega)⟩
    by_cases d : m = k
    · subst d; rw [f2, hu, pk_us]
    · rw [fo _ (by omega), hu, pk_un d]; exact b2)

theorem RC0.pay_a {n : Nat} {r : Nat → Int32} {q : Int64} {i6 i7 i8 : Int32} {i9 i11 : Int64} {i12 i13 i15 i16 i17 i18 i19 : Int32} {kp : Nat} {fs fp ff fd fam : Nat → Int32} {x : Int32} {k : Nat} (h : RC0 n r q i6 i7 i8 i9 i11 i12 i13 i15 i16 i17 i18 i19 kp fs fp ff fd fam) (hm : k < n) (g : 1 ≤ x ∧ x ≤ rmC fs fp fam k) (g2 : fs k = 0 ∨ fs k = 1) (c : x ≤ avC i8 ff n) : AcPay r n x k := by
  have o := h.opn_a hm g2
  rw [h.rm hm] at g
  rw [h.av] at c
  exact ⟨⟨w1_le.mpr g.1, i_wle.mpr g.2⟩, o, c⟩

theorem RC0.pay_r1 {n : Nat} {r : Nat → Int32} {q : Int64} {i6 i7 i8 : Int32} {i9 i11 : Int64} {i12 i13 i15 i16 i17 i18 i19 : Int32} {kp : Nat} {fs fp ff fd fam : Nat → Int32} {x : Int32} {k : Nat} (h : RC0 n r q i6 i7 i8 i9 i11 i12 i13 i15 i16 i17 i18 i19 kp fs fp ff fd fam) (hm : k < n) (g : ¬ (1 ≤ x ∧ x ≤ rmC fs fp fam k)) : ¬ AcPay r n x k := by
  rw [h.rm hm] at g
  exact fun z => g ⟨w1_le.mp z.1.1, i_wle.mp z.1.2⟩

theorem RC0.pay_r2 {n : Nat} {r : Nat → Int32} {q : Int64} {i6 i7 i8 : Int32} {i9 i11 : Int64} {i12 i13 i15 i16 i17 i18 i19 : Int32} {kp : Nat} {fs fp ff fd fam : Nat → Int32} {x : Int32} {k : Nat} (h : RC0 n r q i6 i7 i8 i9 i11 i12 i13 i15 i16 i17 i18 i19 kp fs fp ff fd fam) (hm : k < n) (g : ¬ (fs k = 0 ∨ fs k = 1)) : ¬ AcPay r n x k := by
  exact fun z => h.opn_r hm g z.2.1

theorem RC0.pay_r3 {n : Nat} {r : Nat → Int32} {q : Int64} {i6 i7 i8 : Int32} {i9 i11 : Int64} {i12 i13 i15 i16 i17 i18 i19 : Int32} {kp : Nat} {fs fp ff fd fam : Nat → Int32} {x : Int32} {k : Nat} (h : RC0 n r q i6 i7 i8 i9 i11 i12 i13 i15 i16 i17 i18 i19 kp fs fp ff fd fam) (c : avC i8 ff n < x) : ¬ AcPay r n x k := by
  rw [h.av] at c
  exact fun z => absurd c (Int32.not_lt.mpr z.2.2)

theorem RC0.pay {n : Nat} {r : Nat → Int32} {q : Int64} {i6 i7 i8 : Int32} {i9 i11 : Int64} {i12 i13 i15 i16 i17 i18 i19 : Int32} {kp : Nat} {fs fp ff fd fam : Nat → Int32} {x z12 z13 : Int32} {k ky : Nat} {zs zp : Nat → Int32} (h : RC0 n r q i6 i7 i8 i9 i11 i12 i13 i15 i16 i17 i18 i19 kp fs fp ff fd fam) (hm : k < n) (g : 1 ≤ x ∧ x ≤ rmC fs fp fam k) (g2 : fs k = 0 ∨ fs k = 1) (c : x ≤ avC i8 ff n) (hk : ky = entC kp x) (hs : z12 + z13 = i12 + i13 + x) (hp : Upp k (fp k + x) fp zp) (hpd : PaidS k fs zp fam zs) : RC0 n (payR x k r) q i6 i7 (i8 - x) i9 i11 z12 z13 i15 i16 i17 i18 i19 ky zs zp ff fd fam := by
  rw [h.rm hm] at g
  rw [h.av] at c
  have n3 : ¬ 3 ≤ fs k := fun z => by rcases g2 with g2 | g2 <;> (rw [g2] at z; exact absurd z (by decide))
  have n2 : fs k ≠ 2 := fun z => by rcases g2 with g2 | g2 <;> (rw [g2] at z; exact absurd z (by decide))
  exact h.payz hm n3 n2 (Int32.le_trans (show (0 : Int32) ≤ 1 by decide) g.1) g.2 c hk hs hp hpd

theorem RC0.res_a {n : Nat} {r : Nat → Int32} {q : Int64} {i6 i7 i8 : Int32} {i9 i11 : Int64} {i12 i13 i15 i16 i17 i18 i19 : Int32} {kp : Nat} {fs fp ff fd fam : Nat → Int32} {j : Int32} {k : Nat} (h : RC0 n r q i6 i7 i8 i9 i11 i12 i13 i15 i16 i17 i18 i19 kp fs fp ff fd fam) (hm : k < n) (g : fs k = 2) (g2 : 0 ≤ j ∧ j ≤ 1000) : AcRes r j k := by
  refine ⟨h.dsp_a hm g, j.toNatClampNeg, ?_, ix_eq (Int32.not_lt.mpr g2.1)⟩
  have e := ix_eq (Int32.not_lt.mpr g2.1)
  obtain ⟨v, hv, ev⟩ := nI_of (Int32.not_lt.mpr g2.1)
  have g3 := i_le.mp g2.2
  rw [z_1000, ev, i_n hv] at g3
  rw [ev, nI_clamp hv]
  omega

theorem RC0.res_r1 {r : Nat → Int32} {j : Int32} {k : Nat} (g : ¬ (0 ≤ j ∧ j ≤ 1000)) : ¬ AcRes r j k := fun ⟨_, v, hv, e⟩ => g (by
  rw [e]
  exact ⟨nI_pos' (by omega), i_le.mpr (by rw [i_n (by omega), z_1000]; omega)⟩)

theorem RC0.res_r2 {n : Nat} {r : Nat → Int32} {q : Int64} {i6 i7 i8 : Int32} {i9 i11 : Int64} {i12 i13 i15 i16 i17 i18 i19 : Int32} {kp : Nat} {fs fp ff fd fam : Nat → Int32} {j : Int32} {k : Nat} (h : RC0 n r q i6 i7 i8 i9 i11 i12 i13 i15 i16 i17 i18 i19 kp fs fp ff fd fam) (hm : k < n) (g : ¬ fs k = 2) : ¬ AcRes r j k := by
  exact fun z => h.dsp_r hm g z.1

theorem i_div {a : Int32} {b : Int} (h0 : 0 ≤ a.toInt) (hb : (1000 : Int32).toInt = b) : (a / 1000).toInt = a.toInt / b := by
  rw [Int32.toInt_div_of_ne_left _ _ (by intro e; rw [e] at h0; exact absurd h0 (by decide)), hb, Int.tdiv_eq_ediv_of_nonneg h0]
theorem spl_eq {M j : Int32} (h0 : 0 ≤ M.toInt) (h1 : M.toInt ≤ 99999) (g0 : 0 ≤ j.toInt) (g1 : j.toInt ≤ 1000) : (M.toInt64 * j.toInt64 / 1000).toInt32 = M * j / 1000 ∧ 0 ≤ (M * j / 1000).toInt ∧ (M * j / 1000).toInt ≤ M.toInt := by
  have b0 : 0 ≤ M.toInt * j.toInt := Int.mul_nonneg h0 g0
  have b1 : M.toInt * j.toInt ≤ 99999 * 1000 := Int.mul_le_mul h1 g1 g0 (by decide)
  have b2 : M.toInt * j.toInt ≤ M.toInt * 1000 := Int.mul_le_mul (Int.le_refl _) g1 g0 h0
  have e1 : (M * j).toInt = M.toInt * j.toInt := i_mul (by omega) (by omega)
  have e2 : (M.toInt64 * j.toInt64).toInt = M.toInt * j.toInt := by rw [l_mul (by rw [i_w, i_w]; omega) (by rw [i_w, i_w]; omega), i_w, i_w]
  have d1 : (M * j / 1000).toInt = M.toInt * j.toInt / 1000 := by rw [i_div (by rw [e1]; exact b0) z_1000, e1]
  have d2 : (M.toInt64 * j.toInt64 / 1000).toInt = M.toInt * j.toInt / 1000 := by
    rw [Int64.toInt_div_of_ne_left _ _ (by intro e; rw [e] at e2; have : (Int64.minValue).toInt = -9223372036854775808 := by decide
                                           omega), e2, zl_1000, Int.tdiv_eq_ediv_of_nonneg b0]
  refine ⟨i_inj ?_, ?_, ?_⟩
  · rw [Int64.toInt_toInt32, d2, d1]
    exact Int.bmod_eq_of_le (by omega) (by omega)
  · rw [d1]; omega
  · rw [d1]; omega

theorem RC0.res {n : Nat} {r : Nat → Int32} {q : Int64} {i6 i7 i8 : Int32} {i9 i11 : Int64} {i12 i13 i15 i16 i17 i18 i19 : Int32} {kp : Nat} {fs fp ff fd fam : Nat → Int32} {j z12 z13 : Int32} {k k1 ky : Nat} {z1 zs zp zf : Nat → Int32} (h : RC0 n r q i6 i7 i8 i9 i11 i12 i13 i15 i16 i17 i18 i19 kp fs fp ff fd fam) (hm : k < n) (hd : fs k = 2) (g : 0 ≤ j ∧ j ≤ 1000) (h1 : Upp k 4 fs z1) (hf : Upp k 0 ff zf) (hk1 : k1 = entC kp ((minI (rmC fs fp fam k) (avC i8 ff n + ff k)) * j / 1000)) (hs : z12 + z13 = i12 + i13 + (minI (rmC fs fp fam k) (avC i8 ff n + ff k)) * j / 1000) (hp : Upp k (fp k + (minI (rmC fs fp fam k) (avC i8 ff n + ff k)) * j / 1000) fp zp) (hpd : PaidS k z1 zp fam zs) (hk2 : ky = entC k1 ((minI (rmC fs fp fam k) (avC i8 ff n + ff k)) - (minI (rmC fs fp fam k) (avC i8 ff n + ff k)) * j / 1000)) : RC0 n (resR n j k r) q i6 i7 (i8 - (minI (rmC fs fp fam k) (avC i8 ff n + ff k)) * j / 1000 - ((minI (rmC fs fp fam k) (avC i8 ff n + ff k)) - (minI (rmC fs fp fam k) (avC i8 ff n + ff k)) * j / 1000)) i9 i11 z12 z13 i15 i16 i17 i18 i19 ky zs zp zf fd fam := by
  have rm := h.rm hm
  have av := h.av
  have hw := h.1
  obtain ⟨⟨hn, hkp⟩, ⟨e4, e5, e6, e7, eq, e10, e0, e1, e3, e12, e15⟩, hq⟩ := h.2
  obtain ⟨a0, a1, a4, a6, a7, aQ, aS, aM⟩ := h.1
  have hM := hq k hm
  rw [rm, av, ← hM.2.2.2.1] at hk1 hs hp hk2 ⊢
  have rI := remR_I hw hm
  have aI := avR_I hw (Nat.le_refl n)
  have g1 := i_le.mp g.1
  have g2 := i_le.mp g.2
  rw [z_0] at g1
  rw [z_1000] at g2
  have pz := (aM k hm).2.2.2.2.2.2.1
  have lz := fsI_le hm aM
  have ez3 : (r (16 + 7 * k + 3)).toInt = tI r (16 + 7 * k + 3) := rfl
  have sA : (avR r n + r (16 + 7 * k + 3)).toInt = (avR r n).toInt + tI r (16 + 7 * k + 3) := i_add (by rw [ez3]; omega) (by rw [ez3]; omega)
  have hS : splS n k r = minI (remR r k) (avR r n + r (16 + 7 * k + 3)) := rfl
  rw [← hS] at hk1 hs hp hk2 ⊢
  have mI : (splS n k r).toInt = min (remR r k).toInt ((avR r n).toInt + tI r (16 + 7 * k + 3)) := by rw [hS, minI_I, sA]
  have sp := spl_eq (M := splS n k r) (j := j) (by rw [mI]; omega) (by rw [mI]; omega) g1 g2
  have hB : splB n k j r = splS n k r * j / 1000 := sp.1
  rw [← hB] at hk1 hs hp hk2 sp ⊢
  generalize hSe : splS n k r = S at *
  generalize hBe : splB n k j r = P at *
  have sP : (S - P).toInt = S.toInt - P.toInt := i_sub (by omega) (by omega)
  -- the row, step by step
  have w1 : WFa n (upd r (16 + 7 * k + 3) 0) q := by
    refine hw.fs hm (fun j h3 _ => pk_un h3) ?_ ?_ ?_ ?_
    · rw [tI_v pk_us, z_0]; omega
    · rw [tI_v pk_us, z_0]; omega
    · rw [tI_c (pk_un (by omega))]; exact ⟨(aM k hm).2.2.2.2.1, (aM k hm).2.2.2.2.2.1⟩
    · rw [tI_v pk_us, z_0]; exact fun _ => rfl
  have s1 : fsI (tI (upd r (16 + 7 * k + 3) 0)) n = fsI (tI r) n - tI r (16 + 7 * k + 3) := by
    rw [fsI_upd (f := tI r) hm (fun m hm9 => tI_c (pk_un (by omega))), tI_v pk_us, z_0]
    omega
  have q6 : tI (upd r (16 + 7 * k + 3) 0) 6 = tI r 6 := tI_c (pk_un (by omega))
  have rm1 : remR (upd r (16 + 7 * k + 3) 0) k = remR r k := by
    unfold remR
    rw [pk_un (by omega), pk_un (by omega), pk_un (by omega)]
  have w3 : WFa n (mkP k P (upd r (16 + 7 * k + 3) 0)) q := w1.pay hm (by omega) (by rw [rm1]; omega) (by rw [q6, s1]; omega)
  have m6 : tI (mkP k P (upd r (16 + 7 * k + 3) 0)) 6 = tI r 6 - P.toInt := by
    rw [tI_v mkP_6, pk_un (by omega)]
    exact i_sub (by show _ ≤ tI r 6 - _; omega) (by show tI r 6 - _ ≤ _; omega)
  have m3 : fsI (tI (mkP k P (upd r (16 + 7 * k + 3) 0))) n = fsI (tI r) n - tI r (16 + 7 * k + 3) := by
    rw [fsI_cong (f := tI (upd r (16 + 7 * k + 3) 0)) (fun m hm9 => tI_c (mkP_o (by omega) (by omega) (by omega) (by omega))), s1]
  have w4 : WFa n (refR (S - P) (mkP k P (upd r (16 + 7 * k + 3) 0))) q := w3.ref (by rw [sP]; omega) (by rw [sP, m6, m3]; omega)
  have ro : ∀ (x : Int32) (t : Nat → Int32) (j : Nat), j ≠ 6 → j ≠ 11 → j ≠ 15 → refR x t j = t j := fun x t j h6 h11 h15 => (entR_n h15).trans ((pk_un h11).trans (pk_un h6))
  have r6 : ∀ (x : Int32) (t : Nat → Int32), refR x t 6 = t 6 - x := fun x t => (entR_n (by omega)).trans ((pk_un (by omega)).trans pk_us)
  have eR : resR n j k r = upd (refR (S - P) (mkP k P (upd r (16 + 7 * k + 3) 0))) (16 + 7 * k + 2) 4 := by
    unfold resR
    rw [hSe, hBe]
  rw [eR]
  have w5 : WFa n (upd (refR (S - P) (mkP k P (upd r (16 + 7 * k + 3) 0))) (16 + 7 * k + 2) 4) q := by
    refine w4.st (by decide) (fun _ => ?_)
    rw [tI_v ((ro _ _ _ (by omega) (by omega) (by omega)).trans ((mkP_o (by omega) (by omega) (by omega) (by omega)).trans pk_us))]
    exact z_0
  have fo : ∀ j, j ≠ 6 → j ≠ 10 → j ≠ 11 → j ≠ 15 → j ≠ 16 + 7 * k + 1 → j ≠ 16 + 7 * k + 2 → j ≠ 16 + 7 * k + 3 → upd (refR (S - P) (mkP k P (upd r (16 + 7 * k + 3) 0))) (16 + 7 * k + 2) 4 j = r j := fun j h6 h10 h11 h15 h1 h2 h3 => (pk_un h2).trans ((ro _ _ _ h6 h11 h15).trans ((mkP_o h6 h10 h15 h1).trans (pk_un h3)))
  have P0 : 0 ≤ P := i_le.mpr (by rw [z_0]; omega)
  have S0 : 0 ≤ S - P := i_le.mpr (by rw [z_0, sP]; omega)
  have k60 : k1 ≤ 60 := by rw [hk1]; exact entC_60 hkp
  unfold Upp at h1 hp hf
  have zse : zs = z1 := by
    unfold PaidS at hpd
    rw [hpd, if_neg (fun z => z.1 (by rw [h1, pk_us]; decide))]
  exact RC0.mk h w5 (by rw [hk2]; exact entC_60 k60) ((fo 4 (by omega) (by omega) (by omega) (by omega) (by omega) (by omega) (by omega)).trans e4) ((fo 5 (by omega) (by omega) (by omega) (by omega) (by omega) (by omega) (by omega)).trans e5) ((pk_un (by omega)).trans ((r6 _ _).trans (by rw [mkP_6, pk_un (by omega), e6]))) (by rw [fo 7 (by omega) (by omega) (by omega) (by omega) (by omega) (by omega) (by omega)]; exact e7) eq ((pk_un (by omega)).trans ((ro _ _ _ (by omega) (by omega) (by omega)).trans (by rw [mkP_10, pk_un (by omega), e10, hs]))) ((fo 0 (by omega) (by omega) (by omega) (by omega) (by omega) (by omega) (by omega)).trans e0) ((fo 1 (by omega) (by omega) (by omega) (by omega) (by omega) (by omega) (by omega)).trans e1) ((fo 3 (by omega) (by omega) (by omega) (by omega) (by omega) (by omega) (by omega)).trans e3) ((fo 12 (by omega) (by omega) (by omega) (by omega) (by omega) (by omega) (by omega)).trans e12) (by rw [pk_un (by omega), hk2]; unfold refR; exact ent15 (by rw [pk_un (by omega), pk_un (by omega), mkP_15 (k := kp) (by rw [pk_un (by omega)]; exact e15) hkp P0, hk1]) k60 S0) (fun m hm9 => by
    obtain ⟨b0, b1, b2, b3, b4, b5⟩ := hq m hm9
    refine ⟨fo _ (by omega) (by omega) (by omega) (by omega) (by omega) (by omega) (by omega), ?_, ?_, ?_, (fo _ (by omega) (by omega) (by omega) (by omega) (by omega) (by omega) (by omega)).trans b4, fo _ (by omega) (by omega) (by omega) (by omega) (by omega) (by omega) (by omega)⟩
    · by_cases d : m = k
      · subst d
        rw [pk_un (by omega), ro _ _ _ (by omega) (by omega) (by omega), mkP_1, pk_un (by omega), hp, pk_us, b1]
      · rw [fo _ (by omega) (by omega) (by omega) (by omega) (by omega) (by omega) (by omega), hp, pk_un d]; exact b1
    · rw [zse]
      by_cases d : m = k
      · subst d; rw [pk_us, h1, pk_us]
      · rw [fo _ (by omega) (by omega) (by omega) (by omega) (by omega) (by omega) (by omega), h1, pk_un d]; exact b2
    · by_cases d : m = k
      · subst d
        rw [pk_un (by omega), ro _ _ _ (by omega) (by omega) (by omega), mkP_o (by omega) (by omega) (by omega) (by omega), pk_us, hf, pk_us]
      · rw [fo _ (by omega) (by omega) (by omega) (by omega) (by omega) (by omega) (by omega), hf, pk_un d]; exact b3)

theorem RC0.clo_a {n : Nat} {r : Nat → Int32} {q : Int64} {i6 i7 i8 : Int32} {i9 i11 : Int64} {i12 i13 i15 i16 i17 i18 i19 : Int32} {kp : Nat} {fs fp ff fd fam : Nat → Int32} (h : RC0 n r q i6 i7 i8 i9 i11 i12 i13 i15 i16 i17 i18 i19 kp fs fp ff fd fam) (B : ccC fs n = n) : AcClo r n := by
  intro m hm
  rw [(h.2.2.2 m hm).2.2.1]
  exact ccC_all.mp B m hm

theorem RC0.clo_r {n : Nat} {r : Nat → Int32} {q : Int64} {i6 i7 i8 : Int32} {i9 i11 : Int64} {i12 i13 i15 i16 i17 i18 i19 : Int32} {kp : Nat} {fs fp ff fd fam : Nat → Int32} (h : RC0 n r q i6 i7 i8 i9 i11 i12 i13 i15 i16 i17 i18 i19 kp fs fp ff fd fam) (B : ¬ ccC fs n = n) : ¬ AcClo r n := by
  exact fun z => B (ccC_all.mpr (fun m hm => by rw [← (h.2.2.2 m hm).2.2.1]; exact z m hm))

theorem RC0.clo {n : Nat} {r : Nat → Int32} {q : Int64} {i6 i7 i8 : Int32} {i9 i11 : Int64} {i12 i13 i15 i16 i17 i18 i19 : Int32} {kp : Nat} {fs fp ff fd fam : Nat → Int32} {ky : Nat} (h : RC0 n r q i6 i7 i8 i9 i11 i12 i13 i15 i16 i17 i18 i19 kp fs fp ff fd fam) (B : ccC fs n = n) (hk : ky = entC kp i8) : RC0 n (cloR r) q i6 i7 (i8 - i8) i9 i11 i12 i13 i15 i16 i17 i18 i19 ky fs fp ff fd fam := by
  have z3 : fsI (tI r) n = 0 := fsI_z (fun m hm => h.fz0 hm (fun c => by
    have := ccC_all.mp B m hm
    rw [c] at this
    exact absurd this (by decide)))
  have hw := h.1
  obtain ⟨⟨hn, hkp⟩, ⟨e4, e5, e6, e7, eq, e10, e0, e1, e3, e12, e15⟩, hq⟩ := h.2
  obtain ⟨a0, a1, a4, a6, a7, aQ, aS, aM⟩ := h.1
  have x6 : (r 6).toInt = tI r 6 := rfl
  have w2 : WFa n (cloR r) q := hw.ref (by rw [x6]; omega) (by rw [x6]; omega)
  have x0 : 0 ≤ r 6 := i_le.mpr (by rw [z_0, x6]; omega)
  have f6 : cloR r 6 = r 6 - r 6 := (entR_n (by omega)).trans ((pk_un (by omega)).trans pk_us)
  have fo : ∀ j, j ≠ 6 → j ≠ 11 → j ≠ 15 → cloR r j = r j := fun j h6 h11 h15 => (entR_n h15).trans ((pk_un h11).trans (pk_un h6))
  exact RC0.mk h w2 (by rw [hk]; exact entC_60 hkp) ((fo 4 (by omega) (by omega) (by omega)).trans e4) ((fo 5 (by omega) (by omega) (by omega)).trans e5) (f6.trans (by rw [e6])) (by rw [fo 7 (by omega) (by omega) (by omega)]; exact e7) eq ((fo 10 (by omega) (by omega) (by omega)).trans e10) ((fo 0 (by omega) (by omega) (by omega)).trans e0) ((fo 1 (by omega) (by omega) (by omega)).trans e1) ((fo 3 (by omega) (by omega) (by omega)).trans e3) ((fo 12 (by omega) (by omega) (by omega)).trans e12) (by rw [hk, ← e6]; exact ent15 (((pk_un (by omega)).trans (pk_un (by omega))).trans e15) hkp x0) (fun m hm => by
    obtain ⟨b0, b1, b2, b3, b4, b5⟩ := hq m hm
    exact ⟨fo _ (by omega) (by omega) (by omega), (fo _ (by omega) (by omega) (by omega)).trans b1, (fo _ (by omega) (by omega) (by omega)).trans b2, (fo _ (by omega) (by omega) (by omega)).trans b3, (fo _ (by omega) (by omega) (by omega)).trans b4, fo _ (by omega) (by omega) (by omega)⟩)

theorem RC0.day {n : Nat} {r : Nat → Int32} {q : Int64} {i6 i7 i8 : Int32} {i9 i11 : Int64} {i12 i13 i15 i16 i17 i18 i19 : Int32} {kp : Nat} {fs fp ff fd fam : Nat → Int32} {dy : Nat} (h : RC0 n r q i6 i7 i8 i9 i11 i12 i13 i15 i16 i17 i18 i19 kp fs fp ff fd fam) (hd : r 4 = nI dy) (hd1 : dy < 20000) (hc : Cpd r q) : RC0 n (upd r 4 (nI (dy + 1))) (pqQ q r) (nI (dy + 1)) i7 i8 i9 (i11 + (i8.toInt64 + i9) * i15.toInt64) i12 i13 i15 i16 i17 i18 i19 kp fs fp ff fd fam := by
  have pt := pqQ_toInt h.1 hc.1
  have hc2 := hc.2
  have hc1 : tI r 8 ≤ 1000000000 := hc.1
  have hw := h.1
  obtain ⟨⟨hn, hkp⟩, ⟨e4, e5, e6, e7, eq, e10, e0, e1, e3, e12, e15⟩, hq⟩ := h.2
  obtain ⟨a0, a1, a4, a6, a7, aQ, aS, aM⟩ := h.1
  have d4 : tI r 4 = (dy : Int) := by rw [tI_v hd]; exact i_n (by omega)
  rw [d4] at hc2
  have hX : 0 ≤ 3000 * (9999999 + tI r 8) := by omega
  have p0 : 0 ≤ (tI r 6 + tI r 7) * tI r 0 := Int.mul_nonneg (by omega) (by omega)
  have p1 : (tI r 6 + tI r 7) * tI r 0 ≤ 3000 * (9999999 + tI r 8) := by
    rw [Int.mul_comm 3000]
    exact Int.mul_le_mul (by omega) (by omega) (by omega) (by omega)
  have p2 : ((dy : Int) % 30) * (3000 * (9999999 + tI r 8)) + 3000 * (9999999 + tI r 8) ≤ 30 * (3000 * (9999999 + tI r 8)) := by
    have z : ((dy : Int) % 30 + 1) * (3000 * (9999999 + tI r 8)) ≤ 30 * (3000 * (9999999 + tI r 8)) := Int.mul_le_mul_of_nonneg_right (by omega) hX
    rw [Int.add_mul, Int.one_mul] at z
    exact z
  have fo : ∀ j, j ≠ 4 → upd r 4 (nI (dy + 1)) j = r j := fun j hj => pk_un hj
  have w2 : WFa n (upd r 4 (nI (dy + 1))) (pqQ q r) := by
    refine hw.sc (fun m i _ _ => fo _ (by omega)) ?_ ?_ ?_ ?_ ?_ ?_ ?_
    · rw [tI_c (fo 0 (by omega))]; exact a0
    · rw [tI_c (fo 1 (by omega))]; exact a1
    · rw [tI_v pk_us, i_n (by omega)]; omega
    · rw [tI_c (fo 6 (by omega)), tI_c (fo 5 (by omega))]; exact a6
    · rw [tI_c (fo 7 (by omega)), tI_c (fo 8 (by omega))]; exact a7
    · rw [tI_c (fo 8 (by omega)), pt.1]
      generalize (tI r 6 + tI r 7) * tI r 0 = Y at *
      generalize ((dy : Int) % 30) * (3000 * (9999999 + tI r 8)) = Z at *
      omega
    · rw [tI_c (fo 6 (by omega))]; exact aS
  have eQ : pqQ q r = i11 + (i8.toInt64 + i9) * i15.toInt64 := by
    unfold pqQ
    have z : (r 6 + r 7).toInt64 = i8.toInt64 + i9 := by
      rw [← e6, ← e7]
      refine l_inj ?_
      rw [pt.2, l_add (by rw [i_w, i_w]; show _ ≤ tI r 6 + tI r 7; omega) (by rw [i_w, i_w]; show tI r 6 + tI r 7 ≤ _; omega), i_w, i_w]
      rfl
    rw [z, e0, eq]
  exact RC0.mk h w2 hkp pk_us ((fo 5 (by omega)).trans e5) ((fo 6 (by omega)).trans e6) (by rw [fo 7 (by omega)]; exact e7) eQ ((fo 10 (by omega)).trans e10) ((fo 0 (by omega)).trans e0) ((fo 1 (by omega)).trans e1) ((fo 3 (by omega)).trans e3) ((fo 12 (by omega)).trans e12) ((fo 15 (by omega)).trans e15) (fun m hm => by
    obtain ⟨b0, b1, b2, b3, b4, b5⟩ := hq m hm
    exact ⟨fo _ (by omega), (fo _ (by omega)).trans b1, (fo _ (by omega)).trans b2, (fo _ (by omega)).trans b3, (fo _ (by omega)).trans b4, fo _ (by omega)⟩)

theorem l_div {a b : Int64} (h0 : 0 ≤ a.toInt) : (a / b).toInt = a.toInt / b.toInt := by
  rw [Int64.toInt_div_of_ne_left _ _ (by intro e; rw [e] at h0; exact absurd h0 (by decide)), Int.tdiv_eq_ediv_of_nonneg h0]

theorem RC0.cr_0 {n : Nat} {r : Nat → Int32} {q : Int64} {i6 i7 i8 : Int32} {i9 i11 : Int64} {i12 i13 i15 i16 i17 i18 i19 : Int32} {kp : Nat} {fs fp ff fd fam : Nat → Int32} (h : RC0 n r q i6 i7 i8 i9 i11 i12 i13 i15 i16 i17 i18 i19 kp fs fp ff fd fam) (c : ¬ 0 < lg_cmp ((10000 : Int64) * i16.toInt64) 0) : False := by
  have hw := h.1
  obtain ⟨⟨hn, hkp⟩, ⟨e4, e5, e6, e7, eq, e10, e0, e1, e3, e12, e15⟩, hq⟩ := h.2
  obtain ⟨a0, a1, a4, a6, a7, aQ, aS, aM⟩ := h.1
  have e : (i16.toInt64).toInt = tI r 1 := by rw [i_w, ← e1]; rfl
  refine c ((lg_cmp_gt _ _).mpr (l_lt.mpr ?_))
  rw [l_mul (by rw [zl_10000, e]; omega) (by rw [zl_10000, e]; omega), zl_0, zl_10000, e]
  omega

theorem RC0.cr {n : Nat} {r : Nat → Int32} {q : Int64} {i6 i7 i8 : Int32} {i9 i11 : Int64} {i12 i13 i15 i16 i17 i18 i19 : Int32} {kp : Nat} {fs fp ff fd fam : Nat → Int32} {ky : Nat} (h : RC0 n r q i6 i7 i8 i9 i11 i12 i13 i15 i16 i17 i18 i19 kp fs fp ff fd fam) (hc : Cap0 r) (hk : ky = entC kp (i11 / ((10000 : Int64) * i16.toInt64)).toInt32) : RC0 n (crR q r) (crQ q r) i6 i7 i8 (i9 + (i11 / ((10000 : Int64) * i16.toInt64))) (i11 - (i11 / ((10000 : Int64) * i16.toInt64)) * ((10000 : Int64) * i16.toInt64)) i12 i13 i15 i16 i17 i18 i19 ky fs fp ff fd fam := by
  have hc1 : tI r 8 ≤ 1000000000 := hc
  have hw := h.1
  obtain ⟨⟨hn, hkp⟩, ⟨e4, e5, e6, e7, eq, e10, e0, e1, e3, e12, e15⟩, hq⟩ := h.2
  obtain ⟨a0, a1, a4, a6, a7, aQ, aS, aM⟩ := h.1
  subst eq
  have e : (i16.toInt64).toInt = tI r 1 := by rw [i_w, ← e1]; rfl
  have eB : ((10000 : Int64) * i16.toInt64).toInt = 10000 * tI r 1 := by rw [l_mul (by rw [zl_10000, e]; omega) (by rw [zl_10000, e]; omega), zl_10000, e]
  have eK : (q / ((10000 : Int64) * i16.toInt64)).toInt = q.toInt / (10000 * tI r 1) := by rw [l_div aQ.1, eB]
  have k0 : 0 ≤ q.toInt / (10000 * tI r 1) := Int.ediv_nonneg aQ.1 (by omega)
  have k1 : (q.toInt / (10000 * tI r 1)) * (10000 * tI r 1) ≤ q.toInt := Int.ediv_mul_le _ (by omega)
  have k2 : (q.toInt / (10000 * tI r 1)) * 3600000 ≤ (q.toInt / (10000 * tI r 1)) * (10000 * tI r 1) := Int.mul_le_mul_of_nonneg_left (by omega) k0
  have k3 : q.toInt < (q.toInt / (10000 * tI r 1)) * (10000 * tI r 1) + 10000 * tI r 1 := by
    have := Int.lt_ediv_add_one_mul_self q.toInt (show 0 < 10000 * tI r 1 by omega)
    rw [Int.add_mul, Int.one_mul] at this
    exact this
  have eM2 : (q / ((10000 : Int64) * i16.toInt64) * ((10000 : Int64) * i16.toInt64)).toInt = (q.toInt / (10000 * tI r 1)) * (10000 * tI r 1) := by rw [l_mul (by rw [eK, eB]; omega) (by rw [eK, eB]; omega), eK, eB]
  have eC : crC q r = (q / ((10000 : Int64) * i16.toInt64)).toInt32 := by unfold crC; rw [e1]
  have eQ : crQ q r = q - q / ((10000 : Int64) * i16.toInt64) * ((10000 : Int64) * i16.toInt64) := by unfold crQ; rw [e1]
  generalize hKe : q.toInt / (10000 * tI r 1) = K at *
  generalize hKB : K * (10000 * tI r 1) = KB at *
  generalize hke : q / ((10000 : Int64) * i16.toInt64) = k at *
  generalize hkb : k * ((10000 : Int64) * i16.toInt64) = kb at *
  have b2 : K ≤ 30000000 := by omega
  have e32 : (k.toInt32).toInt = K := by
    rw [Int64.toInt_toInt32, eK]
    exact Int.bmod_eq_of_le (by omega) (by omega)
  have c0 : 0 ≤ k.toInt32 := i_le.mpr (by rw [z_0, e32]; exact k0)
  have eQ2 : (crQ q r).toInt = q.toInt - KB := by rw [eQ, l_sub (by rw [eM2]; omega) (by rw [eM2]; omega), eM2]
  have s7 : (r 7 + k.toInt32).toInt = tI r 7 + K := by rw [← e32]; exact i_add (by rw [e32]; show _ ≤ tI r 7 + _; omega) (by rw [e32]; show tI r 7 + _ ≤ _; omega)
  have s8 : (r 8 + k.toInt32).toInt = tI r 8 + K := by rw [← e32]; exact i_add (by rw [e32]; show _ ≤ tI r 8 + _; omega) (by rw [e32]; show tI r 8 + _ ≤ _; omega)
  have f7 : crR q r 7 = r 7 + k.toInt32 := by unfold crR; rw [eC]; exact (entR_n (by omega)).trans ((pk_un (by omega)).trans pk_us)
  have f8 : crR q r 8 = r 8 + k.toInt32 := by unfold crR; rw [eC]; exact (entR_n (by omega)).trans pk_us
  have fo : ∀ j, j ≠ 7 → j ≠ 8 → j ≠ 15 → crR q r j = r j := fun j h7 h8 h15 => (entR_n h15).trans ((pk_un h8).trans (pk_un h7))
  have w2 : WFa n (crR q r) (crQ q r) := by
    refine hw.sc (fun m i _ _ => fo _ (by omega) (by omega) (by omega)) ?_ ?_ ?_ ?_ ?_ ?_ ?_
    · rw [tI_c (fo 0 (by omega) (by omega) (by omega))]; exact a0
    · rw [tI_c (fo 1 (by omega) (by omega) (by omega))]; exact a1
    · rw [tI_c (fo 4 (by omega) (by omega) (by omega))]; exact a4
    · rw [tI_c (fo 6 (by omega) (by omega) (by omega)), tI_c (fo 5 (by omega) (by omega) (by omega))]; exact a6
    · rw [tI_v f7, tI_v f8, s7, s8]; omega
    · rw [tI_v f8, s8, eQ2]; omega
    · rw [tI_c (fo 6 (by omega) (by omega) (by omega))]; exact aS
  have n7 : (crR q r 7).toInt64 = i9 + k := by
    rw [f7, ← e7]
    refine l_inj ?_
    rw [i_w, s7, l_add (by rw [i_w, eK]; show _ ≤ tI r 7 + _; omega) (by rw [i_w, eK]; show tI r 7 + _ ≤ _; omega), i_w, eK]
    rfl
  exact RC0.mk h w2 (by rw [hk]; exact entC_60 hkp) ((fo 4 (by omega) (by omega) (by omega)).trans e4) ((fo 5 (by omega) (by omega) (by omega)).trans e5) ((fo 6 (by omega) (by omega) (by omega)).trans e6) n7 eQ ((fo 10 (by omega) (by omega) (by omega)).trans e10) ((fo 0 (by omega) (by omega) (by omega)).trans e0) ((fo 1 (by omega) (by omega) (by omega)).trans e1) ((fo 3 (by omega) (by omega) (by omega)).trans e3) ((fo 12 (by omega) (by omega) (by omega)).trans e12) (by rw [hk]; unfold crR; rw [eC]; exact ent15 (((pk_un (by omega)).trans (pk_un (by omega))).trans e15) hkp c0) (fun m hm => by
    obtain ⟨b0, b1, b2, b3, b4, b5⟩ := hq m hm
    exact ⟨fo _ (by omega) (by omega) (by omega), (fo _ (by omega) (by omega) (by omega)).trans b1, (fo _ (by omega) (by omega) (by omega)).trans b2, (fo _ (by omega) (by omega) (by omega)).trans b3, (fo _ (by omega) (by omega) (by omega)).trans b4, fo _ (by omega) (by omega) (by omega)⟩)
