theorem btC_0 (b : Int32) : ¬ btC 0 b := fun h => by
  unfold btC at h
  rw [show (0 : Int32).toUInt32 = 0 from rfl, UInt32.zero_shiftRight] at h
  exact absurd h (by decide)
theorem dsL_dcS {l : List Int64} {f : Nat → Int32} (h : ∀ k v, l[k]? = some v → f k = v.toInt32) : ∀ n, n ≤ l.length → dsL (l.take n) = dcS f n
  | 0, _ => by rw [List.take_zero]; rfl
  | n + 1, hn => by
    have hv : l[n]? = some l[n] := List.getElem?_eq_getElem (by omega)
    rw [List.take_succ, hv]
    show dsL (l.take n ++ [l[n]]) = dcS f (n + 1)
    rw [dsL_app, dsL_dcS h n (by omega), dcS, h n _ hv]
theorem dcS_b {f : Nat → Int32} : ∀ (n : Nat), n ≤ 6 → (∀ k, k < n → 0 ≤ (f k).toInt ∧ (f k).toInt ≤ 99999) → 0 ≤ (dcS f n).toInt ∧ (dcS f n).toInt ≤ 99999 * n
  | 0, _, _ => by
    have e : (dcS f 0).toInt = 0 := by show (0 : Int32).toInt = 0; decide
    omega
  | n + 1, hn, h => by
    have h1 := dcS_b n (by omega) (fun k hk => h k (by omega))
    have h2 := h n (by omega)
    rw [dcS, i_add (by omega) (by omega)]
    omega
theorem dkN_n {f : Nat → Int32} : ∀ (n : Nat), n ≤ 6 → (∀ k, k < n → 1 ≤ (f k).toInt) → dkN f n = n
  | 0, _, _ => rfl
  | n + 1, hn, h => by
    have h2 := h n (by omega)
    rw [dkN, dkN_n n (by omega) (fun k hk => h k (by omega))]
    unfold entC
    have hq : ¬ f n ≤ 0 := fun q => by
      have q2 := i_le.mp q
      rw [show (0 : Int32).toInt = 0 by decide] at q2
      omega
    rw [if_neg hq]
    omega
theorem fsI_0 {f : Nat → Int} : ∀ (n : Nat), (∀ m, m < n → f (16 + 7 * m + 3) = 0) → fsI f n = 0
  | 0, _ => rfl
  | n + 1, h => by
    show fsI f n + f (16 + 7 * n + 3) = 0
    rw [fsI_0 n (fun m hm => h m (by omega)), h n (by omega)]
    rfl
theorem getx {l : List (Int64 × Int64 × List Cd9)} {m : Nat} (h : m < l.length) : ∃ a p c, l[m]? = some (a, p, c) := ⟨_, _, _, List.getElem?_eq_getElem h⟩
theorem CE.of9 {l : List (Int64 × Int64 × List Cd9)} {ml pl : List Int64} {fst fop f : Nat → Int32} (h1 : ∀ m a p c, l[m]? = some (a, p, c) → CdC ml pl (qC9 l m) c fst fop) (h2 : ∀ m a p c, l[m]? = some (a, p, c) → CdR ml pl (qC9 l m) c f) : ∀ n, n ≤ l.length → CE (qC9 l n) f fst fop
  | 0, _ => fun k hk => absurd hk (Nat.not_lt_zero k)
  | n + 1, hn => fun k hk => by
    obtain ⟨a, p, c, e⟩ := getx (show n < l.length by omega)
    by_cases q : k < qC9 l n
    · exact CE.of9 h1 h2 n (by omega) k q
    · rw [qC9_at e] at hk
      have z := (h1 n a p c e).ce (h2 n a p c e) (k - qC9 l n) (by omega)
      rw [show qC9 l n + (k - qC9 l n) = k by omega] at z
      exact z
/-- both sides' fresh account -/
theorem frs9 {K S : Nat → Int32} {V : Nat → Int64} {ml pl : List Int64} {fde fam fpi fen fst fop fby ra f31 f33 : Nat → Int32} {pr pb pg : Int32} {nd cn c2 sc : Nat} {i6 i7 i8 : Int32} {i9 i11 : Int64} {i12 i13 i15 i16 i17 i18 i19 : Int32} {kp : Nat} {fs fp ff fd : Nat → Int32}
    (hT : TP K S V 0 0 [] [] (.inr (ml, pl))) (h1 : DF9 K V ml pl fde fam fpi fen fst fop pr pb pg nd cn sc) (h2 : DW9 K V ml pl ra f31 f33 c2) (h3 : OpnA nd fde pr pb pg i6 i7 i8 i9 i11 i12 i13 i15 i16 i17 i18 i19 kp fs fp ff fd) (hb : BYS cn fby fpi) (hcn : cn ≤ 10) (hnd : nd ≤ 6) (hsc : sc ≤ 350) :
    c2 = cn ∧ ∃ (cq b p : Nat → Nat), RC0 cn ra 0 i6 i7 i8 i9 i11 i12 i13 i15 i16 i17 i18 i19 kp fs fp ff fd fam ∧ CE sc f31 fst fop ∧ CQ cn f31 cq ∧ Ens cn cq fen ∧ Elq cn cq f33 ∧ cq cn ≤ sc ∧ BYR cn b p ra ∧ Bor cn b fby ∧ DI 0 0 cn ra 0 := by
  obtain ⟨C, t1, ⟨p1, p2, p3⟩, ⟨p4, p5⟩, ⟨p6, p7⟩, ⟨⟨n0, l0, e0⟩, pbs, n3, l3, e3⟩, pm⟩ := h1
  obtain ⟨cd, C2, t2, ⟨⟨a0, a1, a3⟩, ⟨b4, b7, b8, b10, b12⟩, ⟨d5, d6, d15, d9⟩, aM, aN⟩, c1, c3, cm⟩ := h2
  have eC : C2 = C := t2.det t1
  subst eC
  obtain ⟨⟨o6, o7, o8, o9, o11, o12, o13, o15, o16, o17, o18, o19⟩, ok, os, op, ox, od⟩ := h3
  have hD : DpC C2 := TP.dp hT t1
  have ecn : c2 = cn := c1.trans p6.symm
  refine ⟨ecn, qC9 C2.2.2, ?_⟩
  obtain ⟨b, p, y1, y2, y3⟩ := hb
  have hl10 : C2.2.2.length ≤ 10 := by omega
  have esc : sc = qC9 C2.2.2 C2.2.2.length := by rw [p7, p6]
  -- deposits
  have dep : ∀ k, k < nd → 1 ≤ (fde k).toInt ∧ (fde k).toInt ≤ 99999 := fun k hk => by
    have hk2 : k < C2.2.1.length := by omega
    obtain ⟨z1, n, z2, z3, z4⟩ := p5 k _ (List.getElem?_eq_getElem hk2)
    have z5 : (fde k).toInt = (n : Int) := by rw [z1, z4, lN_i, i_n (by omega)]
    omega
  have sum : dsL C2.2.1 = dcS fde nd := by
    have z := dsL_dcS (l := C2.2.1) (f := fde) (fun k v hv => (p5 k v hv).1) C2.2.1.length (Nat.le_refl _)
    rw [List.take_length, ← p4] at z
    exact z
  have sb := dcS_b (f := fde) nd hnd (fun k hk => by have := dep k hk; omega)
  have kn : kp = nd := ok.trans (dkN_n nd hnd (fun k hk => (dep k hk).1))
  -- numbers of the row
  have r0 : tI ra 0 = (n0 : Int) := by rw [tI_v (a0.trans (by rw [e0, lN_i])), i_n (by omega)]
  have r1 : tI ra 1 = 360 ∨ tI ra 1 = 365 := pbs.imp (fun e => (tI_v (v := 360) (a1.trans (by rw [e]; rfl))).trans (by decide)) (fun e => (tI_v (v := 365) (a1.trans (by rw [e]; rfl))).trans (by decide))
  have z0 : (0 : Int32).toInt = 0 := by decide
  have r4 : tI ra 4 = 0 := (tI_v b4).trans z0
  have r5 : tI ra 5 = (dcS fde nd).toInt := tI_v (d5.trans sum)
  have r6 : tI ra 6 = (dcS fde nd).toInt := tI_v (d6.trans sum)
  have r7 : tI ra 7 = 0 := (tI_v b7).trans z0
  have r8 : tI ra 8 = 0 := (tI_v b8).trans z0
  have mil : ∀ m, m < cn → ∃ a q c, C2.2.2[m]? = some (a, q, c) := fun m hm => getx (show m < C2.2.2.length by omega)
  have rM : ∀ m, m < cn → MI9 (tI ra) m := fun m hm => by
    obtain ⟨a, q, c, e⟩ := mil m hm
    obtain ⟨x0, x1, x2, x3, x4, x5, x6⟩ := aM m a q c e
    obtain ⟨w1, w2, w3, w4, ⟨n, l1, l2, w5⟩, w6⟩ := pm m a q c e
    have v0 : tI ra (16 + 7 * m + 0) = (n : Int) := by rw [tI_v (x0.trans (by rw [w5, lN_i])), i_n (by omega)]
    have v1 : tI ra (16 + 7 * m + 1) = 0 := (tI_v x1).trans z0
    have v2 : tI ra (16 + 7 * m + 2) = 0 := (tI_v x2).trans z0
    have v3 : tI ra (16 + 7 * m + 3) = 0 := (tI_v x3).trans z0
    unfold MI9
    rw [v0, v1, v2, v3]
    refine ⟨by omega, by omega, by omega, by omega, by omega, by omega, by omega, fun _ => rfl⟩
  have rS : fsI (tI ra) cn = 0 := fsI_0 cn (fun m hm => by
    obtain ⟨a, q, c, e⟩ := mil m hm
    exact (tI_v (aM m a q c e).2.2.2.1).trans z0)
  have q0 : (0 : Int64).toInt = 0 := by decide
  have hW : WFa cn ra 0 := by
    unfold WFa WI
    rw [r0, r4, r5, r6, r7, r8, rS, q0]
    refine ⟨⟨by omega, by omega⟩, ⟨by omega, by omega⟩, ⟨by omega, by omega⟩, ⟨by omega, by omega, by omega⟩, ⟨by omega, by omega, by omega⟩, ⟨by omega, by omega⟩, by omega, rM⟩
  have hR : RC0 cn ra 0 i6 i7 i8 i9 i11 i12 i13 i15 i16 i17 i18 i19 kp fs fp ff fd fam := by
    refine ⟨hW, ⟨hcn, by omega⟩, ⟨b4.trans o6.symm, (d5.trans sum).trans o7.symm, (d6.trans sum).trans o8.symm, by rw [b7, o9]; rfl, o11.symm, by rw [b10, o12, o13]; rfl, (a0.trans p1.symm).trans o15.symm, (a1.trans p2.symm).trans o16.symm, (a3.trans p3.symm).trans o17.symm, b12.trans o18.symm, by rw [d15, kn, p4]⟩, fun m hm => ?_⟩
    obtain ⟨a, q, c, e⟩ := mil m hm
    obtain ⟨x0, x1, x2, x3, x4, x5, x6⟩ := aM m a q c e
    obtain ⟨w1, w2, w3, w4, w5, w6⟩ := pm m a q c e
    have m10 : m < 10 := by omega
    exact ⟨x0.trans w1.symm, x1.trans (op m m10).symm, x2.trans (os m m10).symm, x3.trans (ox m m10).symm, x4.trans (od m m10).symm, by rw [x5, o19, bI_f (btC_0 _)]⟩
  refine ⟨b, p, hR, ?_, ?_, fun m hm => ?_, fun m hm => ?_, Nat.le_of_eq p7.symm, ⟨fun k hk => ⟨(y1 k hk).1, (y1 k hk).2.1⟩, y2, fun j k hj hk => ?_⟩, fun k hk => ⟨(y1 k hk).1, (y1 k hk).2.2⟩, ?_⟩
  · rw [esc]
    exact CE.of9 (fun m a q c e => (pm m a q c e).2.2.2.1) (fun m a q c e => (cm m a q c e).1) _ (Nat.le_refl _)
  · refine ⟨rfl, fun m hm => ?_⟩
    obtain ⟨a, q, c, e⟩ := mil m hm
    have e1 := qC9_at e
    have e2 := qC9_le e
    refine ⟨by show qC9 C2.2.2 m ≤ qC9 C2.2.2 (m + 1); omega, by show qC9 C2.2.2 (m + 1) ≤ 350; omega, ?_⟩
    show dpf f31 (qC9 C2.2.2 (m + 1) - qC9 C2.2.2 m) (qC9 C2.2.2 m) 0 = some 1
    rw [show qC9 C2.2.2 (m + 1) - qC9 C2.2.2 m = c.length by omega, dpl_dpf c _ 0 (cm m a q c e).1]
    exact hD m a q c e
  · obtain ⟨a, q, c, e⟩ := mil m hm
    exact (pm m a q c e).2.2.1
  · obtain ⟨a, q, c, e⟩ := mil m hm
    exact (cm m a q c e).2
  · obtain ⟨a, q, c, e⟩ := mil (b j) (y1 j (by omega)).1
    obtain ⟨a', q', c', e'⟩ := mil (b k) (y1 k hk).1
    have g1 : ra (16 + 7 * b j + 6) = fpi (b j) := (aM _ a q c e).2.2.2.2.2.2.trans (pm _ a q c e).2.1.symm
    have g2 : ra (16 + 7 * b k + 6) = fpi (b k) := (aM _ a' q' c' e').2.2.2.2.2.2.trans (pm _ a' q' c' e').2.1.symm
    show ra (16 + 7 * b j + 6) < ra (16 + 7 * b k + 6) ∨ (ra (16 + 7 * b j + 6) = ra (16 + 7 * b k + 6) ∧ b j < b k)
    rw [g1, g2]
    exact y3 j k hj hk
  · refine ⟨⟨_, _, _, _, _, _, _, _, _, _, _, _, _, _, _, _, _, _, hR⟩, b4, by rw [q0, r8]; omega, by rw [r8]; exact Int.le_refl 0, nd, by rw [d15, p4], by omega, by omega⟩
