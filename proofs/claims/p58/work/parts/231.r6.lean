
theorem RC0.ab {n : Nat} {r s : Nat → Int32} {q : Int64} {i6 i7 i8 : Int32} {i9 i11 : Int64} {i12 i13 i15 i16 i17 i18 i19 : Int32} {kp : Nat} {fs fp ff fd fam : Nat → Int32} (h : RC0 n r q i6 i7 i8 i9 i11 i12 i13 i15 i16 i17 i18 i19 kp fs fp ff fd fam) (a : Ab r s) : RC0 n s q i6 i7 i8 i9 i11 i12 i13 i15 i16 i17 i18 i19 kp fs fp ff fd fam := by
  have hn := h.2.1.1
  have t : ∀ j, j < 86 → j ≠ 9 → tI s j = tI r j := fun j h1 h2 => tI_c (a j h1 h2)
  refine RC0.mk h (WI.cong h.1 (fun j hj => t j (by omega) (by omega)) (fun m i hm hi => t _ (by omega) (by omega))) h.2.1.2 ?_ ?_ ?_ ?_ h.2.2.1.2.2.2.2.1 ?_ ?_ ?_ ?_ ?_ ?_ (fun m hm => ?_)
  · rw [a.at 4 (by omega)]; exact h.2.2.1.1
  · rw [a.at 5 (by omega)]; exact h.2.2.1.2.1
  · rw [a.at 6 (by omega)]; exact h.2.2.1.2.2.1
  · rw [a.at 7 (by omega)]; exact h.2.2.1.2.2.2.1
  · rw [a.at 10 (by omega)]; exact h.2.2.1.2.2.2.2.2.1
  · rw [a.at 0 (by omega)]; exact h.2.2.1.2.2.2.2.2.2.1
  · rw [a.at 1 (by omega)]; exact h.2.2.1.2.2.2.2.2.2.2.1
  · rw [a.at 3 (by omega)]; exact h.2.2.1.2.2.2.2.2.2.2.2.1
  · rw [a.at 12 (by omega)]; exact h.2.2.1.2.2.2.2.2.2.2.2.2.1
  · rw [a.at 15 (by omega)]; exact h.2.2.1.2.2.2.2.2.2.2.2.2.2
  · obtain ⟨b0, b1, b2, b3, b4, b5⟩ := h.2.2.2 m hm
    exact ⟨a.at _ (by omega), (a.at _ (by omega)).trans b1, (a.at _ (by omega)).trans b2, (a.at _ (by omega)).trans b3, (a.at _ (by omega)).trans b4, a.at _ (by omega)⟩
/-- at least K entries are kept -/
def Kge (K : Nat) (r : Nat → Int32) : Prop := ∃ k, r 15 = nI k ∧ k ≤ 60 ∧ K ≤ k
theorem Kge.of {K : Nat} {r s : Nat → Int32} (h : Kge K r) (e : s 15 = r 15) : Kge K s := by
  obtain ⟨k, a, b, c⟩ := h
  exact ⟨k, e.trans a, b, c⟩
theorem Kge.le {K L : Nat} {r : Nat → Int32} (h : Kge K r) (e : L ≤ K) : Kge L r := by
  obtain ⟨k, a, b, c⟩ := h
  exact ⟨k, a, b, by omega⟩
theorem Kge.set {K k : Nat} {r : Nat → Int32} {v : Int32} (h : Kge K r) (hk : k ≠ 15) : Kge K (upd r k v) := h.of (pk_un (fun e => hk e.symm))
theorem Kge.ent {K : Nat} {r : Nat → Int32} {x : Int32} (h : Kge K r) : Kge K (entR x r) := by
  obtain ⟨k, a, b, c⟩ := h
  refine ⟨entN k x, entR_e a b, ?_, ?_⟩
  · unfold entN
    split <;> omega
  · unfold entN
    split <;> omega
theorem Kge.ent1 {K : Nat} {r : Nat → Int32} {x : Int32} (h : Kge K r) (hx : ¬ x = 0) : Kge (min (K + 1) 60) (entR x r) := by
  obtain ⟨k, a, b, c⟩ := h
  refine ⟨entN k x, entR_e a b, ?_, ?_⟩
  · unfold entN
    split <;> omega
  · unfold entN
    rw [if_neg hx]
    omega
theorem Kge.abv {K : Nat} {r s : Nat → Int32} (h : Kge K r) (a : Ab r s) : Kge K s := h.of (a.at 15 (by omega))
theorem Kge.mkPv {K m : Nat} {r : Nat → Int32} {x : Int32} (h : Kge K r) : Kge K (mkP m x r) := by
  unfold mkP
  exact (((h.set (by omega)).set (by omega)).set (by omega)).ent
theorem Kge.clRv {K m : Nat} {r : Nat → Int32} (h : Kge K r) : Kge K (clR m r) := by
  unfold clR
  by_cases c : remR r m = 0
  · rw [if_pos c]; exact h.set (by omega)
  · rw [if_neg c]; exact h
theorem Kge.refRv {K : Nat} {r : Nat → Int32} {x : Int32} (h : Kge K r) : Kge K (refR x r) := by
  unfold refR
  exact ((h.set (by omega)).set (by omega)).ent
theorem Kge.ps {K n m : Nat} {r : Nat → Int32} (h : Kge K r) : Kge K (pstep n m r) := by
  unfold pstep
  by_cases c : ripe r m ∧ 0 < minI (remR r m) (avR r n)
  · rw [if_pos c]; exact h.mkPv.clRv
  · rw [if_neg c]; exact h
theorem Kge.paysv {K n : Nat} {o : Nat → Nat} {r : Nat → Int32} (h : Kge K r) : ∀ k, Kge K (pays n o r k)
  | 0 => h
  | k + 1 => (Kge.paysv h k).ps
theorem Kge.ds {K m : Nat} {f : Nat → Int32} {cq : Nat → Nat} {dn : Int32} {r : Nat → Int32} (h : Kge K r) : Kge K (dstep f cq dn m r) := by
  unfold dstep
  by_cases c : r (16 + 7 * m + 2) = 0 ∧ hdV (hdF r m (r 4) (r 12) dn) f cq m = true
  · rw [if_pos c]; exact (h.set (by omega)).set (by omega)
  · rw [if_neg c]; exact h
theorem Kge.duesv {K : Nat} {f : Nat → Int32} {cq : Nat → Nat} {dn : Int32} {r : Nat → Int32} (h : Kge K r) : ∀ k, Kge K (dues f cq dn r k)
  | 0 => h
  | k + 1 => (Kge.duesv h k).ds
theorem Kge.crRv {K : Nat} {r : Nat → Int32} {p : Int64} (h : Kge K r) : Kge K (crR p r) := by
  unfold crR
  exact ((h.set (by omega)).set (by omega)).ent
theorem Kge.day2v {K dy : Nat} {r : Nat → Int32} {q : Int64} (h : Kge K r) : Kge K (day2 dy r q) := by
  unfold day2
  by_cases c : (dy + 1) % 30 = 0
  · rw [if_pos c]; exact (h.set (by omega)).crRv
  · rw [if_neg c]; exact h.set (by omega)
theorem Kge.dayv {K dy n : Nat} {f : Nat → Int32} {cq b : Nat → Nat} {r : Nat → Int32} {q : Int64} (h : Kge K r) : Kge K (dayR f cq n b dy r q) := by
  unfold dayR
  exact (h.day2v.duesv n).paysv n
/-- the reference's days keep what is kept -/
theorem Kge.DyRv {K dy n : Nat} {f : Nat → Int32} {cq : Nat → Nat} {r s : Nat → Int32} {q q2 : Int64} (h : Kge K r) (d : DyR f cq n dy r q s q2) : Kge K s := by
  obtain ⟨r2, hr2, M, o, -, ha⟩ := d
  have h2 : Kge K r2 := by
    rcases hr2 with ⟨-, e, -⟩ | ⟨-, e, -⟩
    · rw [e]; exact (h.set (by omega)).crRv
    · rw [e]; exact h.set (by omega)
  exact ((h2.duesv n).paysv M).abv ha
theorem Kge.DysRv {K dy n : Nat} {f : Nat → Int32} {cq : Nat → Nat} {r : Nat → Int32} {q : Int64} (h : Kge K r) : ∀ {N : Nat} {s : Nat → Int32} {q2 : Int64}, DysR f cq n N dy r q s q2 → Kge K s
  | 0, _, _, d => h.abv d.1
  | _ + 1, _, _, d => by
    obtain ⟨t, p1, d1, d2⟩ := d
    exact (Kge.DysRv h d1).DyRv d2
/-- how much can be credited at most by c credits -/
def Bd : Nat → Int
  | 0 => 0
  | c + 1 => Bd c + (10000000 + Bd c) / 40 + 2
theorem Bd_pos : ∀ c, 0 ≤ Bd c
  | 0 => Int.le_refl 0
  | c + 1 => by
    have := Bd_pos c
    rw [Bd]
    omega
theorem Bd_add (c : Nat) : ∀ d, Bd c ≤ Bd (c + d)
  | 0 => Int.le_refl _
  | d + 1 => by
    have h1 := Bd_add c d
    have h2 := Bd_pos (c + d)
    show Bd c ≤ Bd (c + d) + (10000000 + Bd (c + d)) / 40 + 2
    omega
theorem Bd_104 : Bd 104 ≤ 1000000000 := by decide +kernel
theorem Bd_cap {c : Nat} (h : c ≤ 104) : Bd c ≤ 1000000000 := by
  have := Bd_add c (104 - c)
  rw [show c + (104 - c) = 104 by omega] at this
  exact Int.le_trans this Bd_104
theorem cr_num {n : Nat} {r : Nat → Int32} {q : Int64} (h : WFa n r q) (hc : Cap0 r) : 0 ≤ (crC q r).toInt ∧ (crC q r).toInt * 3600000 ≤ q.toInt ∧ 0 ≤ (crQ q r).toInt ∧ (crQ q r).toInt ≤ 3650000 ∧ (r 8 + crC q r).toInt = tI r 8 + (crC q r).toInt := by
  have hc1 : tI r 8 ≤ 1000000000 := hc
  obtain ⟨a0, a1, a4, a6, a7, aQ, aS, aM⟩ := h
  have e : ((r 1).toInt64).toInt = tI r 1 := by rw [i_w]; rfl
  have eB : ((10000 : Int64) * (r 1).toInt64).toInt = 10000 * tI r 1 := by rw [l_mul (by rw [zl_10000, e]; omega) (by rw [zl_10000, e]; omega), zl_10000, e]
  have eK : (q / ((10000 : Int64) * (r 1).toInt64)).toInt = q.toInt / (10000 * tI r 1) := by rw [l_div aQ.1, eB]
  have k0 : 0 ≤ q.toInt / (10000 * tI r 1) := Int.ediv_nonneg aQ.1 (by omega)
  have k1 : (q.toInt / (10000 * tI r 1)) * (10000 * tI r 1) ≤ q.toInt := Int.ediv_mul_le _ (by omega)
  have k2 : (q.toInt / (10000 * tI r 1)) * 3600000 ≤ (q.toInt / (10000 * tI r 1)) * (10000 * tI r 1) := Int.mul_le_mul_of_nonneg_left (by omega) k0
  have k3 : q.toInt < (q.toInt / (10000 * tI r 1)) * (10000 * tI r 1) + 10000 * tI r 1 := by
    have := Int.lt_ediv_add_one_mul_self q.toInt (show 0 < 10000 * tI r 1 by omega)
    rw [Int.add_mul, Int.one_mul] at this
    exact this
  have eM2 : (q / ((10000 : Int64) * (r 1).toInt64) * ((10000 : Int64) * (r 1).toInt64)).toInt = (q.toInt / (10000 * tI r 1)) * (10000 * tI r 1) := by rw [l_mul (by rw [eK, eB]; omega) (by rw [eK, eB]; omega), eK, eB]
  unfold crC crQ
  generalize hKe : q.toInt / (10000 * tI r 1) = K at *
  generalize hKB : K * (10000 * tI r 1) = KB at *
  generalize hke : q / ((10000 : Int64) * (r 1).toInt64) = k at *
  generalize hkb : k * ((10000 : Int64) * (r 1).toInt64) = kb at *
  have b2 : K ≤ 30000000 := by omega
  have e32 : (k.toInt32).toInt = K := by
    rw [Int64.toInt_toInt32, eK]
    exact Int.bmod_eq_of_le (by omega) (by omega)
  have eQ2 : (q - kb).toInt = q.toInt - KB := by rw [l_sub (by rw [eM2]; omega) (by rw [eM2]; omega), eM2]
  rw [e32, eQ2]
  refine ⟨k0, by omega, by omega, by omega, ?_⟩
  rw [← e32]
  exact i_add (by rw [e32]; show _ ≤ tI r 8 + _; omega) (by rw [e32]; show tI r 8 + _ ≤ _; omega)
/-- there is an account of the class that is held against the row -/
def RCE (n : Nat) (r : Nat → Int32) (q : Int64) : Prop := ∃ (i6 i7 i8 : Int32) (i9 i11 : Int64) (i12 i13 i15 i16 i17 i18 i19 : Int32) (kp : Nat) (fs fp ff fd fam : Nat → Int32), RC0 n r q i6 i7 i8 i9 i11 i12 i13 i15 i16 i17 i18 i19 kp fs fp ff fd fam
theorem RCE.w {n : Nat} {r : Nat → Int32} {q : Int64} (h : RCE n r q) : WFa n r q := by
  obtain ⟨i6, i7, i8, i9, i11, i12, i13, i15, i16, i17, i18, i19, kp, fs, fp, ff, fd, fam, h⟩ := h
  exact h.1
theorem RCE.n10 {n : Nat} {r : Nat → Int32} {q : Int64} (h : RCE n r q) : n ≤ 10 := by
  obtain ⟨i6, i7, i8, i9, i11, i12, i13, i15, i16, i17, i18, i19, kp, fs, fp, ff, fd, fam, h⟩ := h
  exact h.2.1.1
theorem RCE.ds {n m : Nat} {r : Nat → Int32} {q : Int64} {f : Nat → Int32} {cq : Nat → Nat} {dn : Int32} : ∀ {k : Nat}, k ≤ n → RCE n r q → RCE n (dues f cq dn r k) q
  | 0, _, h => h
  | k + 1, hk, h => by
    obtain ⟨i6, i7, i8, i9, i11, i12, i13, i15, i16, i17, i18, i19, kp, fs, fp, ff, fd, fam, g⟩ := RCE.ds (m := m) (k := k) (f := f) (cq := cq) (dn := dn) (by omega) h
    by_cases c : fs k = 0 ∧ hdV (hdG (i12 + i13) (bI (decide (btC i19 (nI k)))) i6 i18 dn) f cq k = true
    · exact ⟨i6, i7, i8, i9, i11, i12, i13, i15, i16, i17, i18, i19, kp, upd fs k 1, fp, ff, upd fd k i6, fam, g.due_y (by omega) c.1 c.2 rfl rfl⟩
    · exact ⟨i6, i7, i8, i9, i11, i12, i13, i15, i16, i17, i18, i19, kp, fs, fp, ff, fd, fam, g.due_n (by omega) c⟩
theorem RCE.py {n : Nat} {r : Nat → Int32} {q : Int64} {b : Nat → Nat} (hb : ∀ j, j < n → b j < n) : ∀ {k : Nat}, k ≤ n → RCE n r q → RCE n (pays n b r k) q
  | 0, _, h => h
  | k + 1, hk, h => by
    obtain ⟨i6, i7, i8, i9, i11, i12, i13, i15, i16, i17, i18, i19, kp, fs, fp, ff, fd, fam, g⟩ := RCE.py hb (k := k) (by omega) h
    by_cases c : (fs (b k) = 1 ∧ fd (b k) + i17 ≤ i6) ∧ 0 < minI (rmC fs fp fam (b k)) (avC i8 ff n)
    · exact ⟨i6, i7, i8 - minI (rmC fs fp fam (b k)) (avC i8 ff n), i9, i11, i12 + minI (rmC fs fp fam (b k)) (avC i8 ff n), i13, i15, i16, i17, i18, i19, entC kp (minI (rmC fs fp fam (b k)) (avC i8 ff n)), _, upd fp (b k) (fp (b k) + minI (rmC fs fp fam (b k)) (avC i8 ff n)), ff, fd, fam, g.pst_y (hb k (by omega)) c.1 c.2 rfl (by ac_rfl) rfl rfl⟩
    · exact ⟨i6, i7, i8, i9, i11, i12, i13, i15, i16, i17, i18, i19, kp, fs, fp, ff, fd, fam, g.pst_n (hb k (by omega)) c⟩
theorem RCE.d2 {n dy : Nat} {r : Nat → Int32} {q : Int64} (h : RCE n r q) (hd : r 4 = nI dy) (hd1 : dy < 20000) (hc : Cpd r q) : RCE n (day2 dy r q) (dayQ dy r q) := by
  obtain ⟨i6, i7, i8, i9, i11, i12, i13, i15, i16, i17, i18, i19, kp, fs, fp, ff, fd, fam, h⟩ := h
  have g := h.day hd hd1 hc
  unfold day2 dayQ
  by_cases c : (dy + 1) % 30 = 0
  · rw [if_pos c, if_pos c]
    exact ⟨_, _, _, _, _, _, _, _, _, _, _, _, _, _, _, _, _, _, g.cr (Cap0.day hc.1) rfl⟩
  · rw [if_neg c, if_neg c]
    exact ⟨_, _, _, _, _, _, _, _, _, _, _, _, _, _, _, _, _, _, g⟩
theorem RCE.dayv {n dy : Nat} {r : Nat → Int32} {q : Int64} {f : Nat → Int32} {cq b : Nat → Nat} (h : RCE n r q) (hd : r 4 = nI dy) (hd1 : dy < 20000) (hc : Cpd r q) (hb : ∀ j, j < n → b j < n) : RCE n (dayR f cq n b dy r q) (dayQ dy r q) := by
  unfold dayR
  exact RCE.py hb (Nat.le_refl n) (RCE.ds (m := 0) (Nat.le_refl n) (h.d2 hd hd1 hc))
/-- cells that neither dues nor payments touch -/
theorem mkP_c {m j : Nat} {x : Int32} {r : Nat → Int32} (h : j = 4 ∨ j = 8) : mkP m x r j = r j := mkP_o (by omega) (by omega) (by omega) (by omega)
theorem ps_c {n m j : Nat} {r : Nat → Int32} (h : j = 4 ∨ j = 8) : pstep n m r j = r j := by
  unfold pstep
  by_cases c : ripe r m ∧ 0 < minI (remR r m) (avR r n)
  · rw [if_pos c]
    unfold clR
    by_cases d : remR (mkP m (minI (remR r m) (avR r n)) r) m = 0
    · rw [if_pos d, pk_un (by omega), mkP_c h]
    · rw [if_neg d, mkP_c h]
  · rw [if_neg c]
theorem pays_c {n j : Nat} {o : Nat → Nat} {r : Nat → Int32} (h : j = 4 ∨ j = 8) : ∀ k, pays n o r k j = r j
  | 0 => rfl
  | k + 1 => (ps_c h).trans (pays_c h k)
theorem ds_c {m j : Nat} {f : Nat → Int32} {cq : Nat → Nat} {dn : Int32} {r : Nat → Int32} (h : j = 4 ∨ j = 8) : dstep f cq dn m r j = r j := by
  unfold dstep
  by_cases c : r (16 + 7 * m + 2) = 0 ∧ hdV (hdF r m (r 4) (r 12) dn) f cq m = true
  · rw [if_pos c, pk_un (by omega), pk_un (by omega)]
  · rw [if_neg c]
theorem dues_c {j : Nat} {f : Nat → Int32} {cq : Nat → Nat} {dn : Int32} {r : Nat → Int32} (h : j = 4 ∨ j = 8) : ∀ k, dues f cq dn r k j = r j
  | 0 => rfl
  | k + 1 => (ds_c h).trans (dues_c h k)
/-- an account on day dy behind c credits -/
def DI (c dy n : Nat) (r : Nat → Int32) (q : Int64) : Prop := RCE n r q ∧ r 4 = nI dy ∧ q.toInt ≤ 3650000 + ((dy : Int) % 30) * (3000 * (9999999 + tI r 8)) ∧ tI r 8 ≤ Bd c ∧ Kge (min c 60) r
theorem DI.cpd {c dy n : Nat} {r : Nat → Int32} {q : Int64} (h : DI c dy n r q) (hc : c ≤ 104) (hd : dy < 20000) : Cpd r q := by
  refine ⟨Int.le_trans h.2.2.2.1 (Bd_cap hc), ?_⟩
  rw [tI_v h.2.1, i_n (by omega)]
  exact h.2.2.1
theorem DI.dayv {c dy n : Nat} {r : Nat → Int32} {q : Int64} {f : Nat → Int32} {cq b : Nat → Nat} (h : DI c dy n r q) (hc : c ≤ 104) (hd : dy < 20000) (hb : ∀ j, j < n → b j < n) : ∃ c2, c ≤ c2 ∧ c2 ≤ c + ((dy + 1) / 30 - dy / 30) ∧ DI c2 (dy + 1) n (dayR f cq n b dy r q) (dayQ dy r q) := by
  have hp := h.cpd hc hd
  obtain ⟨hE, h4, hQ, h8, hK⟩ := h
  have hE2 := hE.dayv (f := f) (cq := cq) (b := b) h4 hd hp hb
  have hEd := hE.d2 h4 hd hp
  have e4 : dayR f cq n b dy r q 4 = day2 dy r q 4 := (pays_c (Or.inl rfl) n).trans (dues_c (Or.inl rfl) n)
  have e8 : dayR f cq n b dy r q 8 = day2 dy r q 8 := (pays_c (Or.inr rfl) n).trans (dues_c (Or.inr rfl) n)
  have hc1 : tI r 8 ≤ 1000000000 := hp.1
  obtain ⟨a0, a1, a4, a6, a7, aQ, aS, aM⟩ := hE.w
  have pt := (pqQ_toInt hE.w hp.1).1
  have p0 : 0 ≤ (tI r 6 + tI r 7) * tI r 0 := Int.mul_nonneg (by omega) (by omega)
  have p1 : (tI r 6 + tI r 7) * tI r 0 ≤ 3000 * (9999999 + tI r 8) := by
    rw [Int.mul_comm 3000]
    exact Int.mul_le_mul (by omega) (by omega) (by omega) (by omega)
  by_cases c30 : (dy + 1) % 30 = 0
  · have eD : day2 dy r q = crR (pqQ q r) (upd r 4 (nI (dy + 1))) := if_pos c30
    have eQ : dayQ dy r q = crQ (pqQ q r) (upd r 4 (nI (dy + 1))) := if_pos c30
    have hEu : RCE n (upd r 4 (nI (dy + 1))) (pqQ q r) := by
      obtain ⟨i6, i7, i8, i9, i11, i12, i13, i15, i16, i17, i18, i19, kp, fs, fp, ff, fd, fam, g⟩ := hE
      exact ⟨_, _, _, _, _, _, _, _, _, _, _, _, _, _, _, _, _, _, g.day h4 hd hp⟩
    obtain ⟨n0, n1, n2, n3, n8⟩ := cr_num hEu.w (Cap0.day hp.1)
    have u8 : tI (upd r 4 (nI (dy + 1))) 8 = tI r 8 := tI_c (pk_un (by omega))
    have r8 : tI (day2 dy r q) 8 = tI r 8 + (crC (pqQ q r) (upd r 4 (nI (dy + 1)))).toInt := by
      have z : day2 dy r q 8 = upd r 4 (nI (dy + 1)) 8 + crC (pqQ q r) (upd r 4 (nI (dy + 1))) := by
        rw [eD]; unfold crR; exact (entR_n (by omega)).trans pk_us
      rw [tI_v z, n8, u8]
    have r4 : day2 dy r q 4 = nI (dy + 1) := by
      rw [eD]; unfold crR; exact (entR_n (by omega)).trans ((pk_un (by omega)).trans ((pk_un (by omega)).trans pk_us))
    have q3 : (dayQ dy r q).toInt ≤ 3650000 := by rw [eQ]; exact n3
    have dm : (dy + 1) / 30 - dy / 30 = 1 := by omega
    have m0 : (((dy + 1 : Nat) : Int) % 30) = 0 := by omega
    have hQ2 : (dayQ dy r q).toInt ≤ 3650000 + (((dy + 1 : Nat) : Int) % 30) * (3000 * (9999999 + tI (dayR f cq n b dy r q) 8)) := by rw [m0, Int.zero_mul]; omega
    have dm29 : (dy : Int) % 30 = 29 := by omega
    rw [dm29] at hQ
    by_cases z : crC (pqQ q r) (upd r 4 (nI (dy + 1))) = 0
    · refine ⟨c, Nat.le_refl c, by omega, hE2, e4.trans r4, hQ2, ?_, hK.dayv⟩
      rw [tI_c e8, r8, z, z_0]
      omega
    · refine ⟨c + 1, by omega, by omega, hE2, e4.trans r4, hQ2, ?_, ?_⟩
      · rw [tI_c e8, r8, Bd]
        rw [pt] at n1
        generalize (tI r 6 + tI r 7) * tI r 0 = Y at *
        omega
      · have k1 : Kge (min (c + 1) 60) (day2 dy r q) := by
          rw [eD]
          unfold crR
          exact Kge.le (Kge.ent1 (((hK.set (by omega)).set (by omega)).set (by omega)) z) (by omega)
        unfold dayR
        exact (k1.duesv n).paysv n
  · have eD : day2 dy r q = upd r 4 (nI (dy + 1)) := if_neg c30
    have eQ : dayQ dy r q = pqQ q r := if_neg c30
    have r4 : day2 dy r q 4 = nI (dy + 1) := by rw [eD]; exact pk_us
    have r8 : tI (dayR f cq n b dy r q) 8 = tI r 8 := by rw [tI_c e8, eD]; exact tI_c (pk_un (by omega))
    refine ⟨c, Nat.le_refl c, by omega, hE2, e4.trans r4, ?_, ?_, hK.dayv⟩
    · rw [r8, eQ, pt]
      have m1 : (((dy + 1 : Nat) : Int) % 30) = (dy : Int) % 30 + 1 := by omega
      rw [m1, Int.add_mul ((dy : Int) % 30) 1, Int.one_mul]
      generalize ((dy : Int) % 30) * (3000 * (9999999 + tI r 8)) = Z at *
      generalize (tI r 6 + tI r 7) * tI r 0 = Y at *
      omega
    · rw [r8]; exact h8
theorem DI.days {c dy n : Nat} {r : Nat → Int32} {q : Int64} {f : Nat → Int32} {cq b : Nat → Nat} (h : DI c dy n r q) (hc : c ≤ 100) (hb : ∀ j, j < n → b j < n) : ∀ {N : Nat}, N ≤ 120 → dy + N ≤ 20000 → ∃ c2, c ≤ c2 ∧ c2 ≤ c + ((dy + N) / 30 - dy / 30) ∧ DI c2 (dy + N) n (dysP f cq n b dy r q N).1 (dysP f cq n b dy r q N).2
  | 0, _, _ => ⟨c, Nat.le_refl c, by omega, h⟩
  | N + 1, hN, hd => by
    obtain ⟨c1, l1, l2, g⟩ := DI.days h hc hb (N := N) (by omega) (by omega)
    obtain ⟨c2, l3, l4, g2⟩ := g.dayv (f := f) (cq := cq) (b := b) (by omega) (by omega) hb
    exact ⟨c2, by omega, by omega, g2⟩
/-- before a pass of at most 120 days all its days keep the bounds -/
theorem DI.capN {c dy n : Nat} {r : Nat → Int32} {q : Int64} {f : Nat → Int32} {cq b : Nat → Nat} (h : DI c dy n r q) (hc : c ≤ 100) (hb : ∀ j, j < n → b j < n) (hd : dy ≤ 9999) : CapN False f cq n b dy 120 r q := fun k hk _ => by
  obtain ⟨c1, l1, l2, g⟩ := DI.days (f := f) (cq := cq) h hc hb (N := k) (by omega) (by omega)
  exact g.cpd (by omega) (by omega)
theorem CapN.sat {f : Nat → Int32} {cq b : Nat → Nat} {dy N n : Nat} {r : Nat → Int32} {q : Int64} {sm : Prop} (h : sm) : CapN sm f cq n b dy N r q := fun _ _ ns => absurd h ns
