/-- a row that the reference remembers: the i-th from the last -/
def hr (fh : Nat → Int32) (ed i : Nat) : Nat → Int32 := fun j => fh (326 * (ed - 1 - i) + j)
/-- a remembered account of the class -/
def RC0S (n : Nat) (r : Nat → Int32) (q : Int64) (mi : Nat → Nat → Int32) (ml : Nat → Nat → Int64) (mk : Nat → Nat) (mf : Nat → Nat → Nat → Int32) (s : Nat) (fam : Nat → Int32) : Prop := RC0 n r q (mi s 6) (mi s 7) (mi s 8) (ml s 9) (ml s 11) (mi s 12) (mi s 13) (mi s 15) (mi s 16) (mi s 17) (mi s 18) (mi s 19) (mk s) (mf s 3) (mf s 4) (mf s 5) (mf s 6) fam
def DyC (x : Int32) : Prop := ∃ dy, dy ≤ 9999 ∧ x = nI dy
/-- the plan, in both sides' codes -/
def COD (n sc : Nat) (fst fop fen fby f31 f33 : Nat → Int32) (cq b : Nat → Nat) : Prop := CE sc f31 fst fop ∧ CQ n f31 cq ∧ Ens n cq fen ∧ Elq n cq f33 ∧ cq n ≤ sc ∧ Bor n b fby
/-- both sides' accounts agree; c i credits lie behind the i-th account -/
def SYN (c : Nat → Nat) (n : Nat) (fam : Nat → Int32) (i6 : Int32) (i7 : Int32) (i8 : Int32) (i9 : Int64) (i11 : Int64) (i12 : Int32) (i13 : Int32) (i15 : Int32) (i16 : Int32) (i17 : Int32) (i18 : Int32) (i19 : Int32) (kp : Nat) (fs : Nat → Int32) (fp : Nat → Int32) (ff : Nat → Int32) (fd : Nat → Int32) (wn wc : Nat) (mi : Nat → Nat → Int32) (ml : Nat → Nat → Int64) (mk : Nat → Nat) (mf : Nat → Nat → Nat → Int32) (r : Nat → Int32) (q : Int64) (ed : Nat) (fh : Nat → Int32) (fl : Nat → Int64) : Prop :=
  (RC0 n r q i6 i7 i8 i9 i11 i12 i13 i15 i16 i17 i18 i19 kp fs fp ff fd fam ∧ ∃ dy, dy ≤ 9999 ∧ DI (c 0) dy n r q) ∧ ed = wc ∧ (∀ i, i < wc → RC0S n (hr fh wc i) (fl (wc - 1 - i)) mi ml mk mf ((wn + 9 - i) % 10) fam ∧ ∃ dy, dy ≤ 9999 ∧ DI (c (i + 1)) dy n (hr fh wc i) (fl (wc - 1 - i))) ∧ (∀ i, i < wc → c (i + 1) ≤ 100) ∧ ∀ i, i < wc → c i ≤ c (i + 1) + 4
/-- saturated: 60 entries are kept, now and in all that is remembered -/
def SYSc (i6 : Int32) (kp wn wc : Nat) (mi : Nat → Nat → Int32) (mk : Nat → Nat) : Prop := kp = 60 ∧ DyC i6 ∧ ∀ i, i < wc → mk ((wn + 9 - i) % 10) = 60 ∧ DyC (mi ((wn + 9 - i) % 10) 6)
def SYSr (r : Nat → Int32) (ed : Nat) (fh : Nat → Int32) : Prop := Kge 60 r ∧ ∀ i, i < ed → Kge 60 (hr fh ed i)
def SYx (sm : Prop) (cq b p : Nat → Nat) (n sc : Nat) (fst fop fen fby fam : Nat → Int32) (i6 : Int32) (i7 : Int32) (i8 : Int32) (i9 : Int64) (i11 : Int64) (i12 : Int32) (i13 : Int32) (i15 : Int32) (i16 : Int32) (i17 : Int32) (i18 : Int32) (i19 : Int32) (kp : Nat) (fs : Nat → Int32) (fp : Nat → Int32) (ff : Nat → Int32) (fd : Nat → Int32) (wn wc : Nat) (mi : Nat → Nat → Int32) (ml : Nat → Nat → Int64) (mk : Nat → Nat) (mf : Nat → Nat → Nat → Int32) (f31 f33 r : Nat → Int32) (q : Int64) (ed : Nat) (fh : Nat → Int32) (fl : Nat → Int64) : Prop :=
  COD n sc fst fop fen fby f31 f33 cq b ∧ BYR n b p r ∧ (∀ i, i < ed → Pri n r (hr fh ed i)) ∧ (n ≤ 10 ∧ wn < 10 ∧ wc ≤ 10 ∧ ed ≤ 10) ∧ ((¬ sm ∧ ∃ c, SYN c n fam i6 i7 i8 i9 i11 i12 i13 i15 i16 i17 i18 i19 kp fs fp ff fd wn wc mi ml mk mf r q ed fh fl ∧ c 0 ≤ 100) ∨ (sm ∧ SYSc i6 kp wn wc mi mk ∧ SYSr r ed fh))
def SY (n sc : Nat) (fst fop fen fby fam : Nat → Int32) (i6 : Int32) (i7 : Int32) (i8 : Int32) (i9 : Int64) (i11 : Int64) (i12 : Int32) (i13 : Int32) (i15 : Int32) (i16 : Int32) (i17 : Int32) (i18 : Int32) (i19 : Int32) (kp : Nat) (fs : Nat → Int32) (fp : Nat → Int32) (ff : Nat → Int32) (fd : Nat → Int32) (wn wc : Nat) (mi : Nat → Nat → Int32) (ml : Nat → Nat → Int64) (mk : Nat → Nat) (mf : Nat → Nat → Nat → Int32) (f31 f33 r : Nat → Int32) (q : Int64) (ed : Nat) (fh : Nat → Int32) (fl : Nat → Int64) : Prop := ∃ (sm : Prop) (cq b p : Nat → Nat), SYx sm cq b p n sc fst fop fen fby fam i6 i7 i8 i9 i11 i12 i13 i15 i16 i17 i18 i19 kp fs fp ff fd wn wc mi ml mk mf f31 f33 r q ed fh fl
/-- what an edit leaves of days, credits, entries, priorities -/
def OpK (n : Nat) (r s : Nat → Int32) : Prop := s 4 = r 4 ∧ s 8 = r 8 ∧ (∀ K, Kge K r → Kge K s) ∧ Pri n r s
theorem OpK.rf (n : Nat) (r : Nat → Int32) : OpK n r r := ⟨rfl, rfl, fun _ h => h, Pri.rf n r⟩
theorem OpK.tr {n : Nat} {r s t : Nat → Int32} (h : OpK n r s) (g : OpK n s t) : OpK n r t := ⟨g.1.trans h.1, g.2.1.trans h.2.1, fun K k => g.2.2.1 K (h.2.2.1 K k), h.2.2.2.tr g.2.2.2⟩
theorem OpK.set {n : Nat} {r : Nat → Int32} (k : Nat) (v : Int32) (h4 : k ≠ 4) (h8 : k ≠ 8) (h15 : k ≠ 15) (hm : ∀ m, m < n → k ≠ 16 + 7 * m + 6) : OpK n r (upd r k v) := ⟨pk_un (fun e => h4 e.symm), pk_un (fun e => h8 e.symm), fun _ h => h.set h15, Pri.set k v hm⟩
theorem OpK.ent {n : Nat} {r : Nat → Int32} (x : Int32) : OpK n r (entR x r) := ⟨entR_n (by omega), entR_n (by omega), fun _ h => h.ent, Pri.ent x⟩
theorem OpK.ab {n : Nat} {r s : Nat → Int32} (h : Ab r s) (hn : n ≤ 10) : OpK n r s := ⟨h.at 4 (by omega), h.at 8 (by omega), fun _ k => k.abv h, Pri.ab h hn⟩
theorem OpK.mkPv {n : Nat} {r : Nat → Int32} (m : Nat) (x : Int32) : OpK n r (mkP m x r) := by
  unfold mkP
  exact ((OpK.set 6 _ (by omega) (by omega) (by omega) (fun m _ => by omega)).tr ((OpK.set 10 _ (by omega) (by omega) (by omega) (fun m _ => by omega)).tr (OpK.set _ _ (by omega) (by omega) (by omega) (fun m _ => by omega)))).tr (OpK.ent x)
theorem OpK.clRv {n : Nat} {r : Nat → Int32} (m : Nat) : OpK n r (clR m r) := by
  unfold clR
  by_cases c : remR r m = 0
  · rw [if_pos c]; exact OpK.set _ _ (by omega) (by omega) (by omega) (fun m _ => by omega)
  · rw [if_neg c]; exact OpK.rf n r
theorem OpK.refRv {n : Nat} {r : Nat → Int32} (x : Int32) : OpK n r (refR x r) := by
  unfold refR
  exact ((OpK.set 6 _ (by omega) (by omega) (by omega) (fun m _ => by omega)).tr (OpK.set 11 _ (by omega) (by omega) (by omega) (fun m _ => by omega))).tr (OpK.ent x)
theorem OpK.dep {n : Nat} {r : Nat → Int32} (x : Int32) : OpK n r (depR x r) := by
  unfold depR
  exact ((OpK.set 5 _ (by omega) (by omega) (by omega) (fun m _ => by omega)).tr (OpK.set 6 _ (by omega) (by omega) (by omega) (fun m _ => by omega))).tr (OpK.ent x)
theorem OpK.gra {n : Nat} {r : Nat → Int32} (x : Int32) : OpK n r (graR x r) := OpK.set 3 x (by omega) (by omega) (by omega) (fun m _ => by omega)
theorem OpK.pin {n : Nat} {r : Nat → Int32} (x : Int32) : OpK n r (pinR x r) := by
  unfold pinR
  exact (OpK.set 7 _ (by omega) (by omega) (by omega) (fun m _ => by omega)).tr (OpK.ent x)
theorem OpK.rat {n : Nat} {r : Nat → Int32} (x y : Int32) : OpK n r (ratR x y r) := by
  unfold ratR
  exact (OpK.set 0 _ (by omega) (by omega) (by omega) (fun m _ => by omega)).tr (OpK.set 1 _ (by omega) (by omega) (by omega) (fun m _ => by omega))
theorem OpK.sub {n : Nat} {r : Nat → Int32} (k : Nat) : OpK n r (subR k r) := OpK.set 12 _ (by omega) (by omega) (by omega) (fun m _ => by omega)
theorem OpK.app {n : Nat} {r : Nat → Int32} (k : Nat) : OpK n r (appR k r) := OpK.set _ _ (by omega) (by omega) (by omega) (fun m _ => by omega)
theorem OpK.pay {n : Nat} {r : Nat → Int32} (x : Int32) (k : Nat) : OpK n r (payR x k r) := (OpK.mkPv k x).tr (OpK.clRv k)
theorem OpK.dis {n : Nat} {r : Nat → Int32} (k : Nat) : OpK n r (disR n k r) := by
  unfold disR
  exact (OpK.set _ _ (by omega) (by omega) (by omega) (fun m _ => by omega)).tr (OpK.set _ _ (by omega) (by omega) (by omega) (fun m _ => by omega))
theorem OpK.wdr {n : Nat} {r : Nat → Int32} (k : Nat) : OpK n r (wdrR k r) := by
  unfold wdrR
  exact (OpK.set _ _ (by omega) (by omega) (by omega) (fun m _ => by omega)).tr (OpK.set _ _ (by omega) (by omega) (by omega) (fun m _ => by omega))
theorem OpK.can {n : Nat} {r : Nat → Int32} (k : Nat) : OpK n r (canR k r) := OpK.set _ _ (by omega) (by omega) (by omega) (fun m _ => by omega)
theorem OpK.res {n : Nat} {r : Nat → Int32} (j : Int32) (k : Nat) : OpK n r (resR n j k r) := by
  unfold resR
  exact ((OpK.set _ _ (by omega) (by omega) (by omega) (fun m _ => by omega)).tr ((OpK.mkPv k _).tr (OpK.refRv _))).tr (OpK.set _ _ (by omega) (by omega) (by omega) (fun m _ => by omega))
theorem OpK.clo {n : Nat} {r : Nat → Int32} : OpK n r (cloR r) := OpK.refRv _
theorem Pri.sy {n : Nat} {r s : Nat → Int32} (h : Pri n r s) : Pri n s r := fun m hm => (h m hm).symm
theorem RCE.abv {n : Nat} {r s : Nat → Int32} {q : Int64} (h : RCE n r q) (a : Ab r s) : RCE n s q := by
  obtain ⟨i6, i7, i8, i9, i11, i12, i13, i15, i16, i17, i18, i19, kp, fs, fp, ff, fd, fam, h⟩ := h
  exact ⟨i6, i7, i8, i9, i11, i12, i13, i15, i16, i17, i18, i19, kp, fs, fp, ff, fd, fam, h.ab a⟩
theorem DI.op {c dy n : Nat} {r s : Nat → Int32} {q : Int64} (h : DI c dy n r q) (hE : RCE n s q) (k : OpK n r s) : DI c dy n s q := by
  obtain ⟨-, h4, hQ, h8, hK⟩ := h
  have e8 : tI s 8 = tI r 8 := congrArg Int32.toInt k.2.1
  exact ⟨hE, k.1.trans h4, by rw [e8]; exact hQ, by rw [e8]; exact h8, k.2.2.1 _ hK⟩
theorem DI.abv {c dy n : Nat} {r s : Nat → Int32} {q : Int64} (h : DI c dy n r q) (a : Ab r s) (hn : n ≤ 10) : DI c dy n s q := h.op (h.1.abv a) (OpK.ab a hn)
theorem RC0.e {n : Nat} {r : Nat → Int32} {q : Int64} {i6 : Int32} {i7 : Int32} {i8 : Int32} {i9 : Int64} {i11 : Int64} {i12 : Int32} {i13 : Int32} {i15 : Int32} {i16 : Int32} {i17 : Int32} {i18 : Int32} {i19 : Int32} {kp : Nat} {fs : Nat → Int32} {fp : Nat → Int32} {ff : Nat → Int32} {fd : Nat → Int32} {fam : Nat → Int32} (h : RC0 n r q i6 i7 i8 i9 i11 i12 i13 i15 i16 i17 i18 i19 kp fs fp ff fd fam) : RCE n r q := ⟨_, _, _, _, _, _, _, _, _, _, _, _, _, _, _, _, _, _, h⟩
theorem RC0.cpv {n : Nat} {r : Nat → Int32} {q : Int64} {i6 : Int32} {i7 : Int32} {i8 : Int32} {i9 : Int64} {i11 : Int64} {i12 : Int32} {i13 : Int32} {i15 : Int32} {i16 : Int32} {i17 : Int32} {i18 : Int32} {i19 : Int32} {kp : Nat} {fs : Nat → Int32} {fp : Nat → Int32} {ff : Nat → Int32} {fd : Nat → Int32} {fam zs zp zf zd : Nat → Int32} (h : RC0 n r q i6 i7 i8 i9 i11 i12 i13 i15 i16 i17 i18 i19 kp fs fp ff fd fam) (h1 : Cp 10 fs zs) (h2 : Cp 10 fp zp) (h3 : Cp 10 ff zf) (h4 : Cp 10 fd zd) : RC0 n r q i6 i7 i8 i9 i11 i12 i13 i15 i16 i17 i18 i19 kp zs zp zf zd fam := by
  obtain ⟨w, l, e, m⟩ := h
  refine ⟨w, l, e, fun k hk => ?_⟩
  have k10 : k < 10 := by omega
  obtain ⟨a0, a1, a2, a3, a4, a5⟩ := m k hk
  exact ⟨a0, a1.trans (h2 k k10).symm, a2.trans (h1 k k10).symm, a3.trans (h3 k k10).symm, a4.trans (h4 k k10).symm, a5⟩
theorem RC0.k60 {n : Nat} {r : Nat → Int32} {q : Int64} {i6 : Int32} {i7 : Int32} {i8 : Int32} {i9 : Int64} {i11 : Int64} {i12 : Int32} {i13 : Int32} {i15 : Int32} {i16 : Int32} {i17 : Int32} {i18 : Int32} {i19 : Int32} {kp : Nat} {fs : Nat → Int32} {fp : Nat → Int32} {ff : Nat → Int32} {fd : Nat → Int32} {fam : Nat → Int32} (h : RC0 n r q i6 i7 i8 i9 i11 i12 i13 i15 i16 i17 i18 i19 kp fs fp ff fd fam) (g : Kge 60 r) : kp = 60 := by
  obtain ⟨-, ⟨-, l⟩, ⟨-, -, -, -, -, -, -, -, -, -, e⟩, -⟩ := h
  obtain ⟨k, a, b, c⟩ := g
  have := nI_ij (e.symm.trans a) (by omega) (by omega)
  omega
theorem RC0.dyv {n c dy : Nat} {r : Nat → Int32} {q : Int64} {i6 : Int32} {i7 : Int32} {i8 : Int32} {i9 : Int64} {i11 : Int64} {i12 : Int32} {i13 : Int32} {i15 : Int32} {i16 : Int32} {i17 : Int32} {i18 : Int32} {i19 : Int32} {kp : Nat} {fs : Nat → Int32} {fp : Nat → Int32} {ff : Nat → Int32} {fd : Nat → Int32} {fam : Nat → Int32} (h : RC0 n r q i6 i7 i8 i9 i11 i12 i13 i15 i16 i17 i18 i19 kp fs fp ff fd fam) (g : DI c dy n r q) (hd : dy ≤ 9999) : DyC i6 := by
  obtain ⟨-, -, ⟨e, -⟩, -⟩ := h
  exact ⟨dy, hd, e.symm.trans g.2.1⟩
theorem Hrem.len {ed ed2 : Nat} {fh fs zh : Nat → Int32} {fl zl : Nat → Int64} {q : Int64} (h : Hrem ed fh fl fs q ed2 zh zl) : ed2 = min (ed + 1) 10 := h.1
theorem Hrem.top {ed ed2 : Nat} {fh fs zh : Nat → Int32} {fl zl : Nat → Int64} {q : Int64} (h : Hrem ed fh fl fs q ed2 zh zl) : Ab fs (hr zh ed2 0) ∧ zl (ed2 - 1 - 0) = q := ⟨fun j hj _ => h.2.2.1 j (by omega), h.2.2.2⟩
theorem Hrem.old {ed ed2 i : Nat} {fh fs zh : Nat → Int32} {fl zl : Nat → Int64} {q : Int64} (h : Hrem ed fh fl fs q ed2 zh zl) (hi : i + 1 < ed2) (he : ed ≤ 10) : Ab (hr fh ed i) (hr zh ed2 (i + 1)) ∧ zl (ed2 - 1 - (i + 1)) = fl (ed - 1 - i) := by
  have e := h.1
  obtain ⟨a, b⟩ := h.2.1 (ed2 - 1 - (i + 1)) (by omega)
  rw [show ed2 - 1 - (i + 1) + (ed + 1 - ed2) = ed - 1 - i by omega] at a b
  exact ⟨fun j hj _ => a j (by omega), b⟩
/-- what an edit of the class comes to -/
def CdM (sm P HR RN KP : Prop) : Prop := ((sm ∨ P) ∧ HR ∧ RN) ∨ ((sm ∨ ¬ P) ∧ KP)
def CdK (sm : Prop) (n : Nat) (i : Int32) (P : Nat → Prop) (HR : Prop) (RN : Nat → Prop) (KP : Prop) : Prop := (∃ k, k < n ∧ i = nI k ∧ (sm ∨ P k) ∧ HR ∧ RN k) ∨ ((sm ∨ ¬ ∃ k, k < n ∧ i = nI k ∧ P k) ∧ KP)
def KpH (wn wc : Nat) (mi : Nat → Nat → Int32) (ml : Nat → Nat → Int64) (mk : Nat → Nat) (mf : Nat → Nat → Nat → Int32) (wn2 wc2 : Nat) (mi2 : Nat → Nat → Int32) (ml2 : Nat → Nat → Int64) (mk2 : Nat → Nat) (mf2 : Nat → Nat → Nat → Int32) : Prop := wn2 = wn ∧ wc2 = wc ∧ mi2 = mi ∧ ml2 = ml ∧ mk2 = mk ∧ mf2 = mf
theorem KpH.rf (wn wc : Nat) (mi : Nat → Nat → Int32) (ml : Nat → Nat → Int64) (mk : Nat → Nat) (mf : Nat → Nat → Nat → Int32) : KpH wn wc mi ml mk mf wn wc mi ml mk mf := ⟨rfl, rfl, rfl, rfl, rfl, rfl⟩
-- the common part behind the reference's step
theorem SYx.pr {n ed ed2 : Nat} {b p : Nat → Nat} {r zr fh zh : Nat → Int32} {fl zl : Nat → Int64} {q : Int64} (h1 : BYR n b p r) (h2 : ∀ i, i < ed → Pri n r (hr fh ed i)) (hn : n ≤ 10) (he : ed ≤ 10) (hh : Hrem ed fh fl r q ed2 zh zl) (g : Pri n r zr) : BYR n b p zr ∧ ∀ i, i < ed2 → Pri n zr (hr zh ed2 i) := by
  refine ⟨h1.pri g, fun i hi => ?_⟩
  have e := hh.len
  cases i with
  | zero => exact g.sy.tr (Pri.ab hh.top.1 hn)
  | succ i => exact g.sy.tr ((h2 i (by omega)).tr (Pri.ab (hh.old hi he).1 hn))
theorem SYSr.rem {r zr fh zh : Nat → Int32} {ed ed2 : Nat} {fl zl : Nat → Int64} {q : Int64} (h : SYSr r ed fh) (he : ed ≤ 10) (hh : Hrem ed fh fl r q ed2 zh zl) (g : Kge 60 zr) : SYSr zr ed2 zh := by
  refine ⟨g, fun i hi => ?_⟩
  have e := hh.len
  cases i with
  | zero => exact h.1.abv hh.top.1
  | succ i => exact (h.2 i (by omega)).abv (hh.old hi he).1
theorem HrC.slot {wn wc wn2 wc2 : Nat} {mi : Nat → Nat → Int32} {ml : Nat → Nat → Int64} {mk : Nat → Nat} {mf : Nat → Nat → Nat → Int32} {mi2 : Nat → Nat → Int32} {ml2 : Nat → Nat → Int64} {mk2 : Nat → Nat} {mf2 : Nat → Nat → Nat → Int32} {i6 : Int32} {i7 : Int32} {i8 : Int32} {i9 : Int64} {i11 : Int64} {i12 : Int32} {i13 : Int32} {i15 : Int32} {i16 : Int32} {i17 : Int32} {i18 : Int32} {i19 : Int32} {kp : Nat} {fs : Nat → Int32} {fp : Nat → Int32} {ff : Nat → Int32} {fd : Nat → Int32} (h : HrC wn wc mi ml mk mf i6 i7 i8 i9 i11 i12 i13 i15 i16 i17 i18 i19 kp fs fp ff fd wn2 wc2 mi2 ml2 mk2 mf2) (hw : wn < 10) (hc : wc ≤ 10) : wn2 < 10 ∧ wc2 = min (wc + 1) 10 ∧ (wn2 + 9 - 0) % 10 = wn ∧ ∀ i, i + 1 < wc2 → (wn2 + 9 - (i + 1)) % 10 = (wn + 9 - i) % 10 ∧ (wn + 9 - i) % 10 ≠ wn := by
  have e1 := h.1
  have e2 := h.2.1
  refine ⟨by omega, e2, by omega, fun i hi => ⟨by omega, by omega⟩⟩
theorem SYSc.rem {wn wc wn2 wc2 : Nat} {mi : Nat → Nat → Int32} {ml : Nat → Nat → Int64} {mk : Nat → Nat} {mf : Nat → Nat → Nat → Int32} {mi2 : Nat → Nat → Int32} {ml2 : Nat → Nat → Int64} {mk2 : Nat → Nat} {mf2 : Nat → Nat → Nat → Int32} {i6 : Int32} {i7 : Int32} {i8 : Int32} {i9 : Int64} {i11 : Int64} {i12 : Int32} {i13 : Int32} {i15 : Int32} {i16 : Int32} {i17 : Int32} {i18 : Int32} {i19 : Int32} {kp : Nat} {fs : Nat → Int32} {fp : Nat → Int32} {ff : Nat → Int32} {fd : Nat → Int32} {y6 : Int32} {ky : Nat} (h : SYSc i6 kp wn wc mi mk) (hw : wn < 10) (hc : wc ≤ 10) (hh : HrC wn wc mi ml mk mf i6 i7 i8 i9 i11 i12 i13 i15 i16 i17 i18 i19 kp fs fp ff fd wn2 wc2 mi2 ml2 mk2 mf2) (hk : ky = 60) (hd : DyC y6) : SYSc y6 ky wn2 wc2 mi2 mk2 := by
  obtain ⟨s1, s2, s3, s4⟩ := hh.slot hw hc
  obtain ⟨-, -, m6, -, -, -, -, -, -, -, -, -, -, -, mk9, -, -, -, -, mo⟩ := hh
  refine ⟨hk, hd, fun i hi => ?_⟩
  cases i with
  | zero => rw [s3, mk9, m6]; exact ⟨h.1, h.2.1⟩
  | succ i =>
    obtain ⟨t1, t2⟩ := s4 i hi
    obtain ⟨u1, u2, u3, u4⟩ := mo _ t2
    rw [t1, u1, u3]
    exact h.2.2 i (by omega)
def crS (c2 : Nat) (c : Nat → Nat) : Nat → Nat
  | 0 => c2
  | i + 1 => c i
/-- the accounts agree behind an edit -/
theorem SYN.rem {c : Nat → Nat} {n : Nat} {fam : Nat → Int32} {i6 : Int32} {i7 : Int32} {i8 : Int32} {i9 : Int64} {i11 : Int64} {i12 : Int32} {i13 : Int32} {i15 : Int32} {i16 : Int32} {i17 : Int32} {i18 : Int32} {i19 : Int32} {kp : Nat} {fs : Nat → Int32} {fp : Nat → Int32} {ff : Nat → Int32} {fd : Nat → Int32} {z6 : Int32} {z7 : Int32} {z8 : Int32} {z9 : Int64} {z11 : Int64} {z12 : Int32} {z13 : Int32} {z15 : Int32} {z16 : Int32} {z17 : Int32} {z18 : Int32} {z19 : Int32} {ky : Nat} {zs : Nat → Int32} {zp : Nat → Int32} {zf : Nat → Int32} {zd : Nat → Int32} {wn wc wn2 wc2 : Nat} {mi : Nat → Nat → Int32} {ml : Nat → Nat → Int64} {mk : Nat → Nat} {mf : Nat → Nat → Nat → Int32} {mi2 : Nat → Nat → Int32} {ml2 : Nat → Nat → Int64} {mk2 : Nat → Nat} {mf2 : Nat → Nat → Nat → Int32} {r zr : Nat → Int32} {q zq : Int64} {ed ed2 : Nat} {fh zh : Nat → Int32} {fl zl : Nat → Int64} {c2 : Nat} (h : SYN c n fam i6 i7 i8 i9 i11 i12 i13 i15 i16 i17 i18 i19 kp fs fp ff fd wn wc mi ml mk mf r q ed fh fl) (h0 : c 0 ≤ 100) (hn : n ≤ 10) (hw : wn < 10) (hc : wc ≤ 10) (hh : HrC wn wc mi ml mk mf i6 i7 i8 i9 i11 i12 i13 i15 i16 i17 i18 i19 kp fs fp ff fd wn2 wc2 mi2 ml2 mk2 mf2) (hg : Hrem ed fh fl r q ed2 zh zl) (hR : RC0 n zr zq z6 z7 z8 z9 z11 z12 z13 z15 z16 z17 z18 z19 ky zs zp zf zd fam) (hD : ∃ dy, dy ≤ 9999 ∧ DI c2 dy n zr zq) (l2 : c2 ≤ c 0 + 4) : SYN (crS c2 c) n fam z6 z7 z8 z9 z11 z12 z13 z15 z16 z17 z18 z19 ky zs zp zf zd wn2 wc2 mi2 ml2 mk2 mf2 zr zq ed2 zh zl := by
  obtain ⟨⟨a1, a2⟩, e1, a3, a4, a5⟩ := h
  obtain ⟨s1, s2, s3, s4⟩ := hh.slot hw hc
  have el := hg.len
  have ee : ed2 = wc2 := by omega
  subst e1
  subst ee
  obtain ⟨-, -, m6, m7, m8, m9, m11, m12, m13, m15, m16, m17, m18, m19, mk9, f3, f4, f5, f6, mo⟩ := hh
  refine ⟨⟨hR, hD⟩, rfl, fun i hi => ?_, fun i hi => ?_, fun i hi => ?_⟩
  · cases i with
    | zero =>
      obtain ⟨t1, t2⟩ := hg.top
      obtain ⟨dy, d1, d2⟩ := a2
      rw [s3, t2]
      refine ⟨?_, dy, d1, ?_⟩
      · show RC0 n (hr zh ed2 0) q (mi2 wn 6) (mi2 wn 7) (mi2 wn 8) (ml2 wn 9) (ml2 wn 11) (mi2 wn 12) (mi2 wn 13) (mi2 wn 15) (mi2 wn 16) (mi2 wn 17) (mi2 wn 18) (mi2 wn 19) (mk2 wn) (mf2 wn 3) (mf2 wn 4) (mf2 wn 5) (mf2 wn 6) fam
        rw [m6, m7, m8, m9, m11, m12, m13, m15, m16, m17, m18, m19, mk9]
        exact (a1.cpv f3 f4 f5 f6).ab t1
      · exact d2.abv t1 hn
    | succ i =>
      obtain ⟨t1, t2⟩ := hg.old hi hc
      obtain ⟨v1, v2⟩ := s4 i hi
      obtain ⟨u1, u2, u3, u4⟩ := mo _ v2
      obtain ⟨b1, dy, d1, d2⟩ := a3 i (by omega)
      rw [v1, t2]
      refine ⟨?_, dy, d1, d2.abv t1 hn⟩
      unfold RC0S at b1 ⊢
      rw [u1, u2, u3, u4]
      exact b1.ab t1
  · cases i with
    | zero => exact h0
    | succ i => exact a4 i (by omega)
  · cases i with
    | zero => exact l2
    | succ i => exact a5 i (by omega)
/-- either still below the bound, or saturated -/
theorem SYN.fin {cq b p c : Nat → Nat} {n sc : Nat} {fst fop fen fby fam : Nat → Int32} {i6 : Int32} {i7 : Int32} {i8 : Int32} {i9 : Int64} {i11 : Int64} {i12 : Int32} {i13 : Int32} {i15 : Int32} {i16 : Int32} {i17 : Int32} {i18 : Int32} {i19 : Int32} {kp : Nat} {fs : Nat → Int32} {fp : Nat → Int32} {ff : Nat → Int32} {fd : Nat → Int32} {wn wc : Nat} {mi : Nat → Nat → Int32} {ml : Nat → Nat → Int64} {mk : Nat → Nat} {mf : Nat → Nat → Nat → Int32} {f31 f33 r : Nat → Int32} {q : Int64} {ed : Nat} {fh : Nat → Int32} {fl : Nat → Int64} (h : SYN c n fam i6 i7 i8 i9 i11 i12 i13 i15 i16 i17 i18 i19 kp fs fp ff fd wn wc mi ml mk mf r q ed fh fl) (h1 : COD n sc fst fop fen fby f31 f33 cq b) (h2 : BYR n b p r) (h3 : ∀ i, i < ed → Pri n r (hr fh ed i)) (h4 : n ≤ 10 ∧ wn < 10 ∧ wc ≤ 10 ∧ ed ≤ 10) : SY n sc fst fop fen fby fam i6 i7 i8 i9 i11 i12 i13 i15 i16 i17 i18 i19 kp fs fp ff fd wn wc mi ml mk mf f31 f33 r q ed fh fl := by
  by_cases g : c 0 ≤ 100
  · exact ⟨False, cq, b, p, h1, h2, h3, h4, Or.inl ⟨id, c, h, g⟩⟩
  · refine ⟨True, cq, b, p, h1, h2, h3, h4, Or.inr ⟨trivial, ?_, ?_⟩⟩
    · obtain ⟨⟨a1, dy, d1, d2⟩, e1, a3, a4, a5⟩ := h
      have st : ∀ i, i ≤ wc → c 0 ≤ c i + 4 * i := fun i => by
        induction i with
        | zero => intro _; omega
        | succ i ih => intro hi; have := ih (by omega); have := a5 i (by omega); omega
      refine ⟨a1.k60 (d2.2.2.2.2.le (by omega)), a1.dyv d2 d1, fun i hi => ?_⟩
      obtain ⟨b1, dy2, d3, d4⟩ := a3 i hi
      have := st (i + 1) (by omega)
      exact ⟨RC0.k60 b1 (d4.2.2.2.2.le (by omega)), RC0.dyv b1 d4 d3⟩
    · obtain ⟨⟨a1, dy, d1, d2⟩, e1, a3, a4, a5⟩ := h
      have st : ∀ i, i ≤ wc → c 0 ≤ c i + 4 * i := fun i => by
        induction i with
        | zero => intro _; omega
        | succ i ih => intro hi; have := ih (by omega); have := a5 i (by omega); omega
      refine ⟨d2.2.2.2.2.le (by omega), fun i hi => ?_⟩
      subst e1
      obtain ⟨b1, dy2, d3, d4⟩ := a3 i hi
      have := st (i + 1) (by omega)
      exact d4.2.2.2.2.le (by omega)
theorem SYx.sy {sm : Prop} {cq b p : Nat → Nat}  {n sc : Nat} {fst fop fen fby fam : Nat → Int32} {i6 : Int32} {i7 : Int32} {i8 : Int32} {i9 : Int64} {i11 : Int64} {i12 : Int32} {i13 : Int32} {i15 : Int32} {i16 : Int32} {i17 : Int32} {i18 : Int32} {i19 : Int32} {kp : Nat} {fs : Nat → Int32} {fp : Nat → Int32} {ff : Nat → Int32} {fd : Nat → Int32} {wn wc : Nat} {mi : Nat → Nat → Int32} {ml : Nat → Nat → Int64} {mk : Nat → Nat} {mf : Nat → Nat → Nat → Int32} {f31 f33 r : Nat → Int32} {q : Int64} {ed : Nat} {fh : Nat → Int32} {fl : Nat → Int64} (h : SYx sm cq b p n sc fst fop fen fby fam i6 i7 i8 i9 i11 i12 i13 i15 i16 i17 i18 i19 kp fs fp ff fd wn wc mi ml mk mf f31 f33 r q ed fh fl) : SY n sc fst fop fen fby fam i6 i7 i8 i9 i11 i12 i13 i15 i16 i17 i18 i19 kp fs fp ff fd wn wc mi ml mk mf f31 f33 r q ed fh fl := ⟨sm, cq, b, p, h⟩
theorem SYx.rc {sm : Prop} {cq b p : Nat → Nat}  {n sc : Nat} {fst fop fen fby fam : Nat → Int32} {i6 : Int32} {i7 : Int32} {i8 : Int32} {i9 : Int64} {i11 : Int64} {i12 : Int32} {i13 : Int32} {i15 : Int32} {i16 : Int32} {i17 : Int32} {i18 : Int32} {i19 : Int32} {kp : Nat} {fs : Nat → Int32} {fp : Nat → Int32} {ff : Nat → Int32} {fd : Nat → Int32} {wn wc : Nat} {mi : Nat → Nat → Int32} {ml : Nat → Nat → Int64} {mk : Nat → Nat} {mf : Nat → Nat → Nat → Int32} {f31 f33 r : Nat → Int32} {q : Int64} {ed : Nat} {fh : Nat → Int32} {fl : Nat → Int64} (h : SYx sm cq b p n sc fst fop fen fby fam i6 i7 i8 i9 i11 i12 i13 i15 i16 i17 i18 i19 kp fs fp ff fd wn wc mi ml mk mf f31 f33 r q ed fh fl) : RC sm n r q i6 i7 i8 i9 i11 i12 i13 i15 i16 i17 i18 i19 kp fs fp ff fd fam := by
  obtain ⟨-, -, -, ⟨hn, -⟩, ⟨hs, c, hN, -⟩ | ⟨hs, hc, -⟩⟩ := h
  · exact Or.inl ⟨hs, hN.1.1⟩
  · exact Or.inr ⟨hs, hn, hc.1⟩
theorem SYx.dy {sm : Prop} {cq b p : Nat → Nat}  {n sc : Nat} {fst fop fen fby fam : Nat → Int32} {i6 : Int32} {i7 : Int32} {i8 : Int32} {i9 : Int64} {i11 : Int64} {i12 : Int32} {i13 : Int32} {i15 : Int32} {i16 : Int32} {i17 : Int32} {i18 : Int32} {i19 : Int32} {kp : Nat} {fs : Nat → Int32} {fp : Nat → Int32} {ff : Nat → Int32} {fd : Nat → Int32} {wn wc : Nat} {mi : Nat → Nat → Int32} {ml : Nat → Nat → Int64} {mk : Nat → Nat} {mf : Nat → Nat → Nat → Int32} {f31 f33 r : Nat → Int32} {q : Int64} {ed : Nat} {fh : Nat → Int32} {fl : Nat → Int64} (h : SYx sm cq b p n sc fst fop fen fby fam i6 i7 i8 i9 i11 i12 i13 i15 i16 i17 i18 i19 kp fs fp ff fd wn wc mi ml mk mf f31 f33 r q ed fh fl) : DyC i6 := by
  obtain ⟨-, -, -, -, ⟨hs, c, hN, -⟩ | ⟨hs, hc, -⟩⟩ := h
  · obtain ⟨⟨a1, dy, d1, d2⟩, -⟩ := hN
    exact a1.dyv d2 d1
  · exact hc.2.1
theorem SYx.cap {sm : Prop} {cq b p : Nat → Nat}  {n sc : Nat} {fst fop fen fby fam : Nat → Int32} {i6 : Int32} {i7 : Int32} {i8 : Int32} {i9 : Int64} {i11 : Int64} {i12 : Int32} {i13 : Int32} {i15 : Int32} {i16 : Int32} {i17 : Int32} {i18 : Int32} {i19 : Int32} {kp : Nat} {fs : Nat → Int32} {fp : Nat → Int32} {ff : Nat → Int32} {fd : Nat → Int32} {wn wc : Nat} {mi : Nat → Nat → Int32} {ml : Nat → Nat → Int64} {mk : Nat → Nat} {mf : Nat → Nat → Nat → Int32} {f31 f33 r : Nat → Int32} {q : Int64} {ed : Nat} {fh : Nat → Int32} {fl : Nat → Int64} (h : SYx sm cq b p n sc fst fop fen fby fam i6 i7 i8 i9 i11 i12 i13 i15 i16 i17 i18 i19 kp fs fp ff fd wn wc mi ml mk mf f31 f33 r q ed fh fl) {dy : Nat} (e : i6 = nI dy) (hd : dy ≤ 9999) : CapN sm f31 cq n b dy 120 r q := by
  obtain ⟨hC, -, -, -, ⟨hs, c, hN, h0⟩ | ⟨hs, -⟩⟩ := h
  · obtain ⟨⟨a1, dy2, d1, d2⟩, -⟩ := hN
    have ey : dy2 = dy := nI_ij (d2.2.1.symm.trans (a1.2.2.1.1.trans e)) (by omega) (by omega)
    subst ey
    exact fun k hk ns => d2.capN h0 (fun j hj => (hC.2.2.2.2.2 j hj).1) hd k hk id
  · exact CapN.sat hs
theorem SYx.kept {sm : Prop} {cq b p : Nat → Nat}  {n sc : Nat} {fst fop fen fby fam : Nat → Int32} {i6 : Int32} {i7 : Int32} {i8 : Int32} {i9 : Int64} {i11 : Int64} {i12 : Int32} {i13 : Int32} {i15 : Int32} {i16 : Int32} {i17 : Int32} {i18 : Int32} {i19 : Int32} {kp : Nat} {fs : Nat → Int32} {fp : Nat → Int32} {ff : Nat → Int32} {fd : Nat → Int32} {wn wc : Nat} {mi : Nat → Nat → Int32} {ml : Nat → Nat → Int64} {mk : Nat → Nat} {mf : Nat → Nat → Nat → Int32} {f31 f33 r : Nat → Int32} {q : Int64} {ed : Nat} {fh : Nat → Int32} {fl : Nat → Int64} {en : Nat} (h : SYx sm cq b p n sc fst fop fen fby fam i6 i7 i8 i9 i11 i12 i13 i15 i16 i17 i18 i19 kp fs fp ff fd wn wc mi ml mk mf f31 f33 r q ed fh fl) (hk : kp ≤ 60) (he : en ≤ 60) (e15 : r 15 = nI en) : kp = en := by
  obtain ⟨-, -, -, -, ⟨hs, c, hN, -⟩ | ⟨hs, hc, hr⟩⟩ := h
  · exact nI_ij (hN.1.1.2.2.1.2.2.2.2.2.2.2.2.2.2.symm.trans e15) (by omega) (by omega)
  · obtain ⟨k, a, b, c⟩ := hr.1
    have := nI_ij (e15.symm.trans a) (by omega) (by omega)
    have := hc.1
    omega
theorem SY.keptv {n sc : Nat} {fst fop fen fby fam : Nat → Int32} {i6 : Int32} {i7 : Int32} {i8 : Int32} {i9 : Int64} {i11 : Int64} {i12 : Int32} {i13 : Int32} {i15 : Int32} {i16 : Int32} {i17 : Int32} {i18 : Int32} {i19 : Int32} {kp : Nat} {fs : Nat → Int32} {fp : Nat → Int32} {ff : Nat → Int32} {fd : Nat → Int32} {wn wc : Nat} {mi : Nat → Nat → Int32} {ml : Nat → Nat → Int64} {mk : Nat → Nat} {mf : Nat → Nat → Nat → Int32} {f31 f33 r : Nat → Int32} {q : Int64} {ed : Nat} {fh : Nat → Int32} {fl : Nat → Int64} {en : Nat} (h : SY n sc fst fop fen fby fam i6 i7 i8 i9 i11 i12 i13 i15 i16 i17 i18 i19 kp fs fp ff fd wn wc mi ml mk mf f31 f33 r q ed fh fl) (hk : kp ≤ 60) (he : en ≤ 60) (e15 : r 15 = nI en) : kp = en := by
  obtain ⟨sm, cq, b, p, h⟩ := h
  exact h.kept hk he e15
theorem SYx.ed {sm : Prop} {cq b p : Nat → Nat}  {n sc : Nat} {fst fop fen fby fam : Nat → Int32} {i6 : Int32} {i7 : Int32} {i8 : Int32} {i9 : Int64} {i11 : Int64} {i12 : Int32} {i13 : Int32} {i15 : Int32} {i16 : Int32} {i17 : Int32} {i18 : Int32} {i19 : Int32} {kp : Nat} {fs : Nat → Int32} {fp : Nat → Int32} {ff : Nat → Int32} {fd : Nat → Int32} {wn wc : Nat} {mi : Nat → Nat → Int32} {ml : Nat → Nat → Int64} {mk : Nat → Nat} {mf : Nat → Nat → Nat → Int32} {f31 f33 r : Nat → Int32} {q : Int64} {ed : Nat} {fh : Nat → Int32} {fl : Nat → Int64} {z6 : Int32} {z7 : Int32} {z8 : Int32} {z9 : Int64} {z11 : Int64} {z12 : Int32} {z13 : Int32} {z15 : Int32} {z16 : Int32} {z17 : Int32} {z18 : Int32} {z19 : Int32} {ky : Nat} {zs : Nat → Int32} {zp : Nat → Int32} {zf : Nat → Int32} {zd : Nat → Int32} {wn2 wc2 : Nat} {mi2 : Nat → Nat → Int32} {ml2 : Nat → Nat → Int64} {mk2 : Nat → Nat} {mf2 : Nat → Nat → Nat → Int32} {zr : Nat → Int32} {zq : Int64} {ed2 : Nat} {zh : Nat → Int32} {zl : Nat → Int64} {P : Prop} {op : (Nat → Int32) → Nat → Int32} (h : SYx sm cq b p n sc fst fop fen fby fam i6 i7 i8 i9 i11 i12 i13 i15 i16 i17 i18 i19 kp fs fp ff fd wn wc mi ml mk mf f31 f33 r q ed fh fl) (hk : OpK n r (op r)) (hd : z6 = i6)
    (hc : CdM sm P (HrC wn wc mi ml mk mf i6 i7 i8 i9 i11 i12 i13 i15 i16 i17 i18 i19 kp fs fp ff fd wn2 wc2 mi2 ml2 mk2 mf2) (RC sm n (op r) q z6 z7 z8 z9 z11 z12 z13 z15 z16 z17 z18 z19 ky zs zp zf zd fam) (KpH wn wc mi ml mk mf wn2 wc2 mi2 ml2 mk2 mf2 ∧ KeepA i6 i7 i8 i9 i11 i12 i13 i15 i16 i17 i18 i19 kp fs fp ff fd z6 z7 z8 z9 z11 z12 z13 z15 z16 z17 z18 z19 ky zs zp zf zd)) (he : EdM P op ed fh fl r q ed2 zh zl zr) (eq : zq = q) : SY n sc fst fop fen fby fam z6 z7 z8 z9 z11 z12 z13 z15 z16 z17 z18 z19 ky zs zp zf zd wn2 wc2 mi2 ml2 mk2 mf2 f31 f33 zr zq ed2 zh zl := by
  subst eq hd
  obtain ⟨h1, h2, h3, ⟨hn, hw, hwc, hed⟩, hB⟩ := h
  -- what the reference has done
  have ref : Pri n r zr ∧ BYR n b p zr ∧ (∀ i, i < ed2 → Pri n zr (hr zh ed2 i)) ∧ ed2 ≤ 10 ∧ (SYSr r ed fh → SYSr zr ed2 zh) := by
    rcases he with ⟨-, hH, hA⟩ | ⟨-, e1, e2, e3, e4⟩
    · have g : OpK n r zr := hk.tr (OpK.ab hA hn)
      have z := SYx.pr h2 h3 hn hed hH g.2.2.2
      have := hH.len
      exact ⟨g.2.2.2, z.1, z.2, by omega, fun s => s.rem hed hH (g.2.2.1 _ s.1)⟩
    · subst e1 e2 e3 e4
      exact ⟨Pri.rf n zr, h2, h3, hed, id⟩
  obtain ⟨g1, g2, g3, g4, g5⟩ := ref
  rcases hB with ⟨hs, c, hN, h0⟩ | ⟨hs, hSc, hSr⟩
  · rcases hc with ⟨p1, hH, hR⟩ | ⟨p1, hK, hA⟩
    · have p2 : P := p1.resolve_left hs
      rcases he with ⟨-, hG, hA⟩ | ⟨np, -⟩
      · have hR0 : RC0 n (op r) zq z6 z7 z8 z9 z11 z12 z13 z15 z16 z17 z18 z19 ky zs zp zf zd fam := by
          rcases hR with ⟨-, hR⟩ | ⟨hs2, -⟩
          · exact hR
          · exact absurd hs2 hs
        have hR1 := hR0.ab hA
        obtain ⟨dy, d1, d2⟩ := hN.1.2
        have hl := hH.slot hw hwc
        have := hG.len
        exact (hN.rem (c2 := c 0) h0 hn hw hwc hH hG hR1 ⟨dy, d1, d2.op hR1.e (hk.tr (OpK.ab hA hn))⟩ (by omega)).fin h1 g2 g3 ⟨hn, hl.1, by have := hl.2.1; omega, g4⟩
      · exact absurd p2 np
    · have p2 : ¬ P := p1.resolve_left hs
      rcases he with ⟨p3, -⟩ | ⟨-, e1, e2, e3, e4⟩
      · exact absurd p3 p2
      · subst e1 e2 e3 e4
        obtain ⟨w1, w2, w3, w4, w5, w6⟩ := hK
        obtain ⟨⟨y6, y7, y8, y9, y11, y12, y13, y15, y16, y17, y18, y19⟩, yk, ys, yp, yf, yd⟩ := hA
        subst w1 w2 w3 w4 w5 w6 y7 y8 y9 y11 y12 y13 y15 y16 y17 y18 y19 yk ys yp yf yd
        exact ⟨sm, cq, b, p, h1, h2, h3, ⟨hn, hw, hwc, hed⟩, Or.inl ⟨hs, c, hN, h0⟩⟩
  · have cls : (wn2 < 10 ∧ wc2 ≤ 10) ∧ SYSc z6 ky wn2 wc2 mi2 mk2 := by
      rcases hc with ⟨-, hH, hR⟩ | ⟨-, hK, hA⟩
      · have hl := hH.slot hw hwc
        have k60 : ky = 60 := by
          rcases hR with ⟨ns, -⟩ | ⟨-, -, k⟩
          · exact absurd hs ns
          · exact k
        exact ⟨⟨hl.1, by have := hl.2.1; omega⟩, hSc.rem hw hwc hH k60 hSc.2.1⟩
      · obtain ⟨w1, w2, w3, w4, w5, w6⟩ := hK
        subst w1 w2 w3 w5
        refine ⟨⟨hw, hwc⟩, ?_⟩
        rw [show ky = kp from hA.2.1]
        exact hSc
    exact ⟨sm, cq, b, p, h1, g2, g3, ⟨hn, cls.1.1, cls.1.2, g4⟩, Or.inr ⟨hs, cls.2, g5 hSr⟩⟩
theorem SYx.edk {sm : Prop} {cq b p : Nat → Nat}  {n sc : Nat} {fst fop fen fby fam : Nat → Int32} {i6 : Int32} {i7 : Int32} {i8 : Int32} {i9 : Int64} {i11 : Int64} {i12 : Int32} {i13 : Int32} {i15 : Int32} {i16 : Int32} {i17 : Int32} {i18 : Int32} {i19 : Int32} {kp : Nat} {fs : Nat → Int32} {fp : Nat → Int32} {ff : Nat → Int32} {fd : Nat → Int32} {wn wc : Nat} {mi : Nat → Nat → Int32} {ml : Nat → Nat → Int64} {mk : Nat → Nat} {mf : Nat → Nat → Nat → Int32} {f31 f33 r : Nat → Int32} {q : Int64} {ed : Nat} {fh : Nat → Int32} {fl : Nat → Int64} {z6 : Int32} {z7 : Int32} {z8 : Int32} {z9 : Int64} {z11 : Int64} {z12 : Int32} {z13 : Int32} {z15 : Int32} {z16 : Int32} {z17 : Int32} {z18 : Int32} {z19 : Int32} {ky : Nat} {zs : Nat → Int32} {zp : Nat → Int32} {zf : Nat → Int32} {zd : Nat → Int32} {wn2 wc2 : Nat} {mi2 : Nat → Nat → Int32} {ml2 : Nat → Nat → Int64} {mk2 : Nat → Nat} {mf2 : Nat → Nat → Nat → Int32} {zr : Nat → Int32} {zq : Int64} {ed2 : Nat} {zh : Nat → Int32} {zl : Nat → Int64} {m : Nat} {i : Int32} {P : Nat → Prop} {op : Nat → (Nat → Int32) → Nat → Int32} (h : SYx sm cq b p n sc fst fop fen fby fam i6 i7 i8 i9 i11 i12 i13 i15 i16 i17 i18 i19 kp fs fp ff fd wn wc mi ml mk mf f31 f33 r q ed fh fl) (hm : m ≤ 10) (hk : ∀ k, OpK n r (op k r)) (hd : z6 = i6)
    (hc : CdK sm m i P (HrC wn wc mi ml mk mf i6 i7 i8 i9 i11 i12 i13 i15 i16 i17 i18 i19 kp fs fp ff fd wn2 wc2 mi2 ml2 mk2 mf2) (fun k => RC sm n (op k r) q z6 z7 z8 z9 z11 z12 z13 z15 z16 z17 z18 z19 ky zs zp zf zd fam) (KpH wn wc mi ml mk mf wn2 wc2 mi2 ml2 mk2 mf2 ∧ KeepA i6 i7 i8 i9 i11 i12 i13 i15 i16 i17 i18 i19 kp fs fp ff fd z6 z7 z8 z9 z11 z12 z13 z15 z16 z17 z18 z19 ky zs zp zf zd)) (he : EdK m i P op ed fh fl r q ed2 zh zl zr) (eq : zq = q) : SY n sc fst fop fen fby fam z6 z7 z8 z9 z11 z12 z13 z15 z16 z17 z18 z19 ky zs zp zf zd wn2 wc2 mi2 ml2 mk2 mf2 f31 f33 zr zq ed2 zh zl := by
  by_cases g : ∃ k, k < m ∧ i = nI k
  · obtain ⟨k, g1, g2⟩ := g
    have u : ∀ k2, k2 < m → i = nI k2 → k2 = k := fun k2 l e => nI_ij (e.symm.trans g2) (by omega) (by omega)
    refine h.ed (P := P k) (op := op k) (hk k) hd ?_ ?_ eq
    · rcases hc with ⟨k2, a1, a2, a3, a4, a5⟩ | ⟨a3, a4⟩
      · have e := u k2 a1 a2
        subst e
        exact Or.inl ⟨a3, a4, a5⟩
      · exact Or.inr ⟨a3.imp id (fun z y => z ⟨k, g1, g2, y⟩), a4⟩
    · rcases he with ⟨k2, a1, a2, a3, a4, a5⟩ | ⟨a3, a4⟩
      · have e := u k2 a1 a2
        subst e
        exact Or.inl ⟨a3, a4, a5⟩
      · exact Or.inr ⟨fun y => a3 ⟨k, g1, g2, y⟩, a4⟩
  · refine h.ed (P := False) (op := fun r => r) (OpK.rf n r) hd ?_ ?_ eq
    · rcases hc with ⟨k2, a1, a2, -⟩ | ⟨-, a4⟩
      · exact absurd ⟨k2, a1, a2⟩ g
      · exact Or.inr ⟨Or.inr id, a4⟩
    · rcases he with ⟨k2, a1, a2, -⟩ | ⟨-, a4⟩
      · exact absurd ⟨k2, a1, a2⟩ g
      · exact Or.inr ⟨id, a4⟩
/-- a pass of days of the class -/
def CdP (i : Int32) (dy y6 : Nat) (HR : Prop) (RN : Nat → Prop) (KP : Prop) : Prop := (∃ N, (1 ≤ N ∧ N ≤ 120) ∧ i = nI N ∧ dy + N ≤ 9999 ∧ y6 = dy + N ∧ HR ∧ RN N) ∨ (y6 = dy ∧ (¬ ∃ N, (1 ≤ N ∧ N ≤ 120) ∧ i = nI N ∧ dy + N ≤ 9999) ∧ KP)
theorem SYx.pass {sm : Prop} {cq b p : Nat → Nat}  {n sc : Nat} {fst fop fen fby fam : Nat → Int32} {i6 : Int32} {i7 : Int32} {i8 : Int32} {i9 : Int64} {i11 : Int64} {i12 : Int32} {i13 : Int32} {i15 : Int32} {i16 : Int32} {i17 : Int32} {i18 : Int32} {i19 : Int32} {kp : Nat} {fs : Nat → Int32} {fp : Nat → Int32} {ff : Nat → Int32} {fd : Nat → Int32} {wn wc : Nat} {mi : Nat → Nat → Int32} {ml : Nat → Nat → Int64} {mk : Nat → Nat} {mf : Nat → Nat → Nat → Int32} {f31 f33 r : Nat → Int32} {q : Int64} {ed : Nat} {fh : Nat → Int32} {fl : Nat → Int64} {z6 : Int32} {z7 : Int32} {z8 : Int32} {z9 : Int64} {z11 : Int64} {z12 : Int32} {z13 : Int32} {z15 : Int32} {z16 : Int32} {z17 : Int32} {z18 : Int32} {z19 : Int32} {ky : Nat} {zs : Nat → Int32} {zp : Nat → Int32} {zf : Nat → Int32} {zd : Nat → Int32} {wn2 wc2 : Nat} {mi2 : Nat → Nat → Int32} {ml2 : Nat → Nat → Int64} {mk2 : Nat → Nat} {mf2 : Nat → Nat → Nat → Int32} {zr : Nat → Int32} {zq : Int64} {ed2 : Nat} {zh : Nat → Int32} {zl : Nat → Int64} {i : Int32} {dy dy2 y6 : Nat} (h : SYx sm cq b p n sc fst fop fen fby fam i6 i7 i8 i9 i11 i12 i13 i15 i16 i17 i18 i19 kp fs fp ff fd wn wc mi ml mk mf f31 f33 r q ed fh fl) (hi : i6 = nI dy) (hdy : dy ≤ 9999) (hr4 : r 4 = nI dy2) (hd2 : dy2 ≤ 9999) (hz : z6 = nI y6)
    (hc : CdP i dy y6 (HrC wn wc mi ml mk mf i6 i7 i8 i9 i11 i12 i13 i15 i16 i17 i18 i19 kp fs fp ff fd wn2 wc2 mi2 ml2 mk2 mf2) (fun N => RC sm n (dysP f31 cq n b dy r q N).1 (dysP f31 cq n b dy r q N).2 z6 z7 z8 z9 z11 z12 z13 z15 z16 z17 z18 z19 ky zs zp zf zd fam) (KpH wn wc mi ml mk mf wn2 wc2 mi2 ml2 mk2 mf2 ∧ KeepA i6 i7 i8 i9 i11 i12 i13 i15 i16 i17 i18 i19 kp fs fp ff fd z6 z7 z8 z9 z11 z12 z13 z15 z16 z17 z18 z19 ky zs zp zf zd)) (he : EdP i ed fh fl f31 cq n dy2 r q ed2 zh zl zr zq) : SY n sc fst fop fen fby fam z6 z7 z8 z9 z11 z12 z13 z15 z16 z17 z18 z19 ky zs zp zf zd wn2 wc2 mi2 ml2 mk2 mf2 f31 f33 zr zq ed2 zh zl := by
  obtain ⟨h1, h2, h3, ⟨hn, hw, hwc, hed⟩, hB⟩ := h
  have hbo : ∀ j, j < n → b j < n := fun j hj => (h1.2.2.2.2.2 j hj).1
  have ref : Pri n r zr ∧ BYR n b p zr ∧ (∀ i, i < ed2 → Pri n zr (hr zh ed2 i)) ∧ ed2 ≤ 10 ∧ (SYSr r ed fh → SYSr zr ed2 zh) := by
    rcases he with ⟨N, -, -, -, hH, hA⟩ | ⟨-, e1, e2, e3, e4, -⟩
    · have z9 := DysR.is hn h2 hA
      have g : Pri n r zr := (Pri.dys N).tr (Pri.ab z9.1 hn)
      have z := SYx.pr h2 h3 hn hed hH g
      have := hH.len
      exact ⟨g, z.1, z.2, by omega, fun s => s.rem hed hH (s.1.DysRv hA)⟩
    · subst e1 e2 e3 e4
      exact ⟨Pri.rf n zr, h2, h3, hed, id⟩
  obtain ⟨g1, g2, g3, g4, g5⟩ := ref
  rcases hB with ⟨hs, c, hN, h0⟩ | ⟨hs, hSc, hSr⟩
  · have e6 : r 4 = i6 := hN.1.1.2.2.1.1
    have edd : dy2 = dy := nI_ij (hr4.symm.trans (e6.trans hi)) (by omega) (by omega)
    subst edd
    rcases hc with ⟨N, hN1, hN2, hN3, y7, hH, hR⟩ | ⟨y7, np, hK, hA⟩
    · rcases he with ⟨M, hM1, hM2, hM3, hG, hA⟩ | ⟨np, -⟩
      · have eMN : M = N := nI_ij (hM2.symm.trans hN2) (by omega) (by omega)
        subst eMN
        have hR0 : RC0 n (dysP f31 cq n b dy2 r q M).1 (dysP f31 cq n b dy2 r q M).2 z6 z7 z8 z9 z11 z12 z13 z15 z16 z17 z18 z19 ky zs zp zf zd fam := by
          rcases hR with ⟨-, hR⟩ | ⟨hs2, -⟩
          · exact hR
          · exact absurd hs2 hs
        have z9 := DysR.is hn h2 hA
        obtain ⟨dy3, d1, d2⟩ := hN.1.2
        have e3 : dy3 = dy2 := nI_ij (d2.2.1.symm.trans hr4) (by omega) (by omega)
        subst e3
        obtain ⟨c2, l1, l2, d3⟩ := d2.days (f := f31) (cq := cq) (b := b) h0 hbo hN1.2 (show dy3 + M ≤ 20000 by omega)
        rw [← z9.2] at hR0 d3
        have hl := hH.slot hw hwc
        exact (hN.rem (c2 := c2) h0 hn hw hwc hH hG (hR0.ab z9.1) ⟨dy3 + M, hN3, d3.abv z9.1 hn⟩ (by omega)).fin h1 g2 g3 ⟨hn, hl.1, by have := hl.2.1; omega, g4⟩
      · exact absurd ⟨N, hN1, hN2, hN3⟩ np
    · rcases he with ⟨M, hM1, hM2, hM3, -⟩ | ⟨-, e1, e2, e3, e4, e5⟩
      · exact absurd ⟨M, hM1, hM2, hM3⟩ np
      · subst e1 e2 e3 e4 e5
        obtain ⟨w1, w2, w3, w4, w5, w6⟩ := hK
        obtain ⟨⟨y6, y7, y8, y9, y11, y12, y13, y15, y16, y17, y18, y19⟩, yk, ys, yp, yf, yd⟩ := hA
        subst w1 w2 w3 w4 w5 w6 y6 y7 y8 y9 y11 y12 y13 y15 y16 y17 y18 y19 yk ys yp yf yd
        exact ⟨sm, cq, b, p, h1, h2, h3, ⟨hn, hw, hwc, hed⟩, Or.inl ⟨hs, c, hN, h0⟩⟩
  · have cls : (wn2 < 10 ∧ wc2 ≤ 10) ∧ SYSc z6 ky wn2 wc2 mi2 mk2 := by
      rcases hc with ⟨N, hN1, hN2, hN3, y7, hH, hR⟩ | ⟨y7, np, hK, hA⟩
      · have hl := hH.slot hw hwc
        have k60 : ky = 60 := by
          rcases hR with ⟨ns, -⟩ | ⟨-, -, k⟩
          · exact absurd hs ns
          · exact k
        exact ⟨⟨hl.1, by have := hl.2.1; omega⟩, hSc.rem hw hwc hH k60 ⟨y6, by omega, hz⟩⟩
      · obtain ⟨w1, w2, w3, w4, w5, w6⟩ := hK
        subst w1 w2 w3 w5
        refine ⟨⟨hw, hwc⟩, ?_⟩
        rw [show ky = kp from hA.2.1, show z6 = i6 from hA.1.1]
        exact hSc
    exact ⟨sm, cq, b, p, h1, g2, g3, ⟨hn, cls.1.1, cls.1.2, g4⟩, Or.inr ⟨hs, cls.2, g5 hSr⟩⟩
theorem hr_un {fh : Nat → Int32} {ed i : Nat} : hr fh (ed - 1) i = hr fh ed (i + 1) := by
  unfold hr
  funext j
  rw [show ed - 1 - 1 - i = ed - 1 - (i + 1) by omega]
/-- undo of both sides -/
theorem SYx.und {sm : Prop} {cq b p : Nat → Nat}  {n sc : Nat} {fst fop fen fby fam : Nat → Int32} {i6 : Int32} {i7 : Int32} {i8 : Int32} {i9 : Int64} {i11 : Int64} {i12 : Int32} {i13 : Int32} {i15 : Int32} {i16 : Int32} {i17 : Int32} {i18 : Int32} {i19 : Int32} {kp : Nat} {fs : Nat → Int32} {fp : Nat → Int32} {ff : Nat → Int32} {fd : Nat → Int32} {wn wc : Nat} {mi : Nat → Nat → Int32} {ml : Nat → Nat → Int64} {mk : Nat → Nat} {mf : Nat → Nat → Nat → Int32} {f31 f33 r : Nat → Int32} {q : Int64} {ed : Nat} {fh : Nat → Int32} {fl : Nat → Int64} {z6 : Int32} {z7 : Int32} {z8 : Int32} {z9 : Int64} {z11 : Int64} {z12 : Int32} {z13 : Int32} {z15 : Int32} {z16 : Int32} {z17 : Int32} {z18 : Int32} {z19 : Int32} {ky : Nat} {zs : Nat → Int32} {zp : Nat → Int32} {zf : Nat → Int32} {zd : Nat → Int32} {wn2 wc2 ed2 : Nat} {zr : Nat → Int32} {zq : Int64} (h : SYx sm cq b p n sc fst fop fen fby fam i6 i7 i8 i9 i11 i12 i13 i15 i16 i17 i18 i19 kp fs fp ff fd wn wc mi ml mk mf f31 f33 r q ed fh fl) (hc : HuC wn wc mi ml mk mf i6 i7 i8 i9 i11 i12 i13 i15 i16 i17 i18 i19 kp fs fp ff fd z6 z7 z8 z9 z11 z12 z13 z15 z16 z17 z18 z19 ky zs zp zf zd wn2 wc2) (he : Hund ed fh fl r q ed2 zr zq) : SY n sc fst fop fen fby fam z6 z7 z8 z9 z11 z12 z13 z15 z16 z17 z18 z19 ky zs zp zf zd wn2 wc2 mi ml mk mf f31 f33 zr zq ed2 fh fl := by
  obtain ⟨h1, h2, h3, ⟨hn, hw, hwc, hed⟩, hB⟩ := h
  have ref : Pri n r zr ∧ BYR n b p zr ∧ (∀ i, i < ed2 → Pri n zr (hr fh ed2 i)) ∧ ed2 ≤ 10 ∧ (SYSr r ed fh → SYSr zr ed2 fh) := by
    rcases he with ⟨-, e1, e2, -⟩ | ⟨l0, e1, e2, -⟩
    · subst e1 e2
      exact ⟨Pri.rf n zr, h2, h3, hed, id⟩
    · have a0 : Ab (hr fh ed 0) zr := fun j hj _ => e2 j (by omega)
      have g : Pri n r zr := (h3 0 l0).tr (Pri.ab a0 hn)
      subst e1
      refine ⟨g, h2.pri g, fun i hi => ?_, by omega, fun s => ⟨(s.2 0 l0).abv a0, fun i hi => ?_⟩⟩
      · rw [hr_un]; exact g.sy.tr (h3 (i + 1) (by omega))
      · rw [hr_un]; exact s.2 (i + 1) (by omega)
  obtain ⟨g1, g2, g3, g4, g5⟩ := ref
  rcases hB with ⟨hs, c, hN, h0⟩ | ⟨hs, hSc, hSr⟩
  · have ew : ed = wc := hN.2.1
    rcases hc with ⟨w0, hc⟩ | ⟨w0, hc⟩
    · rcases he with ⟨-, e1, e2, e3⟩ | ⟨l0, -⟩
      · obtain ⟨w1, w2, y6, y7, y8, y9, y11, y12, y13, y15, y16, y17, y18, y19, yk, ys, yp, yf, yd⟩ := hc
        subst e1 e2 e3 w1 w2 y6 y7 y8 y9 y11 y12 y13 y15 y16 y17 y18 y19 yk ys yp yf yd
        exact ⟨sm, cq, b, p, h1, h2, h3, ⟨hn, hw, hwc, hed⟩, Or.inl ⟨hs, c, hN, h0⟩⟩
      · omega
    · rcases he with ⟨e0, -⟩ | ⟨l0, e1, e2, e3⟩
      · omega
      · obtain ⟨w1, w2, y6, y7, y8, y9, y11, y12, y13, y15, y16, y17, y18, y19, yk, ys, yp, yf, yd⟩ := hc
        obtain ⟨-, -, a3, a4, a5⟩ := hN
        have a0 : Ab (hr fh wc 0) zr := fun j hj _ => by rw [e2 j (by omega), ew]; rfl
        obtain ⟨b1, dy, d1, d2⟩ := a3 0 w0
        have s0 : (wn + 9 - 0) % 10 = wn2 := w1.symm
        have q0 : fl (wc - 1 - 0) = zq := by
          show fl (wc - 1) = zq
          rw [e3, ew]
        rw [s0, q0] at b1
        rw [q0] at d2
        have hR : RC0 n zr zq z6 z7 z8 z9 z11 z12 z13 z15 z16 z17 z18 z19 ky zs zp zf zd fam := by
          rw [y6, y7, y8, y9, y11, y12, y13, y15, y16, y17, y18, y19, yk]
          exact (RC0.cpv b1 ys yp yf yd).ab a0
        have hN2 : SYN (fun i => c (i + 1)) n fam z6 z7 z8 z9 z11 z12 z13 z15 z16 z17 z18 z19 ky zs zp zf zd wn2 wc2 mi ml mk mf zr zq ed2 fh fl := by
          refine ⟨⟨hR, dy, d1, d2.abv a0 hn⟩, by omega, fun i hi => ?_, fun i hi => a4 (i + 1) (by omega), fun i hi => a5 (i + 1) (by omega)⟩
          have z := a3 (i + 1) (by omega)
          rw [w2, hr_un, show wc - 1 - 1 - i = wc - 1 - (i + 1) by omega, show (wn2 + 9 - i) % 10 = (wn + 9 - (i + 1)) % 10 by omega]
          exact z
        have hw2 : wn2 < 10 := by omega
        exact hN2.fin h1 g2 g3 ⟨hn, hw2, by omega, g4⟩
  · have cls : (wn2 < 10 ∧ wc2 ≤ 10) ∧ SYSc z6 ky wn2 wc2 mi mk := by
      rcases hc with ⟨w0, w1, w2, y6, -, -, -, -, -, -, -, -, -, -, -, yk, -⟩ | ⟨w0, w1, w2, y6, -, -, -, -, -, -, -, -, -, -, -, yk, -⟩
      · rw [w1, w2, y6, yk]
        exact ⟨⟨hw, hwc⟩, hSc⟩
      · have hw2 : wn2 < 10 := by omega
        have z0 := hSc.2.2 0 w0
        rw [show (wn + 9 - 0) % 10 = wn2 from w1.symm] at z0
        refine ⟨⟨hw2, by omega⟩, by rw [yk]; exact z0.1, by rw [y6]; exact z0.2, fun i hi => ?_⟩
        have z := hSc.2.2 (i + 1) (by omega)
        rw [show (wn + 9 - (i + 1)) % 10 = (wn2 + 9 - i) % 10 by omega] at z
        exact z
    exact ⟨sm, cq, b, p, h1, g2, g3, ⟨hn, cls.1.1, cls.1.2, g4⟩, Or.inr ⟨hs, cls.2, g5 hSr⟩⟩
/-- a trial of the reference leaves its row -/
theorem SY.cpv {n sc : Nat} {fst fop fen fby fam : Nat → Int32} {i6 : Int32} {i7 : Int32} {i8 : Int32} {i9 : Int64} {i11 : Int64} {i12 : Int32} {i13 : Int32} {i15 : Int32} {i16 : Int32} {i17 : Int32} {i18 : Int32} {i19 : Int32} {kp : Nat} {fs : Nat → Int32} {fp : Nat → Int32} {ff : Nat → Int32} {fd : Nat → Int32} {wn wc : Nat} {mi : Nat → Nat → Int32} {ml : Nat → Nat → Int64} {mk : Nat → Nat} {mf : Nat → Nat → Nat → Int32} {f31 f33 r : Nat → Int32} {q : Int64} {ed : Nat} {fh : Nat → Int32} {fl : Nat → Int64} {zr : Nat → Int32} (h : SY n sc fst fop fen fby fam i6 i7 i8 i9 i11 i12 i13 i15 i16 i17 i18 i19 kp fs fp ff fd wn wc mi ml mk mf f31 f33 r q ed fh fl) (k : Cp 326 r zr) : SY n sc fst fop fen fby fam i6 i7 i8 i9 i11 i12 i13 i15 i16 i17 i18 i19 kp fs fp ff fd wn wc mi ml mk mf f31 f33 zr q ed fh fl := by
  obtain ⟨sm, cq, b, p, h1, h2, h3, h4, hB⟩ := h
  have a : Ab r zr := fun j hj _ => k j (by omega)
  have g : Pri n r zr := Pri.ab a h4.1
  refine ⟨sm, cq, b, p, h1, h2.pri g, fun i hi => g.sy.tr (h3 i hi), h4, ?_⟩
  rcases hB with ⟨hs, c, ⟨⟨b1, dy, d1, d2⟩, hN⟩, h0⟩ | ⟨hs, hSc, hSr⟩
  · exact Or.inl ⟨hs, c, ⟨⟨b1.ab a, dy, d1, d2.abv a h4.1⟩, hN⟩, h0⟩
  · exact Or.inr ⟨hs, hSc, hSr.1.abv a, hSr.2⟩
theorem SY.keep {n sc : Nat} {fst fop fen fby fam : Nat → Int32} {i6 : Int32} {i7 : Int32} {i8 : Int32} {i9 : Int64} {i11 : Int64} {i12 : Int32} {i13 : Int32} {i15 : Int32} {i16 : Int32} {i17 : Int32} {i18 : Int32} {i19 : Int32} {kp : Nat} {fs : Nat → Int32} {fp : Nat → Int32} {ff : Nat → Int32} {fd : Nat → Int32} {wn wc : Nat} {mi : Nat → Nat → Int32} {ml : Nat → Nat → Int64} {mk : Nat → Nat} {mf : Nat → Nat → Nat → Int32} {f31 f33 r : Nat → Int32} {q : Int64} {ed : Nat} {fh : Nat → Int32} {fl : Nat → Int64} {z6 : Int32} {z7 : Int32} {z8 : Int32} {z9 : Int64} {z11 : Int64} {z12 : Int32} {z13 : Int32} {z15 : Int32} {z16 : Int32} {z17 : Int32} {z18 : Int32} {z19 : Int32} {ky : Nat} {zs : Nat → Int32} {zp : Nat → Int32} {zf : Nat → Int32} {zd : Nat → Int32} (h : SY n sc fst fop fen fby fam i6 i7 i8 i9 i11 i12 i13 i15 i16 i17 i18 i19 kp fs fp ff fd wn wc mi ml mk mf f31 f33 r q ed fh fl) (k : KeepA i6 i7 i8 i9 i11 i12 i13 i15 i16 i17 i18 i19 kp fs fp ff fd z6 z7 z8 z9 z11 z12 z13 z15 z16 z17 z18 z19 ky zs zp zf zd) : SY n sc fst fop fen fby fam z6 z7 z8 z9 z11 z12 z13 z15 z16 z17 z18 z19 ky zs zp zf zd wn wc mi ml mk mf f31 f33 r q ed fh fl := by
  obtain ⟨⟨y6, y7, y8, y9, y11, y12, y13, y15, y16, y17, y18, y19⟩, yk, ys, yp, yf, yd⟩ := k
  subst y6 y7 y8 y9 y11 y12 y13 y15 y16 y17 y18 y19 yk ys yp yf yd
  exact h
/-- both sides have loaded a text -/
theorem SY.fresh {K S : Nat → Int32} {V : Nat → Int64} {mll pll : List Int64} {fde fpi : Nat → Int32} {pr pb pg : Int32} {nd c2 : Nat} {n sc : Nat} {fst fop fen fby fam : Nat → Int32} {i6 : Int32} {i7 : Int32} {i8 : Int32} {i9 : Int64} {i11 : Int64} {i12 : Int32} {i13 : Int32} {i15 : Int32} {i16 : Int32} {i17 : Int32} {i18 : Int32} {i19 : Int32} {kp : Nat} {fs : Nat → Int32} {fp : Nat → Int32} {ff : Nat → Int32} {fd : Nat → Int32} {wn : Nat} {mi : Nat → Nat → Int32} {ml : Nat → Nat → Int64} {mk : Nat → Nat} {mf : Nat → Nat → Nat → Int32} {f31 f33 r : Nat → Int32} {fh : Nat → Int32} {fl : Nat → Int64}
    (hT : TP K S V 0 0 [] [] (.inr (mll, pll))) (h1 : DF9 K V mll pll fde fam fpi fen fst fop pr pb pg nd n sc) (h2 : DW9 K V mll pll r f31 f33 c2) (h3 : OpnA nd fde pr pb pg i6 i7 i8 i9 i11 i12 i13 i15 i16 i17 i18 i19 kp fs fp ff fd) (hb : BYS n fby fpi) (hcn : n ≤ 10) (hnd : nd ≤ 6) (hsc : sc ≤ 350) (hw : wn < 10) : SY n sc fst fop fen fby fam i6 i7 i8 i9 i11 i12 i13 i15 i16 i17 i18 i19 kp fs fp ff fd wn 0 mi ml mk mf f31 f33 r 0 0 fh fl := by
  obtain ⟨-, cq, b, p, hR, hCE, hCQ, hEn, hEl, hqs, hBY, hBo, hDI⟩ := frs9 hT h1 h2 h3 hb hcn hnd hsc
  exact ⟨False, cq, b, p, ⟨hCE, hCQ, hEn, hEl, hqs, hBo⟩, hBY, fun i hi => absurd hi (Nat.not_lt_zero i), ⟨hcn, hw, by omega, by omega⟩, Or.inl ⟨id, fun _ => 0, ⟨⟨hR, 0, by omega, hDI⟩, rfl, fun i hi => absurd hi (Nat.not_lt_zero i), fun i hi => absurd hi (Nat.not_lt_zero i), fun i hi => absurd hi (Nat.not_lt_zero i)⟩, Nat.zero_le 100⟩⟩
theorem no9 {P : Nat → Prop} (i : Nat) (h : i < 0) : P i := absurd h (Nat.not_lt_zero i)
/-- at the beginning -/
theorem SY.zero {fst fop fen fby fam : Nat → Int32} {fs fp ff fd : Nat → Int32} {wn : Nat} {mi : Nat → Nat → Int32} {ml : Nat → Nat → Int64} {mk : Nat → Nat} {mf : Nat → Nat → Nat → Int32} {f31 f33 r : Nat → Int32} {fh : Nat → Int32} {fl : Nat → Int64} (h : Row0 r) (hw : wn < 10) : SY 0 0 fst fop fen fby fam 0 0 0 0 0 0 0 0 365 0 0 0 0 fs fp ff fd wn 0 mi ml mk mf f31 f33 r 0 0 fh fl := by
  have z0 : (0 : Int32).toInt = 0 := by decide
  have q0 : (0 : Int64).toInt = 0 := by decide
  have e : ∀ j, j < 86 → j ≠ 1 → tI r j = 0 := fun j h1 h2 => (tI_v (h.2 j h1 h2)).trans z0
  have e1 : tI r 1 = 365 := (tI_v h.1).trans (by decide)
  have hW : WFa 0 r 0 := by
    unfold WFa WI
    rw [e 0 (by omega) (by omega), e1, e 4 (by omega) (by omega), e 5 (by omega) (by omega), e 6 (by omega) (by omega), e 7 (by omega) (by omega), e 8 (by omega) (by omega), q0]
    exact ⟨⟨by omega, by omega⟩, ⟨by omega, by omega⟩, ⟨by omega, by omega⟩, ⟨by omega, by omega, by omega⟩, ⟨by omega, by omega, by omega⟩, ⟨by omega, by omega⟩, Int.le_refl 0, no9⟩
  have hR : RC0 0 r 0 0 0 0 0 0 0 0 0 365 0 0 0 0 fs fp ff fd fam := ⟨hW, ⟨by omega, by omega⟩, ⟨h.2 4 (by omega) (by omega), h.2 5 (by omega) (by omega), h.2 6 (by omega) (by omega), by rw [h.2 7 (by omega) (by omega)]; decide, rfl, (h.2 10 (by omega) (by omega)).trans (by decide), h.2 0 (by omega) (by omega), h.1, h.2 3 (by omega) (by omega), h.2 12 (by omega) (by omega), h.2 15 (by omega) (by omega)⟩, no9⟩
  have hD : DI 0 0 0 r 0 := by
    refine ⟨hR.e, h.2 4 (by omega) (by omega), ?_, ?_, 0, h.2 15 (by omega) (by omega), by omega, by omega⟩
    · rw [q0, e 8 (by omega) (by omega)]; omega
    · rw [e 8 (by omega) (by omega)]; exact Int.le_refl 0
  exact ⟨False, fun _ => 0, id, id, ⟨no9, ⟨rfl, no9⟩, no9, no9, Nat.zero_le _, no9⟩, ⟨no9, no9, fun j k _ hk => absurd hk (Nat.not_lt_zero k)⟩, no9, ⟨by omega, hw, by omega, by omega⟩, Or.inl ⟨id, fun _ => 0, ⟨⟨hR, 0, by omega, hD⟩, rfl, no9, no9, no9⟩, Nat.zero_le 100⟩⟩
