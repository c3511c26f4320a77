theorem NL.fi {ml : List Int64} {n k : Nat} {f : Nat → Int64} {w : Int64} (h : NL ml n f) (hk : k < n) (e : f k = w) (hn : Nof k w f) : fi9 ml w = k := by
  refine fi9_at ((h.2 k hk).trans (by rw [e])) (fun j hj q => hn j hj ?_)
  rw [h.2 j (by omega)] at q
  exact Option.some.inj q
theorem nm_in {lo hi : Nat} {k : Int32} {v : Int64} (h : nmE (lN lo) (lN hi) k v = none) (hl : lo < 2147483648) (hh : hi < 2147483648) : ∃ n, lo ≤ n ∧ n ≤ hi ∧ v = lN n := by
  unfold nmE at h
  by_cases a : k = 3
  · rw [if_pos a] at h
    by_cases b : lN lo ≤ v ∧ v ≤ lN hi
    · have b1 := Int64.le_iff_toInt_le.mp b.1
      have b2 := Int64.le_iff_toInt_le.mp b.2
      rw [lN_toInt (by omega)] at b1 b2
      refine ⟨v.toInt.toNat, by omega, by omega, Int64.toInt_inj.mp ?_⟩
      rw [lN_toInt (by omega)]
      omega
    · rw [if_neg b] at h; exact nomatch h
  · rw [if_neg a] at h; exact nomatch h
theorem nm_32 {lo hi : Nat} {k : Int32} {v : Int64} (h : nmE (lN lo) (lN hi) k v = none) (hl : lo < 2147483648) (hh : hi < 2147483648) : ∃ n, lo ≤ n ∧ n ≤ hi ∧ v = lN n ∧ v.toInt32 = nI n := by
  obtain ⟨n, a, b, e⟩ := nm_in h hl hh
  exact ⟨n, a, b, e, by rw [e, lN_i]⟩
theorem E_18 {ml pl : List Int64} {v : Int64} {x : Int32} (h : v ∈ pl) (l : pl.length ≤ 8) (e : x = nI (fi9 pl v)) : OkC ml pl (18, v) ∧ EncS 18 x (enc9 ml pl (18, v)) := by
  have z := fi9_lt h
  exact ⟨Or.inr (Or.inr (Or.inl ⟨rfl, h, l⟩)), Or.inr (Or.inr (Or.inr (Or.inr (Or.inl ⟨rfl, fi9 pl v, by omega, e, rfl⟩))))⟩
theorem E_19 {ml pl : List Int64} {v : Int64} {x : Int32} (h : v ∈ ml) (l : ml.length ≤ 10) (e : x = nI (fi9 ml v)) : OkC ml pl (19, v) ∧ EncS 19 x (enc9 ml pl (19, v)) := by
  have z := fi9_lt h
  exact ⟨Or.inr (Or.inr (Or.inr ⟨rfl, h, l⟩)), Or.inr (Or.inr (Or.inr (Or.inr (Or.inr (Or.inl ⟨rfl, fi9 ml v, by omega, e, rfl⟩)))))⟩
theorem E_17 {ml pl : List Int64} {v : Int64} {x : Int32} {hi : Nat} {k : Int32} (h : nmE (lN 0) (lN hi) k v = none) (hh : hi < 100000) (e : x = v.toInt32) : OkC ml pl (17, v) ∧ EncS 17 x (enc9 ml pl (17, v)) := by
  obtain ⟨n, -, b, c, d⟩ := nm_32 h (by omega) (by omega)
  exact ⟨Or.inr (Or.inl ⟨Or.inl rfl, n, by omega, c⟩), Or.inr (Or.inr (Or.inr (Or.inl ⟨rfl, n, by omega, e.trans d, d⟩)))⟩
theorem E_20 {ml pl : List Int64} {v : Int64} {x : Int32} {hi : Nat} {k : Int32} (h : nmE (lN 0) (lN hi) k v = none) (hh : hi < 100000) (e : x = v.toInt32) : OkC ml pl (20, v) ∧ EncS 20 x (enc9 ml pl (20, v)) := by
  obtain ⟨n, -, b, c, d⟩ := nm_32 h (by omega) (by omega)
  refine ⟨Or.inr (Or.inl ⟨Or.inr rfl, n, by omega, c⟩), Or.inr (Or.inr (Or.inr (Or.inr (Or.inr (Or.inr (Or.inl ⟨rfl, n, by omega, e.trans d, ?_⟩))))))⟩
  show 300000 + v.toInt32 = _
  rw [d]
  exact nI_add 300000 n
theorem E_16 {ml pl : List Int64} {o : Int32} : OkC ml pl (16, 0) ∧ EncS 16 o (enc9 ml pl (16, 0)) := ⟨Or.inl (Or.inr (Or.inr (Or.inl rfl))), Or.inl ⟨rfl, rfl⟩⟩
theorem E_15 {ml pl : List Int64} {o : Int32} : OkC ml pl (15, 0) ∧ EncS 15 o (enc9 ml pl (15, 0)) := ⟨Or.inl (Or.inr (Or.inl rfl)), Or.inr (Or.inl ⟨rfl, rfl⟩)⟩
theorem E_14 {ml pl : List Int64} {o : Int32} : OkC ml pl (14, 0) ∧ EncS 14 o (enc9 ml pl (14, 0)) := ⟨Or.inl (Or.inl rfl), Or.inr (Or.inr (Or.inl ⟨rfl, rfl⟩))⟩
theorem E_pl {ml pl : List Int64} {k o : Int32} (h : k = 21 ∨ k = 22) : OkC ml pl (k, 0) ∧ EncS k o (enc9 ml pl (k, 0)) := by
  rcases h with h | h
  · subst h
    exact ⟨Or.inl (Or.inr (Or.inr (Or.inr (Or.inl rfl)))), Or.inr (Or.inr (Or.inr (Or.inr (Or.inr (Or.inr (Or.inr (Or.inl ⟨rfl, rfl⟩)))))))⟩
  · subst h
    exact ⟨Or.inl (Or.inr (Or.inr (Or.inr (Or.inr rfl)))), Or.inr (Or.inr (Or.inr (Or.inr (Or.inr (Or.inr (Or.inr (Or.inr ⟨rfl, rfl⟩)))))))⟩
/-- the class has read a condition's part from token i to j; its steps go from a to b; the rows were f, g and are f2, g2 -/
def CD9 (K : Nat → Int32) (V : Nat → Int64) (m i j : Nat) (ml pl pl2 : List Int64) (a b : Nat) (f g f2 g2 : Nat → Int32) : Prop := ∃ cs, PC K V m i j cs ∧ b = a + cs.length ∧ CdC ml pl2 a cs f2 g2 ∧ KpC a f g f2 g2 ∧ Ext9 pl pl2
def CDL (K : Nat → Int32) (V : Nat → Int64) (m i m2 ii : Nat) (ml pl pl2 : List Int64) (a b : Nat) (f g f2 g2 : Nat → Int32) : Prop := ∃ ci, Cc9 K V m i m2 ii ci ∧ b = a + ci.length ∧ CdC ml pl2 a ci f2 g2 ∧ KpC a f g f2 g2 ∧ Ext9 pl pl2
theorem CD9.one {K : Nat → Int32} {V : Nat → Int64} {m i j : Nat} {ml pl pl2 : List Int64} {a b : Nat} {f g f2 g2 : Nat → Int32} {x y : Int32} {p : Cd9} (hp : PC K V m i j [p]) (h1 : Upp a x f f2) (h2 : Upp a y g g2) (ho : OkC ml pl2 p ∧ EncS x y (enc9 ml pl2 p)) (he : Ext9 pl pl2) (hb : b = a + 1) : CD9 K V m i j ml pl pl2 a b f g f2 g2 := ⟨[p], hp, hb, CdC.one h1 h2 ho.1 ho.2, KpC.put h1 h2, he⟩
theorem CD9.opn {K : Nat → Int32} {V : Nat → Int64} {i j j2 : Nat} {ml pl pl2 : List Int64} {a b : Nat} {f g f2 g2 : Nat → Int32} (hk : K i = 5) (h : CD9 K V 3 (i + 1) j ml pl pl2 a b f g f2 g2) (hj : j2 = j + 1) : CD9 K V 0 i j2 ml pl pl2 a b f g f2 g2 := by
  obtain ⟨cs, h1, h2, h3, h4, h5⟩ := h
  exact ⟨cs, by rw [hj]; exact C_open hk h1, h2, h3, h4, h5⟩
theorem CD9.more {ml pl2 : List Int64} {a b : Nat} {cs : List Cd9} {f2 g2 f3 g3 : Nat → Int32} {x y : Int32} {p : Cd9} (hb : b = a + cs.length) (hc : CdC ml pl2 a cs f2 g2) (h1 : Upp b x f2 f3) (h2 : Upp b y g2 g3) (ho : OkC ml pl2 p ∧ EncS x y (enc9 ml pl2 p)) : CdC ml pl2 a (cs ++ [p]) f3 g3 := CdC.app (hc.keep (KpC.put h1 h2) (by omega)) (CdC.one h1 h2 ho.1 ho.2) hb
theorem CD9.not {K : Nat → Int32} {V : Nat → Int64} {i j : Nat} {ml pl pl2 : List Int64} {a b b2 : Nat} {f g f2 g2 f3 g3 : Nat → Int32} {y : Int32} (hk : K i = 16) (h : CD9 K V 0 (i + 1) j ml pl pl2 a b f g f2 g2) (h1 : Upp b 16 f2 f3) (h2 : Upp b y g2 g3) (hb : b2 = b + 1) : CD9 K V 0 i j ml pl pl2 a b2 f g f3 g3 := by
  obtain ⟨cs, q1, q2, q3, q4, q5⟩ := h
  refine ⟨cs ++ [(16, 0)], C_not hk q1, by rw [List.length_append]; show b2 = a + (cs.length + 1); omega, CD9.more q2 q3 h1 h2 E_16, q4.tr (KpC.put h1 h2) (by omega), q5⟩
theorem CDL.both {K : Nat → Int32} {V : Nat → Int64} {i j : Nat} {ml pl pl2 : List Int64} {a b : Nat} {f g f2 g2 : Nat → Int32} (h : CD9 K V 0 i j ml pl pl2 a b f g f2 g2) : CDL K V 1 i 2 j ml pl pl2 a b f g f2 g2 := by
  obtain ⟨cs, q1, q⟩ := h
  exact ⟨cs, Cc9.both q1, q⟩
theorem CDL.cond {K : Nat → Int32} {V : Nat → Int64} {i j : Nat} {ml pl pl2 : List Int64} {a b : Nat} {f g f2 g2 : Nat → Int32} (h : CD9 K V 1 i j ml pl pl2 a b f g f2 g2) : CDL K V 3 i 4 j ml pl pl2 a b f g f2 g2 := by
  obtain ⟨cs, q1, q⟩ := h
  exact ⟨cs, Cc9.cond q1, q⟩
theorem CDL.go {ml pl pl2 pl3 : List Int64} {a b b3 b4 : Nat} {ci c : List Cd9} {f g f2 g2 f3 g3 f4 g4 : Nat → Int32} {x y : Int32} {p : Cd9} (l1 : ml.length ≤ 10) (l2 : pl3.length ≤ 8) (h2 : b = a + ci.length) (h3 : CdC ml pl2 a ci f2 g2) (h4 : KpC a f g f2 g2) (h5 : Ext9 pl pl2) (q2 : b3 = b + c.length) (q3 : CdC ml pl3 b c f3 g3) (q4 : KpC b f2 g2 f3 g3) (q5 : Ext9 pl2 pl3) (u1 : Upp b3 x f3 f4) (u2 : Upp b3 y g3 g4) (ho : OkC ml pl3 p ∧ EncS x y (enc9 ml pl3 p)) (hb : b4 = b3 + 1) : b4 = a + (ci ++ c ++ [p]).length ∧ CdC ml pl3 a (ci ++ c ++ [p]) f4 g4 ∧ KpC a f g f4 g4 ∧ Ext9 pl pl3 := by
  have e : b3 = a + (ci ++ c).length := by rw [List.length_append]; omega
  refine ⟨by rw [List.length_append]; show b4 = a + ((ci ++ c).length + 1); omega, CD9.more e (CdC.app ((h3.ext (Ext9.rf ml) q5 l1 l2).keep q4 (by omega)) q3 h2) u1 u2 ho, ?_, h5.tr q5⟩
  exact (h4.tr q4 (by omega)).tr (KpC.put u1 u2) (by omega)
theorem CDL.and {K : Nat → Int32} {V : Nat → Int64} {m i ii j : Nat} {ml pl pl2 pl3 : List Int64} {a b b3 b4 : Nat} {f g f2 g2 f3 g3 f4 g4 : Nat → Int32} {y : Int32} (h : CDL K V m i 2 ii ml pl pl2 a b f g f2 g2) (hk : K ii = 15) (h1 : CD9 K V 0 (ii + 1) j ml pl2 pl3 b b3 f2 g2 f3 g3) (u1 : Upp b3 15 f3 f4) (u2 : Upp b3 y g3 g4) (hb : b4 = b3 + 1) (l1 : ml.length ≤ 10) (l2 : pl3.length ≤ 8) : CDL K V m i 2 j ml pl pl3 a b4 f g f4 g4 := by
  obtain ⟨ci, p1, p2, p3, p4, p5⟩ := h
  obtain ⟨c, q1, q2, q3, q4, q5⟩ := h1
  exact ⟨_, p1.and hk q1, CDL.go l1 l2 p2 p3 p4 p5 q2 q3 q4 q5 u1 u2 E_15 hb⟩
theorem CDL.or {K : Nat → Int32} {V : Nat → Int64} {m i ii j : Nat} {ml pl pl2 pl3 : List Int64} {a b b3 b4 : Nat} {f g f2 g2 f3 g3 f4 g4 : Nat → Int32} {y : Int32} (h : CDL K V m i 4 ii ml pl pl2 a b f g f2 g2) (hk : K ii = 14) (h1 : CD9 K V 1 (ii + 1) j ml pl2 pl3 b b3 f2 g2 f3 g3) (u1 : Upp b3 14 f3 f4) (u2 : Upp b3 y g3 g4) (hb : b4 = b3 + 1) (l1 : ml.length ≤ 10) (l2 : pl3.length ≤ 8) : CDL K V m i 4 j ml pl pl3 a b4 f g f4 g4 := by
  obtain ⟨ci, p1, p2, p3, p4, p5⟩ := h
  obtain ⟨c, q1, q2, q3, q4, q5⟩ := h1
  exact ⟨_, p1.or hk q1, CDL.go l1 l2 p2 p3 p4 p5 q2 q3 q4 q5 u1 u2 E_14 hb⟩
theorem CDL.end2 {K : Nat → Int32} {V : Nat → Int64} {m i ii : Nat} {ml pl pl2 : List Int64} {a b : Nat} {f g f2 g2 : Nat → Int32} (h : CDL K V m i 2 ii ml pl pl2 a b f g f2 g2) (hk : ¬ K ii = 15) : CD9 K V m i ii ml pl pl2 a b f g f2 g2 := by
  obtain ⟨ci, p1, p⟩ := h
  exact ⟨ci, p1.end2 hk, p⟩
theorem CDL.end4 {K : Nat → Int32} {V : Nat → Int64} {m i ii : Nat} {ml pl pl2 : List Int64} {a b : Nat} {f g f2 g2 : Nat → Int32} (h : CDL K V m i 4 ii ml pl pl2 a b f g f2 g2) (hk : ¬ K ii = 14) : CD9 K V m i ii ml pl pl2 a b f g f2 g2 := by
  obtain ⟨ci, p1, p⟩ := h
  exact ⟨ci, p1.end4 hk, p⟩
/-- the reference has read a condition's part from token i to j; its codes go from a to b -/
def CR9 (K : Nat → Int32) (V : Nat → Int64) (m i j : Nat) (ml pl pl2 : List Int64) (a b : Nat) (f f2 : Nat → Int32) : Prop := ∃ cs, PC K V m i j cs ∧ b = a + cs.length ∧ CdR ml pl2 a cs f2 ∧ Kp a f f2 ∧ Ext9 pl pl2
def CRL (K : Nat → Int32) (V : Nat → Int64) (m i m2 ii : Nat) (ml pl pl2 : List Int64) (a b : Nat) (f f2 : Nat → Int32) : Prop := ∃ ci, Cc9 K V m i m2 ii ci ∧ b = a + ci.length ∧ CdR ml pl2 a ci f2 ∧ Kp a f f2 ∧ Ext9 pl pl2
theorem CR9.one {K : Nat → Int32} {V : Nat → Int64} {m i j : Nat} {ml pl pl2 : List Int64} {a b : Nat} {f f2 : Nat → Int32} {x : Int32} {p : Cd9} (hp : PC K V m i j [p]) (h1 : Em a x f f2) (ho : OkC ml pl2 p) (hx : x = enc9 ml pl2 p) (he : Ext9 pl pl2) (hb : b = a + 1) : CR9 K V m i j ml pl pl2 a b f f2 := ⟨[p], hp, hb, CdR.one h1 ho hx, Em.kp h1, he⟩
theorem CR9.opn {K : Nat → Int32} {V : Nat → Int64} {i j j2 : Nat} {ml pl pl2 : List Int64} {a b : Nat} {f f2 : Nat → Int32} (hk : K i = 5) (h : CR9 K V 3 (i + 1) j ml pl pl2 a b f f2) (hj : j2 = j + 1) : CR9 K V 0 i j2 ml pl pl2 a b f f2 := by
  obtain ⟨cs, h1, h2, h3, h4, h5⟩ := h
  exact ⟨cs, by rw [hj]; exact C_open hk h1, h2, h3, h4, h5⟩
theorem CR9.more {ml pl2 : List Int64} {a b : Nat} {cs : List Cd9} {f2 f3 : Nat → Int32} {x : Int32} {p : Cd9} (hb : b = a + cs.length) (hc : CdR ml pl2 a cs f2) (h1 : Em b x f2 f3) (ho : OkC ml pl2 p) (hx : x = enc9 ml pl2 p) : CdR ml pl2 a (cs ++ [p]) f3 := CdR.app (hc.keep (n := b) (Em.kp h1) (by omega)) (CdR.one h1 ho hx) hb
theorem CR9.not {K : Nat → Int32} {V : Nat → Int64} {i j : Nat} {ml pl pl2 : List Int64} {a b b2 : Nat} {f f2 f3 : Nat → Int32} (hk : K i = 16) (h : CR9 K V 0 (i + 1) j ml pl pl2 a b f f2) (h1 : Em b (-3) f2 f3) (hb : b2 = b + 1) : CR9 K V 0 i j ml pl pl2 a b2 f f3 := by
  obtain ⟨cs, q1, q2, q3, q4, q5⟩ := h
  refine ⟨cs ++ [(16, 0)], C_not hk q1, by rw [List.length_append]; show b2 = a + (cs.length + 1); omega, CR9.more q2 q3 h1 (E_16 (o := 0)).1 rfl, q4.tr (Em.kp h1) (by omega), q5⟩
theorem CRL.both {K : Nat → Int32} {V : Nat → Int64} {i j : Nat} {ml pl pl2 : List Int64} {a b : Nat} {f f2 : Nat → Int32} (h : CR9 K V 0 i j ml pl pl2 a b f f2) : CRL K V 1 i 2 j ml pl pl2 a b f f2 := by
  obtain ⟨cs, q1, q⟩ := h
  exact ⟨cs, Cc9.both q1, q⟩
theorem CRL.cond {K : Nat → Int32} {V : Nat → Int64} {i j : Nat} {ml pl pl2 : List Int64} {a b : Nat} {f f2 : Nat → Int32} (h : CR9 K V 1 i j ml pl pl2 a b f f2) : CRL K V 3 i 4 j ml pl pl2 a b f f2 := by
  obtain ⟨cs, q1, q⟩ := h
  exact ⟨cs, Cc9.cond q1, q⟩
theorem CRL.go {ml pl pl2 pl3 : List Int64} {a b b3 b4 : Nat} {ci c : List Cd9} {f f2 f3 f4 : Nat → Int32} {x : Int32} {p : Cd9} (l1 : ml.length ≤ 10) (l2 : pl3.length ≤ 8) (h2 : b = a + ci.length) (h3 : CdR ml pl2 a ci f2) (h4 : Kp a f f2) (h5 : Ext9 pl pl2) (q2 : b3 = b + c.length) (q3 : CdR ml pl3 b c f3) (q4 : Kp b f2 f3) (q5 : Ext9 pl2 pl3) (u1 : Em b3 x f3 f4) (ho : OkC ml pl3 p) (hx : x = enc9 ml pl3 p) (hb : b4 = b3 + 1) : b4 = a + (ci ++ c ++ [p]).length ∧ CdR ml pl3 a (ci ++ c ++ [p]) f4 ∧ Kp a f f4 ∧ Ext9 pl pl3 := by
  have e : b3 = a + (ci ++ c).length := by rw [List.length_append]; omega
  refine ⟨by rw [List.length_append]; show b4 = a + ((ci ++ c).length + 1); omega, CR9.more e (CdR.app ((h3.ext (Ext9.rf ml) q5 l1 l2).keep q4 (by omega)) q3 h2) u1 ho hx, ?_, h5.tr q5⟩
  exact (h4.tr q4 (by omega)).tr (Em.kp u1) (by omega)
theorem CRL.and {K : Nat → Int32} {V : Nat → Int64} {m i ii j : Nat} {ml pl pl2 pl3 : List Int64} {a b b3 b4 : Nat} {f f2 f3 f4 : Nat → Int32} (h : CRL K V m i 2 ii ml pl pl2 a b f f2) (hk : K ii = 15) (h1 : CR9 K V 0 (ii + 1) j ml pl2 pl3 b b3 f2 f3) (u1 : Em b3 (-1) f3 f4) (hb : b4 = b3 + 1) (l1 : ml.length ≤ 10) (l2 : pl3.length ≤ 8) : CRL K V m i 2 j ml pl pl3 a b4 f f4 := by
  obtain ⟨ci, p1, p2, p3, p4, p5⟩ := h
  obtain ⟨c, q1, q2, q3, q4, q5⟩ := h1
  exact ⟨_, p1.and hk q1, CRL.go l1 l2 p2 p3 p4 p5 q2 q3 q4 q5 u1 (E_15 (o := 0)).1 rfl hb⟩
theorem CRL.or {K : Nat → Int32} {V : Nat → Int64} {m i ii j : Nat} {ml pl pl2 pl3 : List Int64} {a b b3 b4 : Nat} {f f2 f3 f4 : Nat → Int32} (h : CRL K V m i 4 ii ml pl pl2 a b f f2) (hk : K ii = 14) (h1 : CR9 K V 1 (ii + 1) j ml pl2 pl3 b b3 f2 f3) (u1 : Em b3 (-2) f3 f4) (hb : b4 = b3 + 1) (l1 : ml.length ≤ 10) (l2 : pl3.length ≤ 8) : CRL K V m i 4 j ml pl pl3 a b4 f f4 := by
  obtain ⟨ci, p1, p2, p3, p4, p5⟩ := h
  obtain ⟨c, q1, q2, q3, q4, q5⟩ := h1
  exact ⟨_, p1.or hk q1, CRL.go l1 l2 p2 p3 p4 p5 q2 q3 q4 q5 u1 (E_14 (o := 0)).1 rfl hb⟩
theorem CRL.end2 {K : Nat → Int32} {V : Nat → Int64} {m i ii : Nat} {ml pl pl2 : List Int64} {a b : Nat} {f f2 : Nat → Int32} (h : CRL K V m i 2 ii ml pl pl2 a b f f2) (hk : ¬ K ii = 15) : CR9 K V m i ii ml pl pl2 a b f f2 := by
  obtain ⟨ci, p1, p⟩ := h
  exact ⟨ci, p1.end2 hk, p⟩
theorem CRL.end4 {K : Nat → Int32} {V : Nat → Int64} {m i ii : Nat} {ml pl pl2 : List Int64} {a b : Nat} {f f2 : Nat → Int32} (h : CRL K V m i 4 ii ml pl pl2 a b f f2) (hk : ¬ K ii = 14) : CR9 K V m i ii ml pl pl2 a b f f2 := by
  obtain ⟨ci, p1, p⟩ := h
  exact ⟨ci, p1.end4 hk, p⟩
def NV9 (x : Int32) (v : Int64) : Prop := x = v.toInt32
theorem NV9.of {v : Int64} {u : Int32} (h : v = u.toInt64) : NV9 u v := by
  unfold NV9
  rw [h]
  refine Int32.toInt_inj.mp ?_
  rw [Int64.toInt_toInt32, Int32.toInt_toInt64]
  have a := Int32.le_toInt u
  have b := Int32.toInt_lt u
  exact (Int.bmod_eq_of_le (by omega) (by omega)).symm
theorem ER_17 {ml pl : List Int64} {v : Int64} {x : Int32} {hi n : Nat} {k : Int32} (h : nmE (lN 0) (lN hi) k v = none) (hh : hi < 100000) (hv : NV9 (nI n) v) (e : x = nI (0 + n)) : OkC ml pl (17, v) ∧ x = enc9 ml pl (17, v) := by
  refine ⟨(E_17 (ml := ml) (pl := pl) h hh rfl).1, ?_⟩
  show x = v.toInt32
  rw [e, Nat.zero_add]
  exact hv
theorem ER_20 {ml pl : List Int64} {v : Int64} {x : Int32} {hi n : Nat} {k : Int32} (h : nmE (lN 0) (lN hi) k v = none) (hh : hi < 100000) (hv : NV9 (nI n) v) (e : x = nI (300000 + n)) : OkC ml pl (20, v) ∧ x = enc9 ml pl (20, v) := by
  refine ⟨(E_20 (ml := ml) (pl := pl) h hh rfl).1, ?_⟩
  show x = 300000 + v.toInt32
  rw [e, ← (show nI n = v.toInt32 from hv)]
  exact (nI_add 300000 n).symm
theorem ER_18 {ml pl : List Int64} {v : Int64} {x : Int32} {k : Nat} (h : v ∈ pl) (l : pl.length ≤ 8) (hk : fi9 pl v = k) (e : x = nI (100000 + k)) : OkC ml pl (18, v) ∧ x = enc9 ml pl (18, v) := by
  refine ⟨(E_18 (ml := ml) h l rfl).1, ?_⟩
  rw [e, ← hk]
  rfl
theorem ER_19 {ml pl : List Int64} {v : Int64} {x : Int32} {k : Nat} (h : v ∈ ml) (l : ml.length ≤ 10) (hk : fi9 ml v = k) (e : x = nI (200000 + k)) : OkC ml pl (19, v) ∧ x = enc9 ml pl (19, v) := by
  refine ⟨(E_19 (pl := pl) h l rfl).1, ?_⟩
  rw [e, ← hk]
  rfl
theorem nm_k3 {lo hi : Int64} {k : Int32} {v : Int64} (h : nmE lo hi k v = none) : k = 3 := by
  unfold nmE at h
  by_cases a : k = 3
  · exact a
  · rw [if_neg a] at h; exact nomatch h
/-- the row but for the number of proofs -/
def K14 (f g : Nat → Int32) : Prop := ∀ j, j ≠ 14 → g j = f j
theorem K14.rf (f : Nat → Int32) : K14 f f := fun _ _ => rfl
theorem K14.tr {f g h : Nat → Int32} (a : K14 f g) (b : K14 g h) : K14 f h := fun j hj => (b j hj).trans (a j hj)
theorem K14.put {f g : Nat → Int32} {v : Int32} (h : Upp 14 v f g) : K14 f g := fun j hj => by
  unfold Upp at h
  rw [h]
  exact pk_un hj
/-- a number is put into the row -/
def UpV (k : Nat) (f g : Nat → Int32) (v : Int64) : Prop := g = upd f k v.toInt32
theorem UpV.of {k : Nat} {x : Int32} {f g : Nat → Int32} {v : Int64} (h : Upp k x f g) (hv : NV9 x v) : UpV k f g v := by
  unfold Upp at h
  unfold UpV
  rw [h, show x = v.toInt32 from hv]
def Rpp {α : Type} (f : Nat → α) : Prop := f = f
