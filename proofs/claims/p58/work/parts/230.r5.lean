
theorem Ab.at {r s : Nat → Int32} (h : Ab r s) (j : Nat) (hj : j < 86 ∧ j ≠ 9) : s j = r j := h j hj.1 hj.2
theorem Ab.updv {r s : Nat → Int32} (h : Ab r s) (k : Nat) {v w : Int32} (e : w = v) : Ab (upd r k v) (upd s k w) := by
  subst e
  exact h.put k _
theorem Ab.ent {r s : Nat → Int32} (h : Ab r s) {x y : Int32} (e : y = x) : Ab (entR x r) (entR y s) := by
  subst e
  unfold entR eN
  rw [h.at 15 (by omega)]
  by_cases c : y = 0
  · rw [if_pos c, if_pos c]; exact h
  · rw [if_neg c, if_neg c]; exact h.put 15 _
theorem Ab.rem {r s : Nat → Int32} (h : Ab r s) {m : Nat} (hm : m < 10) : remR s m = remR r m := by
  unfold remR
  rw [h.at _ (by omega), h.at _ (by omega), h.at _ (by omega)]
theorem Ab.av {r s : Nat → Int32} (h : Ab r s) : ∀ {n : Nat}, n ≤ 10 → avR s n = avR r n
  | 0, _ => h.at 6 (by omega)
  | n + 1, hn => by
    show avR s n - s (16 + 7 * n + 3) = avR r n - r (16 + 7 * n + 3)
    rw [Ab.av h (n := n) (by omega), h.at (16 + 7 * n + 3) (by omega)]
theorem Ab.dn {r s : Nat → Int32} (h : Ab r s) : ∀ {n : Nat}, n ≤ 10 → doR s n = doR r n
  | 0, _ => rfl
  | n + 1, hn => by
    rw [doR, doR, Ab.dn h (n := n) (by omega), h.at (16 + 7 * n + 2) (by omega)]
theorem Ab.hd {r s : Nat → Int32} (h : Ab r s) {m : Nat} (hm : m < 10) (d x y : Int32) : hdF s m d x y = hdF r m d x y := by
  rw [hdFG, hdFG, h.at 10 (by omega), h.at (16 + 7 * m + 5) (by omega)]
theorem Ab.mkPv {r s : Nat → Int32} (h : Ab r s) {m : Nat} {x y : Int32} (hm : m < 10) (e : y = x) : Ab (mkP m x r) (mkP m y s) := by
  subst e
  unfold mkP
  refine Ab.ent ?_ rfl
  refine Ab.updv (Ab.updv (Ab.updv h _ ?_) _ ?_) _ ?_
  · rw [h.at 6 (by omega)]
  · rw [h.at 10 (by omega)]
  · rw [h.at (16 + 7 * m + 1) (by omega)]
theorem Ab.clRv {r s : Nat → Int32} (h : Ab r s) {m : Nat} (hm : m < 10) : Ab (clR m r) (clR m s) := by
  unfold clR
  rw [h.rem hm]
  by_cases c : remR r m = 0
  · rw [if_pos c, if_pos c]; exact h.put _ _
  · rw [if_neg c, if_neg c]; exact h
theorem Ab.ps {r s : Nat → Int32} (h : Ab r s) {n m : Nat} (hn : n ≤ 10) (hm : m < 10) : Ab (pstep n m r) (pstep n m s) := by
  unfold pstep
  have e : (ripe s m ∧ 0 < minI (remR s m) (avR s n)) ↔ (ripe r m ∧ 0 < minI (remR r m) (avR r n)) := by
    unfold ripe
    rw [h.rem hm, h.av hn, h.at _ (by omega), h.at (16 + 7 * m + 4) (by omega), h.at 3 (by omega), h.at 4 (by omega)]
  by_cases c : ripe r m ∧ 0 < minI (remR r m) (avR r n)
  · rw [if_pos c, if_pos (e.mpr c)]
    exact (Ab.mkPv h hm (by rw [h.rem hm, h.av hn])).clRv hm
  · rw [if_neg c, if_neg (fun z => c (e.mp z))]; exact h
theorem Ab.paysv {r s : Nat → Int32} (h : Ab r s) {n : Nat} {o : Nat → Nat} (hn : n ≤ 10) : ∀ {k : Nat}, (∀ j, j < k → o j < n) → Ab (pays n o r k) (pays n o s k)
  | 0, _ => h
  | k + 1, ho => Ab.ps (Ab.paysv h hn (k := k) (fun j hj => ho j (by omega))) hn (by have := ho k (by omega); omega)
theorem Ab.ds {r s : Nat → Int32} (h : Ab r s) {f : Nat → Int32} {cq : Nat → Nat} {dn : Int32} {m : Nat} (hm : m < 10) : Ab (dstep f cq dn m r) (dstep f cq dn m s) := by
  unfold dstep
  rw [h.hd hm, h.at (16 + 7 * m + 2) (by omega), h.at 4 (by omega), h.at 12 (by omega)]
  by_cases c : r (16 + 7 * m + 2) = 0 ∧ hdV (hdF r m (r 4) (r 12) dn) f cq m = true
  · rw [if_pos c, if_pos c]; exact (h.put _ _).put _ _
  · rw [if_neg c, if_neg c]; exact h
theorem Ab.duesv {r s : Nat → Int32} (h : Ab r s) {f : Nat → Int32} {cq : Nat → Nat} {dn : Int32} : ∀ {k : Nat}, k ≤ 10 → Ab (dues f cq dn r k) (dues f cq dn s k)
  | 0, _ => h
  | k + 1, hk => Ab.ds (Ab.duesv h (k := k) (by omega)) (by omega)
theorem Ab.pq {r s : Nat → Int32} (h : Ab r s) (p : Int64) : pqQ p s = pqQ p r := by
  unfold pqQ
  rw [h.at 6 (by omega), h.at 7 (by omega), h.at 0 (by omega)]
theorem Ab.crCv {r s : Nat → Int32} (h : Ab r s) (p : Int64) : crC p s = crC p r := by
  unfold crC
  rw [h.at 1 (by omega)]
theorem Ab.crQv {r s : Nat → Int32} (h : Ab r s) (p : Int64) : crQ p s = crQ p r := by
  unfold crQ
  rw [h.at 1 (by omega)]
theorem Ab.crRv {r s : Nat → Int32} (h : Ab r s) (p : Int64) : Ab (crR p r) (crR p s) := by
  unfold crR
  rw [h.crCv]
  refine Ab.ent (Ab.updv (Ab.updv h _ ?_) _ ?_) rfl
  · rw [h.at 7 (by omega)]
  · rw [h.at 8 (by omega)]
theorem Ab.day2v {r s : Nat → Int32} (h : Ab r s) (dy : Nat) (q : Int64) : Ab (day2 dy r q) (day2 dy s q) := by
  unfold day2
  rw [h.pq]
  by_cases c : (dy + 1) % 30 = 0
  · rw [if_pos c, if_pos c]; exact (h.put 4 _).crRv _
  · rw [if_neg c, if_neg c]; exact h.put 4 _
theorem Ab.dayQv {r s : Nat → Int32} (h : Ab r s) (dy : Nat) (q : Int64) : dayQ dy s q = dayQ dy r q := by
  unfold dayQ
  rw [h.pq, (h.put 4 (nI (dy + 1))).crQv]
theorem Ab.dayRv {r s : Nat → Int32} (h : Ab r s) {f : Nat → Int32} {cq b : Nat → Nat} {n : Nat} (dy : Nat) (q : Int64) (hn : n ≤ 10) (hb : ∀ j, j < n → b j < n) : Ab (dayR f cq n b dy r q) (dayR f cq n b dy s q) := by
  unfold dayR
  have h2 := h.day2v dy q
  rw [h2.dn hn]
  exact Ab.paysv (h2.duesv hn) hn hb
/-! sums, and the order of payments -/
def sumN (f : Nat → Nat) : Nat → Nat
  | 0 => 0
  | n + 1 => sumN f n + f n
theorem sumN_c {f g : Nat → Nat} : ∀ {n : Nat}, (∀ j, j < n → f j = g j) → sumN f n = sumN g n
  | 0, _ => rfl
  | n + 1, h => by rw [sumN, sumN, sumN_c (n := n) (fun j hj => h j (by omega)), h n (by omega)]
theorem sumN_add (f g : Nat → Nat) : ∀ n : Nat, sumN (fun j => f j + g j) n = sumN f n + sumN g n
  | 0 => rfl
  | n + 1 => by
    rw [sumN, sumN, sumN, sumN_add f g n]
    omega
theorem sumN_0 : ∀ n : Nat, sumN (fun _ => 0) n = 0
  | 0 => rfl
  | n + 1 => by rw [sumN, sumN_0 n]
theorem sumN_sw (f : Nat → Nat → Nat) (b : Nat) : ∀ a : Nat, sumN (fun i => sumN (fun j => f i j) b) a = sumN (fun j => sumN (fun i => f i j) a) b
  | 0 => by
    show 0 = sumN (fun _ => 0) b
    rw [sumN_0]
  | a + 1 => by
    have e : sumN (fun j => sumN (fun i => f i j) (a + 1)) b = sumN (fun j => sumN (fun i => f i j) a + f a j) b := sumN_c (fun j _ => rfl)
    rw [e, sumN_add, sumN, sumN_sw f b a]
theorem sumN_one {f : Nat → Nat} {k : Nat} : ∀ {n : Nat}, k < n → (∀ j, j < n → j ≠ k → f j = 0) → sumN f n = f k
  | 0, hk, _ => absurd hk (Nat.not_lt_zero k)
  | n + 1, hk, h => by
    rw [sumN]
    by_cases e : n = k
    · subst e
      rw [sumN_c (g := fun _ => 0) (fun j hj => h j (by omega) (by omega)), sumN_0, Nat.zero_add]
    · rw [sumN_one (n := n) (by omega) (fun j hj hne => h j (by omega) hne), h n (by omega) e, Nat.add_zero]
theorem sumN_le {f g : Nat → Nat} : ∀ {n : Nat}, (∀ j, j < n → f j ≤ g j) → sumN f n ≤ sumN g n
  | 0, _ => Nat.le_refl 0
  | n + 1, h => by
    have h1 := sumN_le (n := n) (fun j hj => h j (by omega))
    have h2 := h n (by omega)
    rw [sumN, sumN]
    omega
/-- the order b of the milestones, p its inverse: by priority, then by number -/
def BYR (n : Nat) (b p : Nat → Nat) (r : Nat → Int32) : Prop := (∀ k, k < n → b k < n ∧ p (b k) = k) ∧ (∀ m, m < n → p m < n ∧ b (p m) = m) ∧ ∀ j k, j < k → k < n → befR r (b j) (b k)
theorem perm_sum {n : Nat} {b p : Nat → Nat} (h1 : ∀ k, k < n → b k < n ∧ p (b k) = k) (h2 : ∀ m, m < n → p m < n ∧ b (p m) = m) (f : Nat → Nat) : sumN f n = sumN (fun j => f (b j)) n := by
  have e1 : sumN f n = sumN (fun m => sumN (fun j => if b j = m then f m else 0) n) n := sumN_c (fun m hm => by
    rw [sumN_one (k := p m) (h2 m hm).1 (fun j hj hne => if_neg (fun e => hne (by rw [← e, (h1 j hj).2]))), if_pos (h2 m hm).2])
  rw [e1, sumN_sw]
  refine sumN_c (fun j hj => ?_)
  rw [sumN_one (k := b j) (h1 j hj).1 (fun m _ hne => if_neg (fun e => hne e.symm)), if_pos rfl]
theorem dbR_sum (r : Nat → Int32) (m : Nat) : ∀ n, dbR r m n = sumN (fun j => if r (16 + 7 * j + 2) = 1 ∧ befR r j m then 1 else 0) n
  | 0 => rfl
  | n + 1 => by rw [dbR, sumN, dbR_sum r m n]
/-- how many of the order's first k are due -/
def cR (r : Nat → Int32) (b : Nat → Nat) : Nat → Nat
  | 0 => 0
  | k + 1 => cR r b k + (if r (16 + 7 * b k + 2) = 1 then 1 else 0)
theorem cR_mono (r : Nat → Int32) (b : Nat → Nat) (i : Nat) : ∀ d : Nat, cR r b i ≤ cR r b (i + d)
  | 0 => Nat.le_refl _
  | d + 1 => Nat.le_trans (cR_mono r b i d) (Nat.le_add_right _ _)
theorem bef_ir {r : Nat → Int32} {a b : Nat} (h : befR r a b) (g : befR r b a) : False := by
  rcases h with h | ⟨h, h2⟩
  · have h3 := i_lt.mp h
    rcases g with g | ⟨g, -⟩
    · have g3 := i_lt.mp g
      omega
    · rw [g] at h3; omega
  · rcases g with g | ⟨-, g2⟩
    · have g3 := i_lt.mp g
      rw [h] at g3; omega
    · omega
theorem db_c {n : Nat} {b p : Nat → Nat} {r : Nat → Int32} (h : BYR n b p r) {k : Nat} (hk : k < n) : dbR r (b k) n = cR r b k := by
  rw [dbR_sum, perm_sum h.1 h.2.1]
  have g : ∀ i, i ≤ n → sumN (fun j => if r (16 + 7 * b j + 2) = 1 ∧ befR r (b j) (b k) then 1 else 0) i = cR r b (min i k) := by
    intro i
    induction i with
    | zero => intro _; rw [Nat.zero_min]; rfl
    | succ i ih =>
      intro hi
      rw [sumN, ih (by omega)]
      by_cases c : i < k
      · rw [show min (i + 1) k = min i k + 1 by omega, cR, show min i k = i by omega]
        by_cases d : r (16 + 7 * b i + 2) = 1
        · rw [if_pos d, if_pos ⟨d, h.2.2 i k c hk⟩]
        · rw [if_neg d, if_neg (fun z => d z.1)]
      · rw [show min (i + 1) k = min i k by omega, if_neg (fun z => ?_), Nat.add_zero]
        by_cases e : i = k
        · subst e; exact bef_ir z.2 z.2
        · exact bef_ir z.2 (h.2.2 k i (by omega) (by omega))
  rw [g n (Nat.le_refl n), show min n k = k by omega]
/-- a due milestone with c R before it in the order: its rank says which it is -/
theorem c_inj {n : Nat} {b p : Nat → Nat} {r : Nat → Int32} (h : BYR n b p r) {k m : Nat} (hk : k < n) (hd : r (16 + 7 * b k + 2) = 1) (hm : m < n) (hdm : r (16 + 7 * m + 2) = 1) (e : dbR r m n = cR r b k) : m = b k := by
  obtain ⟨h1, h2⟩ := h.2.1 m hm
  have e2 := db_c h h1
  rw [h2] at e2
  rw [e2] at e
  have s1 : cR r b (p m + 1) = cR r b (p m) + 1 := by rw [cR, h2, if_pos hdm]
  have s2 : cR r b (k + 1) = cR r b k + 1 := by rw [cR, if_pos hd]
  by_cases c : p m < k
  · have := cR_mono r b (p m + 1) (k - (p m + 1))
    rw [show p m + 1 + (k - (p m + 1)) = k by omega] at this
    omega
  · by_cases c2 : k < p m
    · have := cR_mono r b (k + 1) (p m - (k + 1))
      rw [show k + 1 + (p m - (k + 1)) = p m by omega] at this
      omega
    · rw [← h2, show p m = k by omega]
/-- a payment for one milestone leaves the others' states as they are -/
theorem ps_st {n a m : Nat} {r : Nat → Int32} (h : m ≠ a) : pstep n a r (16 + 7 * m + 2) = r (16 + 7 * m + 2) := by
  unfold pstep
  by_cases c : ripe r a ∧ 0 < minI (remR r a) (avR r n)
  · rw [if_pos c]
    unfold clR
    by_cases d : remR (mkP a (minI (remR r a) (avR r n)) r) a = 0
    · rw [if_pos d, pk_un (by omega), mkP_o (by omega) (by omega) (by omega) (by omega)]
    · rw [if_neg d, mkP_o (by omega) (by omega) (by omega) (by omega)]
  · rw [if_neg c]
theorem pays_st {n m : Nat} {o : Nat → Nat} {r : Nat → Int32} : ∀ {k : Nat}, (∀ j, j < k → o j ≠ m) → pays n o r k (16 + 7 * m + 2) = r (16 + 7 * m + 2)
  | 0, _ => rfl
  | k + 1, h => by
    show pstep n (o k) (pays n o r k) (16 + 7 * m + 2) = _
    rw [ps_st (fun e => h k (by omega) e.symm), pays_st (k := k) (fun j hj => h j (by omega))]
theorem pays_by {n M : Nat} {b p o : Nat → Nat} {r : Nat → Int32} (h : BYR n b p r) (ho : Ord r n M o) : ∀ k, k ≤ n → cR r b k ≤ M ∧ pays n b r k = pays n o r (cR r b k) := by
  intro k
  induction k with
  | zero => intro _; exact ⟨Nat.zero_le _, rfl⟩
  | succ k ih =>
    intro hk
    obtain ⟨i1, i2⟩ := ih (by omega)
    have hb := h.1 k (by omega)
    have st : pays n b r k (16 + 7 * b k + 2) = r (16 + 7 * b k + 2) := pays_st (fun j hj e => by
      have := (h.1 j (by omega)).2
      rw [e, hb.2] at this
      omega)
    by_cases d : r (16 + 7 * b k + 2) = 1
    · have hM : cR r b k < M := by
        refine Nat.lt_of_le_of_ne i1 (fun e => ?_)
        exact ho.2 (b k) hb.1 ⟨d, by rw [db_c h (by omega)]; exact e⟩
      obtain ⟨o1, o2, o3⟩ := ho.1 _ hM
      have e := c_inj h (show k < n by omega) d o1 o2 o3
      rw [cR, if_pos d]
      refine ⟨by omega, ?_⟩
      show pstep n (b k) (pays n b r k) = pstep n (o (cR r b k)) (pays n o r (cR r b k))
      rw [e, i2]
    · rw [cR, if_neg d, Nat.add_zero]
      refine ⟨i1, ?_⟩
      show pstep n (b k) (pays n b r k) = _
      rw [pstep_n (fun z => d (by rw [← st]; exact z.1.1)), i2]
theorem cR_all {n M : Nat} {b p o : Nat → Nat} {r : Nat → Int32} (h : BYR n b p r) (ho : Ord r n M o) : cR r b n = M := by
  have h1 := (pays_by h ho n (Nat.le_refl n)).1
  refine Nat.le_antisymm h1 (Nat.le_of_not_lt (fun c => ?_))
  obtain ⟨o1, o2, o3⟩ := ho.1 _ c
  obtain ⟨p1, p2⟩ := h.2.1 _ o1
  have e := db_c h p1
  rw [p2, o3] at e
  have s1 : cR r b (p (o (cR r b n)) + 1) = cR r b (p (o (cR r b n))) + 1 := by rw [cR, p2, if_pos o2]
  have := cR_mono r b (p (o (cR r b n)) + 1) (n - (p (o (cR r b n)) + 1))
  rw [show p (o (cR r b n)) + 1 + (n - (p (o (cR r b n)) + 1)) = n by omega] at this
  omega
/-- the reference's payments of a day are those in the order b -/
theorem PdR.is {n : Nat} {b p : Nat → Nat} {r s : Nat → Int32} (h : BYR n b p r) (hp : PdR r n s) : Ab (pays n b r n) s := by
  obtain ⟨M, o, ho, ha⟩ := hp
  rw [(pays_by h ho n (Nat.le_refl n)).2, cR_all h ho]
  exact ha
/-! priorities stay -/
def Pri (n : Nat) (r s : Nat → Int32) : Prop := ∀ m, m < n → s (16 + 7 * m + 6) = r (16 + 7 * m + 6)
theorem Pri.rf (n : Nat) (r : Nat → Int32) : Pri n r r := fun _ _ => rfl
theorem Pri.tr {n : Nat} {r s t : Nat → Int32} (h : Pri n r s) (g : Pri n s t) : Pri n r t := fun m hm => (g m hm).trans (h m hm)
theorem Pri.ab {n : Nat} {r s : Nat → Int32} (h : Ab r s) (hn : n ≤ 10) : Pri n r s := fun m hm => h.at _ (by omega)
theorem BYR.pri {n : Nat} {b p : Nat → Nat} {r s : Nat → Int32} (h : BYR n b p r) (g : Pri n r s) : BYR n b p s := by
  refine ⟨h.1, h.2.1, fun j k hj hk => ?_⟩
  have z := h.2.2 j k hj hk
  unfold befR at z ⊢
  rw [g _ (h.1 j (by omega)).1, g _ (h.1 k hk).1]
  exact z
theorem Pri.set {n : Nat} {r : Nat → Int32} (k : Nat) (v : Int32) (h : ∀ m, m < n → k ≠ 16 + 7 * m + 6) : Pri n r (upd r k v) := fun m hm => pk_un (fun e => h m hm e.symm)
theorem Pri.ent {n : Nat} {r : Nat → Int32} (x : Int32) : Pri n r (entR x r) := fun m hm => entR_n (by omega)
theorem Pri.ds {n m : Nat} {f : Nat → Int32} {cq : Nat → Nat} {dn : Int32} {r : Nat → Int32} : Pri n r (dstep f cq dn m r) := by
  unfold dstep
  by_cases c : r (16 + 7 * m + 2) = 0 ∧ hdV (hdF r m (r 4) (r 12) dn) f cq m = true
  · rw [if_pos c]; exact (Pri.set _ _ (fun k _ => by omega)).tr (Pri.set _ _ (fun k _ => by omega))
  · rw [if_neg c]; exact Pri.rf _ _
theorem Pri.duesv {n : Nat} {f : Nat → Int32} {cq : Nat → Nat} {dn : Int32} {r : Nat → Int32} : ∀ k, Pri n r (dues f cq dn r k)
  | 0 => Pri.rf _ _
  | k + 1 => (Pri.duesv k).tr Pri.ds
theorem Pri.mkPv {n m : Nat} {x : Int32} {r : Nat → Int32} : Pri n r (mkP m x r) := fun k hk => mkP_o (by omega) (by omega) (by omega) (by omega)
theorem Pri.clRv {n m : Nat} {r : Nat → Int32} : Pri n r (clR m r) := by
  unfold clR
  by_cases c : remR r m = 0
  · rw [if_pos c]; exact Pri.set _ _ (fun k _ => by omega)
  · rw [if_neg c]; exact Pri.rf _ _
theorem Pri.ps {n m : Nat} {r : Nat → Int32} : Pri n r (pstep n m r) := by
  unfold pstep
  by_cases c : ripe r m ∧ 0 < minI (remR r m) (avR r n)
  · rw [if_pos c]; exact Pri.mkPv.tr Pri.clRv
  · rw [if_neg c]; exact Pri.rf _ _
theorem Pri.paysv {n : Nat} {o : Nat → Nat} {r : Nat → Int32} : ∀ k, Pri n r (pays n o r k)
  | 0 => Pri.rf _ _
  | k + 1 => (Pri.paysv k).tr Pri.ps
theorem Pri.crRv {n : Nat} {p : Int64} {r : Nat → Int32} : Pri n r (crR p r) := by
  unfold crR
  exact ((Pri.set _ _ (fun k _ => by omega)).tr (Pri.set _ _ (fun k _ => by omega))).tr (Pri.ent _)
theorem Pri.day2v {n dy : Nat} {r : Nat → Int32} {q : Int64} : Pri n r (day2 dy r q) := by
  unfold day2
  by_cases c : (dy + 1) % 30 = 0
  · rw [if_pos c]; exact (Pri.set _ _ (fun k _ => by omega)).tr Pri.crRv
  · rw [if_neg c]; exact Pri.set _ _ (fun k _ => by omega)
theorem Pri.day {n dy : Nat} {f : Nat → Int32} {cq b : Nat → Nat} {r : Nat → Int32} {q : Int64} : Pri n r (dayR f cq n b dy r q) := by
  unfold dayR
  exact Pri.day2v.tr ((Pri.duesv n).tr (Pri.paysv n))
theorem Pri.dys {n dy : Nat} {f : Nat → Int32} {cq b : Nat → Nat} {r : Nat → Int32} {q : Int64} : ∀ k, Pri n r (dysP f cq n b dy r q k).1
  | 0 => Pri.rf _ _
  | k + 1 => (Pri.dys k).tr Pri.day
/-- a day of the reference is the row's day -/
theorem DyR.is {f : Nat → Int32} {cq b p : Nat → Nat} {n dy : Nat} {r s : Nat → Int32} {q q2 : Int64} (h : BYR n b p r) (d : DyR f cq n dy r q s q2) : Ab (dayR f cq n b dy r q) s ∧ q2 = dayQ dy r q := by
  obtain ⟨r2, hr2, hp⟩ := d
  have e : r2 = day2 dy r q ∧ q2 = dayQ dy r q := by
    unfold day2 dayQ
    rcases hr2 with ⟨c, e1, e2⟩ | ⟨c, e1, e2⟩
    · rw [if_pos c, if_pos c]; exact ⟨e1, e2⟩
    · rw [if_neg c, if_neg c]; exact ⟨e1, e2⟩
  refine ⟨?_, e.2⟩
  rw [e.1] at hp
  unfold dayR
  exact PdR.is (h.pri (Pri.day2v.tr (Pri.duesv n))) hp
theorem DysR.is {f : Nat → Int32} {cq b p : Nat → Nat} {n dy : Nat} {r : Nat → Int32} {q : Int64} (hn : n ≤ 10) (h : BYR n b p r) : ∀ {N : Nat} {s : Nat → Int32} {q2 : Int64}, DysR f cq n N dy r q s q2 → Ab (dysP f cq n b dy r q N).1 s ∧ q2 = (dysP f cq n b dy r q N).2
  | 0, _, _, d => d
  | N + 1, s, q2, d => by
    obtain ⟨t, p1, d1, d2⟩ := d
    obtain ⟨a1, e1⟩ := DysR.is hn h d1
    subst e1
    have hB : BYR n b p t := h.pri ((Pri.dys N).tr (Pri.ab a1 hn))
    obtain ⟨a2, e2⟩ := DyR.is hB d2
    refine ⟨?_, ?_⟩
    · exact (a1.dayRv (dy + N) _ hn (fun j hj => (h.1 j hj).1)).tr a2
    · rw [e2]
      exact a1.dayQv (dy + N) _
